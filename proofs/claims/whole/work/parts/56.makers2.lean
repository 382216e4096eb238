set_option maxRecDepth 20000 in
theorem hin_X5_sheet_X5 : ∀ w ∈ u_ws RX5 TX5 9, w ∈ wsX5_sheet := by
  intro w h
  exact List.mem_cons_of_mem _ (List.mem_append_left _ (List.mem_append_right _ (h)))
set_option maxRecDepth 20000 in
theorem lk_X5_sheet_51 : Cond.fieldLink RX5 51 (TX5 8).1 (TX5 8).2.1 (TX5 8).2.2.1 ∈ wsX5_sheet := List.mem_cons_of_mem _ (List.mem_append_left _ (List.mem_append_left _ (List.mem_append_left _ (List.mem_of_getElem? (i := 0) rfl))))
set_option maxRecDepth 100000 in
set_option maxHeartbeats 8000000 in
theorem m_X5_sheet_f (l : Launch) (D : va_G) (G : gT) (h : Nat) (a : Nat → Nat) (tr : Int) (lf : Int) (qf : Nat → Option Nat) (kk : Int) (lv : Int) (nn : Int) (hk : -2147483648 ≤ kk ∧ kk ≤ 2147483647) (hlv : -2147483648 ≤ lv ∧ lv ≤ 2147483647) (hn9 : -2147483648 ≤ nn ∧ nn ≤ 2147483647) (hne : ¬ ((0 ≤ kk ∧ kk ≤ 3) ∧ (0 ≤ lv ∧ lv ≤ 2) ∧ 0 ≤ nn ∧ nn ≤ 60)) : gMi l yX5_sheet wsX5_sheet ({ frames := 2, cells := 0, slots := 0, locals := 42 }) D G [.ref h, .int (iI kk), .int (iI lv), .int (iI nn)] [oX5 h a tr lf, cQ G (a 0) 4 qf] 0 0 (fun (r : Int32) (w : va_W) => r = (iI (R_she kk lv nn)) ∧ w = [oX5 h a tr (F_she kk lv nn), cQ G (a 0) 4 qf]) := by
  refine g_start_i (cc := cX5_sheet) (nL := 4) (own := RX5) (ret := some .int) (by decide +kernel) rfl rfl (Nat.le_of_ble_eq_true rfl) ?_
  intro p e s m below meth c A ls C hr hnm hw hl
  have hl : lv_has ls 4 [(0, .ref h), (1, .int (iI kk)), (2, .int (iI lv)), (3, .int (iI nn))] := hl
  refine g_aload_n C hl 0 rfl rfl dX5_sheet_0 ?_
  refine g_iconst C dX5_sheet_1 ?_
  refine g_put C hw [oX5 h a tr 0, cQ G (a 0) 4 qf] hin_X5_sheet_X5 tyX5 tyX5_ok nmX5 0 rfl rfl 8 (by decide) lk_X5_sheet_51 rfl rfl rfl rfl (Nat.le_of_ble_eq_true rfl) rfl dX5_sheet_2 ?_
  clear hw
  intro H locs hw
  refine g_iload_n C hl 1 rfl rfl dX5_sheet_5 ?_
  refine g_callSi C hw (wr := [oX5 h a tr 0, cQ G (a 0) 4 qf]) (As := [.int (iI kk)]) (rest := []) (m_X5_isSheet l D G (kk := kk) (by first | assumption | omega)) (va_cwS 1 C.1.2.2.2.2 gX5_sheet_X5_isSheet rfl rfl rfl (by decide +kernel) ⟨Nat.le_of_ble_eq_true rfl, Nat.le_of_ble_eq_true rfl⟩) [] [0, 1] rfl rfl (by decide) (by decide) (by decide) rfl hl.1 _ rfl (Nat.le_of_ble_eq_true rfl) dX5_sheet_6 ⟨Nat.le_of_ble_eq_true rfl, Nat.le_of_ble_eq_true rfl⟩ ?_
  clear hw
  rintro _ _ H locs ⟨rfl, rfl⟩ hw
  have hw : gW D A s.heap [oX5 h a tr 0, cQ G (a 0) 4 qf] H locs := hw
  refine g_ifb_ne C 14 dX5_sheet_9 (by decide) (fun c_1 => ?_) (fun c_1 => ?_)
  · skip
    refine g_iload_n C hl 2 rfl rfl dX5_sheet_14 ?_
    refine g_iconst C dX5_sheet_15 ?_
    refine g_callSi C hw (wr := [oX5 h a tr 0, cQ G (a 0) 4 qf]) (As := [.int (iI lv), .int (iI 3)]) (rest := []) (m_X5_isBelow l D G (na := lv) (nb := 3) (by first | assumption | omega) (by first | assumption | omega)) (va_cwS 2 C.1.2.2.2.2 gX5_sheet_X5_isBelow rfl rfl rfl (by decide +kernel) ⟨Nat.le_of_ble_eq_true rfl, Nat.le_of_ble_eq_true rfl⟩) [] [0, 1] rfl rfl (by decide) (by decide) (by decide) rfl hl.1 _ rfl (Nat.le_of_ble_eq_true rfl) dX5_sheet_16 ⟨Nat.le_of_ble_eq_true rfl, Nat.le_of_ble_eq_true rfl⟩ ?_
    clear hw
    rintro _ _ H locs ⟨rfl, rfl⟩ hw
    have hw : gW D A s.heap [oX5 h a tr 0, cQ G (a 0) 4 qf] H locs := hw
    refine g_ifb_eq C 28 dX5_sheet_19 (by decide) (fun c_2 => ?_) (fun c_2 => ?_)
    · skip
      refine g_bipush C dX5_sheet_28 (by decide) ?_
      exact g_iret C hr (ws' := [oX5 h a tr 0, cQ G (a 0) 4 qf]) hw [0, 1] (by decide) rfl ⟨(congrArg iI (by unfold R_she; (repeat' split) <;> omega)), (by unfold F_she R_she; (repeat' (split <;> try (exfalso; omega))) <;> first | rfl | (exfalso; omega))⟩ dX5_sheet_30
    · skip
      refine g_iload_n C hl 3 rfl rfl dX5_sheet_22 ?_
      refine g_bipush C dX5_sheet_23 (by decide) ?_
      refine g_icmp_le C 31 dX5_sheet_25 (by decide) (by omega) (by omega) (fun c_3 => ?_) (fun c_3 => ?_)
      · skip
        refine g_iload_n C hl 3 rfl rfl dX5_sheet_31 ?_
        refine g_if_ge C 41 dX5_sheet_32 (by decide) (by omega) (fun c_4 => ?_) (fun c_4 => ?_)
        · skip
          exact False.elim (by omega)
        · skip
          refine g_aload_n C hl 0 rfl rfl dX5_sheet_35 ?_
          refine g_iconst C dX5_sheet_36 ?_
          refine g_callVi C hw (wr := [cQ G (a 0) 4 qf]) (As := [.int (iI 4)]) (rest := []) (m_X5_failed l D G (h := h) (a := a) (tr := tr) (lf := 0) (fv := 4) ) (cwV 1 C.1.2.2.2.2 gX5_sheet_X5_failed rfl rfl rfl (by decide +kernel) ⟨Nat.le_of_ble_eq_true rfl, Nat.le_of_ble_eq_true rfl⟩) [0] [1] rfl rfl (by decide) (by decide) (by decide) 0 rfl rfl rfl hl.1 _ rfl (Nat.le_of_ble_eq_true rfl) dX5_sheet_37 ⟨Nat.le_of_ble_eq_true rfl, Nat.le_of_ble_eq_true rfl⟩ ?_
          clear hw
          rintro _ _ H locs ⟨rfl, rfl⟩ hw
          have hw : gW D A s.heap [cQ G (a 0) 4 qf, oX5 h a tr 4] H locs := hw
          exact g_iret C hr (ws' := [oX5 h a tr 4, cQ G (a 0) 4 qf]) hw [1, 0] (by decide) rfl ⟨(congrArg iI (by unfold R_she; (repeat' split) <;> omega)), (by unfold F_she R_she; (repeat' (split <;> try (exfalso; omega))) <;> first | rfl | (exfalso; omega))⟩ dX5_sheet_40
      · skip
        refine g_bipush C dX5_sheet_28 (by decide) ?_
        exact g_iret C hr (ws' := [oX5 h a tr 0, cQ G (a 0) 4 qf]) hw [0, 1] (by decide) rfl ⟨(congrArg iI (by unfold R_she; (repeat' split) <;> omega)), (by unfold F_she R_she; (repeat' (split <;> try (exfalso; omega))) <;> first | rfl | (exfalso; omega))⟩ dX5_sheet_30
  · skip
    refine g_iconst C dX5_sheet_12 ?_
    exact g_iret C hr (ws' := [oX5 h a tr 0, cQ G (a 0) 4 qf]) hw [0, 1] (by decide) rfl ⟨(congrArg iI (by unfold R_she; (repeat' split) <;> omega)), (by unfold F_she R_she; (repeat' (split <;> try (exfalso; omega))) <;> first | rfl | (exfalso; omega))⟩ dX5_sheet_13

set_option maxRecDepth 20000 in
theorem lk_X5_sheet_13 : Cond.fieldLink RX5 13 (TX5 0).1 (TX5 0).2.1 (TX5 0).2.2.1 ∈ wsX5_sheet := List.mem_cons_of_mem _ (List.mem_append_left _ (List.mem_append_left _ (List.mem_append_left _ (List.mem_of_getElem? (i := 1) rfl))))
set_option maxRecDepth 20000 in
theorem hin_X5_sheet_X2 : ∀ w ∈ u_ws RX2 TX2 2, w ∈ wsX5_sheet := by
  intro w h
  exact List.mem_cons_of_mem _ (List.mem_append_right _ (h))
set_option maxRecDepth 100000 in
set_option maxHeartbeats 8000000 in
theorem m_X5_sheet_t (l : Launch) (D : va_G) (G : gT) (h : Nat) (a : Nat → Nat) (tr : Int) (lf : Int) (qf : Nat → Option Nat) (kk : Int) (lv : Int) (nn : Int) (hk : -2147483648 ≤ kk ∧ kk ≤ 2147483647) (hlv : -2147483648 ≤ lv ∧ lv ≤ 2147483647) (hn9 : -2147483648 ≤ nn ∧ nn ≤ 2147483647) (hye : (0 ≤ kk ∧ kk ≤ 3) ∧ (0 ≤ lv ∧ lv ≤ 2) ∧ 0 ≤ nn ∧ nn ≤ 60) : gMi l yX5_sheet wsX5_sheet ({ frames := 2, cells := 2, slots := 62, locals := 42 }) D G [.ref h, .int (iI kk), .int (iI lv), .int (iI nn)] [oX5 h a tr lf, cQ G (a 0) 4 qf] 2 62 (fun (r : Int32) (w : va_W) => ∃ (sa : Nat) (sb : Nat → Nat), r = (iI (R_she kk lv nn)) ∧ w = [oX5 h a tr 0, cQ G (a 0) 4 (va_up qf kk.toNat (some sa)), oX2 sa sb lv, cA G (sb 1) nn.toNat (fun _ => 0)]) := by
  refine g_start_i (cc := cX5_sheet) (nL := 4) (own := RX5) (ret := some .int) (by decide +kernel) rfl rfl (Nat.le_of_ble_eq_true rfl) ?_
  intro p e s m below meth c A ls C hr hnm hw hl
  have hl : lv_has ls 4 [(0, .ref h), (1, .int (iI kk)), (2, .int (iI lv)), (3, .int (iI nn))] := hl
  refine g_aload_n C hl 0 rfl rfl dX5_sheet_0 ?_
  refine g_iconst C dX5_sheet_1 ?_
  refine g_put C hw [oX5 h a tr 0, cQ G (a 0) 4 qf] hin_X5_sheet_X5 tyX5 tyX5_ok nmX5 0 rfl rfl 8 (by decide) lk_X5_sheet_51 rfl rfl rfl rfl (Nat.le_of_ble_eq_true rfl) rfl dX5_sheet_2 ?_
  clear hw
  intro H locs hw
  refine g_iload_n C hl 1 rfl rfl dX5_sheet_5 ?_
  refine g_callSi C hw (wr := [oX5 h a tr 0, cQ G (a 0) 4 qf]) (As := [.int (iI kk)]) (rest := []) (m_X5_isSheet l D G (kk := kk) (by first | assumption | omega)) (va_cwS 1 C.1.2.2.2.2 gX5_sheet_X5_isSheet rfl rfl rfl (by decide +kernel) ⟨Nat.le_of_ble_eq_true rfl, Nat.le_of_ble_eq_true rfl⟩) [] [0, 1] rfl rfl (by decide) (by decide) (by decide) rfl hl.1 _ rfl (Nat.le_of_ble_eq_true rfl) dX5_sheet_6 ⟨Nat.le_of_ble_eq_true rfl, Nat.le_of_ble_eq_true rfl⟩ ?_
  clear hw
  rintro _ _ H locs ⟨rfl, rfl⟩ hw
  have hw : gW D A s.heap [oX5 h a tr 0, cQ G (a 0) 4 qf] H locs := hw
  refine g_ifb_ne C 14 dX5_sheet_9 (by decide) (fun c_1 => ?_) (fun c_1 => ?_)
  · skip
    refine g_iload_n C hl 2 rfl rfl dX5_sheet_14 ?_
    refine g_iconst C dX5_sheet_15 ?_
    refine g_callSi C hw (wr := [oX5 h a tr 0, cQ G (a 0) 4 qf]) (As := [.int (iI lv), .int (iI 3)]) (rest := []) (m_X5_isBelow l D G (na := lv) (nb := 3) (by first | assumption | omega) (by first | assumption | omega)) (va_cwS 2 C.1.2.2.2.2 gX5_sheet_X5_isBelow rfl rfl rfl (by decide +kernel) ⟨Nat.le_of_ble_eq_true rfl, Nat.le_of_ble_eq_true rfl⟩) [] [0, 1] rfl rfl (by decide) (by decide) (by decide) rfl hl.1 _ rfl (Nat.le_of_ble_eq_true rfl) dX5_sheet_16 ⟨Nat.le_of_ble_eq_true rfl, Nat.le_of_ble_eq_true rfl⟩ ?_
    clear hw
    rintro _ _ H locs ⟨rfl, rfl⟩ hw
    have hw : gW D A s.heap [oX5 h a tr 0, cQ G (a 0) 4 qf] H locs := hw
    refine g_ifb_eq C 28 dX5_sheet_19 (by decide) (fun c_2 => ?_) (fun c_2 => ?_)
    · skip
      exact False.elim (by omega)
    · skip
      refine g_iload_n C hl 3 rfl rfl dX5_sheet_22 ?_
      refine g_bipush C dX5_sheet_23 (by decide) ?_
      refine g_icmp_le C 31 dX5_sheet_25 (by decide) (by omega) (by omega) (fun c_3 => ?_) (fun c_3 => ?_)
      · skip
        refine g_iload_n C hl 3 rfl rfl dX5_sheet_31 ?_
        refine g_if_ge C 41 dX5_sheet_32 (by decide) (by omega) (fun c_4 => ?_) (fun c_4 => ?_)
        · skip
          refine g_aload_n C hl 0 rfl rfl dX5_sheet_41 ?_
          refine g_get C hw hin_X5_sheet_X5 0 rfl rfl 0 (by decide) lk_X5_sheet_13 rfl dX5_sheet_42 ?_
          refine g_iload_n C hl 1 rfl rfl dX5_sheet_45 ?_
          refine g_new (ci := 2) C hw [.int (iI 0), .null] hin_X5_sheet_X2 tyX2 tyX2_ok (List.mem_cons_of_mem _ (List.mem_append_left _ (List.mem_append_left _ (List.mem_append_left _ (List.mem_of_getElem? (i := 2) rfl))))) (List.mem_cons_of_mem _ (List.mem_append_left _ (List.mem_append_left _ (List.mem_append_left _ (List.mem_of_getElem? (i := 3) rfl))))) (List.mem_cons_of_mem _ (List.mem_append_left _ (List.mem_append_left _ (List.mem_append_left _ (List.mem_of_getElem? (i := 4) rfl))))) rfl df_X2 (Nat.le_of_ble_eq_true rfl) (Nat.le_of_ble_eq_true rfl) dX5_sheet_46 ?_
          clear hw
          intro q_5 H hw
          refine g_dup C dX5_sheet_49 rfl ?_
          refine g_iload_n C hl 2 rfl rfl dX5_sheet_50 ?_
          refine g_iload_n C hl 3 rfl rfl dX5_sheet_51 ?_
          refine g_callIv C hw (wr := [oX5 h a tr 0, cQ G (a 0) 4 qf]) (As := [.int (iI lv), .int (iI nn)]) (rest := [.ref q_5, .int (iI kk), .ref ((a 0))]) (m_X2_init l D G (h := q_5) (lv := lv) (nn := nn) (zn := nn.toNat) (by first | assumption | omega) (by first | assumption | omega)) (cwI 2 C.1.2.2.2.2 gX5_sheet_X2_init rfl rfl rfl (C.1.2.2.2.2 (.initialized RX2) (List.mem_cons_of_mem _ (List.mem_append_left _ (List.mem_append_left _ (List.mem_append_left _ (List.mem_of_getElem? (i := 4) rfl)))))) (C.1.2.2.2.2 (.methodLink RX5 191 yX2_init) (List.mem_cons_of_mem _ (List.mem_append_left _ (List.mem_append_left _ (List.mem_append_left _ (List.mem_of_getElem? (i := 16) rfl)))))) (C.1.2.2.2.2 (.instanceMethod yX2_init) (List.mem_cons_of_mem _ (List.mem_append_left _ (List.mem_append_left _ (List.mem_append_left _ (List.mem_of_getElem? (i := 17) rfl)))))) rfl (by decide +kernel) ⟨Nat.le_of_ble_eq_true rfl, Nat.le_of_ble_eq_true rfl⟩) [2] [0, 1] rfl rfl (by decide) (by decide) (by decide) rfl hl.1 _ rfl (Nat.le_of_ble_eq_true rfl) dX5_sheet_52 ⟨Nat.le_of_ble_eq_true rfl, Nat.le_of_ble_eq_true rfl⟩ ?_
          clear hw
          rintro _ H locs ⟨a__6, rfl⟩ hw
          have hw : gW D A s.heap [oX5 h a tr 0, cQ G (a 0) 4 qf, oX2 q_5 a__6 lv, cA G (a__6 1) nn.toNat (fun _ => 0)] H locs := hw
          refine g_astR C hw [oX5 h a tr 0, cQ G (a 0) 4 (va_up qf kk.toNat (some q_5)), oX2 q_5 a__6 lv, cA G (a__6 1) nn.toNat (fun _ => 0)] 1 2 rfl rfl (by omega) (Nat.le_of_ble_eq_true rfl) rfl dX5_sheet_55 ?_
          clear hw
          intro H locs hw
          refine g_iconst C dX5_sheet_56 ?_
          refine W.widen (k := 2) (n := 62) (by first | exact Nat.le_of_ble_eq_true rfl | omega) (by first | exact Nat.le_of_ble_eq_true rfl | omega) ?_
          exact g_iret C hr (ws' := [oX5 h a tr 0, cQ G (a 0) 4 (va_up qf kk.toNat (some q_5)), oX2 q_5 a__6 lv, cA G (a__6 1) nn.toNat (fun _ => 0)]) hw [0, 1, 2, 3] (by decide) rfl ⟨q_5, a__6, (congrArg iI (by unfold R_she; (repeat' split) <;> omega)), rfl⟩ dX5_sheet_57
        · skip
          exact False.elim (by omega)
      · skip
        exact False.elim (by omega)
  · skip
    exact False.elim (by omega)

set_option maxRecDepth 20000 in
theorem hin_X6_init_X6 : ∀ w ∈ u_ws RX6 TX6 30, w ∈ wsX6_init := by
  intro w h
  exact List.mem_cons_of_mem _ (List.mem_append_right _ (h))
set_option maxRecDepth 20000 in
theorem lk_X6_init_7 : Cond.fieldLink RX6 7 (TX6 2).1 (TX6 2).2.1 (TX6 2).2.2.1 ∈ wsX6_init := List.mem_cons_of_mem _ (List.mem_append_left _ (List.mem_of_getElem? (i := 4) rfl))
set_option maxRecDepth 20000 in
theorem lk_X6_init_13 : Cond.fieldLink RX6 13 (TX6 3).1 (TX6 3).2.1 (TX6 3).2.2.1 ∈ wsX6_init := List.mem_cons_of_mem _ (List.mem_append_left _ (List.mem_of_getElem? (i := 5) rfl))
set_option maxRecDepth 20000 in
theorem lk_X6_init_16 : Cond.fieldLink RX6 16 (TX6 6).1 (TX6 6).2.1 (TX6 6).2.2.1 ∈ wsX6_init := List.mem_cons_of_mem _ (List.mem_append_left _ (List.mem_of_getElem? (i := 6) rfl))
set_option maxRecDepth 20000 in
theorem lk_X6_init_19 : Cond.fieldLink RX6 19 (TX6 7).1 (TX6 7).2.1 (TX6 7).2.2.1 ∈ wsX6_init := List.mem_cons_of_mem _ (List.mem_append_left _ (List.mem_of_getElem? (i := 7) rfl))
set_option maxRecDepth 20000 in
theorem lk_X6_init_22 : Cond.fieldLink RX6 22 (TX6 13).1 (TX6 13).2.1 (TX6 13).2.2.1 ∈ wsX6_init := List.mem_cons_of_mem _ (List.mem_append_left _ (List.mem_of_getElem? (i := 9) rfl))
set_option maxRecDepth 20000 in
theorem lk_X6_init_26 : Cond.fieldLink RX6 26 (TX6 14).1 (TX6 14).2.1 (TX6 14).2.2.1 ∈ wsX6_init := List.mem_cons_of_mem _ (List.mem_append_left _ (List.mem_of_getElem? (i := 10) rfl))
set_option maxRecDepth 20000 in
theorem lk_X6_init_29 : Cond.fieldLink RX6 29 (TX6 15).1 (TX6 15).2.1 (TX6 15).2.2.1 ∈ wsX6_init := List.mem_cons_of_mem _ (List.mem_append_left _ (List.mem_of_getElem? (i := 11) rfl))
set_option maxRecDepth 20000 in
theorem lk_X6_init_32 : Cond.fieldLink RX6 32 (TX6 16).1 (TX6 16).2.1 (TX6 16).2.2.1 ∈ wsX6_init := List.mem_cons_of_mem _ (List.mem_append_left _ (List.mem_of_getElem? (i := 12) rfl))
set_option maxRecDepth 20000 in
theorem lk_X6_init_35 : Cond.fieldLink RX6 35 (TX6 17).1 (TX6 17).2.1 (TX6 17).2.2.1 ∈ wsX6_init := List.mem_cons_of_mem _ (List.mem_append_left _ (List.mem_of_getElem? (i := 13) rfl))
set_option maxRecDepth 20000 in
theorem lk_X6_init_38 : Cond.fieldLink RX6 38 (TX6 18).1 (TX6 18).2.1 (TX6 18).2.2.1 ∈ wsX6_init := List.mem_cons_of_mem _ (List.mem_append_left _ (List.mem_of_getElem? (i := 14) rfl))
set_option maxRecDepth 20000 in
theorem lk_X6_init_41 : Cond.fieldLink RX6 41 (TX6 19).1 (TX6 19).2.1 (TX6 19).2.2.1 ∈ wsX6_init := List.mem_cons_of_mem _ (List.mem_append_left _ (List.mem_of_getElem? (i := 15) rfl))
set_option maxRecDepth 20000 in
theorem lk_X6_init_44 : Cond.fieldLink RX6 44 (TX6 22).1 (TX6 22).2.1 (TX6 22).2.2.1 ∈ wsX6_init := List.mem_cons_of_mem _ (List.mem_append_left _ (List.mem_of_getElem? (i := 16) rfl))
set_option maxRecDepth 20000 in
theorem lk_X6_init_47 : Cond.fieldLink RX6 47 (TX6 23).1 (TX6 23).2.1 (TX6 23).2.2.1 ∈ wsX6_init := List.mem_cons_of_mem _ (List.mem_append_left _ (List.mem_of_getElem? (i := 17) rfl))
set_option maxRecDepth 20000 in
theorem lk_X6_init_50 : Cond.fieldLink RX6 50 (TX6 24).1 (TX6 24).2.1 (TX6 24).2.2.1 ∈ wsX6_init := List.mem_cons_of_mem _ (List.mem_append_left _ (List.mem_of_getElem? (i := 18) rfl))
set_option maxRecDepth 20000 in
theorem lk_X6_init_53 : Cond.fieldLink RX6 53 (TX6 25).1 (TX6 25).2.1 (TX6 25).2.2.1 ∈ wsX6_init := List.mem_cons_of_mem _ (List.mem_append_left _ (List.mem_of_getElem? (i := 19) rfl))
set_option maxRecDepth 20000 in
theorem lk_X6_init_56 : Cond.fieldLink RX6 56 (TX6 26).1 (TX6 26).2.1 (TX6 26).2.2.1 ∈ wsX6_init := List.mem_cons_of_mem _ (List.mem_append_left _ (List.mem_of_getElem? (i := 20) rfl))
set_option maxRecDepth 20000 in
theorem lk_X6_init_59 : Cond.fieldLink RX6 59 (TX6 27).1 (TX6 27).2.1 (TX6 27).2.2.1 ∈ wsX6_init := List.mem_cons_of_mem _ (List.mem_append_left _ (List.mem_of_getElem? (i := 21) rfl))
set_option maxRecDepth 20000 in
theorem lk_X6_init_62 : Cond.fieldLink RX6 62 (TX6 28).1 (TX6 28).2.1 (TX6 28).2.2.1 ∈ wsX6_init := List.mem_cons_of_mem _ (List.mem_append_left _ (List.mem_of_getElem? (i := 22) rfl))
set_option maxRecDepth 100000 in
set_option maxHeartbeats 8000000 in
theorem m_X6_init (l : Launch) (D : va_G) (G : gT) (h : Nat)  : gMv l yX6_init wsX6_init ({ frames := 1, cells := 18, slots := 442, locals := 20 }) D G [.ref h] [cO h 6 [.int (iI 0), .int (iI 0), .null, .null, .int (iI 0), .int (iI 0), .null, .null, .long (lI (0)), .long (lI (0)), .long (lI (0)), .long (lI (0)), .int (iI 0), .null, .null, .null, .null, .null, .null, .null, .int (iI 0), .int (iI 0), .null, .null, .null, .null, .null, .null, .null, .int (iI 0)]] 18 442 (fun (w : va_W) => ∃ (a : Nat → Nat) (sz : Int → Int), w = [oX6 h a 0 0 0 0 0 0 0 0 0 0 0 0, cA G (a 2) 4 (fun _ => 0), cA G (a 3) 12 (fun _ => 0), cA G (a 6) 4 (fun _ => 0), cA G (a 7) 12 (fun _ => 0), cJ G (a 13) 8 (fun _ => 0), cJ G (a 14) 8 (fun _ => 0), cJ G (a 15) 8 (fun _ => 0), cJ G (a 16) 8 (fun _ => 0), cA G (a 17) 12 (fun _ => 0), cA G (a 18) 17 (fun _ => 0), cA G (a 19) 17 (fun _ => 0), cA G (a 22) 8 (fun _ => 0), cA G (a 23) 8 (fun _ => 0), cA G (a 24) 8 (fun _ => 0), cA G (a 25) 4 sz, cA G (a 26) 4 (fun _ => 0), cA G (a 27) 240 (fun _ => 0), cA G (a 28) 60 (fun _ => 0)] ∧ ((∀ j, -1 ≤ sz j ∧ sz j ≤ 60) ∧ ∀ j, 0 ≤ j → j < 4 → sz j = -1)) := by
  refine g_start_v (cc := cX6_init) (nL := 2) (own := RX6) (ret := none) (by decide +kernel) rfl rfl (Nat.le_of_ble_eq_true rfl) ?_
  intro p e s m below meth c A ls C hr hnm hw hl
  have hl : lv_has ls 2 [(0, .ref h)] := hl
  refine g_aload_n C hl 0 rfl rfl dX6_init_0 ?_
  refine W.objInit C.1.1 C.1.2.1 C.1.2.2.2.1 (C.1.2.2.2.2 (.methodLink RX6 1 objectInit) (List.mem_cons_of_mem _ (List.mem_append_left _ (List.mem_of_getElem? (i := 0) rfl)))) (C.1.2.2.2.2 (.instanceMethod objectInit) (List.mem_cons_of_mem _ (List.mem_append_left _ (List.mem_of_getElem? (i := 1) rfl)))) (C.1.2.2.2.2 (.code objectInit ⟨#[0xb1]⟩ 1 none) (List.mem_cons_of_mem _ (List.mem_append_left _ (List.mem_of_getElem? (i := 2) rfl)))) rfl (by rw [C.1.2.2.1]; exact hl.1) rfl dX6_init_1 (Nat.le_of_ble_eq_true rfl) (Nat.le_of_ble_eq_true rfl) ?_
  refine W.eq (g2 := F0 m 4 ls []) rfl ?_
  refine g_aload_n C hl 0 rfl rfl dX6_init_4 ?_
  refine g_iconst C dX6_init_5 ?_
  refine g_newI C hw 4 rfl (Nat.le_of_ble_eq_true rfl) (List.mem_cons_of_mem _ (List.mem_append_left _ (List.mem_of_getElem? (i := 3) rfl))) (Nat.le_of_ble_eq_true rfl) (Nat.le_of_ble_eq_true rfl) dX6_init_6 ?_
  clear hw
  intro q_1 H hw
  refine g_putF C hw [cO h 6 [.int (iI 0), .int (iI 0), .ref q_1, .null, .int (iI 0), .int (iI 0), .null, .null, .long (lI (0)), .long (lI (0)), .long (lI (0)), .long (lI (0)), .int (iI 0), .null, .null, .null, .null, .null, .null, .null, .int (iI 0), .int (iI 0), .null, .null, .null, .null, .null, .null, .null, .int (iI 0)], cA G q_1 4 (fun _ => 0)] hin_X6_init_X6 tyX6 tyX6_ok nmX6 0 rfl rfl 2 (by decide) lk_X6_init_7 rfl hnm rfl rfl rfl rfl (Nat.le_of_ble_eq_true rfl) rfl dX6_init_8 ?_
  clear hw
  intro H locs hw
  refine g_aload_n C hl 0 rfl rfl dX6_init_11 ?_
  refine g_bipush C dX6_init_12 (by decide) ?_
  refine g_newI C hw 12 rfl (Nat.le_of_ble_eq_true rfl) (List.mem_cons_of_mem _ (List.mem_append_left _ (List.mem_of_getElem? (i := 3) rfl))) (Nat.le_of_ble_eq_true rfl) (Nat.le_of_ble_eq_true rfl) dX6_init_14 ?_
  clear hw
  intro q_2 H hw
  refine g_putF C hw [cO h 6 [.int (iI 0), .int (iI 0), .ref q_1, .ref q_2, .int (iI 0), .int (iI 0), .null, .null, .long (lI (0)), .long (lI (0)), .long (lI (0)), .long (lI (0)), .int (iI 0), .null, .null, .null, .null, .null, .null, .null, .int (iI 0), .int (iI 0), .null, .null, .null, .null, .null, .null, .null, .int (iI 0)], cA G q_1 4 (fun _ => 0), cA G q_2 12 (fun _ => 0)] hin_X6_init_X6 tyX6 tyX6_ok nmX6 0 rfl rfl 3 (by decide) lk_X6_init_13 rfl hnm rfl rfl rfl rfl (Nat.le_of_ble_eq_true rfl) rfl dX6_init_16 ?_
  clear hw
  intro H locs hw
  refine g_aload_n C hl 0 rfl rfl dX6_init_19 ?_
  refine g_iconst C dX6_init_20 ?_
  refine g_newI C hw 4 rfl (Nat.le_of_ble_eq_true rfl) (List.mem_cons_of_mem _ (List.mem_append_left _ (List.mem_of_getElem? (i := 3) rfl))) (Nat.le_of_ble_eq_true rfl) (Nat.le_of_ble_eq_true rfl) dX6_init_21 ?_
  clear hw
  intro q_3 H hw
  refine g_putF C hw [cO h 6 [.int (iI 0), .int (iI 0), .ref q_1, .ref q_2, .int (iI 0), .int (iI 0), .ref q_3, .null, .long (lI (0)), .long (lI (0)), .long (lI (0)), .long (lI (0)), .int (iI 0), .null, .null, .null, .null, .null, .null, .null, .int (iI 0), .int (iI 0), .null, .null, .null, .null, .null, .null, .null, .int (iI 0)], cA G q_1 4 (fun _ => 0), cA G q_2 12 (fun _ => 0), cA G q_3 4 (fun _ => 0)] hin_X6_init_X6 tyX6 tyX6_ok nmX6 0 rfl rfl 6 (by decide) lk_X6_init_16 rfl hnm rfl rfl rfl rfl (Nat.le_of_ble_eq_true rfl) rfl dX6_init_23 ?_
  clear hw
  intro H locs hw
  refine g_aload_n C hl 0 rfl rfl dX6_init_26 ?_
  refine g_bipush C dX6_init_27 (by decide) ?_
  refine g_newI C hw 12 rfl (Nat.le_of_ble_eq_true rfl) (List.mem_cons_of_mem _ (List.mem_append_left _ (List.mem_of_getElem? (i := 3) rfl))) (Nat.le_of_ble_eq_true rfl) (Nat.le_of_ble_eq_true rfl) dX6_init_29 ?_
  clear hw
  intro q_4 H hw
  refine g_putF C hw [cO h 6 [.int (iI 0), .int (iI 0), .ref q_1, .ref q_2, .int (iI 0), .int (iI 0), .ref q_3, .ref q_4, .long (lI (0)), .long (lI (0)), .long (lI (0)), .long (lI (0)), .int (iI 0), .null, .null, .null, .null, .null, .null, .null, .int (iI 0), .int (iI 0), .null, .null, .null, .null, .null, .null, .null, .int (iI 0)], cA G q_1 4 (fun _ => 0), cA G q_2 12 (fun _ => 0), cA G q_3 4 (fun _ => 0), cA G q_4 12 (fun _ => 0)] hin_X6_init_X6 tyX6 tyX6_ok nmX6 0 rfl rfl 7 (by decide) lk_X6_init_19 rfl hnm rfl rfl rfl rfl (Nat.le_of_ble_eq_true rfl) rfl dX6_init_31 ?_
  clear hw
  intro H locs hw
  refine g_aload_n C hl 0 rfl rfl dX6_init_34 ?_
  refine g_bipush C dX6_init_35 (by decide) ?_
  refine g_newJ C hw 8 rfl (Nat.le_of_ble_eq_true rfl) (List.mem_cons_of_mem _ (List.mem_append_left _ (List.mem_of_getElem? (i := 8) rfl))) (Nat.le_of_ble_eq_true rfl) (Nat.le_of_ble_eq_true rfl) dX6_init_37 ?_
  clear hw
  intro q_5 H hw
  refine g_putF C hw [cO h 6 [.int (iI 0), .int (iI 0), .ref q_1, .ref q_2, .int (iI 0), .int (iI 0), .ref q_3, .ref q_4, .long (lI (0)), .long (lI (0)), .long (lI (0)), .long (lI (0)), .int (iI 0), .ref q_5, .null, .null, .null, .null, .null, .null, .int (iI 0), .int (iI 0), .null, .null, .null, .null, .null, .null, .null, .int (iI 0)], cA G q_1 4 (fun _ => 0), cA G q_2 12 (fun _ => 0), cA G q_3 4 (fun _ => 0), cA G q_4 12 (fun _ => 0), cJ G q_5 8 (fun _ => 0)] hin_X6_init_X6 tyX6 tyX6_ok nmX6 0 rfl rfl 13 (by decide) lk_X6_init_22 rfl hnm rfl rfl rfl rfl (Nat.le_of_ble_eq_true rfl) rfl dX6_init_39 ?_
  clear hw
  intro H locs hw
  refine g_aload_n C hl 0 rfl rfl dX6_init_42 ?_
  refine g_bipush C dX6_init_43 (by decide) ?_
  refine g_newJ C hw 8 rfl (Nat.le_of_ble_eq_true rfl) (List.mem_cons_of_mem _ (List.mem_append_left _ (List.mem_of_getElem? (i := 8) rfl))) (Nat.le_of_ble_eq_true rfl) (Nat.le_of_ble_eq_true rfl) dX6_init_45 ?_
  clear hw
  intro q_6 H hw
  refine g_putF C hw [cO h 6 [.int (iI 0), .int (iI 0), .ref q_1, .ref q_2, .int (iI 0), .int (iI 0), .ref q_3, .ref q_4, .long (lI (0)), .long (lI (0)), .long (lI (0)), .long (lI (0)), .int (iI 0), .ref q_5, .ref q_6, .null, .null, .null, .null, .null, .int (iI 0), .int (iI 0), .null, .null, .null, .null, .null, .null, .null, .int (iI 0)], cA G q_1 4 (fun _ => 0), cA G q_2 12 (fun _ => 0), cA G q_3 4 (fun _ => 0), cA G q_4 12 (fun _ => 0), cJ G q_5 8 (fun _ => 0), cJ G q_6 8 (fun _ => 0)] hin_X6_init_X6 tyX6 tyX6_ok nmX6 0 rfl rfl 14 (by decide) lk_X6_init_26 rfl hnm rfl rfl rfl rfl (Nat.le_of_ble_eq_true rfl) rfl dX6_init_47 ?_
  clear hw
  intro H locs hw
  refine g_aload_n C hl 0 rfl rfl dX6_init_50 ?_
  refine g_bipush C dX6_init_51 (by decide) ?_
  refine g_newJ C hw 8 rfl (Nat.le_of_ble_eq_true rfl) (List.mem_cons_of_mem _ (List.mem_append_left _ (List.mem_of_getElem? (i := 8) rfl))) (Nat.le_of_ble_eq_true rfl) (Nat.le_of_ble_eq_true rfl) dX6_init_53 ?_
  clear hw
  intro q_7 H hw
  refine g_putF C hw [cO h 6 [.int (iI 0), .int (iI 0), .ref q_1, .ref q_2, .int (iI 0), .int (iI 0), .ref q_3, .ref q_4, .long (lI (0)), .long (lI (0)), .long (lI (0)), .long (lI (0)), .int (iI 0), .ref q_5, .ref q_6, .ref q_7, .null, .null, .null, .null, .int (iI 0), .int (iI 0), .null, .null, .null, .null, .null, .null, .null, .int (iI 0)], cA G q_1 4 (fun _ => 0), cA G q_2 12 (fun _ => 0), cA G q_3 4 (fun _ => 0), cA G q_4 12 (fun _ => 0), cJ G q_5 8 (fun _ => 0), cJ G q_6 8 (fun _ => 0), cJ G q_7 8 (fun _ => 0)] hin_X6_init_X6 tyX6 tyX6_ok nmX6 0 rfl rfl 15 (by decide) lk_X6_init_29 rfl hnm rfl rfl rfl rfl (Nat.le_of_ble_eq_true rfl) rfl dX6_init_55 ?_
  clear hw
  intro H locs hw
  refine g_aload_n C hl 0 rfl rfl dX6_init_58 ?_
  refine g_bipush C dX6_init_59 (by decide) ?_
  refine g_newJ C hw 8 rfl (Nat.le_of_ble_eq_true rfl) (List.mem_cons_of_mem _ (List.mem_append_left _ (List.mem_of_getElem? (i := 8) rfl))) (Nat.le_of_ble_eq_true rfl) (Nat.le_of_ble_eq_true rfl) dX6_init_61 ?_
  clear hw
  intro q_8 H hw
  refine g_putF C hw [cO h 6 [.int (iI 0), .int (iI 0), .ref q_1, .ref q_2, .int (iI 0), .int (iI 0), .ref q_3, .ref q_4, .long (lI (0)), .long (lI (0)), .long (lI (0)), .long (lI (0)), .int (iI 0), .ref q_5, .ref q_6, .ref q_7, .ref q_8, .null, .null, .null, .int (iI 0), .int (iI 0), .null, .null, .null, .null, .null, .null, .null, .int (iI 0)], cA G q_1 4 (fun _ => 0), cA G q_2 12 (fun _ => 0), cA G q_3 4 (fun _ => 0), cA G q_4 12 (fun _ => 0), cJ G q_5 8 (fun _ => 0), cJ G q_6 8 (fun _ => 0), cJ G q_7 8 (fun _ => 0), cJ G q_8 8 (fun _ => 0)] hin_X6_init_X6 tyX6 tyX6_ok nmX6 0 rfl rfl 16 (by decide) lk_X6_init_32 rfl hnm rfl rfl rfl rfl (Nat.le_of_ble_eq_true rfl) rfl dX6_init_63 ?_
  clear hw
  intro H locs hw
  refine g_aload_n C hl 0 rfl rfl dX6_init_66 ?_
  refine g_bipush C dX6_init_67 (by decide) ?_
  refine g_newI C hw 12 rfl (Nat.le_of_ble_eq_true rfl) (List.mem_cons_of_mem _ (List.mem_append_left _ (List.mem_of_getElem? (i := 3) rfl))) (Nat.le_of_ble_eq_true rfl) (Nat.le_of_ble_eq_true rfl) dX6_init_69 ?_
  clear hw
  intro q_9 H hw
  refine g_putF C hw [cO h 6 [.int (iI 0), .int (iI 0), .ref q_1, .ref q_2, .int (iI 0), .int (iI 0), .ref q_3, .ref q_4, .long (lI (0)), .long (lI (0)), .long (lI (0)), .long (lI (0)), .int (iI 0), .ref q_5, .ref q_6, .ref q_7, .ref q_8, .ref q_9, .null, .null, .int (iI 0), .int (iI 0), .null, .null, .null, .null, .null, .null, .null, .int (iI 0)], cA G q_1 4 (fun _ => 0), cA G q_2 12 (fun _ => 0), cA G q_3 4 (fun _ => 0), cA G q_4 12 (fun _ => 0), cJ G q_5 8 (fun _ => 0), cJ G q_6 8 (fun _ => 0), cJ G q_7 8 (fun _ => 0), cJ G q_8 8 (fun _ => 0), cA G q_9 12 (fun _ => 0)] hin_X6_init_X6 tyX6 tyX6_ok nmX6 0 rfl rfl 17 (by decide) lk_X6_init_35 rfl hnm rfl rfl rfl rfl (Nat.le_of_ble_eq_true rfl) rfl dX6_init_71 ?_
  clear hw
  intro H locs hw
  refine g_aload_n C hl 0 rfl rfl dX6_init_74 ?_
  refine g_bipush C dX6_init_75 (by decide) ?_
  refine g_newI C hw 17 rfl (Nat.le_of_ble_eq_true rfl) (List.mem_cons_of_mem _ (List.mem_append_left _ (List.mem_of_getElem? (i := 3) rfl))) (Nat.le_of_ble_eq_true rfl) (Nat.le_of_ble_eq_true rfl) dX6_init_77 ?_
  clear hw
  intro q_10 H hw
  refine g_putF C hw [cO h 6 [.int (iI 0), .int (iI 0), .ref q_1, .ref q_2, .int (iI 0), .int (iI 0), .ref q_3, .ref q_4, .long (lI (0)), .long (lI (0)), .long (lI (0)), .long (lI (0)), .int (iI 0), .ref q_5, .ref q_6, .ref q_7, .ref q_8, .ref q_9, .ref q_10, .null, .int (iI 0), .int (iI 0), .null, .null, .null, .null, .null, .null, .null, .int (iI 0)], cA G q_1 4 (fun _ => 0), cA G q_2 12 (fun _ => 0), cA G q_3 4 (fun _ => 0), cA G q_4 12 (fun _ => 0), cJ G q_5 8 (fun _ => 0), cJ G q_6 8 (fun _ => 0), cJ G q_7 8 (fun _ => 0), cJ G q_8 8 (fun _ => 0), cA G q_9 12 (fun _ => 0), cA G q_10 17 (fun _ => 0)] hin_X6_init_X6 tyX6 tyX6_ok nmX6 0 rfl rfl 18 (by decide) lk_X6_init_38 rfl hnm rfl rfl rfl rfl (Nat.le_of_ble_eq_true rfl) rfl dX6_init_79 ?_
  clear hw
  intro H locs hw
  refine g_aload_n C hl 0 rfl rfl dX6_init_82 ?_
  refine g_bipush C dX6_init_83 (by decide) ?_
  refine g_newI C hw 17 rfl (Nat.le_of_ble_eq_true rfl) (List.mem_cons_of_mem _ (List.mem_append_left _ (List.mem_of_getElem? (i := 3) rfl))) (Nat.le_of_ble_eq_true rfl) (Nat.le_of_ble_eq_true rfl) dX6_init_85 ?_
  clear hw
  intro q_11 H hw
  refine g_putF C hw [cO h 6 [.int (iI 0), .int (iI 0), .ref q_1, .ref q_2, .int (iI 0), .int (iI 0), .ref q_3, .ref q_4, .long (lI (0)), .long (lI (0)), .long (lI (0)), .long (lI (0)), .int (iI 0), .ref q_5, .ref q_6, .ref q_7, .ref q_8, .ref q_9, .ref q_10, .ref q_11, .int (iI 0), .int (iI 0), .null, .null, .null, .null, .null, .null, .null, .int (iI 0)], cA G q_1 4 (fun _ => 0), cA G q_2 12 (fun _ => 0), cA G q_3 4 (fun _ => 0), cA G q_4 12 (fun _ => 0), cJ G q_5 8 (fun _ => 0), cJ G q_6 8 (fun _ => 0), cJ G q_7 8 (fun _ => 0), cJ G q_8 8 (fun _ => 0), cA G q_9 12 (fun _ => 0), cA G q_10 17 (fun _ => 0), cA G q_11 17 (fun _ => 0)] hin_X6_init_X6 tyX6 tyX6_ok nmX6 0 rfl rfl 19 (by decide) lk_X6_init_41 rfl hnm rfl rfl rfl rfl (Nat.le_of_ble_eq_true rfl) rfl dX6_init_87 ?_
  clear hw
  intro H locs hw
  refine g_aload_n C hl 0 rfl rfl dX6_init_90 ?_
  refine g_bipush C dX6_init_91 (by decide) ?_
  refine g_newI C hw 8 rfl (Nat.le_of_ble_eq_true rfl) (List.mem_cons_of_mem _ (List.mem_append_left _ (List.mem_of_getElem? (i := 3) rfl))) (Nat.le_of_ble_eq_true rfl) (Nat.le_of_ble_eq_true rfl) dX6_init_93 ?_
  clear hw
  intro q_12 H hw
  refine g_putF C hw [cO h 6 [.int (iI 0), .int (iI 0), .ref q_1, .ref q_2, .int (iI 0), .int (iI 0), .ref q_3, .ref q_4, .long (lI (0)), .long (lI (0)), .long (lI (0)), .long (lI (0)), .int (iI 0), .ref q_5, .ref q_6, .ref q_7, .ref q_8, .ref q_9, .ref q_10, .ref q_11, .int (iI 0), .int (iI 0), .ref q_12, .null, .null, .null, .null, .null, .null, .int (iI 0)], cA G q_1 4 (fun _ => 0), cA G q_2 12 (fun _ => 0), cA G q_3 4 (fun _ => 0), cA G q_4 12 (fun _ => 0), cJ G q_5 8 (fun _ => 0), cJ G q_6 8 (fun _ => 0), cJ G q_7 8 (fun _ => 0), cJ G q_8 8 (fun _ => 0), cA G q_9 12 (fun _ => 0), cA G q_10 17 (fun _ => 0), cA G q_11 17 (fun _ => 0), cA G q_12 8 (fun _ => 0)] hin_X6_init_X6 tyX6 tyX6_ok nmX6 0 rfl rfl 22 (by decide) lk_X6_init_44 rfl hnm rfl rfl rfl rfl (Nat.le_of_ble_eq_true rfl) rfl dX6_init_95 ?_
  clear hw
  intro H locs hw
  refine g_aload_n C hl 0 rfl rfl dX6_init_98 ?_
  refine g_bipush C dX6_init_99 (by decide) ?_
  refine g_newI C hw 8 rfl (Nat.le_of_ble_eq_true rfl) (List.mem_cons_of_mem _ (List.mem_append_left _ (List.mem_of_getElem? (i := 3) rfl))) (Nat.le_of_ble_eq_true rfl) (Nat.le_of_ble_eq_true rfl) dX6_init_101 ?_
  clear hw
  intro q_13 H hw
  refine g_putF C hw [cO h 6 [.int (iI 0), .int (iI 0), .ref q_1, .ref q_2, .int (iI 0), .int (iI 0), .ref q_3, .ref q_4, .long (lI (0)), .long (lI (0)), .long (lI (0)), .long (lI (0)), .int (iI 0), .ref q_5, .ref q_6, .ref q_7, .ref q_8, .ref q_9, .ref q_10, .ref q_11, .int (iI 0), .int (iI 0), .ref q_12, .ref q_13, .null, .null, .null, .null, .null, .int (iI 0)], cA G q_1 4 (fun _ => 0), cA G q_2 12 (fun _ => 0), cA G q_3 4 (fun _ => 0), cA G q_4 12 (fun _ => 0), cJ G q_5 8 (fun _ => 0), cJ G q_6 8 (fun _ => 0), cJ G q_7 8 (fun _ => 0), cJ G q_8 8 (fun _ => 0), cA G q_9 12 (fun _ => 0), cA G q_10 17 (fun _ => 0), cA G q_11 17 (fun _ => 0), cA G q_12 8 (fun _ => 0), cA G q_13 8 (fun _ => 0)] hin_X6_init_X6 tyX6 tyX6_ok nmX6 0 rfl rfl 23 (by decide) lk_X6_init_47 rfl hnm rfl rfl rfl rfl (Nat.le_of_ble_eq_true rfl) rfl dX6_init_103 ?_
  clear hw
  intro H locs hw
  refine g_aload_n C hl 0 rfl rfl dX6_init_106 ?_
  refine g_bipush C dX6_init_107 (by decide) ?_
  refine g_newI C hw 8 rfl (Nat.le_of_ble_eq_true rfl) (List.mem_cons_of_mem _ (List.mem_append_left _ (List.mem_of_getElem? (i := 3) rfl))) (Nat.le_of_ble_eq_true rfl) (Nat.le_of_ble_eq_true rfl) dX6_init_109 ?_
  clear hw
  intro q_14 H hw
  refine g_putF C hw [cO h 6 [.int (iI 0), .int (iI 0), .ref q_1, .ref q_2, .int (iI 0), .int (iI 0), .ref q_3, .ref q_4, .long (lI (0)), .long (lI (0)), .long (lI (0)), .long (lI (0)), .int (iI 0), .ref q_5, .ref q_6, .ref q_7, .ref q_8, .ref q_9, .ref q_10, .ref q_11, .int (iI 0), .int (iI 0), .ref q_12, .ref q_13, .ref q_14, .null, .null, .null, .null, .int (iI 0)], cA G q_1 4 (fun _ => 0), cA G q_2 12 (fun _ => 0), cA G q_3 4 (fun _ => 0), cA G q_4 12 (fun _ => 0), cJ G q_5 8 (fun _ => 0), cJ G q_6 8 (fun _ => 0), cJ G q_7 8 (fun _ => 0), cJ G q_8 8 (fun _ => 0), cA G q_9 12 (fun _ => 0), cA G q_10 17 (fun _ => 0), cA G q_11 17 (fun _ => 0), cA G q_12 8 (fun _ => 0), cA G q_13 8 (fun _ => 0), cA G q_14 8 (fun _ => 0)] hin_X6_init_X6 tyX6 tyX6_ok nmX6 0 rfl rfl 24 (by decide) lk_X6_init_50 rfl hnm rfl rfl rfl rfl (Nat.le_of_ble_eq_true rfl) rfl dX6_init_111 ?_
  clear hw
  intro H locs hw
  refine g_aload_n C hl 0 rfl rfl dX6_init_114 ?_
  refine g_iconst C dX6_init_115 ?_
  refine g_newI C hw 4 rfl (Nat.le_of_ble_eq_true rfl) (List.mem_cons_of_mem _ (List.mem_append_left _ (List.mem_of_getElem? (i := 3) rfl))) (Nat.le_of_ble_eq_true rfl) (Nat.le_of_ble_eq_true rfl) dX6_init_116 ?_
  clear hw
  intro q_15 H hw
  refine g_putF C hw [cO h 6 [.int (iI 0), .int (iI 0), .ref q_1, .ref q_2, .int (iI 0), .int (iI 0), .ref q_3, .ref q_4, .long (lI (0)), .long (lI (0)), .long (lI (0)), .long (lI (0)), .int (iI 0), .ref q_5, .ref q_6, .ref q_7, .ref q_8, .ref q_9, .ref q_10, .ref q_11, .int (iI 0), .int (iI 0), .ref q_12, .ref q_13, .ref q_14, .ref q_15, .null, .null, .null, .int (iI 0)], cA G q_1 4 (fun _ => 0), cA G q_2 12 (fun _ => 0), cA G q_3 4 (fun _ => 0), cA G q_4 12 (fun _ => 0), cJ G q_5 8 (fun _ => 0), cJ G q_6 8 (fun _ => 0), cJ G q_7 8 (fun _ => 0), cJ G q_8 8 (fun _ => 0), cA G q_9 12 (fun _ => 0), cA G q_10 17 (fun _ => 0), cA G q_11 17 (fun _ => 0), cA G q_12 8 (fun _ => 0), cA G q_13 8 (fun _ => 0), cA G q_14 8 (fun _ => 0), cA G q_15 4 (fun _ => 0)] hin_X6_init_X6 tyX6 tyX6_ok nmX6 0 rfl rfl 25 (by decide) lk_X6_init_53 rfl hnm rfl rfl rfl rfl (Nat.le_of_ble_eq_true rfl) rfl dX6_init_118 ?_
  clear hw
  intro H locs hw
  refine g_aload_n C hl 0 rfl rfl dX6_init_121 ?_
  refine g_iconst C dX6_init_122 ?_
  refine g_newI C hw 4 rfl (Nat.le_of_ble_eq_true rfl) (List.mem_cons_of_mem _ (List.mem_append_left _ (List.mem_of_getElem? (i := 3) rfl))) (Nat.le_of_ble_eq_true rfl) (Nat.le_of_ble_eq_true rfl) dX6_init_123 ?_
  clear hw
  intro q_16 H hw
  refine g_putF C hw [cO h 6 [.int (iI 0), .int (iI 0), .ref q_1, .ref q_2, .int (iI 0), .int (iI 0), .ref q_3, .ref q_4, .long (lI (0)), .long (lI (0)), .long (lI (0)), .long (lI (0)), .int (iI 0), .ref q_5, .ref q_6, .ref q_7, .ref q_8, .ref q_9, .ref q_10, .ref q_11, .int (iI 0), .int (iI 0), .ref q_12, .ref q_13, .ref q_14, .ref q_15, .ref q_16, .null, .null, .int (iI 0)], cA G q_1 4 (fun _ => 0), cA G q_2 12 (fun _ => 0), cA G q_3 4 (fun _ => 0), cA G q_4 12 (fun _ => 0), cJ G q_5 8 (fun _ => 0), cJ G q_6 8 (fun _ => 0), cJ G q_7 8 (fun _ => 0), cJ G q_8 8 (fun _ => 0), cA G q_9 12 (fun _ => 0), cA G q_10 17 (fun _ => 0), cA G q_11 17 (fun _ => 0), cA G q_12 8 (fun _ => 0), cA G q_13 8 (fun _ => 0), cA G q_14 8 (fun _ => 0), cA G q_15 4 (fun _ => 0), cA G q_16 4 (fun _ => 0)] hin_X6_init_X6 tyX6 tyX6_ok nmX6 0 rfl rfl 26 (by decide) lk_X6_init_56 rfl hnm rfl rfl rfl rfl (Nat.le_of_ble_eq_true rfl) rfl dX6_init_125 ?_
  clear hw
  intro H locs hw
  refine g_aload_n C hl 0 rfl rfl dX6_init_128 ?_
  refine g_sipush C dX6_init_129 (by decide) ?_
  refine g_newI C hw 240 rfl (Nat.le_of_ble_eq_true rfl) (List.mem_cons_of_mem _ (List.mem_append_left _ (List.mem_of_getElem? (i := 3) rfl))) (Nat.le_of_ble_eq_true rfl) (Nat.le_of_ble_eq_true rfl) dX6_init_132 ?_
  clear hw
  intro q_17 H hw
  refine g_putF C hw [cO h 6 [.int (iI 0), .int (iI 0), .ref q_1, .ref q_2, .int (iI 0), .int (iI 0), .ref q_3, .ref q_4, .long (lI (0)), .long (lI (0)), .long (lI (0)), .long (lI (0)), .int (iI 0), .ref q_5, .ref q_6, .ref q_7, .ref q_8, .ref q_9, .ref q_10, .ref q_11, .int (iI 0), .int (iI 0), .ref q_12, .ref q_13, .ref q_14, .ref q_15, .ref q_16, .ref q_17, .null, .int (iI 0)], cA G q_1 4 (fun _ => 0), cA G q_2 12 (fun _ => 0), cA G q_3 4 (fun _ => 0), cA G q_4 12 (fun _ => 0), cJ G q_5 8 (fun _ => 0), cJ G q_6 8 (fun _ => 0), cJ G q_7 8 (fun _ => 0), cJ G q_8 8 (fun _ => 0), cA G q_9 12 (fun _ => 0), cA G q_10 17 (fun _ => 0), cA G q_11 17 (fun _ => 0), cA G q_12 8 (fun _ => 0), cA G q_13 8 (fun _ => 0), cA G q_14 8 (fun _ => 0), cA G q_15 4 (fun _ => 0), cA G q_16 4 (fun _ => 0), cA G q_17 240 (fun _ => 0)] hin_X6_init_X6 tyX6 tyX6_ok nmX6 0 rfl rfl 27 (by decide) lk_X6_init_59 rfl hnm rfl rfl rfl rfl (Nat.le_of_ble_eq_true rfl) rfl dX6_init_134 ?_
  clear hw
  intro H locs hw
  refine g_aload_n C hl 0 rfl rfl dX6_init_137 ?_
  refine g_bipush C dX6_init_138 (by decide) ?_
  refine g_newI C hw 60 rfl (Nat.le_of_ble_eq_true rfl) (List.mem_cons_of_mem _ (List.mem_append_left _ (List.mem_of_getElem? (i := 3) rfl))) (Nat.le_of_ble_eq_true rfl) (Nat.le_of_ble_eq_true rfl) dX6_init_140 ?_
  clear hw
  intro q_18 H hw
  refine g_putF C hw [cO h 6 [.int (iI 0), .int (iI 0), .ref q_1, .ref q_2, .int (iI 0), .int (iI 0), .ref q_3, .ref q_4, .long (lI (0)), .long (lI (0)), .long (lI (0)), .long (lI (0)), .int (iI 0), .ref q_5, .ref q_6, .ref q_7, .ref q_8, .ref q_9, .ref q_10, .ref q_11, .int (iI 0), .int (iI 0), .ref q_12, .ref q_13, .ref q_14, .ref q_15, .ref q_16, .ref q_17, .ref q_18, .int (iI 0)], cA G q_1 4 (fun _ => 0), cA G q_2 12 (fun _ => 0), cA G q_3 4 (fun _ => 0), cA G q_4 12 (fun _ => 0), cJ G q_5 8 (fun _ => 0), cJ G q_6 8 (fun _ => 0), cJ G q_7 8 (fun _ => 0), cJ G q_8 8 (fun _ => 0), cA G q_9 12 (fun _ => 0), cA G q_10 17 (fun _ => 0), cA G q_11 17 (fun _ => 0), cA G q_12 8 (fun _ => 0), cA G q_13 8 (fun _ => 0), cA G q_14 8 (fun _ => 0), cA G q_15 4 (fun _ => 0), cA G q_16 4 (fun _ => 0), cA G q_17 240 (fun _ => 0), cA G q_18 60 (fun _ => 0)] hin_X6_init_X6 tyX6 tyX6_ok nmX6 0 rfl rfl 28 (by decide) lk_X6_init_62 rfl hnm rfl rfl rfl rfl (Nat.le_of_ble_eq_true rfl) rfl dX6_init_142 ?_
  clear hw
  intro H locs hw
  refine g_iconst C dX6_init_145 ?_
  refine g_istore_n C [(1, .int (iI 0)), (0, .ref h)] dX6_init_146 rfl hl (by decide) rfl ?_
  clear hl
  intro ls hl
  refine g_loop (σ := (Int) × (Int → Int)) (fun z_ => [cO h 6 [.int (iI 0), .int (iI 0), .ref q_1, .ref q_2, .int (iI 0), .int (iI 0), .ref q_3, .ref q_4, .long (lI (0)), .long (lI (0)), .long (lI (0)), .long (lI (0)), .int (iI 0), .ref q_5, .ref q_6, .ref q_7, .ref q_8, .ref q_9, .ref q_10, .ref q_11, .int (iI 0), .int (iI 0), .ref q_12, .ref q_13, .ref q_14, .ref q_15, .ref q_16, .ref q_17, .ref q_18, .int (iI 0)], cA G q_1 4 (fun _ => 0), cA G q_2 12 (fun _ => 0), cA G q_3 4 (fun _ => 0), cA G q_4 12 (fun _ => 0), cJ G q_5 8 (fun _ => 0), cJ G q_6 8 (fun _ => 0), cJ G q_7 8 (fun _ => 0), cJ G q_8 8 (fun _ => 0), cA G q_9 12 (fun _ => 0), cA G q_10 17 (fun _ => 0), cA G q_11 17 (fun _ => 0), cA G q_12 8 (fun _ => 0), cA G q_13 8 (fun _ => 0), cA G q_14 8 (fun _ => 0), cA G q_15 4 z_.2, cA G q_16 4 (fun _ => 0), cA G q_17 240 (fun _ => 0), cA G q_18 60 (fun _ => 0)]) (fun z_ => [(1, .int (iI (z_.1))), (0, .ref h)]) (fun z_ => (0 ≤ z_.1 ∧ z_.1 ≤ 4) ∧ (∀ j, -1 ≤ z_.2 j ∧ z_.2 j ≤ 60) ∧ (∀ j, 0 ≤ j → j < z_.1 → z_.2 j = -1)) (fun z_ => (4 - z_.1).toNat) (0, (fun _ => 0)) ⟨by (try dsimp only); omega, by (try dsimp only); intro j; omega, by (try dsimp only); intro j h1 h2; omega⟩ hw (lv_sub hl [0, 1] rfl) ?_
  clear hw hl
  rintro ⟨ii, s1⟩ ⟨hii, hs1, hs2⟩ H locs ls hw hl ih_19
  replace hii : 0 ≤ ii ∧ ii ≤ 4 := hii
  replace hs1 : ∀ j, -1 ≤ s1 j ∧ s1 j ≤ 60 := hs1
  replace hs2 : ∀ j, 0 ≤ j → j < ii → s1 j = -1 := hs2
  replace hw : gW D A s.heap [cO h 6 [.int (iI 0), .int (iI 0), .ref q_1, .ref q_2, .int (iI 0), .int (iI 0), .ref q_3, .ref q_4, .long (lI (0)), .long (lI (0)), .long (lI (0)), .long (lI (0)), .int (iI 0), .ref q_5, .ref q_6, .ref q_7, .ref q_8, .ref q_9, .ref q_10, .ref q_11, .int (iI 0), .int (iI 0), .ref q_12, .ref q_13, .ref q_14, .ref q_15, .ref q_16, .ref q_17, .ref q_18, .int (iI 0)], cA G q_1 4 (fun _ => 0), cA G q_2 12 (fun _ => 0), cA G q_3 4 (fun _ => 0), cA G q_4 12 (fun _ => 0), cJ G q_5 8 (fun _ => 0), cJ G q_6 8 (fun _ => 0), cJ G q_7 8 (fun _ => 0), cJ G q_8 8 (fun _ => 0), cA G q_9 12 (fun _ => 0), cA G q_10 17 (fun _ => 0), cA G q_11 17 (fun _ => 0), cA G q_12 8 (fun _ => 0), cA G q_13 8 (fun _ => 0), cA G q_14 8 (fun _ => 0), cA G q_15 4 s1, cA G q_16 4 (fun _ => 0), cA G q_17 240 (fun _ => 0), cA G q_18 60 (fun _ => 0)] H locs := hw
  replace hl : lv_has ls 2 [(1, .int (iI ii)), (0, .ref h)] := hl
  replace ih_19 : ∀ (ii' : Int) (s1' : Int → Int), ((0 ≤ ii' ∧ ii' ≤ 4) ∧ (∀ j, -1 ≤ s1' j ∧ s1' j ≤ 60) ∧ (∀ j, 0 ≤ j → j < ii' → s1' j = -1)) → ((4 - ii').toNat) < ((4 - ii).toNat) → ∀ (H : Heap) (locs : List Loc) (ls : Array Slot), gW D A s.heap [cO h 6 [.int (iI 0), .int (iI 0), .ref q_1, .ref q_2, .int (iI 0), .int (iI 0), .ref q_3, .ref q_4, .long (lI (0)), .long (lI (0)), .long (lI (0)), .long (lI (0)), .int (iI 0), .ref q_5, .ref q_6, .ref q_7, .ref q_8, .ref q_9, .ref q_10, .ref q_11, .int (iI 0), .int (iI 0), .ref q_12, .ref q_13, .ref q_14, .ref q_15, .ref q_16, .ref q_17, .ref q_18, .int (iI 0)], cA G q_1 4 (fun _ => 0), cA G q_2 12 (fun _ => 0), cA G q_3 4 (fun _ => 0), cA G q_4 12 (fun _ => 0), cJ G q_5 8 (fun _ => 0), cJ G q_6 8 (fun _ => 0), cJ G q_7 8 (fun _ => 0), cJ G q_8 8 (fun _ => 0), cA G q_9 12 (fun _ => 0), cA G q_10 17 (fun _ => 0), cA G q_11 17 (fun _ => 0), cA G q_12 8 (fun _ => 0), cA G q_13 8 (fun _ => 0), cA G q_14 8 (fun _ => 0), cA G q_15 4 s1', cA G q_16 4 (fun _ => 0), cA G q_17 240 (fun _ => 0), cA G q_18 60 (fun _ => 0)] H locs → lv_has ls 2 [(1, .int (iI (ii'))), (0, .ref h)] → W p l e _ s m _ below meth c H locs _ _ _ (F0 m 147 ls []) := fun ii' s1' => ih_19 (ii', s1')
  refine g_iload_n C hl 0 rfl rfl dX6_init_147 ?_
  refine g_iconst C dX6_init_148 ?_
  refine g_icmp_ge C 165 dX6_init_149 (by decide) (by omega) (by omega) (fun c_20 => ?_) (fun c_20 => ?_)
  · skip
    refine W.widen (k := 18) (n := 442) (by first | exact Nat.le_of_ble_eq_true rfl | omega) (by first | exact Nat.le_of_ble_eq_true rfl | omega) ?_
    exact g_vret C hr (ws' := [cO h 6 [.int (iI 0), .int (iI 0), .ref q_1, .ref q_2, .int (iI 0), .int (iI 0), .ref q_3, .ref q_4, .long (lI (0)), .long (lI (0)), .long (lI (0)), .long (lI (0)), .int (iI 0), .ref q_5, .ref q_6, .ref q_7, .ref q_8, .ref q_9, .ref q_10, .ref q_11, .int (iI 0), .int (iI 0), .ref q_12, .ref q_13, .ref q_14, .ref q_15, .ref q_16, .ref q_17, .ref q_18, .int (iI 0)], cA G q_1 4 (fun _ => 0), cA G q_2 12 (fun _ => 0), cA G q_3 4 (fun _ => 0), cA G q_4 12 (fun _ => 0), cJ G q_5 8 (fun _ => 0), cJ G q_6 8 (fun _ => 0), cJ G q_7 8 (fun _ => 0), cJ G q_8 8 (fun _ => 0), cA G q_9 12 (fun _ => 0), cA G q_10 17 (fun _ => 0), cA G q_11 17 (fun _ => 0), cA G q_12 8 (fun _ => 0), cA G q_13 8 (fun _ => 0), cA G q_14 8 (fun _ => 0), cA G q_15 4 s1, cA G q_16 4 (fun _ => 0), cA G q_17 240 (fun _ => 0), cA G q_18 60 (fun _ => 0)]) hw [0, 1, 2, 3, 4, 5, 6, 7, 8, 9, 10, 11, 12, 13, 14, 15, 16, 17, 18] (by decide) rfl ⟨(fun k => [0, 0, q_1, q_2, 0, 0, q_3, q_4, 0, 0, 0, 0, 0, q_5, q_6, q_7, q_8, q_9, q_10, q_11, 0, 0, q_12, q_13, q_14, q_15, q_16, q_17, q_18].getD k 0), s1, (by rfl), (by exact ⟨hs1, fun j h1 h2 => hs2 j h1 (by omega)⟩)⟩ dX6_init_165
  · skip
    refine g_aload_n C hl 1 rfl rfl dX6_init_152 ?_
    refine g_get C hw hin_X6_init_X6 0 rfl rfl 25 (by decide) lk_X6_init_53 rfl dX6_init_153 ?_
    refine g_iload_n C hl 0 rfl rfl dX6_init_156 ?_
    refine g_iconst C dX6_init_157 ?_
    refine g_iast C hw [cO h 6 [.int (iI 0), .int (iI 0), .ref q_1, .ref q_2, .int (iI 0), .int (iI 0), .ref q_3, .ref q_4, .long (lI (0)), .long (lI (0)), .long (lI (0)), .long (lI (0)), .int (iI 0), .ref q_5, .ref q_6, .ref q_7, .ref q_8, .ref q_9, .ref q_10, .ref q_11, .int (iI 0), .int (iI 0), .ref q_12, .ref q_13, .ref q_14, .ref q_15, .ref q_16, .ref q_17, .ref q_18, .int (iI 0)], cA G q_1 4 (fun _ => 0), cA G q_2 12 (fun _ => 0), cA G q_3 4 (fun _ => 0), cA G q_4 12 (fun _ => 0), cJ G q_5 8 (fun _ => 0), cJ G q_6 8 (fun _ => 0), cJ G q_7 8 (fun _ => 0), cJ G q_8 8 (fun _ => 0), cA G q_9 12 (fun _ => 0), cA G q_10 17 (fun _ => 0), cA G q_11 17 (fun _ => 0), cA G q_12 8 (fun _ => 0), cA G q_13 8 (fun _ => 0), cA G q_14 8 (fun _ => 0), cA G q_15 4 (up s1 ii (-1)), cA G q_16 4 (fun _ => 0), cA G q_17 240 (fun _ => 0), cA G q_18 60 (fun _ => 0)] 15 rfl (by omega) (Nat.le_of_ble_eq_true rfl) rfl dX6_init_158 ?_
    clear hw
    intro H locs hw
    refine g_iinc C [(1, .int (iI (ii + 1))), (0, .ref h)] 0 dX6_init_159 hl rfl (by decide) rfl ?_
    clear hl
    intro ls hl
    refine g_goto C 147 dX6_init_162 (by decide) ?_
    have hw : gW D A s.heap [cO h 6 [.int (iI 0), .int (iI 0), .ref q_1, .ref q_2, .int (iI 0), .int (iI 0), .ref q_3, .ref q_4, .long (lI (0)), .long (lI (0)), .long (lI (0)), .long (lI (0)), .int (iI 0), .ref q_5, .ref q_6, .ref q_7, .ref q_8, .ref q_9, .ref q_10, .ref q_11, .int (iI 0), .int (iI 0), .ref q_12, .ref q_13, .ref q_14, .ref q_15, .ref q_16, .ref q_17, .ref q_18, .int (iI 0)], cA G q_1 4 (fun _ => 0), cA G q_2 12 (fun _ => 0), cA G q_3 4 (fun _ => 0), cA G q_4 12 (fun _ => 0), cJ G q_5 8 (fun _ => 0), cJ G q_6 8 (fun _ => 0), cJ G q_7 8 (fun _ => 0), cJ G q_8 8 (fun _ => 0), cA G q_9 12 (fun _ => 0), cA G q_10 17 (fun _ => 0), cA G q_11 17 (fun _ => 0), cA G q_12 8 (fun _ => 0), cA G q_13 8 (fun _ => 0), cA G q_14 8 (fun _ => 0), cA G q_15 4 (up s1 ii (-1)), cA G q_16 4 (fun _ => 0), cA G q_17 240 (fun _ => 0), cA G q_18 60 (fun _ => 0)] H locs := g_perm hw [0, 1, 2, 3, 4, 5, 6, 7, 8, 9, 10, 11, 12, 13, 14, 15, 16, 17, 18] (by decide) rfl
    exact ih_19 (ii + 1) (up s1 ii (-1)) ⟨by omega, by intro j; unfold up; split; omega; exact hs1 j, by intro j h1 h2; unfold up; split; rfl; exact hs2 j h1 (by omega)⟩ (by omega) H locs ls hw (lv_sub hl [0, 1] rfl)

set_option maxRecDepth 20000 in
theorem hin_X3_init_X4 : ∀ w ∈ u_ws RX4 TX4 3, w ∈ wsX3_init := by
  intro w h
  exact List.mem_cons_of_mem _ (List.mem_append_left _ (List.mem_append_right _ (h)))
set_option maxRecDepth 20000 in
theorem hin_X3_init_X3 : ∀ w ∈ u_ws RX3 TX3 4, w ∈ wsX3_init := by
  intro w h
  exact List.mem_cons_of_mem _ (List.mem_append_right _ (h))
set_option maxRecDepth 20000 in
theorem lk_X3_init_12 : Cond.fieldLink RX3 12 (TX3 0).1 (TX3 0).2.1 (TX3 0).2.2.1 ∈ wsX3_init := List.mem_cons_of_mem _ (List.mem_append_left _ (List.mem_append_left _ (List.mem_of_getElem? (i := 6) rfl)))
set_option maxRecDepth 100000 in
set_option maxHeartbeats 8000000 in
theorem m_X3_init (l : Launch) (D : va_G) (G : gT) (h : Nat)  : gMvZ l yX3_init wsX3_init ({ frames := 2, cells := 3, slots := 19, locals := 40 }) D G [.ref h] [cO h 3 [.null, .int (iI 0), .int (iI 0), .int (iI 0)]] 3 19 (fun (w : va_W) => ∃ (a : Nat → Nat) (b : Nat → Nat), w = [oX3 h a 0 0 0, oX4 (a 0) b 0, cA G (b 1) 4 (fun _ => 0), cA G (b 2) 12 (fun _ => 0)]) := by
  refine g_start_vZ (cc := cX3_init) (nL := 1) (own := RX3) (ret := none) (by decide +kernel) rfl rfl (Nat.le_of_ble_eq_true rfl) ?_
  intro p e s m below meth c A ls C hr hnm hw hl hZ
  have hl : lv_has ls 1 [(0, .ref h)] := hl
  refine g_aload_n C hl 0 rfl rfl dX3_init_0 ?_
  refine W.objInit C.1.1 C.1.2.1 C.1.2.2.2.1 (C.1.2.2.2.2 (.methodLink RX3 3 objectInit) (List.mem_cons_of_mem _ (List.mem_append_left _ (List.mem_append_left _ (List.mem_of_getElem? (i := 0) rfl))))) (C.1.2.2.2.2 (.instanceMethod objectInit) (List.mem_cons_of_mem _ (List.mem_append_left _ (List.mem_append_left _ (List.mem_of_getElem? (i := 1) rfl))))) (C.1.2.2.2.2 (.code objectInit ⟨#[0xb1]⟩ 1 none) (List.mem_cons_of_mem _ (List.mem_append_left _ (List.mem_append_left _ (List.mem_of_getElem? (i := 2) rfl))))) rfl (by rw [C.1.2.2.1]; exact hl.1) rfl dX3_init_1 (Nat.le_of_ble_eq_true rfl) (Nat.le_of_ble_eq_true rfl) ?_
  refine W.eq (g2 := F0 m 4 ls []) rfl ?_
  refine g_aload_n C hl 0 rfl rfl dX3_init_4 ?_
  refine g_new (ci := 4) C hw [.int (iI 0), .null, .null] hin_X3_init_X4 tyX4 tyX4_ok (List.mem_cons_of_mem _ (List.mem_append_left _ (List.mem_append_left _ (List.mem_of_getElem? (i := 3) rfl)))) (List.mem_cons_of_mem _ (List.mem_append_left _ (List.mem_append_left _ (List.mem_of_getElem? (i := 4) rfl)))) (List.mem_cons_of_mem _ (List.mem_append_left _ (List.mem_append_left _ (List.mem_of_getElem? (i := 5) rfl)))) rfl df_X4 (Nat.le_of_ble_eq_true rfl) (Nat.le_of_ble_eq_true rfl) dX3_init_5 ?_
  clear hw
  intro q_1 H hw
  refine g_dup C dX3_init_8 rfl ?_
  refine g_callNv C hw (wr := [cO h 3 [.null, .int (iI 0), .int (iI 0), .int (iI 0)]]) (As := []) (rest := [.ref q_1, .ref h]) (m_X4_init l D G (h := q_1) ) ⟨va_cnB 0 C.1.2.2.2.2 gX3_init_X4_init_n11 rfl rfl rfl hZ.2.2.2.2.2 (C.1.2.2.2.2 (.initialized RX4) (List.mem_cons_of_mem _ (List.mem_append_left _ (List.mem_append_left _ (List.mem_of_getElem? (i := 5) rfl))))) (by decide +kernel) ⟨Nat.le_of_ble_eq_true rfl, Nat.le_of_ble_eq_true rfl⟩, rfl, C.1.2.2.2.2 (.instanceMethod yX4_init) (List.mem_cons_of_mem _ (List.mem_append_left _ (List.mem_append_left _ (List.mem_of_getElem? (i := 7) rfl))))⟩ [1] [0] rfl rfl (by decide) (by decide) (by decide) rfl hl.1 _ rfl (Nat.le_of_ble_eq_true rfl) dX3_init_9 ⟨Nat.le_of_ble_eq_true rfl, Nat.le_of_ble_eq_true rfl⟩ ?_
  clear hw
  rintro _ H locs ⟨a__2, rfl⟩ hw
  have hw : gW D A s.heap [cO h 3 [.null, .int (iI 0), .int (iI 0), .int (iI 0)], oX4 q_1 a__2 0, cA G (a__2 1) 4 (fun _ => 0), cA G (a__2 2) 12 (fun _ => 0)] H locs := hw
  refine g_putF C hw [cO h 3 [.ref q_1, .int (iI 0), .int (iI 0), .int (iI 0)], oX4 q_1 a__2 0, cA G (a__2 1) 4 (fun _ => 0), cA G (a__2 2) 12 (fun _ => 0)] hin_X3_init_X3 tyX3 tyX3_ok nmX3 0 rfl rfl 0 (by decide) lk_X3_init_12 rfl hnm rfl rfl rfl rfl (Nat.le_of_ble_eq_true rfl) rfl dX3_init_12 ?_
  clear hw
  intro H locs hw
  refine W.widen (k := 3) (n := 19) (by first | exact Nat.le_of_ble_eq_true rfl | omega) (by first | exact Nat.le_of_ble_eq_true rfl | omega) ?_
  exact g_vret C hr (ws' := [cO h 3 [.ref q_1, .int (iI 0), .int (iI 0), .int (iI 0)], oX4 q_1 a__2 0, cA G (a__2 1) 4 (fun _ => 0), cA G (a__2 2) 12 (fun _ => 0)]) hw [0, 1, 2, 3] (by decide) rfl ⟨(fun k => [q_1].getD k 0), a__2, (by rfl)⟩ dX3_init_15

set_option maxRecDepth 20000 in
theorem hin_X5_init_X5 : ∀ w ∈ u_ws RX5 TX5 9, w ∈ wsX5_init := by
  intro w h
  exact List.mem_cons_of_mem _ (List.mem_append_left _ (List.mem_append_left _ (List.mem_append_left _ (List.mem_append_left _ (List.mem_append_right _ (h))))))
set_option maxRecDepth 20000 in
theorem lk_X5_init_13 : Cond.fieldLink RX5 13 (TX5 0).1 (TX5 0).2.1 (TX5 0).2.2.1 ∈ wsX5_init := List.mem_cons_of_mem _ (List.mem_append_left _ (List.mem_append_left _ (List.mem_append_left _ (List.mem_append_left _ (List.mem_append_left _ (List.mem_append_left _ (List.mem_of_getElem? (i := 4) rfl)))))))
set_option maxRecDepth 20000 in
theorem hin_X5_init_X4 : ∀ w ∈ u_ws RX4 TX4 3, w ∈ wsX5_init := by
  intro w h
  exact List.mem_cons_of_mem _ (List.mem_append_left _ (List.mem_append_left _ (List.mem_append_left _ (List.mem_append_right _ (h)))))
set_option maxRecDepth 20000 in
theorem lk_X5_init_20 : Cond.fieldLink RX5 20 (TX5 1).1 (TX5 1).2.1 (TX5 1).2.2.1 ∈ wsX5_init := List.mem_cons_of_mem _ (List.mem_append_left _ (List.mem_append_left _ (List.mem_append_left _ (List.mem_append_left _ (List.mem_append_left _ (List.mem_append_left _ (List.mem_of_getElem? (i := 8) rfl)))))))
set_option maxRecDepth 20000 in
theorem hin_X5_init_X0 : ∀ w ∈ u_ws RX0 TX0 14, w ∈ wsX5_init := by
  intro w h
  exact List.mem_cons_of_mem _ (List.mem_append_left _ (List.mem_append_left _ (List.mem_append_right _ (h))))
set_option maxRecDepth 20000 in
theorem lk_X5_init_27 : Cond.fieldLink RX5 27 (TX5 2).1 (TX5 2).2.1 (TX5 2).2.2.1 ∈ wsX5_init := List.mem_cons_of_mem _ (List.mem_append_left _ (List.mem_append_left _ (List.mem_append_left _ (List.mem_append_left _ (List.mem_append_left _ (List.mem_append_left _ (List.mem_of_getElem? (i := 12) rfl)))))))
set_option maxRecDepth 20000 in
theorem lk_X5_init_31 : Cond.fieldLink RX5 31 (TX5 3).1 (TX5 3).2.1 (TX5 3).2.2.1 ∈ wsX5_init := List.mem_cons_of_mem _ (List.mem_append_left _ (List.mem_append_left _ (List.mem_append_left _ (List.mem_append_left _ (List.mem_append_left _ (List.mem_append_left _ (List.mem_of_getElem? (i := 13) rfl)))))))
set_option maxRecDepth 20000 in
theorem lk_X5_init_34 : Cond.fieldLink RX5 34 (TX5 4).1 (TX5 4).2.1 (TX5 4).2.2.1 ∈ wsX5_init := List.mem_cons_of_mem _ (List.mem_append_left _ (List.mem_append_left _ (List.mem_append_left _ (List.mem_append_left _ (List.mem_append_left _ (List.mem_append_left _ (List.mem_of_getElem? (i := 14) rfl)))))))
set_option maxRecDepth 20000 in
theorem hin_X5_init_X3 : ∀ w ∈ u_ws RX3 TX3 4, w ∈ wsX5_init := by
  intro w h
  exact List.mem_cons_of_mem _ (List.mem_append_left _ (List.mem_append_right _ (h)))
set_option maxRecDepth 20000 in
theorem lk_X5_init_40 : Cond.fieldLink RX5 40 (TX5 5).1 (TX5 5).2.1 (TX5 5).2.2.1 ∈ wsX5_init := List.mem_cons_of_mem _ (List.mem_append_left _ (List.mem_append_left _ (List.mem_append_left _ (List.mem_append_left _ (List.mem_append_left _ (List.mem_append_left _ (List.mem_of_getElem? (i := 18) rfl)))))))
set_option maxRecDepth 20000 in
theorem hin_X5_init_X1 : ∀ w ∈ u_ws RX1 TX1 4, w ∈ wsX5_init := by
  intro w h
  exact List.mem_cons_of_mem _ (List.mem_append_right _ (h))
set_option maxRecDepth 20000 in
theorem lk_X5_init_47 : Cond.fieldLink RX5 47 (TX5 6).1 (TX5 6).2.1 (TX5 6).2.2.1 ∈ wsX5_init := List.mem_cons_of_mem _ (List.mem_append_left _ (List.mem_append_left _ (List.mem_append_left _ (List.mem_append_left _ (List.mem_append_left _ (List.mem_append_left _ (List.mem_of_getElem? (i := 22) rfl)))))))
set_option maxRecDepth 100000 in
set_option maxHeartbeats 8000000 in
theorem m_X5_init (l : Launch) (D : va_G) (G : gT) (h : Nat)  : gMvZ l yX5_init wsX5_init ({ frames := 3, cells := 39, slots := 351, locals := 60 }) D G [.ref h] [cO h 5 [.null, .null, .null, .null, .null, .null, .null, .int (iI 0), .int (iI 0)]] 39 351 (fun (w : va_W) => ∃ (a : Nat → Nat) (ta : Nat → Nat) (la : Nat → Nat) (tb : Nat → Nat) (lb : Nat → Nat) (ra : Nat → Nat) (rb : Nat → Nat) (ga : Nat → Nat), w = [oX5 h a 0 0, cQ G (a 0) 4 (fun _ => none), oX4 (a 1) ta 0, cA G (ta 1) 4 (fun _ => 0), cA G (ta 2) 12 (fun _ => 0), oX0 (a 2) la 0 0 0, cA G (la 1) 12 (fun _ => 0), cA G (la 2) 4 (fun _ => 0), cA G (la 3) 8 (fun _ => 0), cA G (la 4) 8 (fun _ => 0), cA G (la 5) 8 (fun _ => 0), cA G (la 6) 8 (fun _ => 0), cA G (la 8) 8 (fun _ => 0), cA G (la 9) 8 (fun _ => 0), cA G (la 11) 17 (fun _ => 0), cA G (la 12) 17 (fun _ => 0), cA G (la 13) 17 (fun _ => 0), oX4 (a 3) tb 0, cA G (tb 1) 4 (fun _ => 0), cA G (tb 2) 12 (fun _ => 0), oX0 (a 4) lb 0 0 0, cA G (lb 1) 12 (fun _ => 0), cA G (lb 2) 4 (fun _ => 0), cA G (lb 3) 8 (fun _ => 0), cA G (lb 4) 8 (fun _ => 0), cA G (lb 5) 8 (fun _ => 0), cA G (lb 6) 8 (fun _ => 0), cA G (lb 8) 8 (fun _ => 0), cA G (lb 9) 8 (fun _ => 0), cA G (lb 11) 17 (fun _ => 0), cA G (lb 12) 17 (fun _ => 0), cA G (lb 13) 17 (fun _ => 0), oX3 (a 5) ra 0 0 0, oX4 (ra 0) rb 0, cA G (rb 1) 4 (fun _ => 0), cA G (rb 2) 12 (fun _ => 0), oX1 (a 6) ga 0, cA G (ga 1) 8 (fun _ => 0), cA G (ga 2) 8 (fun _ => 0), cA G (ga 3) 8 (fun _ => 0)]) := by
  refine g_start_vZ (cc := cX5_init) (nL := 1) (own := RX5) (ret := none) (by decide +kernel) rfl rfl (Nat.le_of_ble_eq_true rfl) ?_
  intro p e s m below meth c A ls C hr hnm hw hl hZ
  have hl : lv_has ls 1 [(0, .ref h)] := hl
  refine g_aload_n C hl 0 rfl rfl dX5_init_0 ?_
  refine W.objInit C.1.1 C.1.2.1 C.1.2.2.2.1 (C.1.2.2.2.2 (.methodLink RX5 5 objectInit) (List.mem_cons_of_mem _ (List.mem_append_left _ (List.mem_append_left _ (List.mem_append_left _ (List.mem_append_left _ (List.mem_append_left _ (List.mem_append_left _ (List.mem_of_getElem? (i := 0) rfl))))))))) (C.1.2.2.2.2 (.instanceMethod objectInit) (List.mem_cons_of_mem _ (List.mem_append_left _ (List.mem_append_left _ (List.mem_append_left _ (List.mem_append_left _ (List.mem_append_left _ (List.mem_append_left _ (List.mem_of_getElem? (i := 1) rfl))))))))) (C.1.2.2.2.2 (.code objectInit ⟨#[0xb1]⟩ 1 none) (List.mem_cons_of_mem _ (List.mem_append_left _ (List.mem_append_left _ (List.mem_append_left _ (List.mem_append_left _ (List.mem_append_left _ (List.mem_append_left _ (List.mem_of_getElem? (i := 2) rfl))))))))) rfl (by rw [C.1.2.2.1]; exact hl.1) rfl dX5_init_1 (Nat.le_of_ble_eq_true rfl) (Nat.le_of_ble_eq_true rfl) ?_
  refine W.eq (g2 := F0 m 4 ls []) rfl ?_
  refine g_aload_n C hl 0 rfl rfl dX5_init_4 ?_
  refine g_iconst C dX5_init_5 ?_
  refine g_newQ C hZ hw 4 rfl (Nat.le_of_ble_eq_true rfl) (List.mem_cons_of_mem _ (List.mem_append_left _ (List.mem_append_left _ (List.mem_append_left _ (List.mem_append_left _ (List.mem_append_left _ (List.mem_append_left _ (List.mem_of_getElem? (i := 3) rfl)))))))) (Nat.le_of_ble_eq_true rfl) (Nat.le_of_ble_eq_true rfl) dX5_init_6 ?_
  clear hw
  intro q_1 H hw
  refine g_putF C hw [cO h 5 [.ref q_1, .null, .null, .null, .null, .null, .null, .int (iI 0), .int (iI 0)], cQ G q_1 4 (fun _ => none)] hin_X5_init_X5 tyX5 tyX5_ok nmX5 0 rfl rfl 0 (by decide) lk_X5_init_13 rfl hnm rfl rfl rfl rfl (Nat.le_of_ble_eq_true rfl) rfl dX5_init_9 ?_
  clear hw
  intro H locs hw
  refine g_aload_n C hl 0 rfl rfl dX5_init_12 ?_
  refine g_new (ci := 4) C hw [.int (iI 0), .null, .null] hin_X5_init_X4 tyX4 tyX4_ok (List.mem_cons_of_mem _ (List.mem_append_left _ (List.mem_append_left _ (List.mem_append_left _ (List.mem_append_left _ (List.mem_append_left _ (List.mem_append_left _ (List.mem_of_getElem? (i := 5) rfl)))))))) (List.mem_cons_of_mem _ (List.mem_append_left _ (List.mem_append_left _ (List.mem_append_left _ (List.mem_append_left _ (List.mem_append_left _ (List.mem_append_left _ (List.mem_of_getElem? (i := 6) rfl)))))))) (List.mem_cons_of_mem _ (List.mem_append_left _ (List.mem_append_left _ (List.mem_append_left _ (List.mem_append_left _ (List.mem_append_left _ (List.mem_append_left _ (List.mem_of_getElem? (i := 7) rfl)))))))) rfl df_X4 (Nat.le_of_ble_eq_true rfl) (Nat.le_of_ble_eq_true rfl) dX5_init_13 ?_
  clear hw
  intro q_2 H hw
  refine g_dup C dX5_init_16 rfl ?_
  refine g_callNv C hw (wr := [cO h 5 [.ref q_1, .null, .null, .null, .null, .null, .null, .int (iI 0), .int (iI 0)], cQ G q_1 4 (fun _ => none)]) (As := []) (rest := [.ref q_2, .ref h]) (m_X4_init l D G (h := q_2) ) ⟨va_cnB 0 C.1.2.2.2.2 gX5_init_X4_init_n19 rfl rfl rfl hZ.2.1 (C.1.2.2.2.2 (.initialized RX4) (List.mem_cons_of_mem _ (List.mem_append_left _ (List.mem_append_left _ (List.mem_append_left _ (List.mem_append_left _ (List.mem_append_left _ (List.mem_append_left _ (List.mem_of_getElem? (i := 7) rfl))))))))) (by decide +kernel) ⟨Nat.le_of_ble_eq_true rfl, Nat.le_of_ble_eq_true rfl⟩, rfl, C.1.2.2.2.2 (.instanceMethod yX4_init) (List.mem_cons_of_mem _ (List.mem_append_left _ (List.mem_append_left _ (List.mem_append_left _ (List.mem_append_left _ (List.mem_append_left _ (List.mem_append_left _ (List.mem_of_getElem? (i := 23) rfl))))))))⟩ [2] [0, 1] rfl rfl (by decide) (by decide) (by decide) rfl hl.1 _ rfl (Nat.le_of_ble_eq_true rfl) dX5_init_17 ⟨Nat.le_of_ble_eq_true rfl, Nat.le_of_ble_eq_true rfl⟩ ?_
  clear hw
  rintro _ H locs ⟨a__3, rfl⟩ hw
  have hw : gW D A s.heap [cO h 5 [.ref q_1, .null, .null, .null, .null, .null, .null, .int (iI 0), .int (iI 0)], cQ G q_1 4 (fun _ => none), oX4 q_2 a__3 0, cA G (a__3 1) 4 (fun _ => 0), cA G (a__3 2) 12 (fun _ => 0)] H locs := hw
  refine g_putF C hw [cO h 5 [.ref q_1, .ref q_2, .null, .null, .null, .null, .null, .int (iI 0), .int (iI 0)], cQ G q_1 4 (fun _ => none), oX4 q_2 a__3 0, cA G (a__3 1) 4 (fun _ => 0), cA G (a__3 2) 12 (fun _ => 0)] hin_X5_init_X5 tyX5 tyX5_ok nmX5 0 rfl rfl 1 (by decide) lk_X5_init_20 rfl hnm rfl rfl rfl rfl (Nat.le_of_ble_eq_true rfl) rfl dX5_init_20 ?_
  clear hw
  intro H locs hw
  refine g_aload_n C hl 0 rfl rfl dX5_init_23 ?_
  refine g_new (ci := 0) C hw [.int (iI 0), .null, .null, .null, .null, .null, .null, .int (iI 0), .null, .null, .int (iI 0), .null, .null, .null] hin_X5_init_X0 tyX0 tyX0_ok (List.mem_cons_of_mem _ (List.mem_append_left _ (List.mem_append_left _ (List.mem_append_left _ (List.mem_append_left _ (List.mem_append_left _ (List.mem_append_left _ (List.mem_of_getElem? (i := 9) rfl)))))))) (List.mem_cons_of_mem _ (List.mem_append_left _ (List.mem_append_left _ (List.mem_append_left _ (List.mem_append_left _ (List.mem_append_left _ (List.mem_append_left _ (List.mem_of_getElem? (i := 10) rfl)))))))) (List.mem_cons_of_mem _ (List.mem_append_left _ (List.mem_append_left _ (List.mem_append_left _ (List.mem_append_left _ (List.mem_append_left _ (List.mem_append_left _ (List.mem_of_getElem? (i := 11) rfl)))))))) rfl df_X0 (Nat.le_of_ble_eq_true rfl) (Nat.le_of_ble_eq_true rfl) dX5_init_24 ?_
  clear hw
  intro q_4 H hw
  refine g_dup C dX5_init_27 rfl ?_
  refine g_callNv C hw (wr := [cO h 5 [.ref q_1, .ref q_2, .null, .null, .null, .null, .null, .int (iI 0), .int (iI 0)], cQ G q_1 4 (fun _ => none), oX4 q_2 a__3 0, cA G (a__3 1) 4 (fun _ => 0), cA G (a__3 2) 12 (fun _ => 0)]) (As := []) (rest := [.ref q_4, .ref h]) (m_X0_init l D G (h := q_4) ) ⟨va_cnB 0 C.1.2.2.2.2 gX5_init_X0_init_n26 rfl rfl rfl hZ.2.2.1 (C.1.2.2.2.2 (.initialized RX0) (List.mem_cons_of_mem _ (List.mem_append_left _ (List.mem_append_left _ (List.mem_append_left _ (List.mem_append_left _ (List.mem_append_left _ (List.mem_append_left _ (List.mem_of_getElem? (i := 11) rfl))))))))) (by decide +kernel) ⟨Nat.le_of_ble_eq_true rfl, Nat.le_of_ble_eq_true rfl⟩, rfl, C.1.2.2.2.2 (.instanceMethod yX0_init) (List.mem_cons_of_mem _ (List.mem_append_left _ (List.mem_append_left _ (List.mem_append_left _ (List.mem_append_left _ (List.mem_append_left _ (List.mem_append_right _ (List.mem_append_left _ (List.mem_of_getElem? (i := 5) rfl)))))))))⟩ [5] [0, 1, 2, 3, 4] rfl rfl (by decide) (by decide) (by decide) rfl hl.1 _ rfl (Nat.le_of_ble_eq_true rfl) dX5_init_28 ⟨Nat.le_of_ble_eq_true rfl, Nat.le_of_ble_eq_true rfl⟩ ?_
  clear hw
  rintro _ H locs ⟨a__5, rfl⟩ hw
  have hw : gW D A s.heap [cO h 5 [.ref q_1, .ref q_2, .null, .null, .null, .null, .null, .int (iI 0), .int (iI 0)], cQ G q_1 4 (fun _ => none), oX4 q_2 a__3 0, cA G (a__3 1) 4 (fun _ => 0), cA G (a__3 2) 12 (fun _ => 0), oX0 q_4 a__5 0 0 0, cA G (a__5 1) 12 (fun _ => 0), cA G (a__5 2) 4 (fun _ => 0), cA G (a__5 3) 8 (fun _ => 0), cA G (a__5 4) 8 (fun _ => 0), cA G (a__5 5) 8 (fun _ => 0), cA G (a__5 6) 8 (fun _ => 0), cA G (a__5 8) 8 (fun _ => 0), cA G (a__5 9) 8 (fun _ => 0), cA G (a__5 11) 17 (fun _ => 0), cA G (a__5 12) 17 (fun _ => 0), cA G (a__5 13) 17 (fun _ => 0)] H locs := hw
  refine g_putF C hw [cO h 5 [.ref q_1, .ref q_2, .ref q_4, .null, .null, .null, .null, .int (iI 0), .int (iI 0)], cQ G q_1 4 (fun _ => none), oX4 q_2 a__3 0, cA G (a__3 1) 4 (fun _ => 0), cA G (a__3 2) 12 (fun _ => 0), oX0 q_4 a__5 0 0 0, cA G (a__5 1) 12 (fun _ => 0), cA G (a__5 2) 4 (fun _ => 0), cA G (a__5 3) 8 (fun _ => 0), cA G (a__5 4) 8 (fun _ => 0), cA G (a__5 5) 8 (fun _ => 0), cA G (a__5 6) 8 (fun _ => 0), cA G (a__5 8) 8 (fun _ => 0), cA G (a__5 9) 8 (fun _ => 0), cA G (a__5 11) 17 (fun _ => 0), cA G (a__5 12) 17 (fun _ => 0), cA G (a__5 13) 17 (fun _ => 0)] hin_X5_init_X5 tyX5 tyX5_ok nmX5 0 rfl rfl 2 (by decide) lk_X5_init_27 rfl hnm rfl rfl rfl rfl (Nat.le_of_ble_eq_true rfl) rfl dX5_init_31 ?_
  clear hw
  intro H locs hw
  refine g_aload_n C hl 0 rfl rfl dX5_init_34 ?_
  refine g_new (ci := 4) C hw [.int (iI 0), .null, .null] hin_X5_init_X4 tyX4 tyX4_ok (List.mem_cons_of_mem _ (List.mem_append_left _ (List.mem_append_left _ (List.mem_append_left _ (List.mem_append_left _ (List.mem_append_left _ (List.mem_append_left _ (List.mem_of_getElem? (i := 5) rfl)))))))) (List.mem_cons_of_mem _ (List.mem_append_left _ (List.mem_append_left _ (List.mem_append_left _ (List.mem_append_left _ (List.mem_append_left _ (List.mem_append_left _ (List.mem_of_getElem? (i := 6) rfl)))))))) (List.mem_cons_of_mem _ (List.mem_append_left _ (List.mem_append_left _ (List.mem_append_left _ (List.mem_append_left _ (List.mem_append_left _ (List.mem_append_left _ (List.mem_of_getElem? (i := 7) rfl)))))))) rfl df_X4 (Nat.le_of_ble_eq_true rfl) (Nat.le_of_ble_eq_true rfl) dX5_init_35 ?_
  clear hw
  intro q_6 H hw
  refine g_dup C dX5_init_38 rfl ?_
  refine g_callNv C hw (wr := [cO h 5 [.ref q_1, .ref q_2, .ref q_4, .null, .null, .null, .null, .int (iI 0), .int (iI 0)], cQ G q_1 4 (fun _ => none), oX4 q_2 a__3 0, cA G (a__3 1) 4 (fun _ => 0), cA G (a__3 2) 12 (fun _ => 0), oX0 q_4 a__5 0 0 0, cA G (a__5 1) 12 (fun _ => 0), cA G (a__5 2) 4 (fun _ => 0), cA G (a__5 3) 8 (fun _ => 0), cA G (a__5 4) 8 (fun _ => 0), cA G (a__5 5) 8 (fun _ => 0), cA G (a__5 6) 8 (fun _ => 0), cA G (a__5 8) 8 (fun _ => 0), cA G (a__5 9) 8 (fun _ => 0), cA G (a__5 11) 17 (fun _ => 0), cA G (a__5 12) 17 (fun _ => 0), cA G (a__5 13) 17 (fun _ => 0)]) (As := []) (rest := [.ref q_6, .ref h]) (m_X4_init l D G (h := q_6) ) ⟨va_cnB 0 C.1.2.2.2.2 gX5_init_X4_init_n19 rfl rfl rfl hZ.2.1 (C.1.2.2.2.2 (.initialized RX4) (List.mem_cons_of_mem _ (List.mem_append_left _ (List.mem_append_left _ (List.mem_append_left _ (List.mem_append_left _ (List.mem_append_left _ (List.mem_append_left _ (List.mem_of_getElem? (i := 7) rfl))))))))) (by decide +kernel) ⟨Nat.le_of_ble_eq_true rfl, Nat.le_of_ble_eq_true rfl⟩, rfl, C.1.2.2.2.2 (.instanceMethod yX4_init) (List.mem_cons_of_mem _ (List.mem_append_left _ (List.mem_append_left _ (List.mem_append_left _ (List.mem_append_left _ (List.mem_append_left _ (List.mem_append_left _ (List.mem_of_getElem? (i := 23) rfl))))))))⟩ [17] [0, 1, 2, 3, 4, 5, 6, 7, 8, 9, 10, 11, 12, 13, 14, 15, 16] rfl rfl (by decide) (by decide) (by decide) rfl hl.1 _ rfl (Nat.le_of_ble_eq_true rfl) dX5_init_39 ⟨Nat.le_of_ble_eq_true rfl, Nat.le_of_ble_eq_true rfl⟩ ?_
  clear hw
  rintro _ H locs ⟨a__7, rfl⟩ hw
  have hw : gW D A s.heap [cO h 5 [.ref q_1, .ref q_2, .ref q_4, .null, .null, .null, .null, .int (iI 0), .int (iI 0)], cQ G q_1 4 (fun _ => none), oX4 q_2 a__3 0, cA G (a__3 1) 4 (fun _ => 0), cA G (a__3 2) 12 (fun _ => 0), oX0 q_4 a__5 0 0 0, cA G (a__5 1) 12 (fun _ => 0), cA G (a__5 2) 4 (fun _ => 0), cA G (a__5 3) 8 (fun _ => 0), cA G (a__5 4) 8 (fun _ => 0), cA G (a__5 5) 8 (fun _ => 0), cA G (a__5 6) 8 (fun _ => 0), cA G (a__5 8) 8 (fun _ => 0), cA G (a__5 9) 8 (fun _ => 0), cA G (a__5 11) 17 (fun _ => 0), cA G (a__5 12) 17 (fun _ => 0), cA G (a__5 13) 17 (fun _ => 0), oX4 q_6 a__7 0, cA G (a__7 1) 4 (fun _ => 0), cA G (a__7 2) 12 (fun _ => 0)] H locs := hw
  refine g_putF C hw [cO h 5 [.ref q_1, .ref q_2, .ref q_4, .ref q_6, .null, .null, .null, .int (iI 0), .int (iI 0)], cQ G q_1 4 (fun _ => none), oX4 q_2 a__3 0, cA G (a__3 1) 4 (fun _ => 0), cA G (a__3 2) 12 (fun _ => 0), oX0 q_4 a__5 0 0 0, cA G (a__5 1) 12 (fun _ => 0), cA G (a__5 2) 4 (fun _ => 0), cA G (a__5 3) 8 (fun _ => 0), cA G (a__5 4) 8 (fun _ => 0), cA G (a__5 5) 8 (fun _ => 0), cA G (a__5 6) 8 (fun _ => 0), cA G (a__5 8) 8 (fun _ => 0), cA G (a__5 9) 8 (fun _ => 0), cA G (a__5 11) 17 (fun _ => 0), cA G (a__5 12) 17 (fun _ => 0), cA G (a__5 13) 17 (fun _ => 0), oX4 q_6 a__7 0, cA G (a__7 1) 4 (fun _ => 0), cA G (a__7 2) 12 (fun _ => 0)] hin_X5_init_X5 tyX5 tyX5_ok nmX5 0 rfl rfl 3 (by decide) lk_X5_init_31 rfl hnm rfl rfl rfl rfl (Nat.le_of_ble_eq_true rfl) rfl dX5_init_42 ?_
  clear hw
  intro H locs hw
  refine g_aload_n C hl 0 rfl rfl dX5_init_45 ?_
  refine g_new (ci := 0) C hw [.int (iI 0), .null, .null, .null, .null, .null, .null, .int (iI 0), .null, .null, .int (iI 0), .null, .null, .null] hin_X5_init_X0 tyX0 tyX0_ok (List.mem_cons_of_mem _ (List.mem_append_left _ (List.mem_append_left _ (List.mem_append_left _ (List.mem_append_left _ (List.mem_append_left _ (List.mem_append_left _ (List.mem_of_getElem? (i := 9) rfl)))))))) (List.mem_cons_of_mem _ (List.mem_append_left _ (List.mem_append_left _ (List.mem_append_left _ (List.mem_append_left _ (List.mem_append_left _ (List.mem_append_left _ (List.mem_of_getElem? (i := 10) rfl)))))))) (List.mem_cons_of_mem _ (List.mem_append_left _ (List.mem_append_left _ (List.mem_append_left _ (List.mem_append_left _ (List.mem_append_left _ (List.mem_append_left _ (List.mem_of_getElem? (i := 11) rfl)))))))) rfl df_X0 (Nat.le_of_ble_eq_true rfl) (Nat.le_of_ble_eq_true rfl) dX5_init_46 ?_
  clear hw
  intro q_8 H hw
  refine g_dup C dX5_init_49 rfl ?_
  refine g_callNv C hw (wr := [cO h 5 [.ref q_1, .ref q_2, .ref q_4, .ref q_6, .null, .null, .null, .int (iI 0), .int (iI 0)], cQ G q_1 4 (fun _ => none), oX4 q_2 a__3 0, cA G (a__3 1) 4 (fun _ => 0), cA G (a__3 2) 12 (fun _ => 0), oX0 q_4 a__5 0 0 0, cA G (a__5 1) 12 (fun _ => 0), cA G (a__5 2) 4 (fun _ => 0), cA G (a__5 3) 8 (fun _ => 0), cA G (a__5 4) 8 (fun _ => 0), cA G (a__5 5) 8 (fun _ => 0), cA G (a__5 6) 8 (fun _ => 0), cA G (a__5 8) 8 (fun _ => 0), cA G (a__5 9) 8 (fun _ => 0), cA G (a__5 11) 17 (fun _ => 0), cA G (a__5 12) 17 (fun _ => 0), cA G (a__5 13) 17 (fun _ => 0), oX4 q_6 a__7 0, cA G (a__7 1) 4 (fun _ => 0), cA G (a__7 2) 12 (fun _ => 0)]) (As := []) (rest := [.ref q_8, .ref h]) (m_X0_init l D G (h := q_8) ) ⟨va_cnB 0 C.1.2.2.2.2 gX5_init_X0_init_n26 rfl rfl rfl hZ.2.2.1 (C.1.2.2.2.2 (.initialized RX0) (List.mem_cons_of_mem _ (List.mem_append_left _ (List.mem_append_left _ (List.mem_append_left _ (List.mem_append_left _ (List.mem_append_left _ (List.mem_append_left _ (List.mem_of_getElem? (i := 11) rfl))))))))) (by decide +kernel) ⟨Nat.le_of_ble_eq_true rfl, Nat.le_of_ble_eq_true rfl⟩, rfl, C.1.2.2.2.2 (.instanceMethod yX0_init) (List.mem_cons_of_mem _ (List.mem_append_left _ (List.mem_append_left _ (List.mem_append_left _ (List.mem_append_left _ (List.mem_append_left _ (List.mem_append_right _ (List.mem_append_left _ (List.mem_of_getElem? (i := 5) rfl)))))))))⟩ [20] [0, 1, 2, 3, 4, 5, 6, 7, 8, 9, 10, 11, 12, 13, 14, 15, 16, 17, 18, 19] rfl rfl (by decide) (by decide) (by decide) rfl hl.1 _ rfl (Nat.le_of_ble_eq_true rfl) dX5_init_50 ⟨Nat.le_of_ble_eq_true rfl, Nat.le_of_ble_eq_true rfl⟩ ?_
  clear hw
  rintro _ H locs ⟨a__9, rfl⟩ hw
  have hw : gW D A s.heap [cO h 5 [.ref q_1, .ref q_2, .ref q_4, .ref q_6, .null, .null, .null, .int (iI 0), .int (iI 0)], cQ G q_1 4 (fun _ => none), oX4 q_2 a__3 0, cA G (a__3 1) 4 (fun _ => 0), cA G (a__3 2) 12 (fun _ => 0), oX0 q_4 a__5 0 0 0, cA G (a__5 1) 12 (fun _ => 0), cA G (a__5 2) 4 (fun _ => 0), cA G (a__5 3) 8 (fun _ => 0), cA G (a__5 4) 8 (fun _ => 0), cA G (a__5 5) 8 (fun _ => 0), cA G (a__5 6) 8 (fun _ => 0), cA G (a__5 8) 8 (fun _ => 0), cA G (a__5 9) 8 (fun _ => 0), cA G (a__5 11) 17 (fun _ => 0), cA G (a__5 12) 17 (fun _ => 0), cA G (a__5 13) 17 (fun _ => 0), oX4 q_6 a__7 0, cA G (a__7 1) 4 (fun _ => 0), cA G (a__7 2) 12 (fun _ => 0), oX0 q_8 a__9 0 0 0, cA G (a__9 1) 12 (fun _ => 0), cA G (a__9 2) 4 (fun _ => 0), cA G (a__9 3) 8 (fun _ => 0), cA G (a__9 4) 8 (fun _ => 0), cA G (a__9 5) 8 (fun _ => 0), cA G (a__9 6) 8 (fun _ => 0), cA G (a__9 8) 8 (fun _ => 0), cA G (a__9 9) 8 (fun _ => 0), cA G (a__9 11) 17 (fun _ => 0), cA G (a__9 12) 17 (fun _ => 0), cA G (a__9 13) 17 (fun _ => 0)] H locs := hw
  refine g_putF C hw [cO h 5 [.ref q_1, .ref q_2, .ref q_4, .ref q_6, .ref q_8, .null, .null, .int (iI 0), .int (iI 0)], cQ G q_1 4 (fun _ => none), oX4 q_2 a__3 0, cA G (a__3 1) 4 (fun _ => 0), cA G (a__3 2) 12 (fun _ => 0), oX0 q_4 a__5 0 0 0, cA G (a__5 1) 12 (fun _ => 0), cA G (a__5 2) 4 (fun _ => 0), cA G (a__5 3) 8 (fun _ => 0), cA G (a__5 4) 8 (fun _ => 0), cA G (a__5 5) 8 (fun _ => 0), cA G (a__5 6) 8 (fun _ => 0), cA G (a__5 8) 8 (fun _ => 0), cA G (a__5 9) 8 (fun _ => 0), cA G (a__5 11) 17 (fun _ => 0), cA G (a__5 12) 17 (fun _ => 0), cA G (a__5 13) 17 (fun _ => 0), oX4 q_6 a__7 0, cA G (a__7 1) 4 (fun _ => 0), cA G (a__7 2) 12 (fun _ => 0), oX0 q_8 a__9 0 0 0, cA G (a__9 1) 12 (fun _ => 0), cA G (a__9 2) 4 (fun _ => 0), cA G (a__9 3) 8 (fun _ => 0), cA G (a__9 4) 8 (fun _ => 0), cA G (a__9 5) 8 (fun _ => 0), cA G (a__9 6) 8 (fun _ => 0), cA G (a__9 8) 8 (fun _ => 0), cA G (a__9 9) 8 (fun _ => 0), cA G (a__9 11) 17 (fun _ => 0), cA G (a__9 12) 17 (fun _ => 0), cA G (a__9 13) 17 (fun _ => 0)] hin_X5_init_X5 tyX5 tyX5_ok nmX5 0 rfl rfl 4 (by decide) lk_X5_init_34 rfl hnm rfl rfl rfl rfl (Nat.le_of_ble_eq_true rfl) rfl dX5_init_53 ?_
  clear hw
  intro H locs hw
  refine g_aload_n C hl 0 rfl rfl dX5_init_56 ?_
  refine g_new (ci := 3) C hw [.null, .int (iI 0), .int (iI 0), .int (iI 0)] hin_X5_init_X3 tyX3 tyX3_ok (List.mem_cons_of_mem _ (List.mem_append_left _ (List.mem_append_left _ (List.mem_append_left _ (List.mem_append_left _ (List.mem_append_left _ (List.mem_append_left _ (List.mem_of_getElem? (i := 15) rfl)))))))) (List.mem_cons_of_mem _ (List.mem_append_left _ (List.mem_append_left _ (List.mem_append_left _ (List.mem_append_left _ (List.mem_append_left _ (List.mem_append_left _ (List.mem_of_getElem? (i := 16) rfl)))))))) (List.mem_cons_of_mem _ (List.mem_append_left _ (List.mem_append_left _ (List.mem_append_left _ (List.mem_append_left _ (List.mem_append_left _ (List.mem_append_left _ (List.mem_of_getElem? (i := 17) rfl)))))))) rfl df_X3 (Nat.le_of_ble_eq_true rfl) (Nat.le_of_ble_eq_true rfl) dX5_init_57 ?_
  clear hw
  intro q_10 H hw
  refine g_dup C dX5_init_60 rfl ?_
  refine g_callNvZ C hZ hw (wr := [cO h 5 [.ref q_1, .ref q_2, .ref q_4, .ref q_6, .ref q_8, .null, .null, .int (iI 0), .int (iI 0)], cQ G q_1 4 (fun _ => none), oX4 q_2 a__3 0, cA G (a__3 1) 4 (fun _ => 0), cA G (a__3 2) 12 (fun _ => 0), oX0 q_4 a__5 0 0 0, cA G (a__5 1) 12 (fun _ => 0), cA G (a__5 2) 4 (fun _ => 0), cA G (a__5 3) 8 (fun _ => 0), cA G (a__5 4) 8 (fun _ => 0), cA G (a__5 5) 8 (fun _ => 0), cA G (a__5 6) 8 (fun _ => 0), cA G (a__5 8) 8 (fun _ => 0), cA G (a__5 9) 8 (fun _ => 0), cA G (a__5 11) 17 (fun _ => 0), cA G (a__5 12) 17 (fun _ => 0), cA G (a__5 13) 17 (fun _ => 0), oX4 q_6 a__7 0, cA G (a__7 1) 4 (fun _ => 0), cA G (a__7 2) 12 (fun _ => 0), oX0 q_8 a__9 0 0 0, cA G (a__9 1) 12 (fun _ => 0), cA G (a__9 2) 4 (fun _ => 0), cA G (a__9 3) 8 (fun _ => 0), cA G (a__9 4) 8 (fun _ => 0), cA G (a__9 5) 8 (fun _ => 0), cA G (a__9 6) 8 (fun _ => 0), cA G (a__9 8) 8 (fun _ => 0), cA G (a__9 9) 8 (fun _ => 0), cA G (a__9 11) 17 (fun _ => 0), cA G (a__9 12) 17 (fun _ => 0), cA G (a__9 13) 17 (fun _ => 0)]) (As := []) (rest := [.ref q_10, .ref h]) (m_X3_init l D G (h := q_10) ) ⟨va_cnB 0 C.1.2.2.2.2 gX5_init_X3_init_n39 rfl rfl rfl hZ.2.2.2.1 (C.1.2.2.2.2 (.initialized RX3) (List.mem_cons_of_mem _ (List.mem_append_left _ (List.mem_append_left _ (List.mem_append_left _ (List.mem_append_left _ (List.mem_append_left _ (List.mem_append_left _ (List.mem_of_getElem? (i := 17) rfl))))))))) (by decide +kernel) ⟨Nat.le_of_ble_eq_true rfl, Nat.le_of_ble_eq_true rfl⟩, rfl, C.1.2.2.2.2 (.instanceMethod yX3_init) (List.mem_cons_of_mem _ (List.mem_append_left _ (List.mem_append_left _ (List.mem_append_left _ (List.mem_append_left _ (List.mem_append_left _ (List.mem_append_right _ (List.mem_append_left _ (List.mem_of_getElem? (i := 19) rfl)))))))))⟩ [32] [0, 1, 2, 3, 4, 5, 6, 7, 8, 9, 10, 11, 12, 13, 14, 15, 16, 17, 18, 19, 20, 21, 22, 23, 24, 25, 26, 27, 28, 29, 30, 31] rfl rfl (by decide) (by decide) (by decide) rfl hl.1 _ rfl (Nat.le_of_ble_eq_true rfl) dX5_init_61 ⟨Nat.le_of_ble_eq_true rfl, Nat.le_of_ble_eq_true rfl⟩ ?_
  clear hw
  rintro _ H locs ⟨a__11, b__12, rfl⟩ hw
  have hw : gW D A s.heap [cO h 5 [.ref q_1, .ref q_2, .ref q_4, .ref q_6, .ref q_8, .null, .null, .int (iI 0), .int (iI 0)], cQ G q_1 4 (fun _ => none), oX4 q_2 a__3 0, cA G (a__3 1) 4 (fun _ => 0), cA G (a__3 2) 12 (fun _ => 0), oX0 q_4 a__5 0 0 0, cA G (a__5 1) 12 (fun _ => 0), cA G (a__5 2) 4 (fun _ => 0), cA G (a__5 3) 8 (fun _ => 0), cA G (a__5 4) 8 (fun _ => 0), cA G (a__5 5) 8 (fun _ => 0), cA G (a__5 6) 8 (fun _ => 0), cA G (a__5 8) 8 (fun _ => 0), cA G (a__5 9) 8 (fun _ => 0), cA G (a__5 11) 17 (fun _ => 0), cA G (a__5 12) 17 (fun _ => 0), cA G (a__5 13) 17 (fun _ => 0), oX4 q_6 a__7 0, cA G (a__7 1) 4 (fun _ => 0), cA G (a__7 2) 12 (fun _ => 0), oX0 q_8 a__9 0 0 0, cA G (a__9 1) 12 (fun _ => 0), cA G (a__9 2) 4 (fun _ => 0), cA G (a__9 3) 8 (fun _ => 0), cA G (a__9 4) 8 (fun _ => 0), cA G (a__9 5) 8 (fun _ => 0), cA G (a__9 6) 8 (fun _ => 0), cA G (a__9 8) 8 (fun _ => 0), cA G (a__9 9) 8 (fun _ => 0), cA G (a__9 11) 17 (fun _ => 0), cA G (a__9 12) 17 (fun _ => 0), cA G (a__9 13) 17 (fun _ => 0), oX3 q_10 a__11 0 0 0, oX4 (a__11 0) b__12 0, cA G (b__12 1) 4 (fun _ => 0), cA G (b__12 2) 12 (fun _ => 0)] H locs := hw
  refine g_putF C hw [cO h 5 [.ref q_1, .ref q_2, .ref q_4, .ref q_6, .ref q_8, .ref q_10, .null, .int (iI 0), .int (iI 0)], cQ G q_1 4 (fun _ => none), oX4 q_2 a__3 0, cA G (a__3 1) 4 (fun _ => 0), cA G (a__3 2) 12 (fun _ => 0), oX0 q_4 a__5 0 0 0, cA G (a__5 1) 12 (fun _ => 0), cA G (a__5 2) 4 (fun _ => 0), cA G (a__5 3) 8 (fun _ => 0), cA G (a__5 4) 8 (fun _ => 0), cA G (a__5 5) 8 (fun _ => 0), cA G (a__5 6) 8 (fun _ => 0), cA G (a__5 8) 8 (fun _ => 0), cA G (a__5 9) 8 (fun _ => 0), cA G (a__5 11) 17 (fun _ => 0), cA G (a__5 12) 17 (fun _ => 0), cA G (a__5 13) 17 (fun _ => 0), oX4 q_6 a__7 0, cA G (a__7 1) 4 (fun _ => 0), cA G (a__7 2) 12 (fun _ => 0), oX0 q_8 a__9 0 0 0, cA G (a__9 1) 12 (fun _ => 0), cA G (a__9 2) 4 (fun _ => 0), cA G (a__9 3) 8 (fun _ => 0), cA G (a__9 4) 8 (fun _ => 0), cA G (a__9 5) 8 (fun _ => 0), cA G (a__9 6) 8 (fun _ => 0), cA G (a__9 8) 8 (fun _ => 0), cA G (a__9 9) 8 (fun _ => 0), cA G (a__9 11) 17 (fun _ => 0), cA G (a__9 12) 17 (fun _ => 0), cA G (a__9 13) 17 (fun _ => 0), oX3 q_10 a__11 0 0 0, oX4 (a__11 0) b__12 0, cA G (b__12 1) 4 (fun _ => 0), cA G (b__12 2) 12 (fun _ => 0)] hin_X5_init_X5 tyX5 tyX5_ok nmX5 0 rfl rfl 5 (by decide) lk_X5_init_40 rfl hnm rfl rfl rfl rfl (Nat.le_of_ble_eq_true rfl) rfl dX5_init_64 ?_
  clear hw
  intro H locs hw
  refine g_aload_n C hl 0 rfl rfl dX5_init_67 ?_
  refine g_new (ci := 1) C hw [.int (iI 0), .null, .null, .null] hin_X5_init_X1 tyX1 tyX1_ok (List.mem_cons_of_mem _ (List.mem_append_left _ (List.mem_append_left _ (List.mem_append_left _ (List.mem_append_left _ (List.mem_append_left _ (List.mem_append_left _ (List.mem_of_getElem? (i := 19) rfl)))))))) (List.mem_cons_of_mem _ (List.mem_append_left _ (List.mem_append_left _ (List.mem_append_left _ (List.mem_append_left _ (List.mem_append_left _ (List.mem_append_left _ (List.mem_of_getElem? (i := 20) rfl)))))))) (List.mem_cons_of_mem _ (List.mem_append_left _ (List.mem_append_left _ (List.mem_append_left _ (List.mem_append_left _ (List.mem_append_left _ (List.mem_append_left _ (List.mem_of_getElem? (i := 21) rfl)))))))) rfl df_X1 (Nat.le_of_ble_eq_true rfl) (Nat.le_of_ble_eq_true rfl) dX5_init_68 ?_
  clear hw
  intro q_13 H hw
  refine g_dup C dX5_init_71 rfl ?_
  refine g_callNv C hw (wr := [cO h 5 [.ref q_1, .ref q_2, .ref q_4, .ref q_6, .ref q_8, .ref q_10, .null, .int (iI 0), .int (iI 0)], cQ G q_1 4 (fun _ => none), oX4 q_2 a__3 0, cA G (a__3 1) 4 (fun _ => 0), cA G (a__3 2) 12 (fun _ => 0), oX0 q_4 a__5 0 0 0, cA G (a__5 1) 12 (fun _ => 0), cA G (a__5 2) 4 (fun _ => 0), cA G (a__5 3) 8 (fun _ => 0), cA G (a__5 4) 8 (fun _ => 0), cA G (a__5 5) 8 (fun _ => 0), cA G (a__5 6) 8 (fun _ => 0), cA G (a__5 8) 8 (fun _ => 0), cA G (a__5 9) 8 (fun _ => 0), cA G (a__5 11) 17 (fun _ => 0), cA G (a__5 12) 17 (fun _ => 0), cA G (a__5 13) 17 (fun _ => 0), oX4 q_6 a__7 0, cA G (a__7 1) 4 (fun _ => 0), cA G (a__7 2) 12 (fun _ => 0), oX0 q_8 a__9 0 0 0, cA G (a__9 1) 12 (fun _ => 0), cA G (a__9 2) 4 (fun _ => 0), cA G (a__9 3) 8 (fun _ => 0), cA G (a__9 4) 8 (fun _ => 0), cA G (a__9 5) 8 (fun _ => 0), cA G (a__9 6) 8 (fun _ => 0), cA G (a__9 8) 8 (fun _ => 0), cA G (a__9 9) 8 (fun _ => 0), cA G (a__9 11) 17 (fun _ => 0), cA G (a__9 12) 17 (fun _ => 0), cA G (a__9 13) 17 (fun _ => 0), oX3 q_10 a__11 0 0 0, oX4 (a__11 0) b__12 0, cA G (b__12 1) 4 (fun _ => 0), cA G (b__12 2) 12 (fun _ => 0)]) (As := []) (rest := [.ref q_13, .ref h]) (m_X1_init l D G (h := q_13) ) ⟨va_cnB 0 C.1.2.2.2.2 gX5_init_X1_init_n46 rfl rfl rfl hZ.2.2.2.2.1 (C.1.2.2.2.2 (.initialized RX1) (List.mem_cons_of_mem _ (List.mem_append_left _ (List.mem_append_left _ (List.mem_append_left _ (List.mem_append_left _ (List.mem_append_left _ (List.mem_append_left _ (List.mem_of_getElem? (i := 21) rfl))))))))) (by decide +kernel) ⟨Nat.le_of_ble_eq_true rfl, Nat.le_of_ble_eq_true rfl⟩, rfl, C.1.2.2.2.2 (.instanceMethod yX1_init) (List.mem_cons_of_mem _ (List.mem_append_left _ (List.mem_append_left _ (List.mem_append_left _ (List.mem_append_left _ (List.mem_append_left _ (List.mem_append_right _ (List.mem_append_right _ (List.mem_of_getElem? (i := 0) rfl)))))))))⟩ [36] [0, 1, 2, 3, 4, 5, 6, 7, 8, 9, 10, 11, 12, 13, 14, 15, 16, 17, 18, 19, 20, 21, 22, 23, 24, 25, 26, 27, 28, 29, 30, 31, 32, 33, 34, 35] rfl rfl (by decide) (by decide) (by decide) rfl hl.1 _ rfl (Nat.le_of_ble_eq_true rfl) dX5_init_72 ⟨Nat.le_of_ble_eq_true rfl, Nat.le_of_ble_eq_true rfl⟩ ?_
  clear hw
  rintro _ H locs ⟨a__14, rfl⟩ hw
  have hw : gW D A s.heap [cO h 5 [.ref q_1, .ref q_2, .ref q_4, .ref q_6, .ref q_8, .ref q_10, .null, .int (iI 0), .int (iI 0)], cQ G q_1 4 (fun _ => none), oX4 q_2 a__3 0, cA G (a__3 1) 4 (fun _ => 0), cA G (a__3 2) 12 (fun _ => 0), oX0 q_4 a__5 0 0 0, cA G (a__5 1) 12 (fun _ => 0), cA G (a__5 2) 4 (fun _ => 0), cA G (a__5 3) 8 (fun _ => 0), cA G (a__5 4) 8 (fun _ => 0), cA G (a__5 5) 8 (fun _ => 0), cA G (a__5 6) 8 (fun _ => 0), cA G (a__5 8) 8 (fun _ => 0), cA G (a__5 9) 8 (fun _ => 0), cA G (a__5 11) 17 (fun _ => 0), cA G (a__5 12) 17 (fun _ => 0), cA G (a__5 13) 17 (fun _ => 0), oX4 q_6 a__7 0, cA G (a__7 1) 4 (fun _ => 0), cA G (a__7 2) 12 (fun _ => 0), oX0 q_8 a__9 0 0 0, cA G (a__9 1) 12 (fun _ => 0), cA G (a__9 2) 4 (fun _ => 0), cA G (a__9 3) 8 (fun _ => 0), cA G (a__9 4) 8 (fun _ => 0), cA G (a__9 5) 8 (fun _ => 0), cA G (a__9 6) 8 (fun _ => 0), cA G (a__9 8) 8 (fun _ => 0), cA G (a__9 9) 8 (fun _ => 0), cA G (a__9 11) 17 (fun _ => 0), cA G (a__9 12) 17 (fun _ => 0), cA G (a__9 13) 17 (fun _ => 0), oX3 q_10 a__11 0 0 0, oX4 (a__11 0) b__12 0, cA G (b__12 1) 4 (fun _ => 0), cA G (b__12 2) 12 (fun _ => 0), oX1 q_13 a__14 0, cA G (a__14 1) 8 (fun _ => 0), cA G (a__14 2) 8 (fun _ => 0), cA G (a__14 3) 8 (fun _ => 0)] H locs := hw
  refine g_putF C hw [cO h 5 [.ref q_1, .ref q_2, .ref q_4, .ref q_6, .ref q_8, .ref q_10, .ref q_13, .int (iI 0), .int (iI 0)], cQ G q_1 4 (fun _ => none), oX4 q_2 a__3 0, cA G (a__3 1) 4 (fun _ => 0), cA G (a__3 2) 12 (fun _ => 0), oX0 q_4 a__5 0 0 0, cA G (a__5 1) 12 (fun _ => 0), cA G (a__5 2) 4 (fun _ => 0), cA G (a__5 3) 8 (fun _ => 0), cA G (a__5 4) 8 (fun _ => 0), cA G (a__5 5) 8 (fun _ => 0), cA G (a__5 6) 8 (fun _ => 0), cA G (a__5 8) 8 (fun _ => 0), cA G (a__5 9) 8 (fun _ => 0), cA G (a__5 11) 17 (fun _ => 0), cA G (a__5 12) 17 (fun _ => 0), cA G (a__5 13) 17 (fun _ => 0), oX4 q_6 a__7 0, cA G (a__7 1) 4 (fun _ => 0), cA G (a__7 2) 12 (fun _ => 0), oX0 q_8 a__9 0 0 0, cA G (a__9 1) 12 (fun _ => 0), cA G (a__9 2) 4 (fun _ => 0), cA G (a__9 3) 8 (fun _ => 0), cA G (a__9 4) 8 (fun _ => 0), cA G (a__9 5) 8 (fun _ => 0), cA G (a__9 6) 8 (fun _ => 0), cA G (a__9 8) 8 (fun _ => 0), cA G (a__9 9) 8 (fun _ => 0), cA G (a__9 11) 17 (fun _ => 0), cA G (a__9 12) 17 (fun _ => 0), cA G (a__9 13) 17 (fun _ => 0), oX3 q_10 a__11 0 0 0, oX4 (a__11 0) b__12 0, cA G (b__12 1) 4 (fun _ => 0), cA G (b__12 2) 12 (fun _ => 0), oX1 q_13 a__14 0, cA G (a__14 1) 8 (fun _ => 0), cA G (a__14 2) 8 (fun _ => 0), cA G (a__14 3) 8 (fun _ => 0)] hin_X5_init_X5 tyX5 tyX5_ok nmX5 0 rfl rfl 6 (by decide) lk_X5_init_47 rfl hnm rfl rfl rfl rfl (Nat.le_of_ble_eq_true rfl) rfl dX5_init_75 ?_
  clear hw
  intro H locs hw
  refine W.widen (k := 39) (n := 351) (by first | exact Nat.le_of_ble_eq_true rfl | omega) (by first | exact Nat.le_of_ble_eq_true rfl | omega) ?_
  exact g_vret C hr (ws' := [cO h 5 [.ref q_1, .ref q_2, .ref q_4, .ref q_6, .ref q_8, .ref q_10, .ref q_13, .int (iI 0), .int (iI 0)], cQ G q_1 4 (fun _ => none), oX4 q_2 a__3 0, cA G (a__3 1) 4 (fun _ => 0), cA G (a__3 2) 12 (fun _ => 0), oX0 q_4 a__5 0 0 0, cA G (a__5 1) 12 (fun _ => 0), cA G (a__5 2) 4 (fun _ => 0), cA G (a__5 3) 8 (fun _ => 0), cA G (a__5 4) 8 (fun _ => 0), cA G (a__5 5) 8 (fun _ => 0), cA G (a__5 6) 8 (fun _ => 0), cA G (a__5 8) 8 (fun _ => 0), cA G (a__5 9) 8 (fun _ => 0), cA G (a__5 11) 17 (fun _ => 0), cA G (a__5 12) 17 (fun _ => 0), cA G (a__5 13) 17 (fun _ => 0), oX4 q_6 a__7 0, cA G (a__7 1) 4 (fun _ => 0), cA G (a__7 2) 12 (fun _ => 0), oX0 q_8 a__9 0 0 0, cA G (a__9 1) 12 (fun _ => 0), cA G (a__9 2) 4 (fun _ => 0), cA G (a__9 3) 8 (fun _ => 0), cA G (a__9 4) 8 (fun _ => 0), cA G (a__9 5) 8 (fun _ => 0), cA G (a__9 6) 8 (fun _ => 0), cA G (a__9 8) 8 (fun _ => 0), cA G (a__9 9) 8 (fun _ => 0), cA G (a__9 11) 17 (fun _ => 0), cA G (a__9 12) 17 (fun _ => 0), cA G (a__9 13) 17 (fun _ => 0), oX3 q_10 a__11 0 0 0, oX4 (a__11 0) b__12 0, cA G (b__12 1) 4 (fun _ => 0), cA G (b__12 2) 12 (fun _ => 0), oX1 q_13 a__14 0, cA G (a__14 1) 8 (fun _ => 0), cA G (a__14 2) 8 (fun _ => 0), cA G (a__14 3) 8 (fun _ => 0)]) hw [0, 1, 2, 3, 4, 5, 6, 7, 8, 9, 10, 11, 12, 13, 14, 15, 16, 17, 18, 19, 20, 21, 22, 23, 24, 25, 26, 27, 28, 29, 30, 31, 32, 33, 34, 35, 36, 37, 38, 39] (by decide) rfl ⟨(fun k => [q_1, q_2, q_4, q_6, q_8, q_10, q_13].getD k 0), a__3, a__5, a__7, a__9, a__11, b__12, a__14, (by rfl)⟩ dX5_init_78
