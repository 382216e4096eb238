set_option maxRecDepth 100000 in
set_option maxHeartbeats 8000000 in
theorem m_X5_foc_n (l : Launch) (D : va_G) (G : gT) (lv : Int) (ii : Int) (nn : Int)  : gMi l yX5_faultOfCells wsX5_faultOfCells ({ frames := 1, cells := 0, slots := 0, locals := 22 }) D G [.null, .int (iI lv), .int (iI ii), .int (iI nn)] [] 0 0 (fun (r : Int32) (w : va_W) => r = (iI 1) ∧ w = []) := by
  refine g_start_i (cc := cX5_faultOfCells) (nL := 4) (own := RX5) (ret := some .int) (by decide +kernel) rfl rfl (Nat.le_of_ble_eq_true rfl) ?_
  intro p e s m below meth c A ls C hr hnm hw hl
  have hl : lv_has ls 4 [(0, .null), (1, .int (iI lv)), (2, .int (iI ii)), (3, .int (iI nn))] := hl
  refine g_aload_nN C hl 0 rfl rfl dX5_faultOfCells_0 ?_
  refine g_ifnonnullN C dX5_faultOfCells_1 ?_
  refine g_iconst C dX5_faultOfCells_4 ?_
  exact g_iret C hr (ws' := []) hw [] (by decide) rfl ⟨rfl, rfl⟩ dX5_faultOfCells_5

set_option maxRecDepth 20000 in
theorem hin_X5_faultOfCells_X2 : ∀ w ∈ u_ws RX2 TX2 2, w ∈ wsX5_faultOfCells := by
  intro w h
  exact List.mem_cons_of_mem _ (List.mem_append_right _ (h))
set_option maxRecDepth 20000 in
theorem lk_X5_faultOfCells_197 : Cond.fieldLink RX5 197 (TX2 0).1 (TX2 0).2.1 (TX2 0).2.2.1 ∈ wsX5_faultOfCells := List.mem_cons_of_mem _ (List.mem_append_left _ (List.mem_of_getElem? (i := 0) rfl))
set_option maxRecDepth 100000 in
set_option maxHeartbeats 8000000 in
theorem m_X5_foc_s (l : Launch) (D : va_G) (G : gT) (sa : Nat) (sb : Nat → Nat) (la1 : Int) (zn : Nat) (gg : Int → Int) (sz : Int → Int) (ln : Int → Int) (kk : Int) (lv : Int) (ii : Int) (nn : Int) (hzn : zn ≤ 60) (hla1 : 0 ≤ la1 ∧ la1 ≤ 2) (hlv : -2147483648 ≤ lv ∧ lv ≤ 2147483647) (hi : -2147483648 ≤ ii ∧ ii ≤ 2147483647) (hn9 : -2147483648 ≤ nn ∧ nn ≤ 2147483647) (hsk : sz kk = zn) (hlk : ln kk = la1) : gMi l yX5_faultOfCells wsX5_faultOfCells ({ frames := 1, cells := 0, slots := 0, locals := 22 }) D G [.ref sa, .int (iI lv), .int (iI ii), .int (iI nn)] [oX2 sa sb la1, cA G (sb 1) zn gg] 0 0 (fun (r : Int32) (w : va_W) => r = (iI (barC sz ln kk lv ii nn)) ∧ w = [oX2 sa sb la1, cA G (sb 1) zn gg]) := by
  refine g_start_i (cc := cX5_faultOfCells) (nL := 4) (own := RX5) (ret := some .int) (by decide +kernel) rfl rfl (Nat.le_of_ble_eq_true rfl) ?_
  intro p e s m below meth c A ls C hr hnm hw hl
  have hl : lv_has ls 4 [(0, .ref sa), (1, .int (iI lv)), (2, .int (iI ii)), (3, .int (iI nn))] := hl
  refine g_aload_n C hl 0 rfl rfl dX5_faultOfCells_0 ?_
  refine g_ifnonnullR C 6 dX5_faultOfCells_1 (by decide) ?_
  refine g_aload_n C hl 0 rfl rfl dX5_faultOfCells_6 ?_
  refine g_get C hw hin_X5_faultOfCells_X2 0 rfl rfl 0 (by decide) lk_X5_faultOfCells_197 rfl dX5_faultOfCells_7 ?_
  refine g_iload_n C hl 1 rfl rfl dX5_faultOfCells_10 ?_
  refine g_icmp_eq C 16 dX5_faultOfCells_11 (by decide) (by omega) (by omega) (fun c_1 => ?_) (fun c_1 => ?_)
  · skip
    refine g_iload_n C hl 3 rfl rfl dX5_faultOfCells_16 ?_
    refine g_if_ge C 22 dX5_faultOfCells_17 (by decide) (by omega) (fun c_2 => ?_) (fun c_2 => ?_)
    · skip
      refine g_aload_n C hl 0 rfl rfl dX5_faultOfCells_22 ?_
      refine g_iload_n C hl 2 rfl rfl dX5_faultOfCells_23 ?_
      refine g_iload_n C hl 3 rfl rfl dX5_faultOfCells_24 ?_
      refine g_callVi C hw (wr := []) (As := [.int (iI ii), .int (iI nn)]) (rest := []) (m_X2_hasCells l D G (h := sa) (a := sb) (la := la1) (zn := zn) (g := gg) (ii := ii) (nn := nn) (by first | assumption | omega) (by first | assumption | omega) (by first | assumption | omega)) (cwV 2 C.1.2.2.2.2 gX5_faultOfCells_X2_hasCells rfl rfl rfl (by decide +kernel) ⟨Nat.le_of_ble_eq_true rfl, Nat.le_of_ble_eq_true rfl⟩) [0, 1] [] rfl rfl (by decide) (by decide) (by decide) 0 rfl rfl rfl hl.1 _ rfl (Nat.le_of_ble_eq_true rfl) dX5_faultOfCells_25 ⟨Nat.le_of_ble_eq_true rfl, Nat.le_of_ble_eq_true rfl⟩ ?_
      clear hw
      rintro _ _ H locs ⟨rfl, rfl⟩ hw
      have hw : gW D A s.heap [oX2 sa sb la1, cA G (sb 1) zn gg] H locs := hw
      refine g_ifb_eq C 35 dX5_faultOfCells_28 (by decide) (fun c_3 => ?_) (fun c_3 => ?_)
      · skip
        refine g_iconst C dX5_faultOfCells_35 ?_
        exact g_iret C hr (ws' := [oX2 sa sb la1, cA G (sb 1) zn gg]) hw [0, 1] (by decide) rfl ⟨(congrArg iI (by unfold barC; (repeat' split) <;> omega)), rfl⟩ dX5_faultOfCells_36
      · skip
        refine g_iconst C dX5_faultOfCells_31 ?_
        refine g_goto C 36 dX5_faultOfCells_32 (by decide) ?_
        exact g_iret C hr (ws' := [oX2 sa sb la1, cA G (sb 1) zn gg]) hw [0, 1] (by decide) rfl ⟨(congrArg iI (by unfold barC; (repeat' split) <;> omega)), rfl⟩ dX5_faultOfCells_36
    · skip
      refine g_iconst C dX5_faultOfCells_20 ?_
      exact g_iret C hr (ws' := [oX2 sa sb la1, cA G (sb 1) zn gg]) hw [0, 1] (by decide) rfl ⟨(congrArg iI (by unfold barC; (repeat' split) <;> omega)), rfl⟩ dX5_faultOfCells_21
  · skip
    refine g_iconst C dX5_faultOfCells_14 ?_
    exact g_iret C hr (ws' := [oX2 sa sb la1, cA G (sb 1) zn gg]) hw [0, 1] (by decide) rfl ⟨(congrArg iI (by unfold barC; (repeat' split) <;> omega)), rfl⟩ dX5_faultOfCells_15

set_option maxRecDepth 20000 in
theorem hin_X5_lose_X5 : ∀ w ∈ u_ws RX5 TX5 9, w ∈ wsX5_lose := by
  intro w h
  exact List.mem_cons_of_mem _ (List.mem_append_right _ (h))
set_option maxRecDepth 20000 in
theorem lk_X5_lose_13 : Cond.fieldLink RX5 13 (TX5 0).1 (TX5 0).2.1 (TX5 0).2.2.1 ∈ wsX5_lose := List.mem_cons_of_mem _ (List.mem_append_left _ (List.mem_of_getElem? (i := 0) rfl))
set_option maxRecDepth 100000 in
set_option maxHeartbeats 8000000 in
theorem m_X5_lose_n (l : Launch) (D : va_G) (G : gT) (h : Nat) (a : Nat → Nat) (tr : Int) (lf : Int) (qf : Nat → Option Nat) (sz : Int → Int) (kk : Int) (hk : -2147483648 ≤ kk ∧ kk ≤ 2147483647) (hqn : 0 ≤ kk → kk ≤ 3 → qf kk.toNat = none) (hsk : 0 ≤ kk → kk ≤ 3 → sz kk = -1) : gMi l yX5_lose wsX5_lose ({ frames := 2, cells := 0, slots := 0, locals := 41 }) D G [.ref h, .int (iI kk)] [oX5 h a tr lf, cQ G (a 0) 4 qf] 0 0 (fun (r : Int32) (w : va_W) => ∃ (qf2 : Nat → Option Nat), r = (iI (R_lose sz kk)) ∧ w = [oX5 h a tr lf, cQ G (a 0) 4 qf2] ∧ (qf2 = if 0 ≤ kk ∧ kk ≤ 3 then va_up qf kk.toNat none else qf)) := by
  refine g_start_i (cc := cX5_lose) (nL := 3) (own := RX5) (ret := some .int) (by decide +kernel) rfl rfl (Nat.le_of_ble_eq_true rfl) ?_
  intro p e s m below meth c A ls C hr hnm hw hl
  have hl : lv_has ls 3 [(0, .ref h), (1, .int (iI kk))] := hl
  refine g_iload_n C hl 1 rfl rfl dX5_lose_0 ?_
  refine g_callSi C hw (wr := [oX5 h a tr lf, cQ G (a 0) 4 qf]) (As := [.int (iI kk)]) (rest := []) (m_X5_isSheet l D G (kk := kk) (by first | assumption | omega)) (va_cwS 1 C.1.2.2.2.2 gX5_lose_X5_isSheet rfl rfl rfl (by decide +kernel) ⟨Nat.le_of_ble_eq_true rfl, Nat.le_of_ble_eq_true rfl⟩) [] [0, 1] rfl rfl (by decide) (by decide) (by decide) rfl hl.1 _ rfl (Nat.le_of_ble_eq_true rfl) dX5_lose_1 ⟨Nat.le_of_ble_eq_true rfl, Nat.le_of_ble_eq_true rfl⟩ ?_
  clear hw
  rintro _ _ H locs ⟨rfl, rfl⟩ hw
  have hw : gW D A s.heap [oX5 h a tr lf, cQ G (a 0) 4 qf] H locs := hw
  refine g_ifb_ne C 9 dX5_lose_4 (by decide) (fun c_1 => ?_) (fun c_1 => ?_)
  · skip
    refine g_aload_n C hl 0 rfl rfl dX5_lose_9 ?_
    refine g_get C hw hin_X5_lose_X5 0 rfl rfl 0 (by decide) lk_X5_lose_13 rfl dX5_lose_10 ?_
    refine g_iload_n C hl 1 rfl rfl dX5_lose_13 ?_
    refine g_aald C hw 1 rfl (by omega) (Nat.le_of_ble_eq_true rfl) dX5_lose_14 ?_
    refine g_topv (show va_rf (qf kk.toNat) = .null by exact rf_n (hqn (by omega) (by omega))) ?_
    refine g_ifnonnullN C dX5_lose_15 ?_
    refine g_iconst C dX5_lose_18 ?_
    refine g_goto C 23 dX5_lose_19 (by decide) ?_
    refine g_istore_n C [(2, .int (iI 0)), (0, .ref h), (1, .int (iI kk))] dX5_lose_23 rfl hl (by decide) rfl ?_
    clear hl
    intro ls hl
    refine g_aload_n C hl 1 rfl rfl dX5_lose_24 ?_
    refine g_get C hw hin_X5_lose_X5 0 rfl rfl 0 (by decide) lk_X5_lose_13 rfl dX5_lose_25 ?_
    refine g_iload_n C hl 2 rfl rfl dX5_lose_28 ?_
    refine g_null C dX5_lose_29 ?_
    refine g_astN C hw [oX5 h a tr lf, cQ G (a 0) 4 (va_up qf kk.toNat none)] 1 rfl (by omega) (Nat.le_of_ble_eq_true rfl) rfl dX5_lose_30 ?_
    clear hw
    intro H locs hw
    refine g_iload_n C hl 0 rfl rfl dX5_lose_31 ?_
    exact g_iret C hr (ws' := [oX5 h a tr lf, cQ G (a 0) 4 (va_up qf kk.toNat none)]) hw [0, 1] (by decide) rfl ⟨(va_up qf kk.toNat none), (congrArg iI (by unfold R_lose; (repeat' split) <;> omega)), rfl, (by first | (rw [if_pos (by omega)]; done) | (rw [if_neg (by omega)]; done))⟩ dX5_lose_32
  · skip
    refine g_iconst C dX5_lose_7 ?_
    exact g_iret C hr (ws' := [oX5 h a tr lf, cQ G (a 0) 4 qf]) hw [0, 1] (by decide) rfl ⟨qf, (congrArg iI (by unfold R_lose; (repeat' split) <;> omega)), rfl, (by first | (rw [if_pos (by omega)]; done) | (rw [if_neg (by omega)]; done))⟩ dX5_lose_8

set_option maxRecDepth 100000 in
set_option maxHeartbeats 8000000 in
theorem m_X5_lose_s (l : Launch) (D : va_G) (G : gT) (h : Nat) (a : Nat → Nat) (tr : Int) (lf : Int) (qf : Nat → Option Nat) (sa : Nat) (sz : Int → Int) (kk : Int) (hk : -2147483648 ≤ kk ∧ kk ≤ 2147483647) (hqs : qf kk.toNat = some sa) (hsk : 0 ≤ sz kk) : gMi l yX5_lose wsX5_lose ({ frames := 2, cells := 0, slots := 0, locals := 41 }) D G [.ref h, .int (iI kk)] [oX5 h a tr lf, cQ G (a 0) 4 qf] 0 0 (fun (r : Int32) (w : va_W) => ∃ (qf2 : Nat → Option Nat), r = (iI (R_lose sz kk)) ∧ w = [oX5 h a tr lf, cQ G (a 0) 4 qf2] ∧ (qf2 = if 0 ≤ kk ∧ kk ≤ 3 then va_up qf kk.toNat none else qf)) := by
  refine g_start_i (cc := cX5_lose) (nL := 3) (own := RX5) (ret := some .int) (by decide +kernel) rfl rfl (Nat.le_of_ble_eq_true rfl) ?_
  intro p e s m below meth c A ls C hr hnm hw hl
  have hl : lv_has ls 3 [(0, .ref h), (1, .int (iI kk))] := hl
  refine g_iload_n C hl 1 rfl rfl dX5_lose_0 ?_
  refine g_callSi C hw (wr := [oX5 h a tr lf, cQ G (a 0) 4 qf]) (As := [.int (iI kk)]) (rest := []) (m_X5_isSheet l D G (kk := kk) (by first | assumption | omega)) (va_cwS 1 C.1.2.2.2.2 gX5_lose_X5_isSheet rfl rfl rfl (by decide +kernel) ⟨Nat.le_of_ble_eq_true rfl, Nat.le_of_ble_eq_true rfl⟩) [] [0, 1] rfl rfl (by decide) (by decide) (by decide) rfl hl.1 _ rfl (Nat.le_of_ble_eq_true rfl) dX5_lose_1 ⟨Nat.le_of_ble_eq_true rfl, Nat.le_of_ble_eq_true rfl⟩ ?_
  clear hw
  rintro _ _ H locs ⟨rfl, rfl⟩ hw
  have hw : gW D A s.heap [oX5 h a tr lf, cQ G (a 0) 4 qf] H locs := hw
  refine g_ifb_ne C 9 dX5_lose_4 (by decide) (fun c_1 => ?_) (fun c_1 => ?_)
  · skip
    refine g_aload_n C hl 0 rfl rfl dX5_lose_9 ?_
    refine g_get C hw hin_X5_lose_X5 0 rfl rfl 0 (by decide) lk_X5_lose_13 rfl dX5_lose_10 ?_
    refine g_iload_n C hl 1 rfl rfl dX5_lose_13 ?_
    refine g_aald C hw 1 rfl (by omega) (Nat.le_of_ble_eq_true rfl) dX5_lose_14 ?_
    refine g_topv (show va_rf (qf kk.toNat) = .ref sa by exact rf_s hqs) ?_
    refine g_ifnonnullR C 22 dX5_lose_15 (by decide) ?_
    refine g_iconst C dX5_lose_22 ?_
    refine g_istore_n C [(2, .int (iI 1)), (0, .ref h), (1, .int (iI kk))] dX5_lose_23 rfl hl (by decide) rfl ?_
    clear hl
    intro ls hl
    refine g_aload_n C hl 1 rfl rfl dX5_lose_24 ?_
    refine g_get C hw hin_X5_lose_X5 0 rfl rfl 0 (by decide) lk_X5_lose_13 rfl dX5_lose_25 ?_
    refine g_iload_n C hl 2 rfl rfl dX5_lose_28 ?_
    refine g_null C dX5_lose_29 ?_
    refine g_astN C hw [oX5 h a tr lf, cQ G (a 0) 4 (va_up qf kk.toNat none)] 1 rfl (by omega) (Nat.le_of_ble_eq_true rfl) rfl dX5_lose_30 ?_
    clear hw
    intro H locs hw
    refine g_iload_n C hl 0 rfl rfl dX5_lose_31 ?_
    exact g_iret C hr (ws' := [oX5 h a tr lf, cQ G (a 0) 4 (va_up qf kk.toNat none)]) hw [0, 1] (by decide) rfl ⟨(va_up qf kk.toNat none), (congrArg iI (by unfold R_lose; (repeat' split) <;> omega)), rfl, (by first | (rw [if_pos (by omega)]; done) | (rw [if_neg (by omega)]; done))⟩ dX5_lose_32
  · skip
    refine g_iconst C dX5_lose_7 ?_
    exact g_iret C hr (ws' := [oX5 h a tr lf, cQ G (a 0) 4 qf]) hw [0, 1] (by decide) rfl ⟨qf, (congrArg iI (by unfold R_lose; (repeat' split) <;> omega)), rfl, (by first | (rw [if_pos (by omega)]; done) | (rw [if_neg (by omega)]; done))⟩ dX5_lose_8

set_option maxRecDepth 20000 in
theorem hin_X5_put_X5 : ∀ w ∈ u_ws RX5 TX5 9, w ∈ wsX5_put := by
  intro w h
  exact List.mem_cons_of_mem _ (List.mem_append_left _ (List.mem_append_right _ (h)))
set_option maxRecDepth 20000 in
theorem lk_X5_put_51 : Cond.fieldLink RX5 51 (TX5 8).1 (TX5 8).2.1 (TX5 8).2.2.1 ∈ wsX5_put := List.mem_cons_of_mem _ (List.mem_append_left _ (List.mem_append_left _ (List.mem_of_getElem? (i := 0) rfl)))
set_option maxRecDepth 20000 in
theorem lk_X5_put_13 : Cond.fieldLink RX5 13 (TX5 0).1 (TX5 0).2.1 (TX5 0).2.2.1 ∈ wsX5_put := List.mem_cons_of_mem _ (List.mem_append_left _ (List.mem_append_left _ (List.mem_of_getElem? (i := 1) rfl)))
set_option maxRecDepth 100000 in
set_option maxHeartbeats 8000000 in
theorem m_X5_put_n (l : Launch) (D : va_G) (G : gT) (h : Nat) (a : Nat → Nat) (tr : Int) (lf : Int) (qf : Nat → Option Nat) (sz : Int → Int) (kk : Int) (ii : Int) (vv : Int) (hk : -2147483648 ≤ kk ∧ kk ≤ 2147483647) (hi : -2147483648 ≤ ii ∧ ii ≤ 2147483647) (hqn : 0 ≤ kk → kk ≤ 3 → qf kk.toNat = none) (hsk : 0 ≤ kk → kk ≤ 3 → sz kk = -1) : gMi l yX5_put wsX5_put ({ frames := 2, cells := 0, slots := 0, locals := 41 }) D G [.ref h, .int (iI kk), .int (iI ii), .int (iI vv)] [oX5 h a tr lf, cQ G (a 0) 4 qf] 0 0 (fun (r : Int32) (w : va_W) => r = (iI (R_put sz kk ii)) ∧ w = [oX5 h a tr (F_put sz kk ii), cQ G (a 0) 4 qf]) := by
  refine g_start_i (cc := cX5_put) (nL := 5) (own := RX5) (ret := some .int) (by decide +kernel) rfl rfl (Nat.le_of_ble_eq_true rfl) ?_
  intro p e s m below meth c A ls C hr hnm hw hl
  have hl : lv_has ls 5 [(0, .ref h), (1, .int (iI kk)), (2, .int (iI ii)), (3, .int (iI vv))] := hl
  refine g_aload_n C hl 0 rfl rfl dX5_put_0 ?_
  refine g_iconst C dX5_put_1 ?_
  refine g_put C hw [oX5 h a tr 0, cQ G (a 0) 4 qf] hin_X5_put_X5 tyX5 tyX5_ok nmX5 0 rfl rfl 8 (by decide) lk_X5_put_51 rfl rfl rfl rfl (Nat.le_of_ble_eq_true rfl) rfl dX5_put_2 ?_
  clear hw
  intro H locs hw
  refine g_iload_n C hl 1 rfl rfl dX5_put_5 ?_
  refine g_callSi C hw (wr := [oX5 h a tr 0, cQ G (a 0) 4 qf]) (As := [.int (iI kk)]) (rest := []) (m_X5_isSheet l D G (kk := kk) (by first | assumption | omega)) (va_cwS 1 C.1.2.2.2.2 gX5_put_X5_isSheet rfl rfl rfl (by decide +kernel) ⟨Nat.le_of_ble_eq_true rfl, Nat.le_of_ble_eq_true rfl⟩) [] [0, 1] rfl rfl (by decide) (by decide) (by decide) rfl hl.1 _ rfl (Nat.le_of_ble_eq_true rfl) dX5_put_6 ⟨Nat.le_of_ble_eq_true rfl, Nat.le_of_ble_eq_true rfl⟩ ?_
  clear hw
  rintro _ _ H locs ⟨rfl, rfl⟩ hw
  have hw : gW D A s.heap [oX5 h a tr 0, cQ G (a 0) 4 qf] H locs := hw
  refine g_ifb_ne C 14 dX5_put_9 (by decide) (fun c_1 => ?_) (fun c_1 => ?_)
  · skip
    refine g_aload_n C hl 0 rfl rfl dX5_put_14 ?_
    refine g_get C hw hin_X5_put_X5 0 rfl rfl 0 (by decide) lk_X5_put_13 rfl dX5_put_15 ?_
    refine g_iload_n C hl 1 rfl rfl dX5_put_18 ?_
    refine g_aald C hw 1 rfl (by omega) (Nat.le_of_ble_eq_true rfl) dX5_put_19 ?_
    refine g_topv (show va_rf (qf kk.toNat) = .null by exact rf_n (hqn (by omega) (by omega))) ?_
    refine g_astoreN C [(4, .null), (0, .ref h), (1, .int (iI kk)), (2, .int (iI ii)), (3, .int (iI vv))] dX5_put_20 hl (by decide) rfl ?_
    clear hl
    intro ls hl
    refine g_aloadN C hl 0 rfl dX5_put_22 ?_
    refine g_ifnonnullN C dX5_put_24 ?_
    refine g_aload_n C hl 1 rfl rfl dX5_put_27 ?_
    refine g_iconst C dX5_put_28 ?_
    refine g_callVi C hw (wr := [cQ G (a 0) 4 qf]) (As := [.int (iI 1)]) (rest := []) (m_X5_failed l D G (h := h) (a := a) (tr := tr) (lf := 0) (fv := 1) ) (cwV 1 C.1.2.2.2.2 gX5_put_X5_failed rfl rfl rfl (by decide +kernel) ⟨Nat.le_of_ble_eq_true rfl, Nat.le_of_ble_eq_true rfl⟩) [0] [1] rfl rfl (by decide) (by decide) (by decide) 0 rfl rfl rfl hl.1 _ rfl (Nat.le_of_ble_eq_true rfl) dX5_put_29 ⟨Nat.le_of_ble_eq_true rfl, Nat.le_of_ble_eq_true rfl⟩ ?_
    clear hw
    rintro _ _ H locs ⟨rfl, rfl⟩ hw
    have hw : gW D A s.heap [cQ G (a 0) 4 qf, oX5 h a tr 1] H locs := hw
    exact g_iret C hr (ws' := [oX5 h a tr 1, cQ G (a 0) 4 qf]) hw [1, 0] (by decide) rfl ⟨(congrArg iI (by unfold R_put noC; (repeat' split) <;> omega)), (by unfold F_put noC; (repeat' (split <;> try (exfalso; omega))) <;> first | rfl | (exfalso; omega))⟩ dX5_put_32
  · skip
    refine g_iconst C dX5_put_12 ?_
    exact g_iret C hr (ws' := [oX5 h a tr 0, cQ G (a 0) 4 qf]) hw [0, 1] (by decide) rfl ⟨(congrArg iI (by unfold R_put noC; (repeat' split) <;> omega)), (by unfold F_put noC; (repeat' (split <;> try (exfalso; omega))) <;> first | rfl | (exfalso; omega))⟩ dX5_put_13

set_option maxRecDepth 20000 in
theorem hin_X5_put_X2 : ∀ w ∈ u_ws RX2 TX2 2, w ∈ wsX5_put := by
  intro w h
  exact List.mem_cons_of_mem _ (List.mem_append_right _ (h))
set_option maxRecDepth 20000 in
theorem lk_X5_put_71 : Cond.fieldLink RX5 71 (TX2 1).1 (TX2 1).2.1 (TX2 1).2.2.1 ∈ wsX5_put := List.mem_cons_of_mem _ (List.mem_append_left _ (List.mem_append_left _ (List.mem_of_getElem? (i := 2) rfl)))
set_option maxRecDepth 100000 in
set_option maxHeartbeats 8000000 in
theorem m_X5_put_s (l : Launch) (D : va_G) (G : gT) (h : Nat) (a : Nat → Nat) (tr : Int) (lf : Int) (qf : Nat → Option Nat) (sa : Nat) (sb : Nat → Nat) (la1 : Int) (zn : Nat) (gg : Int → Int) (sz : Int → Int) (kk : Int) (ii : Int) (vv : Int) (hk : -2147483648 ≤ kk ∧ kk ≤ 2147483647) (hk3 : 0 ≤ kk ∧ kk ≤ 3) (hi : -2147483648 ≤ ii ∧ ii ≤ 2147483647) (hqs : qf kk.toNat = some sa) (hsk : sz kk = zn) (hla1 : 0 ≤ la1 ∧ la1 ≤ 2) (hzn : zn ≤ 60) : gMi l yX5_put wsX5_put ({ frames := 2, cells := 0, slots := 0, locals := 41 }) D G [.ref h, .int (iI kk), .int (iI ii), .int (iI vv)] [oX5 h a tr lf, cQ G (a 0) 4 qf, oX2 sa sb la1, cA G (sb 1) zn gg] 0 0 (fun (r : Int32) (w : va_W) => ∃ (gg2 : Int → Int), r = (iI (R_put sz kk ii)) ∧ w = [oX5 h a tr (F_put sz kk ii), cQ G (a 0) 4 qf, oX2 sa sb la1, cA G (sb 1) zn gg2] ∧ (gg2 = if R_put sz kk ii = 1 then up gg ii (cutF la1 vv) else gg)) := by
  refine g_start_i (cc := cX5_put) (nL := 5) (own := RX5) (ret := some .int) (by decide +kernel) rfl rfl (Nat.le_of_ble_eq_true rfl) ?_
  intro p e s m below meth c A ls C hr hnm hw hl
  have hl : lv_has ls 5 [(0, .ref h), (1, .int (iI kk)), (2, .int (iI ii)), (3, .int (iI vv))] := hl
  refine g_aload_n C hl 0 rfl rfl dX5_put_0 ?_
  refine g_iconst C dX5_put_1 ?_
  refine g_put C hw [oX5 h a tr 0, cQ G (a 0) 4 qf, oX2 sa sb la1, cA G (sb 1) zn gg] hin_X5_put_X5 tyX5 tyX5_ok nmX5 0 rfl rfl 8 (by decide) lk_X5_put_51 rfl rfl rfl rfl (Nat.le_of_ble_eq_true rfl) rfl dX5_put_2 ?_
  clear hw
  intro H locs hw
  refine g_iload_n C hl 1 rfl rfl dX5_put_5 ?_
  refine g_callSi C hw (wr := [oX5 h a tr 0, cQ G (a 0) 4 qf, oX2 sa sb la1, cA G (sb 1) zn gg]) (As := [.int (iI kk)]) (rest := []) (m_X5_isSheet l D G (kk := kk) (by first | assumption | omega)) (va_cwS 1 C.1.2.2.2.2 gX5_put_X5_isSheet rfl rfl rfl (by decide +kernel) ⟨Nat.le_of_ble_eq_true rfl, Nat.le_of_ble_eq_true rfl⟩) [] [0, 1, 2, 3] rfl rfl (by decide) (by decide) (by decide) rfl hl.1 _ rfl (Nat.le_of_ble_eq_true rfl) dX5_put_6 ⟨Nat.le_of_ble_eq_true rfl, Nat.le_of_ble_eq_true rfl⟩ ?_
  clear hw
  rintro _ _ H locs ⟨rfl, rfl⟩ hw
  have hw : gW D A s.heap [oX5 h a tr 0, cQ G (a 0) 4 qf, oX2 sa sb la1, cA G (sb 1) zn gg] H locs := hw
  refine g_ifb_ne C 14 dX5_put_9 (by decide) (fun c_1 => ?_) (fun c_1 => ?_)
  · skip
    refine g_aload_n C hl 0 rfl rfl dX5_put_14 ?_
    refine g_get C hw hin_X5_put_X5 0 rfl rfl 0 (by decide) lk_X5_put_13 rfl dX5_put_15 ?_
    refine g_iload_n C hl 1 rfl rfl dX5_put_18 ?_
    refine g_aald C hw 1 rfl (by omega) (Nat.le_of_ble_eq_true rfl) dX5_put_19 ?_
    refine g_topv (show va_rf (qf kk.toNat) = .ref sa by exact rf_s hqs) ?_
    refine g_astore C [(4, .ref sa), (0, .ref h), (1, .int (iI kk)), (2, .int (iI ii)), (3, .int (iI vv))] dX5_put_20 hl (by decide) rfl ?_
    clear hl
    intro ls hl
    refine g_aload C hl 0 rfl dX5_put_22 ?_
    refine g_ifnonnullR C 33 dX5_put_24 (by decide) ?_
    refine g_iload_n C hl 3 rfl rfl dX5_put_33 ?_
    refine g_aload C hl 0 rfl dX5_put_34 ?_
    refine g_get C hw hin_X5_put_X2 2 rfl rfl 1 (by decide) lk_X5_put_71 rfl dX5_put_36 ?_
    refine g_alen C hw 3 rfl dX5_put_39 ?_
    refine g_callSi C hw (wr := [oX5 h a tr 0, cQ G (a 0) 4 qf, oX2 sa sb la1, cA G (sb 1) zn gg]) (As := [.int (iI ii), .int (iI ((zn : Int)))]) (rest := []) (m_X5_isBelow l D G (na := ii) (nb := (zn : Int)) (by first | assumption | omega) (by first | assumption | omega)) (va_cwS 2 C.1.2.2.2.2 gX5_put_X5_isBelow rfl rfl rfl (by decide +kernel) ⟨Nat.le_of_ble_eq_true rfl, Nat.le_of_ble_eq_true rfl⟩) [] [0, 1, 2, 3] rfl rfl (by decide) (by decide) (by decide) rfl hl.1 _ rfl (Nat.le_of_ble_eq_true rfl) dX5_put_40 ⟨Nat.le_of_ble_eq_true rfl, Nat.le_of_ble_eq_true rfl⟩ ?_
    clear hw
    rintro _ _ H locs ⟨rfl, rfl⟩ hw
    have hw : gW D A s.heap [oX5 h a tr 0, cQ G (a 0) 4 qf, oX2 sa sb la1, cA G (sb 1) zn gg] H locs := hw
    refine g_ifb_ne C 52 dX5_put_43 (by decide) (fun c_2 => ?_) (fun c_2 => ?_)
    · skip
      refine g_aload C hl 0 rfl dX5_put_52 ?_
      refine g_get C hw hin_X5_put_X2 2 rfl rfl 1 (by decide) lk_X5_put_71 rfl dX5_put_54 ?_
      refine g_iload_n C hl 3 rfl rfl dX5_put_57 ?_
      refine g_aload C hl 0 rfl dX5_put_58 ?_
      refine g_iload_n C hl 4 rfl rfl dX5_put_60 ?_
      refine g_callVi C hw (wr := [oX5 h a tr 0, cQ G (a 0) 4 qf, cA G (sb 1) zn gg]) (As := [.int (iI vv)]) (rest := [.int (iI ii), .ref ((sb 1))]) (m_X2_cut l D G (h := sa) (a := sb) (la := la1) (vv := vv) (by first | assumption | omega)) (cwV 1 C.1.2.2.2.2 gX5_put_X2_cut rfl rfl rfl (by decide +kernel) ⟨Nat.le_of_ble_eq_true rfl, Nat.le_of_ble_eq_true rfl⟩) [2] [0, 1, 3] rfl rfl (by decide) (by decide) (by decide) 0 rfl rfl rfl hl.1 _ rfl (Nat.le_of_ble_eq_true rfl) dX5_put_61 ⟨Nat.le_of_ble_eq_true rfl, Nat.le_of_ble_eq_true rfl⟩ ?_
      clear hw
      rintro _ _ H locs ⟨rfl, rfl⟩ hw
      have hw : gW D A s.heap [oX5 h a tr 0, cQ G (a 0) 4 qf, cA G (sb 1) zn gg, oX2 sa sb la1] H locs := hw
      refine g_iast C hw [oX5 h a tr 0, cQ G (a 0) 4 qf, cA G (sb 1) zn (up gg ii (cutF la1 vv)), oX2 sa sb la1] 2 rfl (by omega) (by omega) rfl dX5_put_64 ?_
      clear hw
      intro H locs hw
      refine g_iconst C dX5_put_65 ?_
      exact g_iret C hr (ws' := [oX5 h a tr 0, cQ G (a 0) 4 qf, oX2 sa sb la1, cA G (sb 1) zn (up gg ii (cutF la1 vv))]) hw [0, 1, 3, 2] (by decide) rfl ⟨(up gg ii (cutF la1 vv)), (congrArg iI (by unfold R_put noC; (repeat' split) <;> omega)), (by unfold F_put noC; (repeat' (split <;> try (exfalso; omega))) <;> first | rfl | (exfalso; omega)), (by unfold R_put noC; (repeat' (split <;> try (exfalso; omega))) <;> first | rfl | (exfalso; omega))⟩ dX5_put_66
    · skip
      refine g_aload_n C hl 1 rfl rfl dX5_put_46 ?_
      refine g_iconst C dX5_put_47 ?_
      refine g_callVi C hw (wr := [cQ G (a 0) 4 qf, oX2 sa sb la1, cA G (sb 1) zn gg]) (As := [.int (iI 3)]) (rest := []) (m_X5_failed l D G (h := h) (a := a) (tr := tr) (lf := 0) (fv := 3) ) (cwV 1 C.1.2.2.2.2 gX5_put_X5_failed rfl rfl rfl (by decide +kernel) ⟨Nat.le_of_ble_eq_true rfl, Nat.le_of_ble_eq_true rfl⟩) [0] [1, 2, 3] rfl rfl (by decide) (by decide) (by decide) 0 rfl rfl rfl hl.1 _ rfl (Nat.le_of_ble_eq_true rfl) dX5_put_48 ⟨Nat.le_of_ble_eq_true rfl, Nat.le_of_ble_eq_true rfl⟩ ?_
      clear hw
      rintro _ _ H locs ⟨rfl, rfl⟩ hw
      have hw : gW D A s.heap [cQ G (a 0) 4 qf, oX2 sa sb la1, cA G (sb 1) zn gg, oX5 h a tr 3] H locs := hw
      exact g_iret C hr (ws' := [oX5 h a tr 3, cQ G (a 0) 4 qf, oX2 sa sb la1, cA G (sb 1) zn gg]) hw [3, 0, 1, 2] (by decide) rfl ⟨gg, (congrArg iI (by unfold R_put noC; (repeat' split) <;> omega)), (by unfold F_put noC; (repeat' (split <;> try (exfalso; omega))) <;> first | rfl | (exfalso; omega)), (by unfold R_put noC; (repeat' (split <;> try (exfalso; omega))) <;> first | rfl | (exfalso; omega))⟩ dX5_put_51
  · skip
    refine g_iconst C dX5_put_12 ?_
    exact g_iret C hr (ws' := [oX5 h a tr 0, cQ G (a 0) 4 qf, oX2 sa sb la1, cA G (sb 1) zn gg]) hw [0, 1, 2, 3] (by decide) rfl ⟨gg, (congrArg iI (by unfold R_put noC; (repeat' split) <;> omega)), (by unfold F_put noC; (repeat' (split <;> try (exfalso; omega))) <;> first | rfl | (exfalso; omega)), (by unfold R_put noC; (repeat' (split <;> try (exfalso; omega))) <;> first | rfl | (exfalso; omega))⟩ dX5_put_13

set_option maxRecDepth 20000 in
theorem hin_X5_cell_X5 : ∀ w ∈ u_ws RX5 TX5 9, w ∈ wsX5_cell := by
  intro w h
  exact List.mem_cons_of_mem _ (List.mem_append_left _ (List.mem_append_right _ (h)))
set_option maxRecDepth 20000 in
theorem lk_X5_cell_51 : Cond.fieldLink RX5 51 (TX5 8).1 (TX5 8).2.1 (TX5 8).2.2.1 ∈ wsX5_cell := List.mem_cons_of_mem _ (List.mem_append_left _ (List.mem_append_left _ (List.mem_of_getElem? (i := 0) rfl)))
set_option maxRecDepth 20000 in
theorem cn_X5_cell_111 : Jvm.Cond.constantLong RX5 111 (-9223372036854775808) ∈ wsX5_cell := List.mem_cons_of_mem _ (List.mem_append_left _ (List.mem_append_left _ (List.mem_of_getElem? (i := 1) rfl)))
set_option maxRecDepth 20000 in
theorem lk_X5_cell_13 : Cond.fieldLink RX5 13 (TX5 0).1 (TX5 0).2.1 (TX5 0).2.2.1 ∈ wsX5_cell := List.mem_cons_of_mem _ (List.mem_append_left _ (List.mem_append_left _ (List.mem_of_getElem? (i := 2) rfl)))
set_option maxRecDepth 100000 in
set_option maxHeartbeats 8000000 in
theorem m_X5_cell_n (l : Launch) (D : va_G) (G : gT) (h : Nat) (a : Nat → Nat) (tr : Int) (lf : Int) (qf : Nat → Option Nat) (sz : Int → Int) (ln : Int → Int) (ce : Int → Int) (kk : Int) (ii : Int) (lv : Int) (hk : -2147483648 ≤ kk ∧ kk ≤ 2147483647) (hi : -2147483648 ≤ ii ∧ ii ≤ 2147483647) (hlv : -2147483648 ≤ lv ∧ lv ≤ 2147483647) (hqn : 0 ≤ kk → kk ≤ 3 → qf kk.toNat = none) (hsk : 0 ≤ kk → kk ≤ 3 → sz kk = -1) : gMl l yX5_cell wsX5_cell ({ frames := 2, cells := 0, slots := 0, locals := 45 }) D G [.ref h, .int (iI kk), .int (iI ii), .int (iI lv)] [oX5 h a tr lf, cQ G (a 0) 4 qf] 0 0 (fun (r : Int64) (w : va_W) => r = (lI (R_cel sz ln ce kk ii lv)) ∧ w = [oX5 h a tr (F_cel sz ln kk ii lv), cQ G (a 0) 4 qf]) := by
  refine g_start_l (cc := cX5_cell) (nL := 5) (own := RX5) (ret := some .long) (by decide +kernel) rfl rfl (Nat.le_of_ble_eq_true rfl) ?_
  intro p e s m below meth c A ls C hr hnm hw hl
  have hl : lv_has ls 5 [(0, .ref h), (1, .int (iI kk)), (2, .int (iI ii)), (3, .int (iI lv))] := hl
  refine g_aload_n C hl 0 rfl rfl dX5_cell_0 ?_
  refine g_iconst C dX5_cell_1 ?_
  refine g_put C hw [oX5 h a tr 0, cQ G (a 0) 4 qf] hin_X5_cell_X5 tyX5 tyX5_ok nmX5 0 rfl rfl 8 (by decide) lk_X5_cell_51 rfl rfl rfl rfl (Nat.le_of_ble_eq_true rfl) rfl dX5_cell_2 ?_
  clear hw
  intro H locs hw
  refine g_iload_n C hl 1 rfl rfl dX5_cell_5 ?_
  refine g_callSi C hw (wr := [oX5 h a tr 0, cQ G (a 0) 4 qf]) (As := [.int (iI kk)]) (rest := []) (m_X5_isSheet l D G (kk := kk) (by first | assumption | omega)) (va_cwS 1 C.1.2.2.2.2 gX5_cell_X5_isSheet rfl rfl rfl (by decide +kernel) ⟨Nat.le_of_ble_eq_true rfl, Nat.le_of_ble_eq_true rfl⟩) [] [0, 1] rfl rfl (by decide) (by decide) (by decide) rfl hl.1 _ rfl (Nat.le_of_ble_eq_true rfl) dX5_cell_6 ⟨Nat.le_of_ble_eq_true rfl, Nat.le_of_ble_eq_true rfl⟩ ?_
  clear hw
  rintro _ _ H locs ⟨rfl, rfl⟩ hw
  have hw : gW D A s.heap [oX5 h a tr 0, cQ G (a 0) 4 qf] H locs := hw
  refine g_ifb_eq C 20 dX5_cell_9 (by decide) (fun c_1 => ?_) (fun c_1 => ?_)
  · skip
    refine g_ldc2 C (-9223372036854775808) cn_X5_cell_111 (by decide +kernel) dX5_cell_20 ?_
    exact g_lret C hr (ws' := [oX5 h a tr 0, cQ G (a 0) 4 qf]) hw [0, 1] (by decide) rfl ⟨(congrArg lI (by unfold R_cel C_cel noC; (repeat' split) <;> omega)), (by unfold F_cel C_cel noC; (repeat' (split <;> try (exfalso; omega))) <;> first | rfl | (exfalso; omega))⟩ dX5_cell_23
  · skip
    refine g_iload_n C hl 3 rfl rfl dX5_cell_12 ?_
    refine g_iconst C dX5_cell_13 ?_
    refine g_callSi C hw (wr := [oX5 h a tr 0, cQ G (a 0) 4 qf]) (As := [.int (iI lv), .int (iI 3)]) (rest := []) (m_X5_isBelow l D G (na := lv) (nb := 3) (by first | assumption | omega) (by first | assumption | omega)) (va_cwS 2 C.1.2.2.2.2 gX5_cell_X5_isBelow rfl rfl rfl (by decide +kernel) ⟨Nat.le_of_ble_eq_true rfl, Nat.le_of_ble_eq_true rfl⟩) [] [0, 1] rfl rfl (by decide) (by decide) (by decide) rfl hl.1 _ rfl (Nat.le_of_ble_eq_true rfl) dX5_cell_14 ⟨Nat.le_of_ble_eq_true rfl, Nat.le_of_ble_eq_true rfl⟩ ?_
    clear hw
    rintro _ _ H locs ⟨rfl, rfl⟩ hw
    have hw : gW D A s.heap [oX5 h a tr 0, cQ G (a 0) 4 qf] H locs := hw
    refine g_ifb_ne C 24 dX5_cell_17 (by decide) (fun c_2 => ?_) (fun c_2 => ?_)
    · skip
      refine g_aload_n C hl 0 rfl rfl dX5_cell_24 ?_
      refine g_get C hw hin_X5_cell_X5 0 rfl rfl 0 (by decide) lk_X5_cell_13 rfl dX5_cell_25 ?_
      refine g_iload_n C hl 1 rfl rfl dX5_cell_28 ?_
      refine g_aald C hw 1 rfl (by omega) (Nat.le_of_ble_eq_true rfl) dX5_cell_29 ?_
      refine g_topv (show va_rf (qf kk.toNat) = .null by exact rf_n (hqn (by omega) (by omega))) ?_
      refine g_astoreN C [(4, .null), (0, .ref h), (1, .int (iI kk)), (2, .int (iI ii)), (3, .int (iI lv))] dX5_cell_30 hl (by decide) rfl ?_
      clear hl
      intro ls hl
      refine g_aload_n C hl 1 rfl rfl dX5_cell_32 ?_
      refine g_aloadN C hl 0 rfl dX5_cell_33 ?_
      refine g_iload_n C hl 4 rfl rfl dX5_cell_35 ?_
      refine g_iload_n C hl 3 rfl rfl dX5_cell_36 ?_
      refine g_iconst C dX5_cell_37 ?_
      refine g_callSi C hw (wr := [oX5 h a tr 0, cQ G (a 0) 4 qf]) (As := [.null, .int (iI lv), .int (iI ii), .int (iI 1)]) (rest := [.ref h]) (m_X5_foc_n l D G (lv := lv) (ii := ii) (nn := 1) ) (va_cwS 4 C.1.2.2.2.2 gX5_cell_X5_faultOfCells rfl rfl rfl (by decide +kernel) ⟨Nat.le_of_ble_eq_true rfl, Nat.le_of_ble_eq_true rfl⟩) [] [0, 1] rfl rfl (by decide) (by decide) (by decide) rfl hl.1 _ rfl (Nat.le_of_ble_eq_true rfl) dX5_cell_38 ⟨Nat.le_of_ble_eq_true rfl, Nat.le_of_ble_eq_true rfl⟩ ?_
      clear hw
      rintro _ _ H locs ⟨rfl, rfl⟩ hw
      have hw : gW D A s.heap [oX5 h a tr 0, cQ G (a 0) 4 qf] H locs := hw
      refine g_put C hw [oX5 h a tr 1, cQ G (a 0) 4 qf] hin_X5_cell_X5 tyX5 tyX5_ok nmX5 0 rfl rfl 8 (by decide) lk_X5_cell_51 rfl rfl rfl rfl (Nat.le_of_ble_eq_true rfl) rfl dX5_cell_41 ?_
      clear hw
      intro H locs hw
      refine g_aload_n C hl 1 rfl rfl dX5_cell_44 ?_
      refine g_get C hw hin_X5_cell_X5 0 rfl rfl 8 (by decide) lk_X5_cell_51 rfl dX5_cell_45 ?_
      refine g_if_ne C 62 dX5_cell_48 (by decide) (by decide) (fun c_3 => ?_) (fun c_3 => absurd c_3 (by decide))
      refine g_ldc2 C (-9223372036854775808) cn_X5_cell_111 (by decide +kernel) dX5_cell_62 ?_
      exact g_lret C hr (ws' := [oX5 h a tr 1, cQ G (a 0) 4 qf]) hw [0, 1] (by decide) rfl ⟨(congrArg lI (by unfold R_cel C_cel noC; (repeat' split) <;> omega)), (by unfold F_cel C_cel noC; (repeat' (split <;> try (exfalso; omega))) <;> first | rfl | (exfalso; omega))⟩ dX5_cell_65
    · skip
      refine g_ldc2 C (-9223372036854775808) cn_X5_cell_111 (by decide +kernel) dX5_cell_20 ?_
      exact g_lret C hr (ws' := [oX5 h a tr 0, cQ G (a 0) 4 qf]) hw [0, 1] (by decide) rfl ⟨(congrArg lI (by unfold R_cel C_cel noC; (repeat' split) <;> omega)), (by unfold F_cel C_cel noC; (repeat' (split <;> try (exfalso; omega))) <;> first | rfl | (exfalso; omega))⟩ dX5_cell_23

set_option maxRecDepth 20000 in
theorem hin_X5_cell_X2 : ∀ w ∈ u_ws RX2 TX2 2, w ∈ wsX5_cell := by
  intro w h
  exact List.mem_cons_of_mem _ (List.mem_append_right _ (h))
set_option maxRecDepth 20000 in
theorem lk_X5_cell_71 : Cond.fieldLink RX5 71 (TX2 1).1 (TX2 1).2.1 (TX2 1).2.2.1 ∈ wsX5_cell := List.mem_cons_of_mem _ (List.mem_append_left _ (List.mem_append_left _ (List.mem_of_getElem? (i := 3) rfl)))
set_option maxRecDepth 100000 in
set_option maxHeartbeats 8000000 in
theorem m_X5_cell_s (l : Launch) (D : va_G) (G : gT) (h : Nat) (a : Nat → Nat) (tr : Int) (lf : Int) (qf : Nat → Option Nat) (sa : Nat) (sb : Nat → Nat) (la1 : Int) (zn : Nat) (gg : Int → Int) (sz : Int → Int) (ln : Int → Int) (ce : Int → Int) (kk : Int) (ii : Int) (lv : Int) (hk : -2147483648 ≤ kk ∧ kk ≤ 2147483647) (hk3 : 0 ≤ kk ∧ kk ≤ 3) (hi : -2147483648 ≤ ii ∧ ii ≤ 2147483647) (hlv : -2147483648 ≤ lv ∧ lv ≤ 2147483647) (hqs : qf kk.toNat = some sa) (hsk : sz kk = zn) (hlk : ln kk = la1) (hla1 : 0 ≤ la1 ∧ la1 ≤ 2) (hzn : zn ≤ 60) (hce : ∀ j, 0 ≤ j → j < (zn : Int) → gg j = ce (60 * kk + j) ∧ -2147483648 ≤ gg j ∧ gg j ≤ 2147483647) : gMl l yX5_cell wsX5_cell ({ frames := 2, cells := 0, slots := 0, locals := 45 }) D G [.ref h, .int (iI kk), .int (iI ii), .int (iI lv)] [oX5 h a tr lf, cQ G (a 0) 4 qf, oX2 sa sb la1, cA G (sb 1) zn gg] 0 0 (fun (r : Int64) (w : va_W) => r = (lI (R_cel sz ln ce kk ii lv)) ∧ w = [oX5 h a tr (F_cel sz ln kk ii lv), cQ G (a 0) 4 qf, oX2 sa sb la1, cA G (sb 1) zn gg]) := by
  refine g_start_l (cc := cX5_cell) (nL := 5) (own := RX5) (ret := some .long) (by decide +kernel) rfl rfl (Nat.le_of_ble_eq_true rfl) ?_
  intro p e s m below meth c A ls C hr hnm hw hl
  have hl : lv_has ls 5 [(0, .ref h), (1, .int (iI kk)), (2, .int (iI ii)), (3, .int (iI lv))] := hl
  have hb9 := barC_r sz ln kk lv ii 1
  have hbc : barC sz ln kk lv ii 1 = C_cel sz ln kk ii lv := by unfold barC C_cel noC; (repeat' split) <;> omega
  have hbz : barC sz ln kk lv ii 1 = 0 → 0 ≤ ii ∧ ii < (zn : Int) := by unfold barC; (repeat' split) <;> omega
  refine g_aload_n C hl 0 rfl rfl dX5_cell_0 ?_
  refine g_iconst C dX5_cell_1 ?_
  refine g_put C hw [oX5 h a tr 0, cQ G (a 0) 4 qf, oX2 sa sb la1, cA G (sb 1) zn gg] hin_X5_cell_X5 tyX5 tyX5_ok nmX5 0 rfl rfl 8 (by decide) lk_X5_cell_51 rfl rfl rfl rfl (Nat.le_of_ble_eq_true rfl) rfl dX5_cell_2 ?_
  clear hw
  intro H locs hw
  refine g_iload_n C hl 1 rfl rfl dX5_cell_5 ?_
  refine g_callSi C hw (wr := [oX5 h a tr 0, cQ G (a 0) 4 qf, oX2 sa sb la1, cA G (sb 1) zn gg]) (As := [.int (iI kk)]) (rest := []) (m_X5_isSheet l D G (kk := kk) (by first | assumption | omega)) (va_cwS 1 C.1.2.2.2.2 gX5_cell_X5_isSheet rfl rfl rfl (by decide +kernel) ⟨Nat.le_of_ble_eq_true rfl, Nat.le_of_ble_eq_true rfl⟩) [] [0, 1, 2, 3] rfl rfl (by decide) (by decide) (by decide) rfl hl.1 _ rfl (Nat.le_of_ble_eq_true rfl) dX5_cell_6 ⟨Nat.le_of_ble_eq_true rfl, Nat.le_of_ble_eq_true rfl⟩ ?_
  clear hw
  rintro _ _ H locs ⟨rfl, rfl⟩ hw
  have hw : gW D A s.heap [oX5 h a tr 0, cQ G (a 0) 4 qf, oX2 sa sb la1, cA G (sb 1) zn gg] H locs := hw
  refine g_ifb_eq C 20 dX5_cell_9 (by decide) (fun c_1 => ?_) (fun c_1 => ?_)
  · skip
    refine g_ldc2 C (-9223372036854775808) cn_X5_cell_111 (by decide +kernel) dX5_cell_20 ?_
    exact g_lret C hr (ws' := [oX5 h a tr 0, cQ G (a 0) 4 qf, oX2 sa sb la1, cA G (sb 1) zn gg]) hw [0, 1, 2, 3] (by decide) rfl ⟨(congrArg lI (by unfold R_cel; (repeat' split) <;> omega)), (by unfold F_cel; rw [← hbc]; (repeat' (split <;> try (exfalso; omega))) <;> first | rfl | (exfalso; omega))⟩ dX5_cell_23
  · skip
    refine g_iload_n C hl 3 rfl rfl dX5_cell_12 ?_
    refine g_iconst C dX5_cell_13 ?_
    refine g_callSi C hw (wr := [oX5 h a tr 0, cQ G (a 0) 4 qf, oX2 sa sb la1, cA G (sb 1) zn gg]) (As := [.int (iI lv), .int (iI 3)]) (rest := []) (m_X5_isBelow l D G (na := lv) (nb := 3) (by first | assumption | omega) (by first | assumption | omega)) (va_cwS 2 C.1.2.2.2.2 gX5_cell_X5_isBelow rfl rfl rfl (by decide +kernel) ⟨Nat.le_of_ble_eq_true rfl, Nat.le_of_ble_eq_true rfl⟩) [] [0, 1, 2, 3] rfl rfl (by decide) (by decide) (by decide) rfl hl.1 _ rfl (Nat.le_of_ble_eq_true rfl) dX5_cell_14 ⟨Nat.le_of_ble_eq_true rfl, Nat.le_of_ble_eq_true rfl⟩ ?_
    clear hw
    rintro _ _ H locs ⟨rfl, rfl⟩ hw
    have hw : gW D A s.heap [oX5 h a tr 0, cQ G (a 0) 4 qf, oX2 sa sb la1, cA G (sb 1) zn gg] H locs := hw
    refine g_ifb_ne C 24 dX5_cell_17 (by decide) (fun c_2 => ?_) (fun c_2 => ?_)
    · skip
      refine g_aload_n C hl 0 rfl rfl dX5_cell_24 ?_
      refine g_get C hw hin_X5_cell_X5 0 rfl rfl 0 (by decide) lk_X5_cell_13 rfl dX5_cell_25 ?_
      refine g_iload_n C hl 1 rfl rfl dX5_cell_28 ?_
      refine g_aald C hw 1 rfl (by omega) (Nat.le_of_ble_eq_true rfl) dX5_cell_29 ?_
      refine g_topv (show va_rf (qf kk.toNat) = .ref sa by exact rf_s hqs) ?_
      refine g_astore C [(4, .ref sa), (0, .ref h), (1, .int (iI kk)), (2, .int (iI ii)), (3, .int (iI lv))] dX5_cell_30 hl (by decide) rfl ?_
      clear hl
      intro ls hl
      refine g_aload_n C hl 1 rfl rfl dX5_cell_32 ?_
      refine g_aload C hl 0 rfl dX5_cell_33 ?_
      refine g_iload_n C hl 4 rfl rfl dX5_cell_35 ?_
      refine g_iload_n C hl 3 rfl rfl dX5_cell_36 ?_
      refine g_iconst C dX5_cell_37 ?_
      refine g_callSi C hw (wr := [oX5 h a tr 0, cQ G (a 0) 4 qf]) (As := [.ref sa, .int (iI lv), .int (iI ii), .int (iI 1)]) (rest := [.ref h]) (m_X5_foc_s l D G (sa := sa) (sb := sb) (la1 := la1) (zn := zn) (gg := gg) (sz := sz) (ln := ln) (kk := kk) (lv := lv) (ii := ii) (nn := 1) (by first | assumption | omega) (by first | assumption | omega) (by first | assumption | omega) (by first | assumption | omega) (by first | assumption | omega) (by first | assumption | omega) (by first | assumption | omega)) (va_cwS 4 C.1.2.2.2.2 gX5_cell_X5_faultOfCells rfl rfl rfl (by decide +kernel) ⟨Nat.le_of_ble_eq_true rfl, Nat.le_of_ble_eq_true rfl⟩) [2, 3] [0, 1] rfl rfl (by decide) (by decide) (by decide) rfl hl.1 _ rfl (Nat.le_of_ble_eq_true rfl) dX5_cell_38 ⟨Nat.le_of_ble_eq_true rfl, Nat.le_of_ble_eq_true rfl⟩ ?_
      clear hw
      rintro _ _ H locs ⟨rfl, rfl⟩ hw
      have hw : gW D A s.heap [oX5 h a tr 0, cQ G (a 0) 4 qf, oX2 sa sb la1, cA G (sb 1) zn gg] H locs := hw
      refine g_put C hw [oX5 h a tr (barC sz ln kk lv ii 1), cQ G (a 0) 4 qf, oX2 sa sb la1, cA G (sb 1) zn gg] hin_X5_cell_X5 tyX5 tyX5_ok nmX5 0 rfl rfl 8 (by decide) lk_X5_cell_51 rfl rfl rfl rfl (Nat.le_of_ble_eq_true rfl) rfl dX5_cell_41 ?_
      clear hw
      intro H locs hw
      refine g_aload_n C hl 1 rfl rfl dX5_cell_44 ?_
      refine g_get C hw hin_X5_cell_X5 0 rfl rfl 8 (by decide) lk_X5_cell_51 rfl dX5_cell_45 ?_
      refine g_if_ne C 62 dX5_cell_48 (by decide) (by omega) (fun c_3 => ?_) (fun c_3 => ?_)
      · skip
        refine g_ldc2 C (-9223372036854775808) cn_X5_cell_111 (by decide +kernel) dX5_cell_62 ?_
        exact g_lret C hr (ws' := [oX5 h a tr (barC sz ln kk lv ii 1), cQ G (a 0) 4 qf, oX2 sa sb la1, cA G (sb 1) zn gg]) hw [0, 1, 2, 3] (by decide) rfl ⟨(congrArg lI (by unfold R_cel; rw [← hbc]; (repeat' split) <;> omega)), (by unfold F_cel; rw [← hbc]; (repeat' (split <;> try (exfalso; omega))) <;> first | rfl | (exfalso; omega))⟩ dX5_cell_65
      · skip
        have hz9 := hbz (by omega)
        have hc9 := hce ii hz9.1 hz9.2
        refine g_aload C hl 0 rfl dX5_cell_51 ?_
        refine g_get C hw hin_X5_cell_X2 2 rfl rfl 1 (by decide) lk_X5_cell_71 rfl dX5_cell_53 ?_
        refine g_iload_n C hl 3 rfl rfl dX5_cell_56 ?_
        refine g_iald C hw 3 rfl (by omega) (by omega) dX5_cell_57 ?_
        refine g_i2l C dX5_cell_58 (by omega) ?_
        refine g_goto C 65 dX5_cell_59 (by decide) ?_
        exact g_lret C hr (ws' := [oX5 h a tr (barC sz ln kk lv ii 1), cQ G (a 0) 4 qf, oX2 sa sb la1, cA G (sb 1) zn gg]) hw [0, 1, 2, 3] (by decide) rfl ⟨(congrArg lI (by unfold R_cel; rw [← hbc]; (repeat' split) <;> omega)), (by unfold F_cel; rw [← hbc]; (repeat' (split <;> try (exfalso; omega))) <;> first | rfl | (exfalso; omega))⟩ dX5_cell_65
    · skip
      refine g_ldc2 C (-9223372036854775808) cn_X5_cell_111 (by decide +kernel) dX5_cell_20 ?_
      exact g_lret C hr (ws' := [oX5 h a tr 0, cQ G (a 0) 4 qf, oX2 sa sb la1, cA G (sb 1) zn gg]) hw [0, 1, 2, 3] (by decide) rfl ⟨(congrArg lI (by unfold R_cel; (repeat' split) <;> omega)), (by unfold F_cel; rw [← hbc]; (repeat' (split <;> try (exfalso; omega))) <;> first | rfl | (exfalso; omega))⟩ dX5_cell_23

set_option maxRecDepth 20000 in
theorem hin_X5_copy_X5 : ∀ w ∈ u_ws RX5 TX5 9, w ∈ wsX5_copy := by
  intro w h
  exact List.mem_cons_of_mem _ (List.mem_append_left _ (List.mem_append_right _ (h)))
set_option maxRecDepth 20000 in
theorem lk_X5_copy_51 : Cond.fieldLink RX5 51 (TX5 8).1 (TX5 8).2.1 (TX5 8).2.2.1 ∈ wsX5_copy := List.mem_cons_of_mem _ (List.mem_append_left _ (List.mem_append_left _ (List.mem_append_left _ (List.mem_of_getElem? (i := 0) rfl))))
set_option maxRecDepth 20000 in
theorem lk_X5_copy_13 : Cond.fieldLink RX5 13 (TX5 0).1 (TX5 0).2.1 (TX5 0).2.2.1 ∈ wsX5_copy := List.mem_cons_of_mem _ (List.mem_append_left _ (List.mem_append_left _ (List.mem_append_left _ (List.mem_of_getElem? (i := 1) rfl))))
set_option maxRecDepth 100000 in
set_option maxHeartbeats 8000000 in
theorem m_X5_copy_nn (l : Launch) (D : va_G) (G : gT) (h : Nat) (a : Nat → Nat) (tr : Int) (lf : Int) (qf : Nat → Option Nat) (sz : Int → Int) (ln : Int → Int) (kk : Int) (ii : Int) (oo : Int) (jj : Int) (nn : Int) (hk : -2147483648 ≤ kk ∧ kk ≤ 2147483647) (hi : -2147483648 ≤ ii ∧ ii ≤ 2147483647) (ho : -2147483648 ≤ oo ∧ oo ≤ 2147483647) (hj : -2147483648 ≤ jj ∧ jj ≤ 2147483647) (hn9 : -2147483648 ≤ nn ∧ nn ≤ 2147483647) (hqn : 0 ≤ kk → kk ≤ 3 → 0 ≤ oo → oo ≤ 3 → qf kk.toNat = none) (hqm : 0 ≤ kk → kk ≤ 3 → 0 ≤ oo → oo ≤ 3 → qf oo.toNat = none) (hsk : 0 ≤ kk → kk ≤ 3 → 0 ≤ oo → oo ≤ 3 → sz kk = -1 ∧ sz oo = -1) : gMi l yX5_copy wsX5_copy ({ frames := 2, cells := 0, slots := 0, locals := 41 }) D G [.ref h, .int (iI kk), .int (iI ii), .int (iI oo), .int (iI jj), .int (iI nn)] [oX5 h a tr lf, cQ G (a 0) 4 qf] 0 0 (fun (r : Int32) (w : va_W) => r = (iI (R_cpy sz ln kk ii oo jj nn)) ∧ w = [oX5 h a tr (F_cpy sz ln kk ii oo jj nn), cQ G (a 0) 4 qf]) := by
  refine g_start_i (cc := cX5_copy) (nL := 8) (own := RX5) (ret := some .int) (by decide +kernel) rfl rfl (Nat.le_of_ble_eq_true rfl) ?_
  intro p e s m below meth c A ls C hr hnm hw hl
  have hl : lv_has ls 8 [(0, .ref h), (1, .int (iI kk)), (2, .int (iI ii)), (3, .int (iI oo)), (4, .int (iI jj)), (5, .int (iI nn))] := hl
  refine g_aload_n C hl 0 rfl rfl dX5_copy_0 ?_
  refine g_iconst C dX5_copy_1 ?_
  refine g_put C hw [oX5 h a tr 0, cQ G (a 0) 4 qf] hin_X5_copy_X5 tyX5 tyX5_ok nmX5 0 rfl rfl 8 (by decide) lk_X5_copy_51 rfl rfl rfl rfl (Nat.le_of_ble_eq_true rfl) rfl dX5_copy_2 ?_
  clear hw
  intro H locs hw
  refine g_iload_n C hl 1 rfl rfl dX5_copy_5 ?_
  refine g_callSi C hw (wr := [oX5 h a tr 0, cQ G (a 0) 4 qf]) (As := [.int (iI kk)]) (rest := []) (m_X5_isSheet l D G (kk := kk) (by first | assumption | omega)) (va_cwS 1 C.1.2.2.2.2 gX5_copy_X5_isSheet rfl rfl rfl (by decide +kernel) ⟨Nat.le_of_ble_eq_true rfl, Nat.le_of_ble_eq_true rfl⟩) [] [0, 1] rfl rfl (by decide) (by decide) (by decide) rfl hl.1 _ rfl (Nat.le_of_ble_eq_true rfl) dX5_copy_6 ⟨Nat.le_of_ble_eq_true rfl, Nat.le_of_ble_eq_true rfl⟩ ?_
  clear hw
  rintro _ _ H locs ⟨rfl, rfl⟩ hw
  have hw : gW D A s.heap [oX5 h a tr 0, cQ G (a 0) 4 qf] H locs := hw
  refine g_ifb_eq C 19 dX5_copy_9 (by decide) (fun c_1 => ?_) (fun c_1 => ?_)
  · skip
    refine g_iconst C dX5_copy_19 ?_
    exact g_iret C hr (ws' := [oX5 h a tr 0, cQ G (a 0) 4 qf]) hw [0, 1] (by decide) rfl ⟨(congrArg iI (by unfold R_cpy C_cpy; (repeat' split) <;> omega)), (by unfold F_cpy C_cpy; (repeat' (split <;> try (exfalso; omega))) <;> first | rfl | (exfalso; omega))⟩ dX5_copy_20
  · skip
    refine g_iload_n C hl 3 rfl rfl dX5_copy_12 ?_
    refine g_callSi C hw (wr := [oX5 h a tr 0, cQ G (a 0) 4 qf]) (As := [.int (iI oo)]) (rest := []) (m_X5_isSheet l D G (kk := oo) (by first | assumption | omega)) (va_cwS 1 C.1.2.2.2.2 gX5_copy_X5_isSheet rfl rfl rfl (by decide +kernel) ⟨Nat.le_of_ble_eq_true rfl, Nat.le_of_ble_eq_true rfl⟩) [] [0, 1] rfl rfl (by decide) (by decide) (by decide) rfl hl.1 _ rfl (Nat.le_of_ble_eq_true rfl) dX5_copy_13 ⟨Nat.le_of_ble_eq_true rfl, Nat.le_of_ble_eq_true rfl⟩ ?_
    clear hw
    rintro _ _ H locs ⟨rfl, rfl⟩ hw
    have hw : gW D A s.heap [oX5 h a tr 0, cQ G (a 0) 4 qf] H locs := hw
    refine g_ifb_ne C 21 dX5_copy_16 (by decide) (fun c_2 => ?_) (fun c_2 => ?_)
    · skip
      refine g_aload_n C hl 0 rfl rfl dX5_copy_21 ?_
      refine g_get C hw hin_X5_copy_X5 0 rfl rfl 0 (by decide) lk_X5_copy_13 rfl dX5_copy_22 ?_
      refine g_iload_n C hl 1 rfl rfl dX5_copy_25 ?_
      refine g_aald C hw 1 rfl (by omega) (Nat.le_of_ble_eq_true rfl) dX5_copy_26 ?_
      refine g_topv (show va_rf (qf kk.toNat) = .null by exact rf_n (hqn (by omega) (by omega) (by omega) (by omega))) ?_
      refine g_astoreN C [(6, .null), (0, .ref h), (1, .int (iI kk)), (2, .int (iI ii)), (3, .int (iI oo)), (4, .int (iI jj)), (5, .int (iI nn))] dX5_copy_27 hl (by decide) rfl ?_
      clear hl
      intro ls hl
      refine g_aload_n C hl 1 rfl rfl dX5_copy_29 ?_
      refine g_get C hw hin_X5_copy_X5 0 rfl rfl 0 (by decide) lk_X5_copy_13 rfl dX5_copy_30 ?_
      refine g_iload_n C hl 4 rfl rfl dX5_copy_33 ?_
      refine g_aald C hw 1 rfl (by omega) (Nat.le_of_ble_eq_true rfl) dX5_copy_34 ?_
      refine g_topv (show va_rf (qf oo.toNat) = .null by exact rf_n (hqm (by omega) (by omega) (by omega) (by omega))) ?_
      refine g_astoreN C [(7, .null), (6, .null), (0, .ref h), (1, .int (iI kk)), (2, .int (iI ii)), (3, .int (iI oo)), (4, .int (iI jj)), (5, .int (iI nn))] dX5_copy_35 hl (by decide) rfl ?_
      clear hl
      intro ls hl
      refine g_aloadN C hl 1 rfl dX5_copy_37 ?_
      refine g_ifnullN C 47 dX5_copy_39 (by decide) ?_
      refine g_aload_n C hl 2 rfl rfl dX5_copy_47 ?_
      refine g_iconst C dX5_copy_48 ?_
      refine g_callVi C hw (wr := [cQ G (a 0) 4 qf]) (As := [.int (iI 1)]) (rest := []) (m_X5_failed l D G (h := h) (a := a) (tr := tr) (lf := 0) (fv := 1) ) (cwV 1 C.1.2.2.2.2 gX5_copy_X5_failed rfl rfl rfl (by decide +kernel) ⟨Nat.le_of_ble_eq_true rfl, Nat.le_of_ble_eq_true rfl⟩) [0] [1] rfl rfl (by decide) (by decide) (by decide) 0 rfl rfl rfl hl.1 _ rfl (Nat.le_of_ble_eq_true rfl) dX5_copy_49 ⟨Nat.le_of_ble_eq_true rfl, Nat.le_of_ble_eq_true rfl⟩ ?_
      clear hw
      rintro _ _ H locs ⟨rfl, rfl⟩ hw
      have hw : gW D A s.heap [cQ G (a 0) 4 qf, oX5 h a tr 1] H locs := hw
      exact g_iret C hr (ws' := [oX5 h a tr 1, cQ G (a 0) 4 qf]) hw [1, 0] (by decide) rfl ⟨(congrArg iI (by unfold R_cpy C_cpy; (repeat' split) <;> omega)), (by unfold F_cpy C_cpy; (repeat' (split <;> try (exfalso; omega))) <;> first | rfl | (exfalso; omega))⟩ dX5_copy_52
    · skip
      refine g_iconst C dX5_copy_19 ?_
      exact g_iret C hr (ws' := [oX5 h a tr 0, cQ G (a 0) 4 qf]) hw [0, 1] (by decide) rfl ⟨(congrArg iI (by unfold R_cpy C_cpy; (repeat' split) <;> omega)), (by unfold F_cpy C_cpy; (repeat' (split <;> try (exfalso; omega))) <;> first | rfl | (exfalso; omega))⟩ dX5_copy_20

set_option maxRecDepth 100000 in
set_option maxHeartbeats 8000000 in
theorem m_X5_copy_ns (l : Launch) (D : va_G) (G : gT) (h : Nat) (a : Nat → Nat) (tr : Int) (lf : Int) (qf : Nat → Option Nat) (sa : Nat) (sz : Int → Int) (ln : Int → Int) (kk : Int) (ii : Int) (oo : Int) (jj : Int) (nn : Int) (hk : -2147483648 ≤ kk ∧ kk ≤ 2147483647) (hi : -2147483648 ≤ ii ∧ ii ≤ 2147483647) (ho : -2147483648 ≤ oo ∧ oo ≤ 2147483647) (hj : -2147483648 ≤ jj ∧ jj ≤ 2147483647) (hn9 : -2147483648 ≤ nn ∧ nn ≤ 2147483647) (hk3 : (0 ≤ kk ∧ kk ≤ 3) ∧ 0 ≤ oo ∧ oo ≤ 3) (hqn : qf kk.toNat = none) (hqm : qf oo.toNat = some sa) (hsk : sz kk = -1) : gMi l yX5_copy wsX5_copy ({ frames := 2, cells := 0, slots := 0, locals := 41 }) D G [.ref h, .int (iI kk), .int (iI ii), .int (iI oo), .int (iI jj), .int (iI nn)] [oX5 h a tr lf, cQ G (a 0) 4 qf] 0 0 (fun (r : Int32) (w : va_W) => r = (iI (R_cpy sz ln kk ii oo jj nn)) ∧ w = [oX5 h a tr (F_cpy sz ln kk ii oo jj nn), cQ G (a 0) 4 qf]) := by
  refine g_start_i (cc := cX5_copy) (nL := 8) (own := RX5) (ret := some .int) (by decide +kernel) rfl rfl (Nat.le_of_ble_eq_true rfl) ?_
  intro p e s m below meth c A ls C hr hnm hw hl
  have hl : lv_has ls 8 [(0, .ref h), (1, .int (iI kk)), (2, .int (iI ii)), (3, .int (iI oo)), (4, .int (iI jj)), (5, .int (iI nn))] := hl
  refine g_aload_n C hl 0 rfl rfl dX5_copy_0 ?_
  refine g_iconst C dX5_copy_1 ?_
  refine g_put C hw [oX5 h a tr 0, cQ G (a 0) 4 qf] hin_X5_copy_X5 tyX5 tyX5_ok nmX5 0 rfl rfl 8 (by decide) lk_X5_copy_51 rfl rfl rfl rfl (Nat.le_of_ble_eq_true rfl) rfl dX5_copy_2 ?_
  clear hw
  intro H locs hw
  refine g_iload_n C hl 1 rfl rfl dX5_copy_5 ?_
  refine g_callSi C hw (wr := [oX5 h a tr 0, cQ G (a 0) 4 qf]) (As := [.int (iI kk)]) (rest := []) (m_X5_isSheet l D G (kk := kk) (by first | assumption | omega)) (va_cwS 1 C.1.2.2.2.2 gX5_copy_X5_isSheet rfl rfl rfl (by decide +kernel) ⟨Nat.le_of_ble_eq_true rfl, Nat.le_of_ble_eq_true rfl⟩) [] [0, 1] rfl rfl (by decide) (by decide) (by decide) rfl hl.1 _ rfl (Nat.le_of_ble_eq_true rfl) dX5_copy_6 ⟨Nat.le_of_ble_eq_true rfl, Nat.le_of_ble_eq_true rfl⟩ ?_
  clear hw
  rintro _ _ H locs ⟨rfl, rfl⟩ hw
  have hw : gW D A s.heap [oX5 h a tr 0, cQ G (a 0) 4 qf] H locs := hw
  refine g_ifb_eq C 19 dX5_copy_9 (by decide) (fun c_1 => ?_) (fun c_1 => ?_)
  · skip
    refine g_iconst C dX5_copy_19 ?_
    exact g_iret C hr (ws' := [oX5 h a tr 0, cQ G (a 0) 4 qf]) hw [0, 1] (by decide) rfl ⟨(congrArg iI (by unfold R_cpy C_cpy; (repeat' split) <;> omega)), (by unfold F_cpy C_cpy; (repeat' (split <;> try (exfalso; omega))) <;> first | rfl | (exfalso; omega))⟩ dX5_copy_20
  · skip
    refine g_iload_n C hl 3 rfl rfl dX5_copy_12 ?_
    refine g_callSi C hw (wr := [oX5 h a tr 0, cQ G (a 0) 4 qf]) (As := [.int (iI oo)]) (rest := []) (m_X5_isSheet l D G (kk := oo) (by first | assumption | omega)) (va_cwS 1 C.1.2.2.2.2 gX5_copy_X5_isSheet rfl rfl rfl (by decide +kernel) ⟨Nat.le_of_ble_eq_true rfl, Nat.le_of_ble_eq_true rfl⟩) [] [0, 1] rfl rfl (by decide) (by decide) (by decide) rfl hl.1 _ rfl (Nat.le_of_ble_eq_true rfl) dX5_copy_13 ⟨Nat.le_of_ble_eq_true rfl, Nat.le_of_ble_eq_true rfl⟩ ?_
    clear hw
    rintro _ _ H locs ⟨rfl, rfl⟩ hw
    have hw : gW D A s.heap [oX5 h a tr 0, cQ G (a 0) 4 qf] H locs := hw
    refine g_ifb_ne C 21 dX5_copy_16 (by decide) (fun c_2 => ?_) (fun c_2 => ?_)
    · skip
      refine g_aload_n C hl 0 rfl rfl dX5_copy_21 ?_
      refine g_get C hw hin_X5_copy_X5 0 rfl rfl 0 (by decide) lk_X5_copy_13 rfl dX5_copy_22 ?_
      refine g_iload_n C hl 1 rfl rfl dX5_copy_25 ?_
      refine g_aald C hw 1 rfl (by omega) (Nat.le_of_ble_eq_true rfl) dX5_copy_26 ?_
      refine g_topv (show va_rf (qf kk.toNat) = .null by exact rf_n hqn) ?_
      refine g_astoreN C [(6, .null), (0, .ref h), (1, .int (iI kk)), (2, .int (iI ii)), (3, .int (iI oo)), (4, .int (iI jj)), (5, .int (iI nn))] dX5_copy_27 hl (by decide) rfl ?_
      clear hl
      intro ls hl
      refine g_aload_n C hl 1 rfl rfl dX5_copy_29 ?_
      refine g_get C hw hin_X5_copy_X5 0 rfl rfl 0 (by decide) lk_X5_copy_13 rfl dX5_copy_30 ?_
      refine g_iload_n C hl 4 rfl rfl dX5_copy_33 ?_
      refine g_aald C hw 1 rfl (by omega) (Nat.le_of_ble_eq_true rfl) dX5_copy_34 ?_
      refine g_topv (show va_rf (qf oo.toNat) = .ref sa by exact rf_s hqm) ?_
      refine g_astore C [(7, .ref sa), (6, .null), (0, .ref h), (1, .int (iI kk)), (2, .int (iI ii)), (3, .int (iI oo)), (4, .int (iI jj)), (5, .int (iI nn))] dX5_copy_35 hl (by decide) rfl ?_
      clear hl
      intro ls hl
      refine g_aloadN C hl 1 rfl dX5_copy_37 ?_
      refine g_ifnullN C 47 dX5_copy_39 (by decide) ?_
      refine g_aload_n C hl 2 rfl rfl dX5_copy_47 ?_
      refine g_iconst C dX5_copy_48 ?_
      refine g_callVi C hw (wr := [cQ G (a 0) 4 qf]) (As := [.int (iI 1)]) (rest := []) (m_X5_failed l D G (h := h) (a := a) (tr := tr) (lf := 0) (fv := 1) ) (cwV 1 C.1.2.2.2.2 gX5_copy_X5_failed rfl rfl rfl (by decide +kernel) ⟨Nat.le_of_ble_eq_true rfl, Nat.le_of_ble_eq_true rfl⟩) [0] [1] rfl rfl (by decide) (by decide) (by decide) 0 rfl rfl rfl hl.1 _ rfl (Nat.le_of_ble_eq_true rfl) dX5_copy_49 ⟨Nat.le_of_ble_eq_true rfl, Nat.le_of_ble_eq_true rfl⟩ ?_
      clear hw
      rintro _ _ H locs ⟨rfl, rfl⟩ hw
      have hw : gW D A s.heap [cQ G (a 0) 4 qf, oX5 h a tr 1] H locs := hw
      exact g_iret C hr (ws' := [oX5 h a tr 1, cQ G (a 0) 4 qf]) hw [1, 0] (by decide) rfl ⟨(congrArg iI (by unfold R_cpy C_cpy; (repeat' split) <;> omega)), (by unfold F_cpy C_cpy; (repeat' (split <;> try (exfalso; omega))) <;> first | rfl | (exfalso; omega))⟩ dX5_copy_52
    · skip
      refine g_iconst C dX5_copy_19 ?_
      exact g_iret C hr (ws' := [oX5 h a tr 0, cQ G (a 0) 4 qf]) hw [0, 1] (by decide) rfl ⟨(congrArg iI (by unfold R_cpy C_cpy; (repeat' split) <;> omega)), (by unfold F_cpy C_cpy; (repeat' (split <;> try (exfalso; omega))) <;> first | rfl | (exfalso; omega))⟩ dX5_copy_20

set_option maxRecDepth 100000 in
set_option maxHeartbeats 8000000 in
theorem m_X5_copy_sn (l : Launch) (D : va_G) (G : gT) (h : Nat) (a : Nat → Nat) (tr : Int) (lf : Int) (qf : Nat → Option Nat) (sa : Nat) (sz : Int → Int) (ln : Int → Int) (kk : Int) (ii : Int) (oo : Int) (jj : Int) (nn : Int) (hk : -2147483648 ≤ kk ∧ kk ≤ 2147483647) (hi : -2147483648 ≤ ii ∧ ii ≤ 2147483647) (ho : -2147483648 ≤ oo ∧ oo ≤ 2147483647) (hj : -2147483648 ≤ jj ∧ jj ≤ 2147483647) (hn9 : -2147483648 ≤ nn ∧ nn ≤ 2147483647) (hk3 : (0 ≤ kk ∧ kk ≤ 3) ∧ 0 ≤ oo ∧ oo ≤ 3) (hqn : qf kk.toNat = some sa) (hqm : qf oo.toNat = none) (hsk : sz oo = -1) : gMi l yX5_copy wsX5_copy ({ frames := 2, cells := 0, slots := 0, locals := 41 }) D G [.ref h, .int (iI kk), .int (iI ii), .int (iI oo), .int (iI jj), .int (iI nn)] [oX5 h a tr lf, cQ G (a 0) 4 qf] 0 0 (fun (r : Int32) (w : va_W) => r = (iI (R_cpy sz ln kk ii oo jj nn)) ∧ w = [oX5 h a tr (F_cpy sz ln kk ii oo jj nn), cQ G (a 0) 4 qf]) := by
  refine g_start_i (cc := cX5_copy) (nL := 8) (own := RX5) (ret := some .int) (by decide +kernel) rfl rfl (Nat.le_of_ble_eq_true rfl) ?_
  intro p e s m below meth c A ls C hr hnm hw hl
  have hl : lv_has ls 8 [(0, .ref h), (1, .int (iI kk)), (2, .int (iI ii)), (3, .int (iI oo)), (4, .int (iI jj)), (5, .int (iI nn))] := hl
  refine g_aload_n C hl 0 rfl rfl dX5_copy_0 ?_
  refine g_iconst C dX5_copy_1 ?_
  refine g_put C hw [oX5 h a tr 0, cQ G (a 0) 4 qf] hin_X5_copy_X5 tyX5 tyX5_ok nmX5 0 rfl rfl 8 (by decide) lk_X5_copy_51 rfl rfl rfl rfl (Nat.le_of_ble_eq_true rfl) rfl dX5_copy_2 ?_
  clear hw
  intro H locs hw
  refine g_iload_n C hl 1 rfl rfl dX5_copy_5 ?_
  refine g_callSi C hw (wr := [oX5 h a tr 0, cQ G (a 0) 4 qf]) (As := [.int (iI kk)]) (rest := []) (m_X5_isSheet l D G (kk := kk) (by first | assumption | omega)) (va_cwS 1 C.1.2.2.2.2 gX5_copy_X5_isSheet rfl rfl rfl (by decide +kernel) ⟨Nat.le_of_ble_eq_true rfl, Nat.le_of_ble_eq_true rfl⟩) [] [0, 1] rfl rfl (by decide) (by decide) (by decide) rfl hl.1 _ rfl (Nat.le_of_ble_eq_true rfl) dX5_copy_6 ⟨Nat.le_of_ble_eq_true rfl, Nat.le_of_ble_eq_true rfl⟩ ?_
  clear hw
  rintro _ _ H locs ⟨rfl, rfl⟩ hw
  have hw : gW D A s.heap [oX5 h a tr 0, cQ G (a 0) 4 qf] H locs := hw
  refine g_ifb_eq C 19 dX5_copy_9 (by decide) (fun c_1 => ?_) (fun c_1 => ?_)
  · skip
    refine g_iconst C dX5_copy_19 ?_
    exact g_iret C hr (ws' := [oX5 h a tr 0, cQ G (a 0) 4 qf]) hw [0, 1] (by decide) rfl ⟨(congrArg iI (by unfold R_cpy C_cpy; (repeat' split) <;> omega)), (by unfold F_cpy C_cpy; (repeat' (split <;> try (exfalso; omega))) <;> first | rfl | (exfalso; omega))⟩ dX5_copy_20
  · skip
    refine g_iload_n C hl 3 rfl rfl dX5_copy_12 ?_
    refine g_callSi C hw (wr := [oX5 h a tr 0, cQ G (a 0) 4 qf]) (As := [.int (iI oo)]) (rest := []) (m_X5_isSheet l D G (kk := oo) (by first | assumption | omega)) (va_cwS 1 C.1.2.2.2.2 gX5_copy_X5_isSheet rfl rfl rfl (by decide +kernel) ⟨Nat.le_of_ble_eq_true rfl, Nat.le_of_ble_eq_true rfl⟩) [] [0, 1] rfl rfl (by decide) (by decide) (by decide) rfl hl.1 _ rfl (Nat.le_of_ble_eq_true rfl) dX5_copy_13 ⟨Nat.le_of_ble_eq_true rfl, Nat.le_of_ble_eq_true rfl⟩ ?_
    clear hw
    rintro _ _ H locs ⟨rfl, rfl⟩ hw
    have hw : gW D A s.heap [oX5 h a tr 0, cQ G (a 0) 4 qf] H locs := hw
    refine g_ifb_ne C 21 dX5_copy_16 (by decide) (fun c_2 => ?_) (fun c_2 => ?_)
    · skip
      refine g_aload_n C hl 0 rfl rfl dX5_copy_21 ?_
      refine g_get C hw hin_X5_copy_X5 0 rfl rfl 0 (by decide) lk_X5_copy_13 rfl dX5_copy_22 ?_
      refine g_iload_n C hl 1 rfl rfl dX5_copy_25 ?_
      refine g_aald C hw 1 rfl (by omega) (Nat.le_of_ble_eq_true rfl) dX5_copy_26 ?_
      refine g_topv (show va_rf (qf kk.toNat) = .ref sa by exact rf_s hqn) ?_
      refine g_astore C [(6, .ref sa), (0, .ref h), (1, .int (iI kk)), (2, .int (iI ii)), (3, .int (iI oo)), (4, .int (iI jj)), (5, .int (iI nn))] dX5_copy_27 hl (by decide) rfl ?_
      clear hl
      intro ls hl
      refine g_aload_n C hl 1 rfl rfl dX5_copy_29 ?_
      refine g_get C hw hin_X5_copy_X5 0 rfl rfl 0 (by decide) lk_X5_copy_13 rfl dX5_copy_30 ?_
      refine g_iload_n C hl 4 rfl rfl dX5_copy_33 ?_
      refine g_aald C hw 1 rfl (by omega) (Nat.le_of_ble_eq_true rfl) dX5_copy_34 ?_
      refine g_topv (show va_rf (qf oo.toNat) = .null by exact rf_n hqm) ?_
      refine g_astoreN C [(7, .null), (6, .ref sa), (0, .ref h), (1, .int (iI kk)), (2, .int (iI ii)), (3, .int (iI oo)), (4, .int (iI jj)), (5, .int (iI nn))] dX5_copy_35 hl (by decide) rfl ?_
      clear hl
      intro ls hl
      refine g_aload C hl 1 rfl dX5_copy_37 ?_
      refine g_ifnullR C dX5_copy_39 ?_
      refine g_aloadN C hl 0 rfl dX5_copy_42 ?_
      refine g_ifnonnullN C dX5_copy_44 ?_
      refine g_aload_n C hl 2 rfl rfl dX5_copy_47 ?_
      refine g_iconst C dX5_copy_48 ?_
      refine g_callVi C hw (wr := [cQ G (a 0) 4 qf]) (As := [.int (iI 1)]) (rest := []) (m_X5_failed l D G (h := h) (a := a) (tr := tr) (lf := 0) (fv := 1) ) (cwV 1 C.1.2.2.2.2 gX5_copy_X5_failed rfl rfl rfl (by decide +kernel) ⟨Nat.le_of_ble_eq_true rfl, Nat.le_of_ble_eq_true rfl⟩) [0] [1] rfl rfl (by decide) (by decide) (by decide) 0 rfl rfl rfl hl.1 _ rfl (Nat.le_of_ble_eq_true rfl) dX5_copy_49 ⟨Nat.le_of_ble_eq_true rfl, Nat.le_of_ble_eq_true rfl⟩ ?_
      clear hw
      rintro _ _ H locs ⟨rfl, rfl⟩ hw
      have hw : gW D A s.heap [cQ G (a 0) 4 qf, oX5 h a tr 1] H locs := hw
      exact g_iret C hr (ws' := [oX5 h a tr 1, cQ G (a 0) 4 qf]) hw [1, 0] (by decide) rfl ⟨(congrArg iI (by unfold R_cpy C_cpy; (repeat' split) <;> omega)), (by unfold F_cpy C_cpy; (repeat' (split <;> try (exfalso; omega))) <;> first | rfl | (exfalso; omega))⟩ dX5_copy_52
    · skip
      refine g_iconst C dX5_copy_19 ?_
      exact g_iret C hr (ws' := [oX5 h a tr 0, cQ G (a 0) 4 qf]) hw [0, 1] (by decide) rfl ⟨(congrArg iI (by unfold R_cpy C_cpy; (repeat' split) <;> omega)), (by unfold F_cpy C_cpy; (repeat' (split <;> try (exfalso; omega))) <;> first | rfl | (exfalso; omega))⟩ dX5_copy_20

set_option maxRecDepth 20000 in
theorem hin_X5_copy_X2 : ∀ w ∈ u_ws RX2 TX2 2, w ∈ wsX5_copy := by
  intro w h
  exact List.mem_cons_of_mem _ (List.mem_append_right _ (h))
set_option maxRecDepth 20000 in
theorem lk_X5_copy_197 : Cond.fieldLink RX5 197 (TX2 0).1 (TX2 0).2.1 (TX2 0).2.2.1 ∈ wsX5_copy := List.mem_cons_of_mem _ (List.mem_append_left _ (List.mem_append_left _ (List.mem_append_left _ (List.mem_of_getElem? (i := 2) rfl))))
set_option maxRecDepth 20000 in
theorem lk_X5_copy_71 : Cond.fieldLink RX5 71 (TX2 1).1 (TX2 1).2.1 (TX2 1).2.2.1 ∈ wsX5_copy := List.mem_cons_of_mem _ (List.mem_append_left _ (List.mem_append_left _ (List.mem_append_left _ (List.mem_of_getElem? (i := 3) rfl))))
set_option maxRecDepth 100000 in
set_option maxHeartbeats 8000000 in
theorem m_X5_copy_ss (l : Launch) (D : va_G) (G : gT) (h : Nat) (a : Nat → Nat) (tr : Int) (lf : Int) (qf : Nat → Option Nat) (sa : Nat) (sb : Nat → Nat) (la1 : Int) (zn : Nat) (gg : Int → Int) (sc : Nat) (sd : Nat → Nat) (la2 : Int) (zm : Nat) (gh : Int → Int) (sz : Int → Int) (ln : Int → Int) (kk : Int) (ii : Int) (oo : Int) (jj : Int) (nn : Int) (hk : -2147483648 ≤ kk ∧ kk ≤ 2147483647) (hi : -2147483648 ≤ ii ∧ ii ≤ 2147483647) (ho : -2147483648 ≤ oo ∧ oo ≤ 2147483647) (hj : -2147483648 ≤ jj ∧ jj ≤ 2147483647) (hn9 : -2147483648 ≤ nn ∧ nn ≤ 2147483647) (hk3 : (0 ≤ kk ∧ kk ≤ 3) ∧ 0 ≤ oo ∧ oo ≤ 3) (hqn : qf kk.toNat = some sa) (hqm : qf oo.toNat = some sc) (hsk : sz kk = zn) (hlk : ln kk = la1) (hla1 : 0 ≤ la1 ∧ la1 ≤ 2) (hzn : zn ≤ 60) (hso : sz oo = zm) (hlo : ln oo = la2) (hla2 : 0 ≤ la2 ∧ la2 ≤ 2) (hzm : zm ≤ 60) : gMi l yX5_copy wsX5_copy ({ frames := 2, cells := 0, slots := 0, locals := 41 }) D G [.ref h, .int (iI kk), .int (iI ii), .int (iI oo), .int (iI jj), .int (iI nn)] [oX5 h a tr lf, cQ G (a 0) 4 qf, oX2 sa sb la1, cA G (sb 1) zn gg, oX2 sc sd la2, cA G (sd 1) zm gh] 0 0 (fun (r : Int32) (w : va_W) => ∃ (gh2 : Int → Int), r = (iI (R_cpy sz ln kk ii oo jj nn)) ∧ w = [oX5 h a tr (F_cpy sz ln kk ii oo jj nn), cQ G (a 0) 4 qf, oX2 sa sb la1, cA G (sb 1) zn gg, oX2 sc sd la2, cA G (sd 1) zm gh2] ∧ (gh2 = if C_cpy sz ln kk ii oo jj nn = 0 then cpI gg gh ii jj nn else gh)) := by
  refine g_start_i (cc := cX5_copy) (nL := 8) (own := RX5) (ret := some .int) (by decide +kernel) rfl rfl (Nat.le_of_ble_eq_true rfl) ?_
  intro p e s m below meth c A ls C hr hnm hw hl
  have hl : lv_has ls 8 [(0, .ref h), (1, .int (iI kk)), (2, .int (iI ii)), (3, .int (iI oo)), (4, .int (iI jj)), (5, .int (iI nn))] := hl
  refine g_aload_n C hl 0 rfl rfl dX5_copy_0 ?_
  refine g_iconst C dX5_copy_1 ?_
  refine g_put C hw [oX5 h a tr 0, cQ G (a 0) 4 qf, oX2 sa sb la1, cA G (sb 1) zn gg, oX2 sc sd la2, cA G (sd 1) zm gh] hin_X5_copy_X5 tyX5 tyX5_ok nmX5 0 rfl rfl 8 (by decide) lk_X5_copy_51 rfl rfl rfl rfl (Nat.le_of_ble_eq_true rfl) rfl dX5_copy_2 ?_
  clear hw
  intro H locs hw
  refine g_iload_n C hl 1 rfl rfl dX5_copy_5 ?_
  refine g_callSi C hw (wr := [oX5 h a tr 0, cQ G (a 0) 4 qf, oX2 sa sb la1, cA G (sb 1) zn gg, oX2 sc sd la2, cA G (sd 1) zm gh]) (As := [.int (iI kk)]) (rest := []) (m_X5_isSheet l D G (kk := kk) (by first | assumption | omega)) (va_cwS 1 C.1.2.2.2.2 gX5_copy_X5_isSheet rfl rfl rfl (by decide +kernel) ⟨Nat.le_of_ble_eq_true rfl, Nat.le_of_ble_eq_true rfl⟩) [] [0, 1, 2, 3, 4, 5] rfl rfl (by decide) (by decide) (by decide) rfl hl.1 _ rfl (Nat.le_of_ble_eq_true rfl) dX5_copy_6 ⟨Nat.le_of_ble_eq_true rfl, Nat.le_of_ble_eq_true rfl⟩ ?_
  clear hw
  rintro _ _ H locs ⟨rfl, rfl⟩ hw
  have hw : gW D A s.heap [oX5 h a tr 0, cQ G (a 0) 4 qf, oX2 sa sb la1, cA G (sb 1) zn gg, oX2 sc sd la2, cA G (sd 1) zm gh] H locs := hw
  refine g_ifb_eq C 19 dX5_copy_9 (by decide) (fun c_1 => ?_) (fun c_1 => ?_)
  · skip
    refine g_iconst C dX5_copy_19 ?_
    exact g_iret C hr (ws' := [oX5 h a tr 0, cQ G (a 0) 4 qf, oX2 sa sb la1, cA G (sb 1) zn gg, oX2 sc sd la2, cA G (sd 1) zm gh]) hw [0, 1, 2, 3, 4, 5] (by decide) rfl ⟨gh, (congrArg iI (by unfold R_cpy C_cpy; (repeat' split) <;> omega)), (by unfold F_cpy C_cpy; (repeat' (split <;> try (exfalso; omega))) <;> first | rfl | (exfalso; omega)), (by first | (rw [if_neg (by unfold C_cpy; (repeat' split) <;> omega)]; done) | (rw [if_pos (by unfold C_cpy; (repeat' split) <;> omega)]; done))⟩ dX5_copy_20
  · skip
    refine g_iload_n C hl 3 rfl rfl dX5_copy_12 ?_
    refine g_callSi C hw (wr := [oX5 h a tr 0, cQ G (a 0) 4 qf, oX2 sa sb la1, cA G (sb 1) zn gg, oX2 sc sd la2, cA G (sd 1) zm gh]) (As := [.int (iI oo)]) (rest := []) (m_X5_isSheet l D G (kk := oo) (by first | assumption | omega)) (va_cwS 1 C.1.2.2.2.2 gX5_copy_X5_isSheet rfl rfl rfl (by decide +kernel) ⟨Nat.le_of_ble_eq_true rfl, Nat.le_of_ble_eq_true rfl⟩) [] [0, 1, 2, 3, 4, 5] rfl rfl (by decide) (by decide) (by decide) rfl hl.1 _ rfl (Nat.le_of_ble_eq_true rfl) dX5_copy_13 ⟨Nat.le_of_ble_eq_true rfl, Nat.le_of_ble_eq_true rfl⟩ ?_
    clear hw
    rintro _ _ H locs ⟨rfl, rfl⟩ hw
    have hw : gW D A s.heap [oX5 h a tr 0, cQ G (a 0) 4 qf, oX2 sa sb la1, cA G (sb 1) zn gg, oX2 sc sd la2, cA G (sd 1) zm gh] H locs := hw
    refine g_ifb_ne C 21 dX5_copy_16 (by decide) (fun c_2 => ?_) (fun c_2 => ?_)
    · skip
      refine g_aload_n C hl 0 rfl rfl dX5_copy_21 ?_
      refine g_get C hw hin_X5_copy_X5 0 rfl rfl 0 (by decide) lk_X5_copy_13 rfl dX5_copy_22 ?_
      refine g_iload_n C hl 1 rfl rfl dX5_copy_25 ?_
      refine g_aald C hw 1 rfl (by omega) (Nat.le_of_ble_eq_true rfl) dX5_copy_26 ?_
      refine g_topv (show va_rf (qf kk.toNat) = .ref sa by exact rf_s hqn) ?_
      refine g_astore C [(6, .ref sa), (0, .ref h), (1, .int (iI kk)), (2, .int (iI ii)), (3, .int (iI oo)), (4, .int (iI jj)), (5, .int (iI nn))] dX5_copy_27 hl (by decide) rfl ?_
      clear hl
      intro ls hl
      refine g_aload_n C hl 1 rfl rfl dX5_copy_29 ?_
      refine g_get C hw hin_X5_copy_X5 0 rfl rfl 0 (by decide) lk_X5_copy_13 rfl dX5_copy_30 ?_
      refine g_iload_n C hl 4 rfl rfl dX5_copy_33 ?_
      refine g_aald C hw 1 rfl (by omega) (Nat.le_of_ble_eq_true rfl) dX5_copy_34 ?_
      refine g_topv (show va_rf (qf oo.toNat) = .ref sc by exact rf_s hqm) ?_
      refine g_astore C [(7, .ref sc), (6, .ref sa), (0, .ref h), (1, .int (iI kk)), (2, .int (iI ii)), (3, .int (iI oo)), (4, .int (iI jj)), (5, .int (iI nn))] dX5_copy_35 hl (by decide) rfl ?_
      clear hl
      intro ls hl
      refine g_aload C hl 1 rfl dX5_copy_37 ?_
      refine g_ifnullR C dX5_copy_39 ?_
      refine g_aload C hl 0 rfl dX5_copy_42 ?_
      refine g_ifnonnullR C 53 dX5_copy_44 (by decide) ?_
      refine g_aload C hl 1 rfl dX5_copy_53 ?_
      refine g_get C hw hin_X5_copy_X2 2 rfl rfl 0 (by decide) lk_X5_copy_197 rfl dX5_copy_55 ?_
      refine g_aload C hl 0 rfl dX5_copy_58 ?_
      refine g_get C hw hin_X5_copy_X2 4 rfl rfl 0 (by decide) lk_X5_copy_197 rfl dX5_copy_60 ?_
      refine g_icmp_eq C 72 dX5_copy_63 (by decide) (by omega) (by omega) (fun c_3 => ?_) (fun c_3 => ?_)
      · skip
        refine g_aload C hl 1 rfl dX5_copy_72 ?_
        refine g_iload_n C hl 4 rfl rfl dX5_copy_74 ?_
        refine g_iload C hl 7 rfl dX5_copy_75 ?_
        refine g_callVi C hw (wr := [oX5 h a tr 0, cQ G (a 0) 4 qf, oX2 sc sd la2, cA G (sd 1) zm gh]) (As := [.int (iI ii), .int (iI nn)]) (rest := []) (m_X2_hasCells l D G (h := sa) (a := sb) (la := la1) (zn := zn) (g := gg) (ii := ii) (nn := nn) (by first | assumption | omega) (by first | assumption | omega) (by first | assumption | omega)) (cwV 2 C.1.2.2.2.2 gX5_copy_X2_hasCells rfl rfl rfl (by decide +kernel) ⟨Nat.le_of_ble_eq_true rfl, Nat.le_of_ble_eq_true rfl⟩) [2, 3] [0, 1, 4, 5] rfl rfl (by decide) (by decide) (by decide) 0 rfl rfl rfl hl.1 _ rfl (Nat.le_of_ble_eq_true rfl) dX5_copy_77 ⟨Nat.le_of_ble_eq_true rfl, Nat.le_of_ble_eq_true rfl⟩ ?_
        clear hw
        rintro _ _ H locs ⟨rfl, rfl⟩ hw
        have hw : gW D A s.heap [oX5 h a tr 0, cQ G (a 0) 4 qf, oX2 sc sd la2, cA G (sd 1) zm gh, oX2 sa sb la1, cA G (sb 1) zn gg] H locs := hw
        refine g_ifb_eq C 95 dX5_copy_80 (by decide) (fun c_4 => ?_) (fun c_4 => ?_)
        · skip
          refine g_aload_n C hl 2 rfl rfl dX5_copy_95 ?_
          refine g_iconst C dX5_copy_96 ?_
          refine g_callVi C hw (wr := [cQ G (a 0) 4 qf, oX2 sc sd la2, cA G (sd 1) zm gh, oX2 sa sb la1, cA G (sb 1) zn gg]) (As := [.int (iI 3)]) (rest := []) (m_X5_failed l D G (h := h) (a := a) (tr := tr) (lf := 0) (fv := 3) ) (cwV 1 C.1.2.2.2.2 gX5_copy_X5_failed rfl rfl rfl (by decide +kernel) ⟨Nat.le_of_ble_eq_true rfl, Nat.le_of_ble_eq_true rfl⟩) [0] [1, 2, 3, 4, 5] rfl rfl (by decide) (by decide) (by decide) 0 rfl rfl rfl hl.1 _ rfl (Nat.le_of_ble_eq_true rfl) dX5_copy_97 ⟨Nat.le_of_ble_eq_true rfl, Nat.le_of_ble_eq_true rfl⟩ ?_
          clear hw
          rintro _ _ H locs ⟨rfl, rfl⟩ hw
          have hw : gW D A s.heap [cQ G (a 0) 4 qf, oX2 sc sd la2, cA G (sd 1) zm gh, oX2 sa sb la1, cA G (sb 1) zn gg, oX5 h a tr 3] H locs := hw
          exact g_iret C hr (ws' := [oX5 h a tr 3, cQ G (a 0) 4 qf, oX2 sa sb la1, cA G (sb 1) zn gg, oX2 sc sd la2, cA G (sd 1) zm gh]) hw [5, 0, 3, 4, 1, 2] (by decide) rfl ⟨gh, (congrArg iI (by unfold R_cpy C_cpy; (repeat' split) <;> omega)), (by unfold F_cpy C_cpy; (repeat' (split <;> try (exfalso; omega))) <;> first | rfl | (exfalso; omega)), (by first | (rw [if_neg (by unfold C_cpy; (repeat' split) <;> omega)]; done) | (rw [if_pos (by unfold C_cpy; (repeat' split) <;> omega)]; done))⟩ dX5_copy_100
        · skip
          refine g_aload C hl 0 rfl dX5_copy_83 ?_
          refine g_iload C hl 6 rfl dX5_copy_85 ?_
          refine g_iload C hl 7 rfl dX5_copy_87 ?_
          refine g_callVi C hw (wr := [oX5 h a tr 0, cQ G (a 0) 4 qf, oX2 sa sb la1, cA G (sb 1) zn gg]) (As := [.int (iI jj), .int (iI nn)]) (rest := []) (m_X2_hasCells l D G (h := sc) (a := sd) (la := la2) (zn := zm) (g := gh) (ii := jj) (nn := nn) (by first | assumption | omega) (by first | assumption | omega) (by first | assumption | omega)) (cwV 2 C.1.2.2.2.2 gX5_copy_X2_hasCells rfl rfl rfl (by decide +kernel) ⟨Nat.le_of_ble_eq_true rfl, Nat.le_of_ble_eq_true rfl⟩) [2, 3] [0, 1, 4, 5] rfl rfl (by decide) (by decide) (by decide) 0 rfl rfl rfl hl.1 _ rfl (Nat.le_of_ble_eq_true rfl) dX5_copy_89 ⟨Nat.le_of_ble_eq_true rfl, Nat.le_of_ble_eq_true rfl⟩ ?_
          clear hw
          rintro _ _ H locs ⟨rfl, rfl⟩ hw
          have hw : gW D A s.heap [oX5 h a tr 0, cQ G (a 0) 4 qf, oX2 sa sb la1, cA G (sb 1) zn gg, oX2 sc sd la2, cA G (sd 1) zm gh] H locs := hw
          refine g_ifb_ne C 101 dX5_copy_92 (by decide) (fun c_5 => ?_) (fun c_5 => ?_)
          · skip
            refine g_aload C hl 1 rfl dX5_copy_101 ?_
            refine g_get C hw hin_X5_copy_X2 2 rfl rfl 1 (by decide) lk_X5_copy_71 rfl dX5_copy_103 ?_
            refine g_iload_n C hl 4 rfl rfl dX5_copy_106 ?_
            refine g_aload C hl 0 rfl dX5_copy_107 ?_
            refine g_get C hw hin_X5_copy_X2 4 rfl rfl 1 (by decide) lk_X5_copy_71 rfl dX5_copy_109 ?_
            refine g_iload C hl 6 rfl dX5_copy_112 ?_
            refine g_iload C hl 7 rfl dX5_copy_114 ?_
            refine g_acopy C hw [oX5 h a tr 0, cQ G (a 0) 4 qf, oX2 sa sb la1, cA G (sb 1) zn gg, oX2 sc sd la2, cA G (sd 1) zm (cpI gg gh ii jj nn)] hl.1 (List.mem_cons_of_mem _ (List.mem_append_left _ (List.mem_append_left _ (List.mem_append_left _ (List.mem_of_getElem? (i := 4) rfl))))) (List.mem_cons_of_mem _ (List.mem_append_left _ (List.mem_append_left _ (List.mem_append_left _ (List.mem_of_getElem? (i := 5) rfl))))) (List.mem_cons_of_mem _ (List.mem_append_left _ (List.mem_append_left _ (List.mem_append_left _ (List.mem_of_getElem? (i := 6) rfl))))) (List.mem_cons_of_mem _ (List.mem_append_left _ (List.mem_append_left _ (List.mem_append_left _ (List.mem_of_getElem? (i := 7) rfl))))) 3 5 rfl rfl (by omega) (by omega) (Nat.le_of_ble_eq_true rfl) (Nat.le_of_ble_eq_true rfl) rfl dX5_copy_116 ?_
            clear hw
            intro H locs hw
            refine g_iload C hl 7 rfl dX5_copy_119 ?_
            exact g_iret C hr (ws' := [oX5 h a tr 0, cQ G (a 0) 4 qf, oX2 sa sb la1, cA G (sb 1) zn gg, oX2 sc sd la2, cA G (sd 1) zm (cpI gg gh ii jj nn)]) hw [0, 1, 2, 3, 4, 5] (by decide) rfl ⟨(cpI gg gh ii jj nn), (congrArg iI (by unfold R_cpy C_cpy; (repeat' split) <;> omega)), (by unfold F_cpy C_cpy; (repeat' (split <;> try (exfalso; omega))) <;> first | rfl | (exfalso; omega)), (by first | (rw [if_neg (by unfold C_cpy; (repeat' split) <;> omega)]; done) | (rw [if_pos (by unfold C_cpy; (repeat' split) <;> omega)]; done))⟩ dX5_copy_121
          · skip
            refine g_aload_n C hl 2 rfl rfl dX5_copy_95 ?_
            refine g_iconst C dX5_copy_96 ?_
            refine g_callVi C hw (wr := [cQ G (a 0) 4 qf, oX2 sa sb la1, cA G (sb 1) zn gg, oX2 sc sd la2, cA G (sd 1) zm gh]) (As := [.int (iI 3)]) (rest := []) (m_X5_failed l D G (h := h) (a := a) (tr := tr) (lf := 0) (fv := 3) ) (cwV 1 C.1.2.2.2.2 gX5_copy_X5_failed rfl rfl rfl (by decide +kernel) ⟨Nat.le_of_ble_eq_true rfl, Nat.le_of_ble_eq_true rfl⟩) [0] [1, 2, 3, 4, 5] rfl rfl (by decide) (by decide) (by decide) 0 rfl rfl rfl hl.1 _ rfl (Nat.le_of_ble_eq_true rfl) dX5_copy_97 ⟨Nat.le_of_ble_eq_true rfl, Nat.le_of_ble_eq_true rfl⟩ ?_
            clear hw
            rintro _ _ H locs ⟨rfl, rfl⟩ hw
            have hw : gW D A s.heap [cQ G (a 0) 4 qf, oX2 sa sb la1, cA G (sb 1) zn gg, oX2 sc sd la2, cA G (sd 1) zm gh, oX5 h a tr 3] H locs := hw
            exact g_iret C hr (ws' := [oX5 h a tr 3, cQ G (a 0) 4 qf, oX2 sa sb la1, cA G (sb 1) zn gg, oX2 sc sd la2, cA G (sd 1) zm gh]) hw [5, 0, 1, 2, 3, 4] (by decide) rfl ⟨gh, (congrArg iI (by unfold R_cpy C_cpy; (repeat' split) <;> omega)), (by unfold F_cpy C_cpy; (repeat' (split <;> try (exfalso; omega))) <;> first | rfl | (exfalso; omega)), (by first | (rw [if_neg (by unfold C_cpy; (repeat' split) <;> omega)]; done) | (rw [if_pos (by unfold C_cpy; (repeat' split) <;> omega)]; done))⟩ dX5_copy_100
      · skip
        refine g_aload_n C hl 2 rfl rfl dX5_copy_66 ?_
        refine g_iconst C dX5_copy_67 ?_
        refine g_callVi C hw (wr := [cQ G (a 0) 4 qf, oX2 sa sb la1, cA G (sb 1) zn gg, oX2 sc sd la2, cA G (sd 1) zm gh]) (As := [.int (iI 2)]) (rest := []) (m_X5_failed l D G (h := h) (a := a) (tr := tr) (lf := 0) (fv := 2) ) (cwV 1 C.1.2.2.2.2 gX5_copy_X5_failed rfl rfl rfl (by decide +kernel) ⟨Nat.le_of_ble_eq_true rfl, Nat.le_of_ble_eq_true rfl⟩) [0] [1, 2, 3, 4, 5] rfl rfl (by decide) (by decide) (by decide) 0 rfl rfl rfl hl.1 _ rfl (Nat.le_of_ble_eq_true rfl) dX5_copy_68 ⟨Nat.le_of_ble_eq_true rfl, Nat.le_of_ble_eq_true rfl⟩ ?_
        clear hw
        rintro _ _ H locs ⟨rfl, rfl⟩ hw
        have hw : gW D A s.heap [cQ G (a 0) 4 qf, oX2 sa sb la1, cA G (sb 1) zn gg, oX2 sc sd la2, cA G (sd 1) zm gh, oX5 h a tr 2] H locs := hw
        exact g_iret C hr (ws' := [oX5 h a tr 2, cQ G (a 0) 4 qf, oX2 sa sb la1, cA G (sb 1) zn gg, oX2 sc sd la2, cA G (sd 1) zm gh]) hw [5, 0, 1, 2, 3, 4] (by decide) rfl ⟨gh, (congrArg iI (by unfold R_cpy C_cpy; (repeat' split) <;> omega)), (by unfold F_cpy C_cpy; (repeat' (split <;> try (exfalso; omega))) <;> first | rfl | (exfalso; omega)), (by first | (rw [if_neg (by unfold C_cpy; (repeat' split) <;> omega)]; done) | (rw [if_pos (by unfold C_cpy; (repeat' split) <;> omega)]; done))⟩ dX5_copy_71
    · skip
      refine g_iconst C dX5_copy_19 ?_
      exact g_iret C hr (ws' := [oX5 h a tr 0, cQ G (a 0) 4 qf, oX2 sa sb la1, cA G (sb 1) zn gg, oX2 sc sd la2, cA G (sd 1) zm gh]) hw [0, 1, 2, 3, 4, 5] (by decide) rfl ⟨gh, (congrArg iI (by unfold R_cpy C_cpy; (repeat' split) <;> omega)), (by unfold F_cpy C_cpy; (repeat' (split <;> try (exfalso; omega))) <;> first | rfl | (exfalso; omega)), (by first | (rw [if_neg (by unfold C_cpy; (repeat' split) <;> omega)]; done) | (rw [if_pos (by unfold C_cpy; (repeat' split) <;> omega)]; done))⟩ dX5_copy_20

set_option maxRecDepth 100000 in
set_option maxHeartbeats 8000000 in
theorem m_X5_copy_same (l : Launch) (D : va_G) (G : gT) (h : Nat) (a : Nat → Nat) (tr : Int) (lf : Int) (qf : Nat → Option Nat) (sa : Nat) (sb : Nat → Nat) (la1 : Int) (zn : Nat) (gg : Int → Int) (sz : Int → Int) (ln : Int → Int) (kk : Int) (ii : Int) (oo : Int) (jj : Int) (nn : Int) (hk : -2147483648 ≤ kk ∧ kk ≤ 2147483647) (hi : -2147483648 ≤ ii ∧ ii ≤ 2147483647) (ho : -2147483648 ≤ oo ∧ oo ≤ 2147483647) (hj : -2147483648 ≤ jj ∧ jj ≤ 2147483647) (hn9 : -2147483648 ≤ nn ∧ nn ≤ 2147483647) (hk3 : (0 ≤ kk ∧ kk ≤ 3) ∧ 0 ≤ oo ∧ oo ≤ 3) (hko : kk = oo) (hqn : qf kk.toNat = some sa) (hqm : qf oo.toNat = some sa) (hsk : sz kk = zn) (hlk : ln kk = la1) (hla1 : 0 ≤ la1 ∧ la1 ≤ 2) (hzn : zn ≤ 60) : gMi l yX5_copy wsX5_copy ({ frames := 2, cells := 0, slots := 0, locals := 41 }) D G [.ref h, .int (iI kk), .int (iI ii), .int (iI oo), .int (iI jj), .int (iI nn)] [oX5 h a tr lf, cQ G (a 0) 4 qf, oX2 sa sb la1, cA G (sb 1) zn gg] 0 0 (fun (r : Int32) (w : va_W) => ∃ (gg2 : Int → Int), r = (iI (R_cpy sz ln kk ii oo jj nn)) ∧ w = [oX5 h a tr (F_cpy sz ln kk ii oo jj nn), cQ G (a 0) 4 qf, oX2 sa sb la1, cA G (sb 1) zn gg2] ∧ (gg2 = if C_cpy sz ln kk ii oo jj nn = 0 then cpI gg gg ii jj nn else gg)) := by
  refine g_start_i (cc := cX5_copy) (nL := 8) (own := RX5) (ret := some .int) (by decide +kernel) rfl rfl (Nat.le_of_ble_eq_true rfl) ?_
  intro p e s m below meth c A ls C hr hnm hw hl
  have hl : lv_has ls 8 [(0, .ref h), (1, .int (iI kk)), (2, .int (iI ii)), (3, .int (iI oo)), (4, .int (iI jj)), (5, .int (iI nn))] := hl
  have hl9 : ln oo = ln kk := by rw [hko]
  have hs9 : sz oo = sz kk := by rw [hko]
  refine g_aload_n C hl 0 rfl rfl dX5_copy_0 ?_
  refine g_iconst C dX5_copy_1 ?_
  refine g_put C hw [oX5 h a tr 0, cQ G (a 0) 4 qf, oX2 sa sb la1, cA G (sb 1) zn gg] hin_X5_copy_X5 tyX5 tyX5_ok nmX5 0 rfl rfl 8 (by decide) lk_X5_copy_51 rfl rfl rfl rfl (Nat.le_of_ble_eq_true rfl) rfl dX5_copy_2 ?_
  clear hw
  intro H locs hw
  refine g_iload_n C hl 1 rfl rfl dX5_copy_5 ?_
  refine g_callSi C hw (wr := [oX5 h a tr 0, cQ G (a 0) 4 qf, oX2 sa sb la1, cA G (sb 1) zn gg]) (As := [.int (iI kk)]) (rest := []) (m_X5_isSheet l D G (kk := kk) (by first | assumption | omega)) (va_cwS 1 C.1.2.2.2.2 gX5_copy_X5_isSheet rfl rfl rfl (by decide +kernel) ⟨Nat.le_of_ble_eq_true rfl, Nat.le_of_ble_eq_true rfl⟩) [] [0, 1, 2, 3] rfl rfl (by decide) (by decide) (by decide) rfl hl.1 _ rfl (Nat.le_of_ble_eq_true rfl) dX5_copy_6 ⟨Nat.le_of_ble_eq_true rfl, Nat.le_of_ble_eq_true rfl⟩ ?_
  clear hw
  rintro _ _ H locs ⟨rfl, rfl⟩ hw
  have hw : gW D A s.heap [oX5 h a tr 0, cQ G (a 0) 4 qf, oX2 sa sb la1, cA G (sb 1) zn gg] H locs := hw
  refine g_ifb_eq C 19 dX5_copy_9 (by decide) (fun c_1 => ?_) (fun c_1 => ?_)
  · skip
    refine g_iconst C dX5_copy_19 ?_
    exact g_iret C hr (ws' := [oX5 h a tr 0, cQ G (a 0) 4 qf, oX2 sa sb la1, cA G (sb 1) zn gg]) hw [0, 1, 2, 3] (by decide) rfl ⟨gg, (congrArg iI (by unfold R_cpy C_cpy; (repeat' split) <;> omega)), (by unfold F_cpy C_cpy; (repeat' (split <;> try (exfalso; omega))) <;> first | rfl | (exfalso; omega)), (by first | (rw [if_neg (by unfold C_cpy; (repeat' split) <;> omega)]; done) | (rw [if_pos (by unfold C_cpy; (repeat' split) <;> omega)]; done))⟩ dX5_copy_20
  · skip
    refine g_iload_n C hl 3 rfl rfl dX5_copy_12 ?_
    refine g_callSi C hw (wr := [oX5 h a tr 0, cQ G (a 0) 4 qf, oX2 sa sb la1, cA G (sb 1) zn gg]) (As := [.int (iI oo)]) (rest := []) (m_X5_isSheet l D G (kk := oo) (by first | assumption | omega)) (va_cwS 1 C.1.2.2.2.2 gX5_copy_X5_isSheet rfl rfl rfl (by decide +kernel) ⟨Nat.le_of_ble_eq_true rfl, Nat.le_of_ble_eq_true rfl⟩) [] [0, 1, 2, 3] rfl rfl (by decide) (by decide) (by decide) rfl hl.1 _ rfl (Nat.le_of_ble_eq_true rfl) dX5_copy_13 ⟨Nat.le_of_ble_eq_true rfl, Nat.le_of_ble_eq_true rfl⟩ ?_
    clear hw
    rintro _ _ H locs ⟨rfl, rfl⟩ hw
    have hw : gW D A s.heap [oX5 h a tr 0, cQ G (a 0) 4 qf, oX2 sa sb la1, cA G (sb 1) zn gg] H locs := hw
    refine g_ifb_ne C 21 dX5_copy_16 (by decide) (fun c_2 => ?_) (fun c_2 => ?_)
    · skip
      refine g_aload_n C hl 0 rfl rfl dX5_copy_21 ?_
      refine g_get C hw hin_X5_copy_X5 0 rfl rfl 0 (by decide) lk_X5_copy_13 rfl dX5_copy_22 ?_
      refine g_iload_n C hl 1 rfl rfl dX5_copy_25 ?_
      refine g_aald C hw 1 rfl (by omega) (Nat.le_of_ble_eq_true rfl) dX5_copy_26 ?_
      refine g_topv (show va_rf (qf kk.toNat) = .ref sa by exact rf_s hqn) ?_
      refine g_astore C [(6, .ref sa), (0, .ref h), (1, .int (iI kk)), (2, .int (iI ii)), (3, .int (iI oo)), (4, .int (iI jj)), (5, .int (iI nn))] dX5_copy_27 hl (by decide) rfl ?_
      clear hl
      intro ls hl
      refine g_aload_n C hl 1 rfl rfl dX5_copy_29 ?_
      refine g_get C hw hin_X5_copy_X5 0 rfl rfl 0 (by decide) lk_X5_copy_13 rfl dX5_copy_30 ?_
      refine g_iload_n C hl 4 rfl rfl dX5_copy_33 ?_
      refine g_aald C hw 1 rfl (by omega) (Nat.le_of_ble_eq_true rfl) dX5_copy_34 ?_
      refine g_topv (show va_rf (qf oo.toNat) = .ref sa by exact rf_s hqm) ?_
      refine g_astore C [(7, .ref sa), (6, .ref sa), (0, .ref h), (1, .int (iI kk)), (2, .int (iI ii)), (3, .int (iI oo)), (4, .int (iI jj)), (5, .int (iI nn))] dX5_copy_35 hl (by decide) rfl ?_
      clear hl
      intro ls hl
      refine g_aload C hl 1 rfl dX5_copy_37 ?_
      refine g_ifnullR C dX5_copy_39 ?_
      refine g_aload C hl 0 rfl dX5_copy_42 ?_
      refine g_ifnonnullR C 53 dX5_copy_44 (by decide) ?_
      refine g_aload C hl 1 rfl dX5_copy_53 ?_
      refine g_get C hw hin_X5_copy_X2 2 rfl rfl 0 (by decide) lk_X5_copy_197 rfl dX5_copy_55 ?_
      refine g_aload C hl 0 rfl dX5_copy_58 ?_
      refine g_get C hw hin_X5_copy_X2 2 rfl rfl 0 (by decide) lk_X5_copy_197 rfl dX5_copy_60 ?_
      refine g_icmp_eq C 72 dX5_copy_63 (by decide) (by omega) (by omega) (fun c_3 => ?_) (fun c_3 => ?_)
      · skip
        refine g_aload C hl 1 rfl dX5_copy_72 ?_
        refine g_iload_n C hl 4 rfl rfl dX5_copy_74 ?_
        refine g_iload C hl 7 rfl dX5_copy_75 ?_
        refine g_callVi C hw (wr := [oX5 h a tr 0, cQ G (a 0) 4 qf]) (As := [.int (iI ii), .int (iI nn)]) (rest := []) (m_X2_hasCells l D G (h := sa) (a := sb) (la := la1) (zn := zn) (g := gg) (ii := ii) (nn := nn) (by first | assumption | omega) (by first | assumption | omega) (by first | assumption | omega)) (cwV 2 C.1.2.2.2.2 gX5_copy_X2_hasCells rfl rfl rfl (by decide +kernel) ⟨Nat.le_of_ble_eq_true rfl, Nat.le_of_ble_eq_true rfl⟩) [2, 3] [0, 1] rfl rfl (by decide) (by decide) (by decide) 0 rfl rfl rfl hl.1 _ rfl (Nat.le_of_ble_eq_true rfl) dX5_copy_77 ⟨Nat.le_of_ble_eq_true rfl, Nat.le_of_ble_eq_true rfl⟩ ?_
        clear hw
        rintro _ _ H locs ⟨rfl, rfl⟩ hw
        have hw : gW D A s.heap [oX5 h a tr 0, cQ G (a 0) 4 qf, oX2 sa sb la1, cA G (sb 1) zn gg] H locs := hw
        refine g_ifb_eq C 95 dX5_copy_80 (by decide) (fun c_4 => ?_) (fun c_4 => ?_)
        · skip
          refine g_aload_n C hl 2 rfl rfl dX5_copy_95 ?_
          refine g_iconst C dX5_copy_96 ?_
          refine g_callVi C hw (wr := [cQ G (a 0) 4 qf, oX2 sa sb la1, cA G (sb 1) zn gg]) (As := [.int (iI 3)]) (rest := []) (m_X5_failed l D G (h := h) (a := a) (tr := tr) (lf := 0) (fv := 3) ) (cwV 1 C.1.2.2.2.2 gX5_copy_X5_failed rfl rfl rfl (by decide +kernel) ⟨Nat.le_of_ble_eq_true rfl, Nat.le_of_ble_eq_true rfl⟩) [0] [1, 2, 3] rfl rfl (by decide) (by decide) (by decide) 0 rfl rfl rfl hl.1 _ rfl (Nat.le_of_ble_eq_true rfl) dX5_copy_97 ⟨Nat.le_of_ble_eq_true rfl, Nat.le_of_ble_eq_true rfl⟩ ?_
          clear hw
          rintro _ _ H locs ⟨rfl, rfl⟩ hw
          have hw : gW D A s.heap [cQ G (a 0) 4 qf, oX2 sa sb la1, cA G (sb 1) zn gg, oX5 h a tr 3] H locs := hw
          exact g_iret C hr (ws' := [oX5 h a tr 3, cQ G (a 0) 4 qf, oX2 sa sb la1, cA G (sb 1) zn gg]) hw [3, 0, 1, 2] (by decide) rfl ⟨gg, (congrArg iI (by unfold R_cpy C_cpy; (repeat' split) <;> omega)), (by unfold F_cpy C_cpy; (repeat' (split <;> try (exfalso; omega))) <;> first | rfl | (exfalso; omega)), (by first | (rw [if_neg (by unfold C_cpy; (repeat' split) <;> omega)]; done) | (rw [if_pos (by unfold C_cpy; (repeat' split) <;> omega)]; done))⟩ dX5_copy_100
        · skip
          refine g_aload C hl 0 rfl dX5_copy_83 ?_
          refine g_iload C hl 6 rfl dX5_copy_85 ?_
          refine g_iload C hl 7 rfl dX5_copy_87 ?_
          refine g_callVi C hw (wr := [oX5 h a tr 0, cQ G (a 0) 4 qf]) (As := [.int (iI jj), .int (iI nn)]) (rest := []) (m_X2_hasCells l D G (h := sa) (a := sb) (la := la1) (zn := zn) (g := gg) (ii := jj) (nn := nn) (by first | assumption | omega) (by first | assumption | omega) (by first | assumption | omega)) (cwV 2 C.1.2.2.2.2 gX5_copy_X2_hasCells rfl rfl rfl (by decide +kernel) ⟨Nat.le_of_ble_eq_true rfl, Nat.le_of_ble_eq_true rfl⟩) [2, 3] [0, 1] rfl rfl (by decide) (by decide) (by decide) 0 rfl rfl rfl hl.1 _ rfl (Nat.le_of_ble_eq_true rfl) dX5_copy_89 ⟨Nat.le_of_ble_eq_true rfl, Nat.le_of_ble_eq_true rfl⟩ ?_
          clear hw
          rintro _ _ H locs ⟨rfl, rfl⟩ hw
          have hw : gW D A s.heap [oX5 h a tr 0, cQ G (a 0) 4 qf, oX2 sa sb la1, cA G (sb 1) zn gg] H locs := hw
          refine g_ifb_ne C 101 dX5_copy_92 (by decide) (fun c_5 => ?_) (fun c_5 => ?_)
          · skip
            refine g_aload C hl 1 rfl dX5_copy_101 ?_
            refine g_get C hw hin_X5_copy_X2 2 rfl rfl 1 (by decide) lk_X5_copy_71 rfl dX5_copy_103 ?_
            refine g_iload_n C hl 4 rfl rfl dX5_copy_106 ?_
            refine g_aload C hl 0 rfl dX5_copy_107 ?_
            refine g_get C hw hin_X5_copy_X2 2 rfl rfl 1 (by decide) lk_X5_copy_71 rfl dX5_copy_109 ?_
            refine g_iload C hl 6 rfl dX5_copy_112 ?_
            refine g_iload C hl 7 rfl dX5_copy_114 ?_
            refine g_acopy C hw [oX5 h a tr 0, cQ G (a 0) 4 qf, oX2 sa sb la1, cA G (sb 1) zn (cpI gg gg ii jj nn)] hl.1 (List.mem_cons_of_mem _ (List.mem_append_left _ (List.mem_append_left _ (List.mem_append_left _ (List.mem_of_getElem? (i := 4) rfl))))) (List.mem_cons_of_mem _ (List.mem_append_left _ (List.mem_append_left _ (List.mem_append_left _ (List.mem_of_getElem? (i := 5) rfl))))) (List.mem_cons_of_mem _ (List.mem_append_left _ (List.mem_append_left _ (List.mem_append_left _ (List.mem_of_getElem? (i := 6) rfl))))) (List.mem_cons_of_mem _ (List.mem_append_left _ (List.mem_append_left _ (List.mem_append_left _ (List.mem_of_getElem? (i := 7) rfl))))) 3 3 rfl rfl (by omega) (by omega) (Nat.le_of_ble_eq_true rfl) (Nat.le_of_ble_eq_true rfl) rfl dX5_copy_116 ?_
            clear hw
            intro H locs hw
            refine g_iload C hl 7 rfl dX5_copy_119 ?_
            exact g_iret C hr (ws' := [oX5 h a tr 0, cQ G (a 0) 4 qf, oX2 sa sb la1, cA G (sb 1) zn (cpI gg gg ii jj nn)]) hw [0, 1, 2, 3] (by decide) rfl ⟨(cpI gg gg ii jj nn), (congrArg iI (by unfold R_cpy C_cpy; (repeat' split) <;> omega)), (by unfold F_cpy C_cpy; (repeat' (split <;> try (exfalso; omega))) <;> first | rfl | (exfalso; omega)), (by first | (rw [if_neg (by unfold C_cpy; (repeat' split) <;> omega)]; done) | (rw [if_pos (by unfold C_cpy; (repeat' split) <;> omega)]; done))⟩ dX5_copy_121
          · skip
            refine g_aload_n C hl 2 rfl rfl dX5_copy_95 ?_
            refine g_iconst C dX5_copy_96 ?_
            refine g_callVi C hw (wr := [cQ G (a 0) 4 qf, oX2 sa sb la1, cA G (sb 1) zn gg]) (As := [.int (iI 3)]) (rest := []) (m_X5_failed l D G (h := h) (a := a) (tr := tr) (lf := 0) (fv := 3) ) (cwV 1 C.1.2.2.2.2 gX5_copy_X5_failed rfl rfl rfl (by decide +kernel) ⟨Nat.le_of_ble_eq_true rfl, Nat.le_of_ble_eq_true rfl⟩) [0] [1, 2, 3] rfl rfl (by decide) (by decide) (by decide) 0 rfl rfl rfl hl.1 _ rfl (Nat.le_of_ble_eq_true rfl) dX5_copy_97 ⟨Nat.le_of_ble_eq_true rfl, Nat.le_of_ble_eq_true rfl⟩ ?_
            clear hw
            rintro _ _ H locs ⟨rfl, rfl⟩ hw
            have hw : gW D A s.heap [cQ G (a 0) 4 qf, oX2 sa sb la1, cA G (sb 1) zn gg, oX5 h a tr 3] H locs := hw
            exact g_iret C hr (ws' := [oX5 h a tr 3, cQ G (a 0) 4 qf, oX2 sa sb la1, cA G (sb 1) zn gg]) hw [3, 0, 1, 2] (by decide) rfl ⟨gg, (congrArg iI (by unfold R_cpy C_cpy; (repeat' split) <;> omega)), (by unfold F_cpy C_cpy; (repeat' (split <;> try (exfalso; omega))) <;> first | rfl | (exfalso; omega)), (by first | (rw [if_neg (by unfold C_cpy; (repeat' split) <;> omega)]; done) | (rw [if_pos (by unfold C_cpy; (repeat' split) <;> omega)]; done))⟩ dX5_copy_100
      · skip
        refine g_aload_n C hl 2 rfl rfl dX5_copy_66 ?_
        refine g_iconst C dX5_copy_67 ?_
        refine g_callVi C hw (wr := [cQ G (a 0) 4 qf, oX2 sa sb la1, cA G (sb 1) zn gg]) (As := [.int (iI 2)]) (rest := []) (m_X5_failed l D G (h := h) (a := a) (tr := tr) (lf := 0) (fv := 2) ) (cwV 1 C.1.2.2.2.2 gX5_copy_X5_failed rfl rfl rfl (by decide +kernel) ⟨Nat.le_of_ble_eq_true rfl, Nat.le_of_ble_eq_true rfl⟩) [0] [1, 2, 3] rfl rfl (by decide) (by decide) (by decide) 0 rfl rfl rfl hl.1 _ rfl (Nat.le_of_ble_eq_true rfl) dX5_copy_68 ⟨Nat.le_of_ble_eq_true rfl, Nat.le_of_ble_eq_true rfl⟩ ?_
        clear hw
        rintro _ _ H locs ⟨rfl, rfl⟩ hw
        have hw : gW D A s.heap [cQ G (a 0) 4 qf, oX2 sa sb la1, cA G (sb 1) zn gg, oX5 h a tr 2] H locs := hw
        exact g_iret C hr (ws' := [oX5 h a tr 2, cQ G (a 0) 4 qf, oX2 sa sb la1, cA G (sb 1) zn gg]) hw [3, 0, 1, 2] (by decide) rfl ⟨gg, (congrArg iI (by unfold R_cpy C_cpy; (repeat' split) <;> omega)), (by unfold F_cpy C_cpy; (repeat' (split <;> try (exfalso; omega))) <;> first | rfl | (exfalso; omega)), (by first | (rw [if_neg (by unfold C_cpy; (repeat' split) <;> omega)]; done) | (rw [if_pos (by unfold C_cpy; (repeat' split) <;> omega)]; done))⟩ dX5_copy_71
    · skip
      refine g_iconst C dX5_copy_19 ?_
      exact g_iret C hr (ws' := [oX5 h a tr 0, cQ G (a 0) 4 qf, oX2 sa sb la1, cA G (sb 1) zn gg]) hw [0, 1, 2, 3] (by decide) rfl ⟨gg, (congrArg iI (by unfold R_cpy C_cpy; (repeat' split) <;> omega)), (by unfold F_cpy C_cpy; (repeat' (split <;> try (exfalso; omega))) <;> first | rfl | (exfalso; omega)), (by first | (rw [if_neg (by unfold C_cpy; (repeat' split) <;> omega)]; done) | (rw [if_pos (by unfold C_cpy; (repeat' split) <;> omega)]; done))⟩ dX5_copy_20
