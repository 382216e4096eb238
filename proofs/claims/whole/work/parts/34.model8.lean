set_option maxRecDepth 20000 in
theorem hin_X6_codeAt_X6 : ∀ w ∈ u_ws RX6 TX6 30, w ∈ wsX6_codeAt := by
  intro w h
  exact List.mem_cons_of_mem _ (List.mem_append_right _ (h))
set_option maxRecDepth 20000 in
theorem lk_X6_codeAt_82 : Cond.fieldLink RX6 82 (TX6 4).1 (TX6 4).2.1 (TX6 4).2.2.1 ∈ wsX6_codeAt := List.mem_cons_of_mem _ (List.mem_append_left _ (List.mem_of_getElem? (i := 0) rfl))
set_option maxRecDepth 20000 in
theorem lk_X6_codeAt_59 : Cond.fieldLink RX6 59 (TX6 27).1 (TX6 27).2.1 (TX6 27).2.2.1 ∈ wsX6_codeAt := List.mem_cons_of_mem _ (List.mem_append_left _ (List.mem_of_getElem? (i := 1) rfl))
set_option maxRecDepth 100000 in
set_option maxHeartbeats 8000000 in
theorem m_X6_codeAt (l : Launch) (D : va_G) (G : gT) (h : Nat) (a : Nat → Nat) (ft : Int) (pn : Int) (ra : Int) (rm : Int) (rP : Int) (rS : Int) (rD : Int) (rQ : Int) (al : Int) (rw : Int) (rc : Int) (tr : Int) (ce : Int → Int) (fr : Int) (nn : Int) (hfr : 0 ≤ fr ∧ fr + nn ≤ 240) (hnn : 0 ≤ nn ∧ nn ≤ 60) (hra : 0 ≤ ra ∧ ra ≤ nn + 1) : gMi l yX6_codeAt wsX6_codeAt ({ frames := 0, cells := 0, slots := 0, locals := 0 }) D G [.ref h, .int (iI fr), .int (iI nn)] [oX6 h a ft pn ra rm rP rS rD rQ al rw rc tr, cA G (a 27) 240 ce] 0 0 (fun (r : Int32) (w : va_W) => r = (iI ((cdF ce fr nn) ra)) ∧ w = [oX6 h a ft pn ra rm rP rS rD rQ al rw rc tr, cA G (a 27) 240 ce]) := by
  refine g_start_i (cc := cX6_codeAt) (nL := 3) (own := RX6) (ret := some .int) (by decide +kernel) rfl rfl (Nat.le_of_ble_eq_true rfl) ?_
  intro p e s m below meth c A ls C hr hnm hw hl
  have hl : lv_has ls 3 [(0, .ref h), (1, .int (iI fr)), (2, .int (iI nn))] := hl
  refine g_aload_n C hl 0 rfl rfl dX6_codeAt_0 ?_
  refine g_get C hw hin_X6_codeAt_X6 0 rfl rfl 4 (by decide) lk_X6_codeAt_82 rfl dX6_codeAt_1 ?_
  refine g_iload_n C hl 2 rfl rfl dX6_codeAt_4 ?_
  refine g_icmp_ge C 22 dX6_codeAt_5 (by decide) (by omega) (by omega) (fun c_1 => ?_) (fun c_1 => ?_)
  · skip
    refine g_bipush C dX6_codeAt_22 (by decide) ?_
    exact g_iret C hr (ws' := [oX6 h a ft pn ra rm rP rS rD rQ al rw rc tr, cA G (a 27) 240 ce]) hw [0, 1] (by decide) rfl ⟨(congrArg iI (by unfold cdF; (repeat' split) <;> omega)), rfl⟩ dX6_codeAt_24
  · skip
    refine g_aload_n C hl 0 rfl rfl dX6_codeAt_8 ?_
    refine g_get C hw hin_X6_codeAt_X6 0 rfl rfl 27 (by decide) lk_X6_codeAt_59 rfl dX6_codeAt_9 ?_
    refine g_iload_n C hl 1 rfl rfl dX6_codeAt_12 ?_
    refine g_aload_n C hl 0 rfl rfl dX6_codeAt_13 ?_
    refine g_get C hw hin_X6_codeAt_X6 0 rfl rfl 4 (by decide) lk_X6_codeAt_82 rfl dX6_codeAt_14 ?_
    refine g_iadd C dX6_codeAt_17 ?_
    refine g_iald C hw 1 rfl (by omega) (Nat.le_of_ble_eq_true rfl) dX6_codeAt_18 ?_
    refine g_goto C 24 dX6_codeAt_19 (by decide) ?_
    exact g_iret C hr (ws' := [oX6 h a ft pn ra rm rP rS rD rQ al rw rc tr, cA G (a 27) 240 ce]) hw [0, 1] (by decide) rfl ⟨(congrArg iI (by unfold cdF; (repeat' split) <;> omega)), rfl⟩ dX6_codeAt_24

set_option maxRecDepth 20000 in
theorem hin_X6_readsNumber_X6 : ∀ w ∈ u_ws RX6 TX6 30, w ∈ wsX6_readsNumber := by
  intro w h
  exact List.mem_cons_of_mem _ (List.mem_append_right _ (h))
set_option maxRecDepth 20000 in
theorem lk_X6_readsNumber_82 : Cond.fieldLink RX6 82 (TX6 4).1 (TX6 4).2.1 (TX6 4).2.2.1 ∈ wsX6_readsNumber := List.mem_cons_of_mem _ (List.mem_append_left _ (List.mem_of_getElem? (i := 0) rfl))
set_option maxRecDepth 20000 in
theorem cn_X6_readsNumber_89 : Jvm.Cond.constantLong RX6 89 (9) ∈ wsX6_readsNumber := List.mem_cons_of_mem _ (List.mem_append_left _ (List.mem_of_getElem? (i := 1) rfl))
set_option maxRecDepth 20000 in
theorem lk_X6_readsNumber_19 : Cond.fieldLink RX6 19 (TX6 7).1 (TX6 7).2.1 (TX6 7).2.2.1 ∈ wsX6_readsNumber := List.mem_cons_of_mem _ (List.mem_append_left _ (List.mem_of_getElem? (i := 2) rfl))
set_option maxRecDepth 20000 in
theorem lk_X6_readsNumber_91 : Cond.fieldLink RX6 91 (TX6 5).1 (TX6 5).2.1 (TX6 5).2.2.1 ∈ wsX6_readsNumber := List.mem_cons_of_mem _ (List.mem_append_left _ (List.mem_of_getElem? (i := 3) rfl))
set_option maxRecDepth 100000 in
set_option maxHeartbeats 8000000 in
theorem m_X6_readsNumber (l : Launch) (D : va_G) (G : gT) (h : Nat) (a : Nat → Nat) (ft : Int) (pn : Int) (ra : Int) (rm : Int) (rP : Int) (rS : Int) (rD : Int) (rQ : Int) (al : Int) (rw : Int) (rc : Int) (tr : Int) (ce : Int → Int) (rt : Int → Int) (fr : Int) (nn : Int) (kk : Int) (hfr : 0 ≤ fr ∧ fr + nn ≤ 240) (hnn : 0 ≤ nn ∧ nn ≤ 60) (hce : ∀ j, -2147483648 ≤ ce j ∧ ce j ≤ 2147483647) (hra : 0 ≤ ra ∧ ra ≤ nn) (hrm : 0 ≤ rm ∧ rm ≤ 3) (hkk : 0 ≤ kk ∧ kk ≤ 2) : gMi l yX6_readsNumber wsX6_readsNumber ({ frames := 1, cells := 0, slots := 0, locals := 25 }) D G [.ref h, .int (iI fr), .int (iI nn), .int (iI kk)] [oX6 h a ft pn ra rm rP rS rD rQ al rw rc tr, cA G (a 7) 12 rt, cA G (a 27) 240 ce] 0 0 (fun (r : Int32) (w : va_W) => ∃ (ok : Int) (ra2 : Int) (rt2 : Int → Int), r = (iI ok) ∧ w = [oX6 h a ft pn ra2 rm rP rS rD rQ al rw rc tr, cA G (a 7) 12 rt2, cA G (a 27) 240 ce] ∧ (nuP (cdF ce fr nn) nn ra rm kk rt ok ra2 rt2)) := by
  refine g_start_i (cc := cX6_readsNumber) (nL := 6) (own := RX6) (ret := some .boolean) (by decide +kernel) rfl rfl (Nat.le_of_ble_eq_true rfl) ?_
  intro p e s m below meth c A ls C hr hnm hw hl
  have hl : lv_has ls 6 [(0, .ref h), (1, .int (iI fr)), (2, .int (iI nn)), (3, .int (iI kk))] := hl
  have hcb : ∀ x, -2147483648 ≤ cdF ce fr nn x ∧ cdF ce fr nn x ≤ 2147483647 := by
    intro x
    have := hce (fr + x)
    unfold cdF
    split <;> omega
  have hc0 := hcb ra
  have hc1 := hcb (ra + 1)
  have hcn : ∀ x, nn ≤ x → cdF ce fr nn x = -9 := fun x hx => if_neg (by omega)
  have hw0 := wr48_p hc0
  have hw2 := wr48_p hc1
  refine g_aload_n C hl 0 rfl rfl dX6_readsNumber_0 ?_
  refine g_iload_n C hl 1 rfl rfl dX6_readsNumber_1 ?_
  refine g_iload_n C hl 2 rfl rfl dX6_readsNumber_2 ?_
  refine g_callVi C hw (wr := [cA G (a 7) 12 rt]) (As := [.int (iI fr), .int (iI nn)]) (rest := []) (m_X6_codeAt l D G (h := h) (a := a) (ft := ft) (pn := pn) (ra := ra) (rm := rm) (rP := rP) (rS := rS) (rD := rD) (rQ := rQ) (al := al) (rw := rw) (rc := rc) (tr := tr) (ce := ce) (fr := fr) (nn := nn) (by first | assumption | omega) (by first | assumption | omega) (by first | assumption | omega)) (cwV 2 C.1.2.2.2.2 gX6_readsNumber_X6_codeAt rfl rfl rfl (by decide +kernel) ⟨Nat.le_of_ble_eq_true rfl, Nat.le_of_ble_eq_true rfl⟩) [0, 2] [1] rfl rfl (by decide) (by decide) (by decide) 0 rfl rfl rfl hl.1 _ rfl (Nat.le_of_ble_eq_true rfl) dX6_readsNumber_3 ⟨Nat.le_of_ble_eq_true rfl, Nat.le_of_ble_eq_true rfl⟩ ?_
  clear hw
  rintro _ _ H locs ⟨rfl, rfl⟩ hw
  have hw : gW D A s.heap [cA G (a 7) 12 rt, oX6 h a ft pn ra rm rP rS rD rQ al rw rc tr, cA G (a 27) 240 ce] H locs := hw
  refine g_bipush C dX6_readsNumber_6 (by decide) ?_
  refine g_icmp_ne C 15 dX6_readsNumber_8 (by decide) (by omega) (by omega) (fun c_1 => ?_) (fun c_1 => ?_)
  · skip
    refine g_iconst C dX6_readsNumber_15 ?_
    refine g_istore C [(4, .int (iI 0)), (0, .ref h), (1, .int (iI fr)), (2, .int (iI nn)), (3, .int (iI kk))] dX6_readsNumber_16 hl (by decide) rfl ?_
    clear hl
    intro ls hl
    refine g_aload_n C hl 1 rfl rfl dX6_readsNumber_18 ?_
    refine g_dup C dX6_readsNumber_19 rfl ?_
    refine g_get C hw hin_X6_readsNumber_X6 1 rfl rfl 4 (by decide) lk_X6_readsNumber_82 rfl dX6_readsNumber_20 ?_
    refine g_iload C hl 0 rfl dX6_readsNumber_23 ?_
    refine g_if_eq C 32 dX6_readsNumber_25 (by decide) (by decide) (fun c_2 => ?_) (fun c_2 => absurd c_2 (by decide))
    refine g_iconst C dX6_readsNumber_32 ?_
    refine g_iadd C dX6_readsNumber_33 ?_
    refine g_nI (show (ra + 0 : Int) = ra by omega) ?_
    refine g_put C hw [cA G (a 7) 12 rt, oX6 h a ft pn ra rm rP rS rD rQ al rw rc tr, cA G (a 27) 240 ce] hin_X6_readsNumber_X6 tyX6 tyX6_ok nmX6 1 rfl rfl 4 (by decide) lk_X6_readsNumber_82 rfl rfl rfl rfl (Nat.le_of_ble_eq_true rfl) rfl dX6_readsNumber_34 ?_
    clear hw
    intro H locs hw
    refine g_aload_n C hl 1 rfl rfl dX6_readsNumber_37 ?_
    refine g_iload_n C hl 2 rfl rfl dX6_readsNumber_38 ?_
    refine g_iload_n C hl 3 rfl rfl dX6_readsNumber_39 ?_
    refine g_callVi C hw (wr := [cA G (a 7) 12 rt]) (As := [.int (iI fr), .int (iI nn)]) (rest := []) (m_X6_codeAt l D G (h := h) (a := a) (ft := ft) (pn := pn) (ra := ra) (rm := rm) (rP := rP) (rS := rS) (rD := rD) (rQ := rQ) (al := al) (rw := rw) (rc := rc) (tr := tr) (ce := ce) (fr := fr) (nn := nn) (by first | assumption | omega) (by first | assumption | omega) (by first | assumption | omega)) (cwV 2 C.1.2.2.2.2 gX6_readsNumber_X6_codeAt rfl rfl rfl (by decide +kernel) ⟨Nat.le_of_ble_eq_true rfl, Nat.le_of_ble_eq_true rfl⟩) [1, 2] [0] rfl rfl (by decide) (by decide) (by decide) 0 rfl rfl rfl hl.1 _ rfl (Nat.le_of_ble_eq_true rfl) dX6_readsNumber_40 ⟨Nat.le_of_ble_eq_true rfl, Nat.le_of_ble_eq_true rfl⟩ ?_
    clear hw
    rintro _ _ H locs ⟨rfl, rfl⟩ hw
    have hw : gW D A s.heap [cA G (a 7) 12 rt, oX6 h a ft pn ra rm rP rS rD rQ al rw rc tr, cA G (a 27) 240 ce] H locs := hw
    refine g_bipush C dX6_readsNumber_43 (by decide) ?_
    refine g_isub C dX6_readsNumber_45 ?_
    refine g_topi (show ((iI (((cdF ce fr nn) ra) - 48)) : Int32) = (iI (wr48 ((cdF ce fr nn) ra))) by exact wr48_i _) ?_
    refine g_istore C [(5, .int (iI (wr48 ((cdF ce fr nn) ra)))), (4, .int (iI 0)), (0, .ref h), (1, .int (iI fr)), (2, .int (iI nn)), (3, .int (iI kk))] dX6_readsNumber_46 hl (by decide) rfl ?_
    clear hl
    intro ls hl
    refine g_iload C hl 0 rfl dX6_readsNumber_48 ?_
    refine g_i2l C dX6_readsNumber_50 (by omega) ?_
    refine g_lconst0 C dX6_readsNumber_51 ?_
    refine g_ldc2 C (9) cn_X6_readsNumber_89 (by decide +kernel) dX6_readsNumber_52 ?_
    refine g_callSi C hw (wr := [cA G (a 7) 12 rt, oX6 h a ft pn ra rm rP rS rD rQ al rw rc tr, cA G (a 27) 240 ce]) (As := [.long (lI (wr48 ((cdF ce fr nn) ra))), .long (lI (0)), .long (lI (9))]) (rest := []) (m_X6_in l D G (va := (wr48 ((cdF ce fr nn) ra))) (vb := 0) (vc := 9) (by first | assumption | omega) (by first | assumption | omega) (by first | assumption | omega)) (va_cwS 3 C.1.2.2.2.2 gX6_readsNumber_X6_in rfl rfl rfl (by decide +kernel) ⟨Nat.le_of_ble_eq_true rfl, Nat.le_of_ble_eq_true rfl⟩) [] [0, 1, 2] rfl rfl (by decide) (by decide) (by decide) rfl hl.1 _ rfl (Nat.le_of_ble_eq_true rfl) dX6_readsNumber_55 ⟨Nat.le_of_ble_eq_true rfl, Nat.le_of_ble_eq_true rfl⟩ ?_
    clear hw
    rintro _ _ H locs ⟨rfl, rfl⟩ hw
    have hw : gW D A s.heap [cA G (a 7) 12 rt, oX6 h a ft pn ra rm rP rS rD rQ al rw rc tr, cA G (a 27) 240 ce] H locs := hw
    refine g_ifb_ne C 63 dX6_readsNumber_58 (by decide) (fun c_3 => ?_) (fun c_3 => ?_)
    · skip
      refine g_aload_n C hl 2 rfl rfl dX6_readsNumber_63 ?_
      refine g_get C hw hin_X6_readsNumber_X6 1 rfl rfl 7 (by decide) lk_X6_readsNumber_19 rfl dX6_readsNumber_64 ?_
      refine g_iconst C dX6_readsNumber_67 ?_
      refine g_aload_n C hl 2 rfl rfl dX6_readsNumber_68 ?_
      refine g_get C hw hin_X6_readsNumber_X6 1 rfl rfl 5 (by decide) lk_X6_readsNumber_91 rfl dX6_readsNumber_69 ?_
      refine g_imul C dX6_readsNumber_72 ?_
      refine g_iload_n C hl 5 rfl rfl dX6_readsNumber_73 ?_
      refine g_iadd C dX6_readsNumber_74 ?_
      refine g_iload C hl 1 rfl dX6_readsNumber_75 ?_
      refine g_if_eq C 86 dX6_readsNumber_77 (by decide) (by decide) (fun c_4 => ?_) (fun c_4 => absurd c_4 (by decide))
      refine g_iload C hl 0 rfl dX6_readsNumber_86 ?_
      refine g_nI (show (wr48 ((cdF ce fr nn) ra) : Int) = ((cdF ce fr nn) ra) - 48 by omega) ?_
      refine g_iast C hw [cA G (a 7) 12 (up rt ((3 * rm) + kk) (((cdF ce fr nn) ra) - 48)), oX6 h a ft pn ra rm rP rS rD rQ al rw rc tr, cA G (a 27) 240 ce] 0 rfl (by omega) (Nat.le_of_ble_eq_true rfl) rfl dX6_readsNumber_88 ?_
      clear hw
      intro H locs hw
      refine g_aload_n C hl 2 rfl rfl dX6_readsNumber_89 ?_
      refine g_dup C dX6_readsNumber_90 rfl ?_
      refine g_get C hw hin_X6_readsNumber_X6 1 rfl rfl 4 (by decide) lk_X6_readsNumber_82 rfl dX6_readsNumber_91 ?_
      refine g_iconst C dX6_readsNumber_94 ?_
      refine g_iadd C dX6_readsNumber_95 ?_
      refine g_put C hw [cA G (a 7) 12 (up rt ((3 * rm) + kk) (((cdF ce fr nn) ra) - 48)), oX6 h a ft pn (ra + 1) rm rP rS rD rQ al rw rc tr, cA G (a 27) 240 ce] hin_X6_readsNumber_X6 tyX6 tyX6_ok nmX6 1 rfl rfl 4 (by decide) lk_X6_readsNumber_82 rfl rfl rfl rfl (Nat.le_of_ble_eq_true rfl) rfl dX6_readsNumber_96 ?_
      clear hw
      intro H locs hw
      refine g_iconst C dX6_readsNumber_99 ?_
      exact g_zret C hr (ws' := [oX6 h a ft pn (ra + 1) rm rP rS rD rQ al rw rc tr, cA G (a 7) 12 (up rt ((3 * rm) + kk) (((cdF ce fr nn) ra) - 48)), cA G (a 27) 240 ce]) hw [1, 0, 2] (by decide) rfl (Or.inr rfl) ⟨1, (ra + 1), (up rt ((3 * rm) + kk) (((cdF ce fr nn) ra) - 48)), rfl, rfl, (by have hq0 := hcn ra; have hq1 := hcn (ra + 1); first | exact pn_A (by omega) (by omega) (by omega) | exact pn_C (by omega) (by omega) (by omega) | exact pn_B (by omega) (by omega) (by omega) | exact pn_D (by omega) (by omega) (by omega))⟩ dX6_readsNumber_100
    · skip
      refine g_iconst C dX6_readsNumber_61 ?_
      exact g_zret C hr (ws' := [oX6 h a ft pn ra rm rP rS rD rQ al rw rc tr, cA G (a 7) 12 rt, cA G (a 27) 240 ce]) hw [1, 0, 2] (by decide) rfl (Or.inl rfl) ⟨0, ra, rt, rfl, rfl, (by have hq0 := hcn ra; have hq1 := hcn (ra + 1); first | exact pn_A (by omega) (by omega) (by omega) | exact pn_C (by omega) (by omega) (by omega) | exact pn_B (by omega) (by omega) (by omega) | exact pn_D (by omega) (by omega) (by omega))⟩ dX6_readsNumber_62
  · skip
    refine g_iconst C dX6_readsNumber_11 ?_
    refine g_goto C 16 dX6_readsNumber_12 (by decide) ?_
    refine g_istore C [(4, .int (iI 1)), (0, .ref h), (1, .int (iI fr)), (2, .int (iI nn)), (3, .int (iI kk))] dX6_readsNumber_16 hl (by decide) rfl ?_
    clear hl
    intro ls hl
    refine g_aload_n C hl 1 rfl rfl dX6_readsNumber_18 ?_
    refine g_dup C dX6_readsNumber_19 rfl ?_
    refine g_get C hw hin_X6_readsNumber_X6 1 rfl rfl 4 (by decide) lk_X6_readsNumber_82 rfl dX6_readsNumber_20 ?_
    refine g_iload C hl 0 rfl dX6_readsNumber_23 ?_
    refine g_if_eq C 32 dX6_readsNumber_25 (by decide) (by decide) (fun c_5 => absurd c_5 (by decide)) (fun c_5 => ?_)
    refine g_iconst C dX6_readsNumber_28 ?_
    refine g_goto C 33 dX6_readsNumber_29 (by decide) ?_
    refine g_iadd C dX6_readsNumber_33 ?_
    refine g_put C hw [cA G (a 7) 12 rt, oX6 h a ft pn (ra + 1) rm rP rS rD rQ al rw rc tr, cA G (a 27) 240 ce] hin_X6_readsNumber_X6 tyX6 tyX6_ok nmX6 1 rfl rfl 4 (by decide) lk_X6_readsNumber_82 rfl rfl rfl rfl (Nat.le_of_ble_eq_true rfl) rfl dX6_readsNumber_34 ?_
    clear hw
    intro H locs hw
    refine g_aload_n C hl 1 rfl rfl dX6_readsNumber_37 ?_
    refine g_iload_n C hl 2 rfl rfl dX6_readsNumber_38 ?_
    refine g_iload_n C hl 3 rfl rfl dX6_readsNumber_39 ?_
    refine g_callVi C hw (wr := [cA G (a 7) 12 rt]) (As := [.int (iI fr), .int (iI nn)]) (rest := []) (m_X6_codeAt l D G (h := h) (a := a) (ft := ft) (pn := pn) (ra := (ra + 1)) (rm := rm) (rP := rP) (rS := rS) (rD := rD) (rQ := rQ) (al := al) (rw := rw) (rc := rc) (tr := tr) (ce := ce) (fr := fr) (nn := nn) (by first | assumption | omega) (by first | assumption | omega) (by first | assumption | omega)) (cwV 2 C.1.2.2.2.2 gX6_readsNumber_X6_codeAt rfl rfl rfl (by decide +kernel) ⟨Nat.le_of_ble_eq_true rfl, Nat.le_of_ble_eq_true rfl⟩) [1, 2] [0] rfl rfl (by decide) (by decide) (by decide) 0 rfl rfl rfl hl.1 _ rfl (Nat.le_of_ble_eq_true rfl) dX6_readsNumber_40 ⟨Nat.le_of_ble_eq_true rfl, Nat.le_of_ble_eq_true rfl⟩ ?_
    clear hw
    rintro _ _ H locs ⟨rfl, rfl⟩ hw
    have hw : gW D A s.heap [cA G (a 7) 12 rt, oX6 h a ft pn (ra + 1) rm rP rS rD rQ al rw rc tr, cA G (a 27) 240 ce] H locs := hw
    refine g_bipush C dX6_readsNumber_43 (by decide) ?_
    refine g_isub C dX6_readsNumber_45 ?_
    refine g_topi (show ((iI (((cdF ce fr nn) (ra + 1)) - 48)) : Int32) = (iI (wr48 ((cdF ce fr nn) (ra + 1)))) by exact wr48_i _) ?_
    refine g_istore C [(5, .int (iI (wr48 ((cdF ce fr nn) (ra + 1))))), (4, .int (iI 1)), (0, .ref h), (1, .int (iI fr)), (2, .int (iI nn)), (3, .int (iI kk))] dX6_readsNumber_46 hl (by decide) rfl ?_
    clear hl
    intro ls hl
    refine g_iload C hl 0 rfl dX6_readsNumber_48 ?_
    refine g_i2l C dX6_readsNumber_50 (by omega) ?_
    refine g_lconst0 C dX6_readsNumber_51 ?_
    refine g_ldc2 C (9) cn_X6_readsNumber_89 (by decide +kernel) dX6_readsNumber_52 ?_
    refine g_callSi C hw (wr := [cA G (a 7) 12 rt, oX6 h a ft pn (ra + 1) rm rP rS rD rQ al rw rc tr, cA G (a 27) 240 ce]) (As := [.long (lI (wr48 ((cdF ce fr nn) (ra + 1)))), .long (lI (0)), .long (lI (9))]) (rest := []) (m_X6_in l D G (va := (wr48 ((cdF ce fr nn) (ra + 1)))) (vb := 0) (vc := 9) (by first | assumption | omega) (by first | assumption | omega) (by first | assumption | omega)) (va_cwS 3 C.1.2.2.2.2 gX6_readsNumber_X6_in rfl rfl rfl (by decide +kernel) ⟨Nat.le_of_ble_eq_true rfl, Nat.le_of_ble_eq_true rfl⟩) [] [0, 1, 2] rfl rfl (by decide) (by decide) (by decide) rfl hl.1 _ rfl (Nat.le_of_ble_eq_true rfl) dX6_readsNumber_55 ⟨Nat.le_of_ble_eq_true rfl, Nat.le_of_ble_eq_true rfl⟩ ?_
    clear hw
    rintro _ _ H locs ⟨rfl, rfl⟩ hw
    have hw : gW D A s.heap [cA G (a 7) 12 rt, oX6 h a ft pn (ra + 1) rm rP rS rD rQ al rw rc tr, cA G (a 27) 240 ce] H locs := hw
    refine g_ifb_ne C 63 dX6_readsNumber_58 (by decide) (fun c_6 => ?_) (fun c_6 => ?_)
    · skip
      refine g_aload_n C hl 2 rfl rfl dX6_readsNumber_63 ?_
      refine g_get C hw hin_X6_readsNumber_X6 1 rfl rfl 7 (by decide) lk_X6_readsNumber_19 rfl dX6_readsNumber_64 ?_
      refine g_iconst C dX6_readsNumber_67 ?_
      refine g_aload_n C hl 2 rfl rfl dX6_readsNumber_68 ?_
      refine g_get C hw hin_X6_readsNumber_X6 1 rfl rfl 5 (by decide) lk_X6_readsNumber_91 rfl dX6_readsNumber_69 ?_
      refine g_imul C dX6_readsNumber_72 ?_
      refine g_iload_n C hl 5 rfl rfl dX6_readsNumber_73 ?_
      refine g_iadd C dX6_readsNumber_74 ?_
      refine g_iload C hl 1 rfl dX6_readsNumber_75 ?_
      refine g_if_eq C 86 dX6_readsNumber_77 (by decide) (by decide) (fun c_7 => absurd c_7 (by decide)) (fun c_7 => ?_)
      refine g_iload C hl 0 rfl dX6_readsNumber_80 ?_
      refine g_ineg C dX6_readsNumber_82 ?_
      refine g_goto C 88 dX6_readsNumber_83 (by decide) ?_
      refine g_nI (show (-(wr48 ((cdF ce fr nn) (ra + 1))) : Int) = -(((cdF ce fr nn) (ra + 1)) - 48) by omega) ?_
      refine g_iast C hw [cA G (a 7) 12 (up rt ((3 * rm) + kk) (-(((cdF ce fr nn) (ra + 1)) - 48))), oX6 h a ft pn (ra + 1) rm rP rS rD rQ al rw rc tr, cA G (a 27) 240 ce] 0 rfl (by omega) (Nat.le_of_ble_eq_true rfl) rfl dX6_readsNumber_88 ?_
      clear hw
      intro H locs hw
      refine g_aload_n C hl 2 rfl rfl dX6_readsNumber_89 ?_
      refine g_dup C dX6_readsNumber_90 rfl ?_
      refine g_get C hw hin_X6_readsNumber_X6 1 rfl rfl 4 (by decide) lk_X6_readsNumber_82 rfl dX6_readsNumber_91 ?_
      refine g_iconst C dX6_readsNumber_94 ?_
      refine g_iadd C dX6_readsNumber_95 ?_
      refine g_put C hw [cA G (a 7) 12 (up rt ((3 * rm) + kk) (-(((cdF ce fr nn) (ra + 1)) - 48))), oX6 h a ft pn ((ra + 1) + 1) rm rP rS rD rQ al rw rc tr, cA G (a 27) 240 ce] hin_X6_readsNumber_X6 tyX6 tyX6_ok nmX6 1 rfl rfl 4 (by decide) lk_X6_readsNumber_82 rfl rfl rfl rfl (Nat.le_of_ble_eq_true rfl) rfl dX6_readsNumber_96 ?_
      clear hw
      intro H locs hw
      refine g_iconst C dX6_readsNumber_99 ?_
      exact g_zret C hr (ws' := [oX6 h a ft pn ((ra + 1) + 1) rm rP rS rD rQ al rw rc tr, cA G (a 7) 12 (up rt ((3 * rm) + kk) (-(((cdF ce fr nn) (ra + 1)) - 48))), cA G (a 27) 240 ce]) hw [1, 0, 2] (by decide) rfl (Or.inr rfl) ⟨1, ((ra + 1) + 1), (up rt ((3 * rm) + kk) (-(((cdF ce fr nn) (ra + 1)) - 48))), rfl, rfl, (by have hq0 := hcn ra; have hq1 := hcn (ra + 1); first | exact pn_A (by omega) (by omega) (by omega) | exact pn_C (by omega) (by omega) (by omega) | exact pn_B (by omega) (by omega) (by omega) | exact pn_D (by omega) (by omega) (by omega))⟩ dX6_readsNumber_100
    · skip
      refine g_iconst C dX6_readsNumber_61 ?_
      exact g_zret C hr (ws' := [oX6 h a ft pn (ra + 1) rm rP rS rD rQ al rw rc tr, cA G (a 7) 12 rt, cA G (a 27) 240 ce]) hw [1, 0, 2] (by decide) rfl (Or.inl rfl) ⟨0, (ra + 1), rt, rfl, rfl, (by have hq0 := hcn ra; have hq1 := hcn (ra + 1); first | exact pn_A (by omega) (by omega) (by omega) | exact pn_C (by omega) (by omega) (by omega) | exact pn_B (by omega) (by omega) (by omega) | exact pn_D (by omega) (by omega) (by omega))⟩ dX6_readsNumber_62

set_option maxRecDepth 20000 in
theorem hin_X6_readsOne_X6 : ∀ w ∈ u_ws RX6 TX6 30, w ∈ wsX6_readsOne := by
  intro w h
  exact List.mem_cons_of_mem _ (List.mem_append_right _ (h))
set_option maxRecDepth 20000 in
theorem lk_X6_readsOne_91 : Cond.fieldLink RX6 91 (TX6 5).1 (TX6 5).2.1 (TX6 5).2.2.1 ∈ wsX6_readsOne := List.mem_cons_of_mem _ (List.mem_append_left _ (List.mem_of_getElem? (i := 0) rfl))
set_option maxRecDepth 20000 in
theorem lk_X6_readsOne_82 : Cond.fieldLink RX6 82 (TX6 4).1 (TX6 4).2.1 (TX6 4).2.2.1 ∈ wsX6_readsOne := List.mem_cons_of_mem _ (List.mem_append_left _ (List.mem_of_getElem? (i := 1) rfl))
set_option maxRecDepth 20000 in
theorem lk_X6_readsOne_16 : Cond.fieldLink RX6 16 (TX6 6).1 (TX6 6).2.1 (TX6 6).2.2.1 ∈ wsX6_readsOne := List.mem_cons_of_mem _ (List.mem_append_left _ (List.mem_of_getElem? (i := 2) rfl))
set_option maxRecDepth 100000 in
set_option maxHeartbeats 8000000 in
theorem m_X6_readsOne (l : Launch) (D : va_G) (G : gT) (h : Nat) (a : Nat → Nat) (ft : Int) (pn : Int) (ra : Int) (rm : Int) (rP : Int) (rS : Int) (rD : Int) (rQ : Int) (al : Int) (rw : Int) (rc : Int) (tr : Int) (ce : Int → Int) (rk : Int → Int) (rt : Int → Int) (fr : Int) (nn : Int) (hfr : 0 ≤ fr ∧ fr + nn ≤ 240) (hnn : 0 ≤ nn ∧ nn ≤ 60) (hce : ∀ j, -2147483648 ≤ ce j ∧ ce j ≤ 2147483647) (hra : 0 ≤ ra ∧ ra ≤ nn) (hrm : 0 ≤ rm ∧ rm ≤ 4) (hpre : rm < 1 ∨ ra < nn) (hnr : nuOK rt) (hkr : kdOK rk) : gMi l yX6_readsOne wsX6_readsOne ({ frames := 2, cells := 0, slots := 0, locals := 50 }) D G [.ref h, .int (iI fr), .int (iI nn)] [oX6 h a ft pn ra rm rP rS rD rQ al rw rc tr, cA G (a 6) 4 rk, cA G (a 7) 12 rt, cA G (a 27) 240 ce] 0 0 (fun (r : Int32) (w : va_W) => ∃ (ok : Int) (ra2 : Int) (rm2 : Int) (rk2 : Int → Int) (rt2 : Int → Int), r = (iI ok) ∧ w = [oX6 h a ft pn ra2 rm2 rP rS rD rQ al rw rc tr, cA G (a 6) 4 rk2, cA G (a 7) 12 rt2, cA G (a 27) 240 ce] ∧ (onP (cdF ce fr nn) nn ra rm rk rt ok ra2 rm2 rk2 rt2) ∧ (nuOK rt2 ∧ kdOK rk2)) := by
  refine g_start_i (cc := cX6_readsOne) (nL := 6) (own := RX6) (ret := some .boolean) (by decide +kernel) rfl rfl (Nat.le_of_ble_eq_true rfl) ?_
  intro p e s m below meth c A ls C hr hnm hw hl
  have hl : lv_has ls 6 [(0, .ref h), (1, .int (iI fr)), (2, .int (iI nn))] := hl
  have hcb : ∀ x, -2147483648 ≤ cdF ce fr nn x ∧ cdF ce fr nn x ≤ 2147483647 := by
    intro x
    have := hce (fr + x)
    unfold cdF
    split <;> omega
  have hc0 := hcb ra
  have hc1 := hcb (ra + 1)
  have hcn : ∀ x, nn ≤ x → cdF ce fr nn x = -9 := fun x hx => if_neg (by omega)
  have hq0 := hcn ra
  have hq1 := hcn (ra + 1)
  refine g_aload_n C hl 0 rfl rfl dX6_readsOne_0 ?_
  refine g_get C hw hin_X6_readsOne_X6 0 rfl rfl 5 (by decide) lk_X6_readsOne_91 rfl dX6_readsOne_1 ?_
  refine g_iconst C dX6_readsOne_4 ?_
  refine g_icmp_eq C 19 dX6_readsOne_5 (by decide) (by omega) (by omega) (fun c_1 => ?_) (fun c_1 => ?_)
  · skip
    refine g_iconst C dX6_readsOne_19 ?_
    exact g_zret C hr (ws' := [oX6 h a ft pn ra rm rP rS rD rQ al rw rc tr, cA G (a 6) 4 rk, cA G (a 7) 12 rt, cA G (a 27) 240 ce]) hw [0, 1, 2, 3] (by decide) rfl (Or.inl rfl) ⟨0, ra, rm, rk, rt, rfl, rfl, (by first | (exfalso; omega) | exact on_f0 (by omega) hpre hra.2 | exact on_f1 (by omega) (by omega) (by omega) (by omega) | exact on_N1 (by omega) (by omega) (by omega) hlt (by assumption) (by omega) rfl | exact on_N2 (by omega) (by omega) (by omega) hlt (by assumption) (by assumption) (by assumption) (by omega) rfl | exact on_N3 (by omega) (by omega) (by omega) hlt (by assumption) (by assumption) (by assumption) (by assumption) (by assumption) (by omega) rfl | exact on_N4 (by omega) (by omega) (by omega) (by omega) (by assumption) (by assumption) (by assumption) (by assumption) (by assumption) (by omega)), (by first | exact ⟨hno, kdOK_up hkr (by decide)⟩ | exact ⟨hnr, hkr⟩)⟩ dX6_readsOne_20
  · skip
    refine g_aload_n C hl 0 rfl rfl dX6_readsOne_8 ?_
    refine g_iload_n C hl 1 rfl rfl dX6_readsOne_9 ?_
    refine g_iload_n C hl 2 rfl rfl dX6_readsOne_10 ?_
    refine g_callVi C hw (wr := [cA G (a 6) 4 rk, cA G (a 7) 12 rt]) (As := [.int (iI fr), .int (iI nn)]) (rest := []) (m_X6_codeAt l D G (h := h) (a := a) (ft := ft) (pn := pn) (ra := ra) (rm := rm) (rP := rP) (rS := rS) (rD := rD) (rQ := rQ) (al := al) (rw := rw) (rc := rc) (tr := tr) (ce := ce) (fr := fr) (nn := nn) (by first | assumption | omega) (by first | assumption | omega) (by first | assumption | omega)) (cwV 2 C.1.2.2.2.2 gX6_readsOne_X6_codeAt rfl rfl rfl (by decide +kernel) ⟨Nat.le_of_ble_eq_true rfl, Nat.le_of_ble_eq_true rfl⟩) [0, 3] [1, 2] rfl rfl (by decide) (by decide) (by decide) 0 rfl rfl rfl hl.1 _ rfl (Nat.le_of_ble_eq_true rfl) dX6_readsOne_11 ⟨Nat.le_of_ble_eq_true rfl, Nat.le_of_ble_eq_true rfl⟩ ?_
    clear hw
    rintro _ _ H locs ⟨rfl, rfl⟩ hw
    have hw : gW D A s.heap [cA G (a 6) 4 rk, cA G (a 7) 12 rt, oX6 h a ft pn ra rm rP rS rD rQ al rw rc tr, cA G (a 27) 240 ce] H locs := hw
    refine g_bipush C dX6_readsOne_14 (by decide) ?_
    refine g_icmp_eq C 21 dX6_readsOne_16 (by decide) (by omega) (by omega) (fun c_2 => ?_) (fun c_2 => ?_)
    · skip
      refine g_aload_n C hl 0 rfl rfl dX6_readsOne_21 ?_
      refine g_dup C dX6_readsOne_22 rfl ?_
      refine g_get C hw hin_X6_readsOne_X6 2 rfl rfl 4 (by decide) lk_X6_readsOne_82 rfl dX6_readsOne_23 ?_
      refine g_iconst C dX6_readsOne_26 ?_
      refine g_iadd C dX6_readsOne_27 ?_
      refine g_put C hw [cA G (a 6) 4 rk, cA G (a 7) 12 rt, oX6 h a ft pn (ra + 1) rm rP rS rD rQ al rw rc tr, cA G (a 27) 240 ce] hin_X6_readsOne_X6 tyX6 tyX6_ok nmX6 2 rfl rfl 4 (by decide) lk_X6_readsOne_82 rfl rfl rfl rfl (Nat.le_of_ble_eq_true rfl) rfl dX6_readsOne_28 ?_
      clear hw
      intro H locs hw
      refine g_aload_n C hl 0 rfl rfl dX6_readsOne_31 ?_
      refine g_iload_n C hl 1 rfl rfl dX6_readsOne_32 ?_
      refine g_iload_n C hl 2 rfl rfl dX6_readsOne_33 ?_
      refine g_callVi C hw (wr := [cA G (a 6) 4 rk, cA G (a 7) 12 rt]) (As := [.int (iI fr), .int (iI nn)]) (rest := []) (m_X6_codeAt l D G (h := h) (a := a) (ft := ft) (pn := pn) (ra := (ra + 1)) (rm := rm) (rP := rP) (rS := rS) (rD := rD) (rQ := rQ) (al := al) (rw := rw) (rc := rc) (tr := tr) (ce := ce) (fr := fr) (nn := nn) (by first | assumption | omega) (by first | assumption | omega) (by first | assumption | omega)) (cwV 2 C.1.2.2.2.2 gX6_readsOne_X6_codeAt rfl rfl rfl (by decide +kernel) ⟨Nat.le_of_ble_eq_true rfl, Nat.le_of_ble_eq_true rfl⟩) [2, 3] [0, 1] rfl rfl (by decide) (by decide) (by decide) 0 rfl rfl rfl hl.1 _ rfl (Nat.le_of_ble_eq_true rfl) dX6_readsOne_34 ⟨Nat.le_of_ble_eq_true rfl, Nat.le_of_ble_eq_true rfl⟩ ?_
      clear hw
      rintro _ _ H locs ⟨rfl, rfl⟩ hw
      have hw : gW D A s.heap [cA G (a 6) 4 rk, cA G (a 7) 12 rt, oX6 h a ft pn (ra + 1) rm rP rS rD rQ al rw rc tr, cA G (a 27) 240 ce] H locs := hw
      refine g_istore_n C [(3, .int (iI (((cdF ce fr nn) (ra + 1))))), (0, .ref h), (1, .int (iI fr)), (2, .int (iI nn))] dX6_readsOne_37 rfl hl (by decide) rfl ?_
      clear hl
      intro ls hl
      refine g_cut (D := D) (A := A) (H0 := s.heap) (nL := 6) (σ := (Unit)) (fun z_ => [cA G (a 6) 4 rk, cA G (a 7) 12 rt, oX6 h a ft pn (ra + 1) rm rP rS rD rQ al rw rc tr, cA G (a 27) 240 ce]) (fun z_ => [(3, .int (iI (((cdF ce fr nn) (ra + 1))))), (0, .ref h), (1, .int (iI fr)), (2, .int (iI nn))]) (fun z_ => (((cdF ce fr nn) (ra + 1) = 112 ∨ (cdF ce fr nn) (ra + 1) = 109 ∨ (cdF ce fr nn) (ra + 1) = 115))) 58 (fun z_ => []) ?_ ?_
      · clear hw hl
        rintro u_ hlt H locs ls hw hl
        replace hlt : ((cdF ce fr nn) (ra + 1) = 112 ∨ (cdF ce fr nn) (ra + 1) = 109 ∨ (cdF ce fr nn) (ra + 1) = 115) := hlt
        replace hw : gW D A s.heap [cA G (a 6) 4 rk, cA G (a 7) 12 rt, oX6 h a ft pn (ra + 1) rm rP rS rD rQ al rw rc tr, cA G (a 27) 240 ce] H locs := hw
        replace hl : lv_has ls 6 [(3, .int (iI (((cdF ce fr nn) (ra + 1))))), (0, .ref h), (1, .int (iI fr)), (2, .int (iI nn))] := hl
        refine g_aload_n C hl 1 rfl rfl dX6_readsOne_58 ?_
        refine g_dup C dX6_readsOne_59 rfl ?_
        refine g_get C hw hin_X6_readsOne_X6 2 rfl rfl 4 (by decide) lk_X6_readsOne_82 rfl dX6_readsOne_60 ?_
        refine g_iconst C dX6_readsOne_63 ?_
        refine g_iadd C dX6_readsOne_64 ?_
        refine g_put C hw [cA G (a 6) 4 rk, cA G (a 7) 12 rt, oX6 h a ft pn ((ra + 1) + 1) rm rP rS rD rQ al rw rc tr, cA G (a 27) 240 ce] hin_X6_readsOne_X6 tyX6 tyX6_ok nmX6 2 rfl rfl 4 (by decide) lk_X6_readsOne_82 rfl rfl rfl rfl (Nat.le_of_ble_eq_true rfl) rfl dX6_readsOne_65 ?_
        clear hw
        intro H locs hw
        refine g_iconst C dX6_readsOne_68 ?_
        refine g_istore C [(4, .int (iI 1)), (3, .int (iI (((cdF ce fr nn) (ra + 1))))), (0, .ref h), (1, .int (iI fr)), (2, .int (iI nn))] dX6_readsOne_69 hl (by decide) rfl ?_
        clear hl
        intro ls hl
        refine g_iconst C dX6_readsOne_71 ?_
        refine g_istore C [(5, .int (iI 0)), (4, .int (iI 1)), (3, .int (iI (((cdF ce fr nn) (ra + 1))))), (0, .ref h), (1, .int (iI fr)), (2, .int (iI nn))] dX6_readsOne_72 hl (by decide) rfl ?_
        clear hl
        intro ls hl
        refine g_iload C hl 0 rfl dX6_readsOne_74 ?_
        refine g_iconst C dX6_readsOne_76 ?_
        refine g_icmp_ge C 101 dX6_readsOne_77 (by decide) (by decide) (by decide) (fun c_3 => absurd c_3 (by decide)) (fun c_3 => ?_)
        refine g_iload C hl 1 rfl dX6_readsOne_80 ?_
        refine g_if_eq C 101 dX6_readsOne_82 (by decide) (by decide) (fun c_4 => absurd c_4 (by decide)) (fun c_4 => ?_)
        refine g_aload_n C hl 3 rfl rfl dX6_readsOne_85 ?_
        refine g_iload_n C hl 4 rfl rfl dX6_readsOne_86 ?_
        refine g_iload_n C hl 5 rfl rfl dX6_readsOne_87 ?_
        refine g_iload C hl 0 rfl dX6_readsOne_88 ?_
        refine g_callVi C hw (wr := [cA G (a 6) 4 rk]) (As := [.int (iI fr), .int (iI nn), .int (iI 0)]) (rest := []) (m_X6_readsNumber l D G (h := h) (a := a) (ft := ft) (pn := pn) (ra := ((ra + 1) + 1)) (rm := rm) (rP := rP) (rS := rS) (rD := rD) (rQ := rQ) (al := al) (rw := rw) (rc := rc) (tr := tr) (ce := ce) (rt := rt) (fr := fr) (nn := nn) (kk := 0) (by first | assumption | omega) (by first | assumption | omega) (by first | assumption | omega) (by first | assumption | omega) (by first | assumption | omega) (by first | assumption | omega)) (cwV 3 C.1.2.2.2.2 gX6_readsOne_X6_readsNumber rfl rfl rfl (by decide +kernel) ⟨Nat.le_of_ble_eq_true rfl, Nat.le_of_ble_eq_true rfl⟩) [2, 1, 3] [0] rfl rfl (by decide) (by decide) (by decide) 0 rfl rfl rfl hl.1 _ rfl (Nat.le_of_ble_eq_true rfl) dX6_readsOne_90 ⟨Nat.le_of_ble_eq_true rfl, Nat.le_of_ble_eq_true rfl⟩ ?_
        clear hw
        rintro _ _ H locs ⟨ok__5, ra2__6, rt2__7, rfl, rfl, hp_8⟩ hw
        have hw : gW D A s.heap [cA G (a 6) 4 rk, oX6 h a ft pn ra2__6 rm rP rS rD rQ al rw rc tr, cA G (a 7) 12 rt2__7, cA G (a 27) 240 ce] H locs := hw
        have hp_8 : nuP (cdF ce fr nn) nn ((ra + 1) + 1) rm 0 rt ok__5 ra2__6 rt2__7 := hp_8
        obtain ⟨hz1, hz2, hz3⟩ := nuP_1 hp_8
        have hno := nuOK_of hp_8 (by assumption)
        refine g_istore C [(4, .int (iI ok__5)), (5, .int (iI 0)), (3, .int (iI (((cdF ce fr nn) (ra + 1))))), (0, .ref h), (1, .int (iI fr)), (2, .int (iI nn))] dX6_readsOne_93 hl (by decide) rfl ?_
        clear hl
        intro ls hl
        refine g_iinc C [(5, .int (iI 1)), (4, .int (iI ok__5)), (3, .int (iI (((cdF ce fr nn) (ra + 1))))), (0, .ref h), (1, .int (iI fr)), (2, .int (iI nn))] 1 dX6_readsOne_95 hl rfl (by decide) rfl ?_
        clear hl
        intro ls hl
        refine g_goto C 74 dX6_readsOne_98 (by decide) ?_
        refine g_iload C hl 0 rfl dX6_readsOne_74 ?_
        refine g_iconst C dX6_readsOne_76 ?_
        refine g_icmp_ge C 101 dX6_readsOne_77 (by decide) (by decide) (by decide) (fun c_9 => absurd c_9 (by decide)) (fun c_9 => ?_)
        refine g_iload C hl 1 rfl dX6_readsOne_80 ?_
        refine g_if_eq C 101 dX6_readsOne_82 (by decide) (by omega) (fun c_10 => ?_) (fun c_10 => ?_)
        · skip
          refine g_aload_n C hl 3 rfl rfl dX6_readsOne_101 ?_
          refine g_get C hw hin_X6_readsOne_X6 1 rfl rfl 6 (by decide) lk_X6_readsOne_16 rfl dX6_readsOne_102 ?_
          refine g_aload_n C hl 3 rfl rfl dX6_readsOne_105 ?_
          refine g_get C hw hin_X6_readsOne_X6 1 rfl rfl 5 (by decide) lk_X6_readsOne_91 rfl dX6_readsOne_106 ?_
          refine g_iload_n C hl 2 rfl rfl dX6_readsOne_109 ?_
          refine g_bipush C dX6_readsOne_110 (by decide) ?_
          refine g_icmp_ne C 119 dX6_readsOne_112 (by decide) (by omega) (by omega) (fun c_11 => ?_) (fun c_11 => ?_)
          · skip
            refine g_iload_n C hl 2 rfl rfl dX6_readsOne_119 ?_
            refine g_bipush C dX6_readsOne_120 (by decide) ?_
            refine g_icmp_ne C 129 dX6_readsOne_122 (by decide) (by omega) (by omega) (fun c_12 => ?_) (fun c_12 => ?_)
            · skip
              refine g_iconst C dX6_readsOne_129 ?_
              refine g_iast C hw [cA G (a 6) 4 (up rk rm 2), oX6 h a ft pn ra2__6 rm rP rS rD rQ al rw rc tr, cA G (a 7) 12 rt2__7, cA G (a 27) 240 ce] 0 rfl (by omega) (Nat.le_of_ble_eq_true rfl) rfl dX6_readsOne_130 ?_
              clear hw
              intro H locs hw
              refine g_aload_n C hl 3 rfl rfl dX6_readsOne_131 ?_
              refine g_dup C dX6_readsOne_132 rfl ?_
              refine g_get C hw hin_X6_readsOne_X6 1 rfl rfl 5 (by decide) lk_X6_readsOne_91 rfl dX6_readsOne_133 ?_
              refine g_iload C hl 1 rfl dX6_readsOne_136 ?_
              refine g_if_eq C 145 dX6_readsOne_138 (by decide) (by omega) (fun c_13 => ?_) (fun c_13 => ?_)
              · skip
                refine g_iconst C dX6_readsOne_145 ?_
                refine g_iadd C dX6_readsOne_146 ?_
                refine g_put C hw [cA G (a 6) 4 (up rk rm 2), oX6 h a ft pn ra2__6 (rm + 0) rP rS rD rQ al rw rc tr, cA G (a 7) 12 rt2__7, cA G (a 27) 240 ce] hin_X6_readsOne_X6 tyX6 tyX6_ok nmX6 1 rfl rfl 5 (by decide) lk_X6_readsOne_91 rfl rfl rfl rfl (Nat.le_of_ble_eq_true rfl) rfl dX6_readsOne_147 ?_
                clear hw
                intro H locs hw
                refine g_iload C hl 1 rfl dX6_readsOne_150 ?_
                exact g_zret C hr (ws' := [oX6 h a ft pn ra2__6 (rm + 0) rP rS rD rQ al rw rc tr, cA G (a 6) 4 (up rk rm 2), cA G (a 7) 12 rt2__7, cA G (a 27) 240 ce]) hw [1, 0, 2, 3] (by decide) rfl (by rcases hz1 with q | q; exact Or.inl (congrArg iI q); exact Or.inr (congrArg iI q)) ⟨ok__5, ra2__6, (rm + 0), (up rk rm 2), rt2__7, rfl, rfl, (by first | (exfalso; omega) | exact on_f0 (by omega) hpre hra.2 | exact on_f1 (by omega) (by omega) (by omega) (by omega) | exact on_N1 (by omega) (by omega) (by omega) hlt (by assumption) (by omega) rfl | exact on_N2 (by omega) (by omega) (by omega) hlt (by assumption) (by assumption) (by assumption) (by omega) rfl | exact on_N3 (by omega) (by omega) (by omega) hlt (by assumption) (by assumption) (by assumption) (by assumption) (by assumption) (by omega) rfl | exact on_N4 (by omega) (by omega) (by omega) (by omega) (by assumption) (by assumption) (by assumption) (by assumption) (by assumption) (by omega)), (by first | exact ⟨hno, kdOK_up hkr (by decide)⟩ | exact ⟨hnr, hkr⟩)⟩ dX6_readsOne_152
              · skip
                refine g_iconst C dX6_readsOne_141 ?_
                refine g_goto C 146 dX6_readsOne_142 (by decide) ?_
                refine g_iadd C dX6_readsOne_146 ?_
                refine g_put C hw [cA G (a 6) 4 (up rk rm 2), oX6 h a ft pn ra2__6 (rm + 1) rP rS rD rQ al rw rc tr, cA G (a 7) 12 rt2__7, cA G (a 27) 240 ce] hin_X6_readsOne_X6 tyX6 tyX6_ok nmX6 1 rfl rfl 5 (by decide) lk_X6_readsOne_91 rfl rfl rfl rfl (Nat.le_of_ble_eq_true rfl) rfl dX6_readsOne_147 ?_
                clear hw
                intro H locs hw
                refine g_iload C hl 1 rfl dX6_readsOne_150 ?_
                exact g_zret C hr (ws' := [oX6 h a ft pn ra2__6 (rm + 1) rP rS rD rQ al rw rc tr, cA G (a 6) 4 (up rk rm 2), cA G (a 7) 12 rt2__7, cA G (a 27) 240 ce]) hw [1, 0, 2, 3] (by decide) rfl (by rcases hz1 with q | q; exact Or.inl (congrArg iI q); exact Or.inr (congrArg iI q)) ⟨ok__5, ra2__6, (rm + 1), (up rk rm 2), rt2__7, rfl, rfl, (by first | (exfalso; omega) | exact on_f0 (by omega) hpre hra.2 | exact on_f1 (by omega) (by omega) (by omega) (by omega) | exact on_N1 (by omega) (by omega) (by omega) hlt (by assumption) (by omega) rfl | exact on_N2 (by omega) (by omega) (by omega) hlt (by assumption) (by assumption) (by assumption) (by omega) rfl | exact on_N3 (by omega) (by omega) (by omega) hlt (by assumption) (by assumption) (by assumption) (by assumption) (by assumption) (by omega) rfl | exact on_N4 (by omega) (by omega) (by omega) (by omega) (by assumption) (by assumption) (by assumption) (by assumption) (by assumption) (by omega)), (by first | exact ⟨hno, kdOK_up hkr (by decide)⟩ | exact ⟨hnr, hkr⟩)⟩ dX6_readsOne_152
            · skip
              refine g_iconst C dX6_readsOne_125 ?_
              refine g_goto C 130 dX6_readsOne_126 (by decide) ?_
              refine g_iast C hw [cA G (a 6) 4 (up rk rm 1), oX6 h a ft pn ra2__6 rm rP rS rD rQ al rw rc tr, cA G (a 7) 12 rt2__7, cA G (a 27) 240 ce] 0 rfl (by omega) (Nat.le_of_ble_eq_true rfl) rfl dX6_readsOne_130 ?_
              clear hw
              intro H locs hw
              refine g_aload_n C hl 3 rfl rfl dX6_readsOne_131 ?_
              refine g_dup C dX6_readsOne_132 rfl ?_
              refine g_get C hw hin_X6_readsOne_X6 1 rfl rfl 5 (by decide) lk_X6_readsOne_91 rfl dX6_readsOne_133 ?_
              refine g_iload C hl 1 rfl dX6_readsOne_136 ?_
              refine g_if_eq C 145 dX6_readsOne_138 (by decide) (by omega) (fun c_14 => ?_) (fun c_14 => ?_)
              · skip
                refine g_iconst C dX6_readsOne_145 ?_
                refine g_iadd C dX6_readsOne_146 ?_
                refine g_put C hw [cA G (a 6) 4 (up rk rm 1), oX6 h a ft pn ra2__6 (rm + 0) rP rS rD rQ al rw rc tr, cA G (a 7) 12 rt2__7, cA G (a 27) 240 ce] hin_X6_readsOne_X6 tyX6 tyX6_ok nmX6 1 rfl rfl 5 (by decide) lk_X6_readsOne_91 rfl rfl rfl rfl (Nat.le_of_ble_eq_true rfl) rfl dX6_readsOne_147 ?_
                clear hw
                intro H locs hw
                refine g_iload C hl 1 rfl dX6_readsOne_150 ?_
                exact g_zret C hr (ws' := [oX6 h a ft pn ra2__6 (rm + 0) rP rS rD rQ al rw rc tr, cA G (a 6) 4 (up rk rm 1), cA G (a 7) 12 rt2__7, cA G (a 27) 240 ce]) hw [1, 0, 2, 3] (by decide) rfl (by rcases hz1 with q | q; exact Or.inl (congrArg iI q); exact Or.inr (congrArg iI q)) ⟨ok__5, ra2__6, (rm + 0), (up rk rm 1), rt2__7, rfl, rfl, (by first | (exfalso; omega) | exact on_f0 (by omega) hpre hra.2 | exact on_f1 (by omega) (by omega) (by omega) (by omega) | exact on_N1 (by omega) (by omega) (by omega) hlt (by assumption) (by omega) rfl | exact on_N2 (by omega) (by omega) (by omega) hlt (by assumption) (by assumption) (by assumption) (by omega) rfl | exact on_N3 (by omega) (by omega) (by omega) hlt (by assumption) (by assumption) (by assumption) (by assumption) (by assumption) (by omega) rfl | exact on_N4 (by omega) (by omega) (by omega) (by omega) (by assumption) (by assumption) (by assumption) (by assumption) (by assumption) (by omega)), (by first | exact ⟨hno, kdOK_up hkr (by decide)⟩ | exact ⟨hnr, hkr⟩)⟩ dX6_readsOne_152
              · skip
                refine g_iconst C dX6_readsOne_141 ?_
                refine g_goto C 146 dX6_readsOne_142 (by decide) ?_
                refine g_iadd C dX6_readsOne_146 ?_
                refine g_put C hw [cA G (a 6) 4 (up rk rm 1), oX6 h a ft pn ra2__6 (rm + 1) rP rS rD rQ al rw rc tr, cA G (a 7) 12 rt2__7, cA G (a 27) 240 ce] hin_X6_readsOne_X6 tyX6 tyX6_ok nmX6 1 rfl rfl 5 (by decide) lk_X6_readsOne_91 rfl rfl rfl rfl (Nat.le_of_ble_eq_true rfl) rfl dX6_readsOne_147 ?_
                clear hw
                intro H locs hw
                refine g_iload C hl 1 rfl dX6_readsOne_150 ?_
                exact g_zret C hr (ws' := [oX6 h a ft pn ra2__6 (rm + 1) rP rS rD rQ al rw rc tr, cA G (a 6) 4 (up rk rm 1), cA G (a 7) 12 rt2__7, cA G (a 27) 240 ce]) hw [1, 0, 2, 3] (by decide) rfl (by rcases hz1 with q | q; exact Or.inl (congrArg iI q); exact Or.inr (congrArg iI q)) ⟨ok__5, ra2__6, (rm + 1), (up rk rm 1), rt2__7, rfl, rfl, (by first | (exfalso; omega) | exact on_f0 (by omega) hpre hra.2 | exact on_f1 (by omega) (by omega) (by omega) (by omega) | exact on_N1 (by omega) (by omega) (by omega) hlt (by assumption) (by omega) rfl | exact on_N2 (by omega) (by omega) (by omega) hlt (by assumption) (by assumption) (by assumption) (by omega) rfl | exact on_N3 (by omega) (by omega) (by omega) hlt (by assumption) (by assumption) (by assumption) (by assumption) (by assumption) (by omega) rfl | exact on_N4 (by omega) (by omega) (by omega) (by omega) (by assumption) (by assumption) (by assumption) (by assumption) (by assumption) (by omega)), (by first | exact ⟨hno, kdOK_up hkr (by decide)⟩ | exact ⟨hnr, hkr⟩)⟩ dX6_readsOne_152
          · skip
            refine g_iconst C dX6_readsOne_115 ?_
            refine g_goto C 130 dX6_readsOne_116 (by decide) ?_
            refine g_iast C hw [cA G (a 6) 4 (up rk rm 0), oX6 h a ft pn ra2__6 rm rP rS rD rQ al rw rc tr, cA G (a 7) 12 rt2__7, cA G (a 27) 240 ce] 0 rfl (by omega) (Nat.le_of_ble_eq_true rfl) rfl dX6_readsOne_130 ?_
            clear hw
            intro H locs hw
            refine g_aload_n C hl 3 rfl rfl dX6_readsOne_131 ?_
            refine g_dup C dX6_readsOne_132 rfl ?_
            refine g_get C hw hin_X6_readsOne_X6 1 rfl rfl 5 (by decide) lk_X6_readsOne_91 rfl dX6_readsOne_133 ?_
            refine g_iload C hl 1 rfl dX6_readsOne_136 ?_
            refine g_if_eq C 145 dX6_readsOne_138 (by decide) (by omega) (fun c_15 => ?_) (fun c_15 => ?_)
            · skip
              refine g_iconst C dX6_readsOne_145 ?_
              refine g_iadd C dX6_readsOne_146 ?_
              refine g_put C hw [cA G (a 6) 4 (up rk rm 0), oX6 h a ft pn ra2__6 (rm + 0) rP rS rD rQ al rw rc tr, cA G (a 7) 12 rt2__7, cA G (a 27) 240 ce] hin_X6_readsOne_X6 tyX6 tyX6_ok nmX6 1 rfl rfl 5 (by decide) lk_X6_readsOne_91 rfl rfl rfl rfl (Nat.le_of_ble_eq_true rfl) rfl dX6_readsOne_147 ?_
              clear hw
              intro H locs hw
              refine g_iload C hl 1 rfl dX6_readsOne_150 ?_
              exact g_zret C hr (ws' := [oX6 h a ft pn ra2__6 (rm + 0) rP rS rD rQ al rw rc tr, cA G (a 6) 4 (up rk rm 0), cA G (a 7) 12 rt2__7, cA G (a 27) 240 ce]) hw [1, 0, 2, 3] (by decide) rfl (by rcases hz1 with q | q; exact Or.inl (congrArg iI q); exact Or.inr (congrArg iI q)) ⟨ok__5, ra2__6, (rm + 0), (up rk rm 0), rt2__7, rfl, rfl, (by first | (exfalso; omega) | exact on_f0 (by omega) hpre hra.2 | exact on_f1 (by omega) (by omega) (by omega) (by omega) | exact on_N1 (by omega) (by omega) (by omega) hlt (by assumption) (by omega) rfl | exact on_N2 (by omega) (by omega) (by omega) hlt (by assumption) (by assumption) (by assumption) (by omega) rfl | exact on_N3 (by omega) (by omega) (by omega) hlt (by assumption) (by assumption) (by assumption) (by assumption) (by assumption) (by omega) rfl | exact on_N4 (by omega) (by omega) (by omega) (by omega) (by assumption) (by assumption) (by assumption) (by assumption) (by assumption) (by omega)), (by first | exact ⟨hno, kdOK_up hkr (by decide)⟩ | exact ⟨hnr, hkr⟩)⟩ dX6_readsOne_152
            · skip
              refine g_iconst C dX6_readsOne_141 ?_
              refine g_goto C 146 dX6_readsOne_142 (by decide) ?_
              refine g_iadd C dX6_readsOne_146 ?_
              refine g_put C hw [cA G (a 6) 4 (up rk rm 0), oX6 h a ft pn ra2__6 (rm + 1) rP rS rD rQ al rw rc tr, cA G (a 7) 12 rt2__7, cA G (a 27) 240 ce] hin_X6_readsOne_X6 tyX6 tyX6_ok nmX6 1 rfl rfl 5 (by decide) lk_X6_readsOne_91 rfl rfl rfl rfl (Nat.le_of_ble_eq_true rfl) rfl dX6_readsOne_147 ?_
              clear hw
              intro H locs hw
              refine g_iload C hl 1 rfl dX6_readsOne_150 ?_
              exact g_zret C hr (ws' := [oX6 h a ft pn ra2__6 (rm + 1) rP rS rD rQ al rw rc tr, cA G (a 6) 4 (up rk rm 0), cA G (a 7) 12 rt2__7, cA G (a 27) 240 ce]) hw [1, 0, 2, 3] (by decide) rfl (by rcases hz1 with q | q; exact Or.inl (congrArg iI q); exact Or.inr (congrArg iI q)) ⟨ok__5, ra2__6, (rm + 1), (up rk rm 0), rt2__7, rfl, rfl, (by first | (exfalso; omega) | exact on_f0 (by omega) hpre hra.2 | exact on_f1 (by omega) (by omega) (by omega) (by omega) | exact on_N1 (by omega) (by omega) (by omega) hlt (by assumption) (by omega) rfl | exact on_N2 (by omega) (by omega) (by omega) hlt (by assumption) (by assumption) (by assumption) (by omega) rfl | exact on_N3 (by omega) (by omega) (by omega) hlt (by assumption) (by assumption) (by assumption) (by assumption) (by assumption) (by omega) rfl | exact on_N4 (by omega) (by omega) (by omega) (by omega) (by assumption) (by assumption) (by assumption) (by assumption) (by assumption) (by omega)), (by first | exact ⟨hno, kdOK_up hkr (by decide)⟩ | exact ⟨hnr, hkr⟩)⟩ dX6_readsOne_152
        · skip
          refine g_aload_n C hl 3 rfl rfl dX6_readsOne_85 ?_
          refine g_iload_n C hl 4 rfl rfl dX6_readsOne_86 ?_
          refine g_iload_n C hl 5 rfl rfl dX6_readsOne_87 ?_
          refine g_iload C hl 0 rfl dX6_readsOne_88 ?_
          refine g_callVi C hw (wr := [cA G (a 6) 4 rk]) (As := [.int (iI fr), .int (iI nn), .int (iI 1)]) (rest := []) (m_X6_readsNumber l D G (h := h) (a := a) (ft := ft) (pn := pn) (ra := ra2__6) (rm := rm) (rP := rP) (rS := rS) (rD := rD) (rQ := rQ) (al := al) (rw := rw) (rc := rc) (tr := tr) (ce := ce) (rt := rt2__7) (fr := fr) (nn := nn) (kk := 1) (by first | assumption | omega) (by first | assumption | omega) (by first | assumption | omega) (by first | assumption | omega) (by first | assumption | omega) (by first | assumption | omega)) (cwV 3 C.1.2.2.2.2 gX6_readsOne_X6_readsNumber rfl rfl rfl (by decide +kernel) ⟨Nat.le_of_ble_eq_true rfl, Nat.le_of_ble_eq_true rfl⟩) [1, 2, 3] [0] rfl rfl (by decide) (by decide) (by decide) 0 rfl rfl rfl hl.1 _ rfl (Nat.le_of_ble_eq_true rfl) dX6_readsOne_90 ⟨Nat.le_of_ble_eq_true rfl, Nat.le_of_ble_eq_true rfl⟩ ?_
          clear hw
          rintro _ _ H locs ⟨ok__16, ra2__17, rt2__18, rfl, rfl, hp_19⟩ hw
          have hw : gW D A s.heap [cA G (a 6) 4 rk, oX6 h a ft pn ra2__17 rm rP rS rD rQ al rw rc tr, cA G (a 7) 12 rt2__18, cA G (a 27) 240 ce] H locs := hw
          have hp_19 : nuP (cdF ce fr nn) nn ra2__6 rm 1 rt2__7 ok__16 ra2__17 rt2__18 := hp_19
          obtain ⟨hz1, hz2, hz3⟩ := nuP_1 hp_19
          have hno := nuOK_of hp_19 (by assumption)
          refine g_istore C [(4, .int (iI ok__16)), (5, .int (iI 1)), (3, .int (iI (((cdF ce fr nn) (ra + 1))))), (0, .ref h), (1, .int (iI fr)), (2, .int (iI nn))] dX6_readsOne_93 hl (by decide) rfl ?_
          clear hl
          intro ls hl
          refine g_iinc C [(5, .int (iI 2)), (4, .int (iI ok__16)), (3, .int (iI (((cdF ce fr nn) (ra + 1))))), (0, .ref h), (1, .int (iI fr)), (2, .int (iI nn))] 1 dX6_readsOne_95 hl rfl (by decide) rfl ?_
          clear hl
          intro ls hl
          refine g_goto C 74 dX6_readsOne_98 (by decide) ?_
          refine g_iload C hl 0 rfl dX6_readsOne_74 ?_
          refine g_iconst C dX6_readsOne_76 ?_
          refine g_icmp_ge C 101 dX6_readsOne_77 (by decide) (by decide) (by decide) (fun c_20 => absurd c_20 (by decide)) (fun c_20 => ?_)
          refine g_iload C hl 1 rfl dX6_readsOne_80 ?_
          refine g_if_eq C 101 dX6_readsOne_82 (by decide) (by omega) (fun c_21 => ?_) (fun c_21 => ?_)
          · skip
            refine g_aload_n C hl 3 rfl rfl dX6_readsOne_101 ?_
            refine g_get C hw hin_X6_readsOne_X6 1 rfl rfl 6 (by decide) lk_X6_readsOne_16 rfl dX6_readsOne_102 ?_
            refine g_aload_n C hl 3 rfl rfl dX6_readsOne_105 ?_
            refine g_get C hw hin_X6_readsOne_X6 1 rfl rfl 5 (by decide) lk_X6_readsOne_91 rfl dX6_readsOne_106 ?_
            refine g_iload_n C hl 2 rfl rfl dX6_readsOne_109 ?_
            refine g_bipush C dX6_readsOne_110 (by decide) ?_
            refine g_icmp_ne C 119 dX6_readsOne_112 (by decide) (by omega) (by omega) (fun c_22 => ?_) (fun c_22 => ?_)
            · skip
              refine g_iload_n C hl 2 rfl rfl dX6_readsOne_119 ?_
              refine g_bipush C dX6_readsOne_120 (by decide) ?_
              refine g_icmp_ne C 129 dX6_readsOne_122 (by decide) (by omega) (by omega) (fun c_23 => ?_) (fun c_23 => ?_)
              · skip
                refine g_iconst C dX6_readsOne_129 ?_
                refine g_iast C hw [cA G (a 6) 4 (up rk rm 2), oX6 h a ft pn ra2__17 rm rP rS rD rQ al rw rc tr, cA G (a 7) 12 rt2__18, cA G (a 27) 240 ce] 0 rfl (by omega) (Nat.le_of_ble_eq_true rfl) rfl dX6_readsOne_130 ?_
                clear hw
                intro H locs hw
                refine g_aload_n C hl 3 rfl rfl dX6_readsOne_131 ?_
                refine g_dup C dX6_readsOne_132 rfl ?_
                refine g_get C hw hin_X6_readsOne_X6 1 rfl rfl 5 (by decide) lk_X6_readsOne_91 rfl dX6_readsOne_133 ?_
                refine g_iload C hl 1 rfl dX6_readsOne_136 ?_
                refine g_if_eq C 145 dX6_readsOne_138 (by decide) (by omega) (fun c_24 => ?_) (fun c_24 => ?_)
                · skip
                  refine g_iconst C dX6_readsOne_145 ?_
                  refine g_iadd C dX6_readsOne_146 ?_
                  refine g_put C hw [cA G (a 6) 4 (up rk rm 2), oX6 h a ft pn ra2__17 (rm + 0) rP rS rD rQ al rw rc tr, cA G (a 7) 12 rt2__18, cA G (a 27) 240 ce] hin_X6_readsOne_X6 tyX6 tyX6_ok nmX6 1 rfl rfl 5 (by decide) lk_X6_readsOne_91 rfl rfl rfl rfl (Nat.le_of_ble_eq_true rfl) rfl dX6_readsOne_147 ?_
                  clear hw
                  intro H locs hw
                  refine g_iload C hl 1 rfl dX6_readsOne_150 ?_
                  exact g_zret C hr (ws' := [oX6 h a ft pn ra2__17 (rm + 0) rP rS rD rQ al rw rc tr, cA G (a 6) 4 (up rk rm 2), cA G (a 7) 12 rt2__18, cA G (a 27) 240 ce]) hw [1, 0, 2, 3] (by decide) rfl (by rcases hz1 with q | q; exact Or.inl (congrArg iI q); exact Or.inr (congrArg iI q)) ⟨ok__16, ra2__17, (rm + 0), (up rk rm 2), rt2__18, rfl, rfl, (by first | (exfalso; omega) | exact on_f0 (by omega) hpre hra.2 | exact on_f1 (by omega) (by omega) (by omega) (by omega) | exact on_N1 (by omega) (by omega) (by omega) hlt (by assumption) (by omega) rfl | exact on_N2 (by omega) (by omega) (by omega) hlt (by assumption) (by assumption) (by assumption) (by omega) rfl | exact on_N3 (by omega) (by omega) (by omega) hlt (by assumption) (by assumption) (by assumption) (by assumption) (by assumption) (by omega) rfl | exact on_N4 (by omega) (by omega) (by omega) (by omega) (by assumption) (by assumption) (by assumption) (by assumption) (by assumption) (by omega)), (by first | exact ⟨hno, kdOK_up hkr (by decide)⟩ | exact ⟨hnr, hkr⟩)⟩ dX6_readsOne_152
                · skip
                  refine g_iconst C dX6_readsOne_141 ?_
                  refine g_goto C 146 dX6_readsOne_142 (by decide) ?_
                  refine g_iadd C dX6_readsOne_146 ?_
                  refine g_put C hw [cA G (a 6) 4 (up rk rm 2), oX6 h a ft pn ra2__17 (rm + 1) rP rS rD rQ al rw rc tr, cA G (a 7) 12 rt2__18, cA G (a 27) 240 ce] hin_X6_readsOne_X6 tyX6 tyX6_ok nmX6 1 rfl rfl 5 (by decide) lk_X6_readsOne_91 rfl rfl rfl rfl (Nat.le_of_ble_eq_true rfl) rfl dX6_readsOne_147 ?_
                  clear hw
                  intro H locs hw
                  refine g_iload C hl 1 rfl dX6_readsOne_150 ?_
                  exact g_zret C hr (ws' := [oX6 h a ft pn ra2__17 (rm + 1) rP rS rD rQ al rw rc tr, cA G (a 6) 4 (up rk rm 2), cA G (a 7) 12 rt2__18, cA G (a 27) 240 ce]) hw [1, 0, 2, 3] (by decide) rfl (by rcases hz1 with q | q; exact Or.inl (congrArg iI q); exact Or.inr (congrArg iI q)) ⟨ok__16, ra2__17, (rm + 1), (up rk rm 2), rt2__18, rfl, rfl, (by first | (exfalso; omega) | exact on_f0 (by omega) hpre hra.2 | exact on_f1 (by omega) (by omega) (by omega) (by omega) | exact on_N1 (by omega) (by omega) (by omega) hlt (by assumption) (by omega) rfl | exact on_N2 (by omega) (by omega) (by omega) hlt (by assumption) (by assumption) (by assumption) (by omega) rfl | exact on_N3 (by omega) (by omega) (by omega) hlt (by assumption) (by assumption) (by assumption) (by assumption) (by assumption) (by omega) rfl | exact on_N4 (by omega) (by omega) (by omega) (by omega) (by assumption) (by assumption) (by assumption) (by assumption) (by assumption) (by omega)), (by first | exact ⟨hno, kdOK_up hkr (by decide)⟩ | exact ⟨hnr, hkr⟩)⟩ dX6_readsOne_152
              · skip
                refine g_iconst C dX6_readsOne_125 ?_
                refine g_goto C 130 dX6_readsOne_126 (by decide) ?_
                refine g_iast C hw [cA G (a 6) 4 (up rk rm 1), oX6 h a ft pn ra2__17 rm rP rS rD rQ al rw rc tr, cA G (a 7) 12 rt2__18, cA G (a 27) 240 ce] 0 rfl (by omega) (Nat.le_of_ble_eq_true rfl) rfl dX6_readsOne_130 ?_
                clear hw
                intro H locs hw
                refine g_aload_n C hl 3 rfl rfl dX6_readsOne_131 ?_
                refine g_dup C dX6_readsOne_132 rfl ?_
                refine g_get C hw hin_X6_readsOne_X6 1 rfl rfl 5 (by decide) lk_X6_readsOne_91 rfl dX6_readsOne_133 ?_
                refine g_iload C hl 1 rfl dX6_readsOne_136 ?_
                refine g_if_eq C 145 dX6_readsOne_138 (by decide) (by omega) (fun c_25 => ?_) (fun c_25 => ?_)
                · skip
                  refine g_iconst C dX6_readsOne_145 ?_
                  refine g_iadd C dX6_readsOne_146 ?_
                  refine g_put C hw [cA G (a 6) 4 (up rk rm 1), oX6 h a ft pn ra2__17 (rm + 0) rP rS rD rQ al rw rc tr, cA G (a 7) 12 rt2__18, cA G (a 27) 240 ce] hin_X6_readsOne_X6 tyX6 tyX6_ok nmX6 1 rfl rfl 5 (by decide) lk_X6_readsOne_91 rfl rfl rfl rfl (Nat.le_of_ble_eq_true rfl) rfl dX6_readsOne_147 ?_
                  clear hw
                  intro H locs hw
                  refine g_iload C hl 1 rfl dX6_readsOne_150 ?_
                  exact g_zret C hr (ws' := [oX6 h a ft pn ra2__17 (rm + 0) rP rS rD rQ al rw rc tr, cA G (a 6) 4 (up rk rm 1), cA G (a 7) 12 rt2__18, cA G (a 27) 240 ce]) hw [1, 0, 2, 3] (by decide) rfl (by rcases hz1 with q | q; exact Or.inl (congrArg iI q); exact Or.inr (congrArg iI q)) ⟨ok__16, ra2__17, (rm + 0), (up rk rm 1), rt2__18, rfl, rfl, (by first | (exfalso; omega) | exact on_f0 (by omega) hpre hra.2 | exact on_f1 (by omega) (by omega) (by omega) (by omega) | exact on_N1 (by omega) (by omega) (by omega) hlt (by assumption) (by omega) rfl | exact on_N2 (by omega) (by omega) (by omega) hlt (by assumption) (by assumption) (by assumption) (by omega) rfl | exact on_N3 (by omega) (by omega) (by omega) hlt (by assumption) (by assumption) (by assumption) (by assumption) (by assumption) (by omega) rfl | exact on_N4 (by omega) (by omega) (by omega) (by omega) (by assumption) (by assumption) (by assumption) (by assumption) (by assumption) (by omega)), (by first | exact ⟨hno, kdOK_up hkr (by decide)⟩ | exact ⟨hnr, hkr⟩)⟩ dX6_readsOne_152
                · skip
                  refine g_iconst C dX6_readsOne_141 ?_
                  refine g_goto C 146 dX6_readsOne_142 (by decide) ?_
                  refine g_iadd C dX6_readsOne_146 ?_
                  refine g_put C hw [cA G (a 6) 4 (up rk rm 1), oX6 h a ft pn ra2__17 (rm + 1) rP rS rD rQ al rw rc tr, cA G (a 7) 12 rt2__18, cA G (a 27) 240 ce] hin_X6_readsOne_X6 tyX6 tyX6_ok nmX6 1 rfl rfl 5 (by decide) lk_X6_readsOne_91 rfl rfl rfl rfl (Nat.le_of_ble_eq_true rfl) rfl dX6_readsOne_147 ?_
                  clear hw
                  intro H locs hw
                  refine g_iload C hl 1 rfl dX6_readsOne_150 ?_
                  exact g_zret C hr (ws' := [oX6 h a ft pn ra2__17 (rm + 1) rP rS rD rQ al rw rc tr, cA G (a 6) 4 (up rk rm 1), cA G (a 7) 12 rt2__18, cA G (a 27) 240 ce]) hw [1, 0, 2, 3] (by decide) rfl (by rcases hz1 with q | q; exact Or.inl (congrArg iI q); exact Or.inr (congrArg iI q)) ⟨ok__16, ra2__17, (rm + 1), (up rk rm 1), rt2__18, rfl, rfl, (by first | (exfalso; omega) | exact on_f0 (by omega) hpre hra.2 | exact on_f1 (by omega) (by omega) (by omega) (by omega) | exact on_N1 (by omega) (by omega) (by omega) hlt (by assumption) (by omega) rfl | exact on_N2 (by omega) (by omega) (by omega) hlt (by assumption) (by assumption) (by assumption) (by omega) rfl | exact on_N3 (by omega) (by omega) (by omega) hlt (by assumption) (by assumption) (by assumption) (by assumption) (by assumption) (by omega) rfl | exact on_N4 (by omega) (by omega) (by omega) (by omega) (by assumption) (by assumption) (by assumption) (by assumption) (by assumption) (by omega)), (by first | exact ⟨hno, kdOK_up hkr (by decide)⟩ | exact ⟨hnr, hkr⟩)⟩ dX6_readsOne_152
            · skip
              refine g_iconst C dX6_readsOne_115 ?_
              refine g_goto C 130 dX6_readsOne_116 (by decide) ?_
              refine g_iast C hw [cA G (a 6) 4 (up rk rm 0), oX6 h a ft pn ra2__17 rm rP rS rD rQ al rw rc tr, cA G (a 7) 12 rt2__18, cA G (a 27) 240 ce] 0 rfl (by omega) (Nat.le_of_ble_eq_true rfl) rfl dX6_readsOne_130 ?_
              clear hw
              intro H locs hw
              refine g_aload_n C hl 3 rfl rfl dX6_readsOne_131 ?_
              refine g_dup C dX6_readsOne_132 rfl ?_
              refine g_get C hw hin_X6_readsOne_X6 1 rfl rfl 5 (by decide) lk_X6_readsOne_91 rfl dX6_readsOne_133 ?_
              refine g_iload C hl 1 rfl dX6_readsOne_136 ?_
              refine g_if_eq C 145 dX6_readsOne_138 (by decide) (by omega) (fun c_26 => ?_) (fun c_26 => ?_)
              · skip
                refine g_iconst C dX6_readsOne_145 ?_
                refine g_iadd C dX6_readsOne_146 ?_
                refine g_put C hw [cA G (a 6) 4 (up rk rm 0), oX6 h a ft pn ra2__17 (rm + 0) rP rS rD rQ al rw rc tr, cA G (a 7) 12 rt2__18, cA G (a 27) 240 ce] hin_X6_readsOne_X6 tyX6 tyX6_ok nmX6 1 rfl rfl 5 (by decide) lk_X6_readsOne_91 rfl rfl rfl rfl (Nat.le_of_ble_eq_true rfl) rfl dX6_readsOne_147 ?_
                clear hw
                intro H locs hw
                refine g_iload C hl 1 rfl dX6_readsOne_150 ?_
                exact g_zret C hr (ws' := [oX6 h a ft pn ra2__17 (rm + 0) rP rS rD rQ al rw rc tr, cA G (a 6) 4 (up rk rm 0), cA G (a 7) 12 rt2__18, cA G (a 27) 240 ce]) hw [1, 0, 2, 3] (by decide) rfl (by rcases hz1 with q | q; exact Or.inl (congrArg iI q); exact Or.inr (congrArg iI q)) ⟨ok__16, ra2__17, (rm + 0), (up rk rm 0), rt2__18, rfl, rfl, (by first | (exfalso; omega) | exact on_f0 (by omega) hpre hra.2 | exact on_f1 (by omega) (by omega) (by omega) (by omega) | exact on_N1 (by omega) (by omega) (by omega) hlt (by assumption) (by omega) rfl | exact on_N2 (by omega) (by omega) (by omega) hlt (by assumption) (by assumption) (by assumption) (by omega) rfl | exact on_N3 (by omega) (by omega) (by omega) hlt (by assumption) (by assumption) (by assumption) (by assumption) (by assumption) (by omega) rfl | exact on_N4 (by omega) (by omega) (by omega) (by omega) (by assumption) (by assumption) (by assumption) (by assumption) (by assumption) (by omega)), (by first | exact ⟨hno, kdOK_up hkr (by decide)⟩ | exact ⟨hnr, hkr⟩)⟩ dX6_readsOne_152
              · skip
                refine g_iconst C dX6_readsOne_141 ?_
                refine g_goto C 146 dX6_readsOne_142 (by decide) ?_
                refine g_iadd C dX6_readsOne_146 ?_
                refine g_put C hw [cA G (a 6) 4 (up rk rm 0), oX6 h a ft pn ra2__17 (rm + 1) rP rS rD rQ al rw rc tr, cA G (a 7) 12 rt2__18, cA G (a 27) 240 ce] hin_X6_readsOne_X6 tyX6 tyX6_ok nmX6 1 rfl rfl 5 (by decide) lk_X6_readsOne_91 rfl rfl rfl rfl (Nat.le_of_ble_eq_true rfl) rfl dX6_readsOne_147 ?_
                clear hw
                intro H locs hw
                refine g_iload C hl 1 rfl dX6_readsOne_150 ?_
                exact g_zret C hr (ws' := [oX6 h a ft pn ra2__17 (rm + 1) rP rS rD rQ al rw rc tr, cA G (a 6) 4 (up rk rm 0), cA G (a 7) 12 rt2__18, cA G (a 27) 240 ce]) hw [1, 0, 2, 3] (by decide) rfl (by rcases hz1 with q | q; exact Or.inl (congrArg iI q); exact Or.inr (congrArg iI q)) ⟨ok__16, ra2__17, (rm + 1), (up rk rm 0), rt2__18, rfl, rfl, (by first | (exfalso; omega) | exact on_f0 (by omega) hpre hra.2 | exact on_f1 (by omega) (by omega) (by omega) (by omega) | exact on_N1 (by omega) (by omega) (by omega) hlt (by assumption) (by omega) rfl | exact on_N2 (by omega) (by omega) (by omega) hlt (by assumption) (by assumption) (by assumption) (by omega) rfl | exact on_N3 (by omega) (by omega) (by omega) hlt (by assumption) (by assumption) (by assumption) (by assumption) (by assumption) (by omega) rfl | exact on_N4 (by omega) (by omega) (by omega) (by omega) (by assumption) (by assumption) (by assumption) (by assumption) (by assumption) (by omega)), (by first | exact ⟨hno, kdOK_up hkr (by decide)⟩ | exact ⟨hnr, hkr⟩)⟩ dX6_readsOne_152
          · skip
            refine g_aload_n C hl 3 rfl rfl dX6_readsOne_85 ?_
            refine g_iload_n C hl 4 rfl rfl dX6_readsOne_86 ?_
            refine g_iload_n C hl 5 rfl rfl dX6_readsOne_87 ?_
            refine g_iload C hl 0 rfl dX6_readsOne_88 ?_
            refine g_callVi C hw (wr := [cA G (a 6) 4 rk]) (As := [.int (iI fr), .int (iI nn), .int (iI 2)]) (rest := []) (m_X6_readsNumber l D G (h := h) (a := a) (ft := ft) (pn := pn) (ra := ra2__17) (rm := rm) (rP := rP) (rS := rS) (rD := rD) (rQ := rQ) (al := al) (rw := rw) (rc := rc) (tr := tr) (ce := ce) (rt := rt2__18) (fr := fr) (nn := nn) (kk := 2) (by first | assumption | omega) (by first | assumption | omega) (by first | assumption | omega) (by first | assumption | omega) (by first | assumption | omega) (by first | assumption | omega)) (cwV 3 C.1.2.2.2.2 gX6_readsOne_X6_readsNumber rfl rfl rfl (by decide +kernel) ⟨Nat.le_of_ble_eq_true rfl, Nat.le_of_ble_eq_true rfl⟩) [1, 2, 3] [0] rfl rfl (by decide) (by decide) (by decide) 0 rfl rfl rfl hl.1 _ rfl (Nat.le_of_ble_eq_true rfl) dX6_readsOne_90 ⟨Nat.le_of_ble_eq_true rfl, Nat.le_of_ble_eq_true rfl⟩ ?_
            clear hw
            rintro _ _ H locs ⟨ok__27, ra2__28, rt2__29, rfl, rfl, hp_30⟩ hw
            have hw : gW D A s.heap [cA G (a 6) 4 rk, oX6 h a ft pn ra2__28 rm rP rS rD rQ al rw rc tr, cA G (a 7) 12 rt2__29, cA G (a 27) 240 ce] H locs := hw
            have hp_30 : nuP (cdF ce fr nn) nn ra2__17 rm 2 rt2__18 ok__27 ra2__28 rt2__29 := hp_30
            obtain ⟨hz1, hz2, hz3⟩ := nuP_1 hp_30
            have hno := nuOK_of hp_30 (by assumption)
            refine g_istore C [(4, .int (iI ok__27)), (5, .int (iI 2)), (3, .int (iI (((cdF ce fr nn) (ra + 1))))), (0, .ref h), (1, .int (iI fr)), (2, .int (iI nn))] dX6_readsOne_93 hl (by decide) rfl ?_
            clear hl
            intro ls hl
            refine g_iinc C [(5, .int (iI 3)), (4, .int (iI ok__27)), (3, .int (iI (((cdF ce fr nn) (ra + 1))))), (0, .ref h), (1, .int (iI fr)), (2, .int (iI nn))] 1 dX6_readsOne_95 hl rfl (by decide) rfl ?_
            clear hl
            intro ls hl
            refine g_goto C 74 dX6_readsOne_98 (by decide) ?_
            refine g_iload C hl 0 rfl dX6_readsOne_74 ?_
            refine g_iconst C dX6_readsOne_76 ?_
            refine g_icmp_ge C 101 dX6_readsOne_77 (by decide) (by decide) (by decide) (fun c_31 => ?_) (fun c_31 => absurd c_31 (by decide))
            refine g_aload_n C hl 3 rfl rfl dX6_readsOne_101 ?_
            refine g_get C hw hin_X6_readsOne_X6 1 rfl rfl 6 (by decide) lk_X6_readsOne_16 rfl dX6_readsOne_102 ?_
            refine g_aload_n C hl 3 rfl rfl dX6_readsOne_105 ?_
            refine g_get C hw hin_X6_readsOne_X6 1 rfl rfl 5 (by decide) lk_X6_readsOne_91 rfl dX6_readsOne_106 ?_
            refine g_iload_n C hl 2 rfl rfl dX6_readsOne_109 ?_
            refine g_bipush C dX6_readsOne_110 (by decide) ?_
            refine g_icmp_ne C 119 dX6_readsOne_112 (by decide) (by omega) (by omega) (fun c_32 => ?_) (fun c_32 => ?_)
            · skip
              refine g_iload_n C hl 2 rfl rfl dX6_readsOne_119 ?_
              refine g_bipush C dX6_readsOne_120 (by decide) ?_
              refine g_icmp_ne C 129 dX6_readsOne_122 (by decide) (by omega) (by omega) (fun c_33 => ?_) (fun c_33 => ?_)
              · skip
                refine g_iconst C dX6_readsOne_129 ?_
                refine g_iast C hw [cA G (a 6) 4 (up rk rm 2), oX6 h a ft pn ra2__28 rm rP rS rD rQ al rw rc tr, cA G (a 7) 12 rt2__29, cA G (a 27) 240 ce] 0 rfl (by omega) (Nat.le_of_ble_eq_true rfl) rfl dX6_readsOne_130 ?_
                clear hw
                intro H locs hw
                refine g_aload_n C hl 3 rfl rfl dX6_readsOne_131 ?_
                refine g_dup C dX6_readsOne_132 rfl ?_
                refine g_get C hw hin_X6_readsOne_X6 1 rfl rfl 5 (by decide) lk_X6_readsOne_91 rfl dX6_readsOne_133 ?_
                refine g_iload C hl 1 rfl dX6_readsOne_136 ?_
                refine g_if_eq C 145 dX6_readsOne_138 (by decide) (by omega) (fun c_34 => ?_) (fun c_34 => ?_)
                · skip
                  refine g_iconst C dX6_readsOne_145 ?_
                  refine g_iadd C dX6_readsOne_146 ?_
                  refine g_put C hw [cA G (a 6) 4 (up rk rm 2), oX6 h a ft pn ra2__28 (rm + 0) rP rS rD rQ al rw rc tr, cA G (a 7) 12 rt2__29, cA G (a 27) 240 ce] hin_X6_readsOne_X6 tyX6 tyX6_ok nmX6 1 rfl rfl 5 (by decide) lk_X6_readsOne_91 rfl rfl rfl rfl (Nat.le_of_ble_eq_true rfl) rfl dX6_readsOne_147 ?_
                  clear hw
                  intro H locs hw
                  refine g_iload C hl 1 rfl dX6_readsOne_150 ?_
                  exact g_zret C hr (ws' := [oX6 h a ft pn ra2__28 (rm + 0) rP rS rD rQ al rw rc tr, cA G (a 6) 4 (up rk rm 2), cA G (a 7) 12 rt2__29, cA G (a 27) 240 ce]) hw [1, 0, 2, 3] (by decide) rfl (by rcases hz1 with q | q; exact Or.inl (congrArg iI q); exact Or.inr (congrArg iI q)) ⟨ok__27, ra2__28, (rm + 0), (up rk rm 2), rt2__29, rfl, rfl, (by first | (exfalso; omega) | exact on_f0 (by omega) hpre hra.2 | exact on_f1 (by omega) (by omega) (by omega) (by omega) | exact on_N1 (by omega) (by omega) (by omega) hlt (by assumption) (by omega) rfl | exact on_N2 (by omega) (by omega) (by omega) hlt (by assumption) (by assumption) (by assumption) (by omega) rfl | exact on_N3 (by omega) (by omega) (by omega) hlt (by assumption) (by assumption) (by assumption) (by assumption) (by assumption) (by omega) rfl | exact on_N4 (by omega) (by omega) (by omega) (by omega) (by assumption) (by assumption) (by assumption) (by assumption) (by assumption) (by omega)), (by first | exact ⟨hno, kdOK_up hkr (by decide)⟩ | exact ⟨hnr, hkr⟩)⟩ dX6_readsOne_152
                · skip
                  refine g_iconst C dX6_readsOne_141 ?_
                  refine g_goto C 146 dX6_readsOne_142 (by decide) ?_
                  refine g_iadd C dX6_readsOne_146 ?_
                  refine g_put C hw [cA G (a 6) 4 (up rk rm 2), oX6 h a ft pn ra2__28 (rm + 1) rP rS rD rQ al rw rc tr, cA G (a 7) 12 rt2__29, cA G (a 27) 240 ce] hin_X6_readsOne_X6 tyX6 tyX6_ok nmX6 1 rfl rfl 5 (by decide) lk_X6_readsOne_91 rfl rfl rfl rfl (Nat.le_of_ble_eq_true rfl) rfl dX6_readsOne_147 ?_
                  clear hw
                  intro H locs hw
                  refine g_iload C hl 1 rfl dX6_readsOne_150 ?_
                  exact g_zret C hr (ws' := [oX6 h a ft pn ra2__28 (rm + 1) rP rS rD rQ al rw rc tr, cA G (a 6) 4 (up rk rm 2), cA G (a 7) 12 rt2__29, cA G (a 27) 240 ce]) hw [1, 0, 2, 3] (by decide) rfl (by rcases hz1 with q | q; exact Or.inl (congrArg iI q); exact Or.inr (congrArg iI q)) ⟨ok__27, ra2__28, (rm + 1), (up rk rm 2), rt2__29, rfl, rfl, (by first | (exfalso; omega) | exact on_f0 (by omega) hpre hra.2 | exact on_f1 (by omega) (by omega) (by omega) (by omega) | exact on_N1 (by omega) (by omega) (by omega) hlt (by assumption) (by omega) rfl | exact on_N2 (by omega) (by omega) (by omega) hlt (by assumption) (by assumption) (by assumption) (by omega) rfl | exact on_N3 (by omega) (by omega) (by omega) hlt (by assumption) (by assumption) (by assumption) (by assumption) (by assumption) (by omega) rfl | exact on_N4 (by omega) (by omega) (by omega) (by omega) (by assumption) (by assumption) (by assumption) (by assumption) (by assumption) (by omega)), (by first | exact ⟨hno, kdOK_up hkr (by decide)⟩ | exact ⟨hnr, hkr⟩)⟩ dX6_readsOne_152
              · skip
                refine g_iconst C dX6_readsOne_125 ?_
                refine g_goto C 130 dX6_readsOne_126 (by decide) ?_
                refine g_iast C hw [cA G (a 6) 4 (up rk rm 1), oX6 h a ft pn ra2__28 rm rP rS rD rQ al rw rc tr, cA G (a 7) 12 rt2__29, cA G (a 27) 240 ce] 0 rfl (by omega) (Nat.le_of_ble_eq_true rfl) rfl dX6_readsOne_130 ?_
                clear hw
                intro H locs hw
                refine g_aload_n C hl 3 rfl rfl dX6_readsOne_131 ?_
                refine g_dup C dX6_readsOne_132 rfl ?_
                refine g_get C hw hin_X6_readsOne_X6 1 rfl rfl 5 (by decide) lk_X6_readsOne_91 rfl dX6_readsOne_133 ?_
                refine g_iload C hl 1 rfl dX6_readsOne_136 ?_
                refine g_if_eq C 145 dX6_readsOne_138 (by decide) (by omega) (fun c_35 => ?_) (fun c_35 => ?_)
                · skip
                  refine g_iconst C dX6_readsOne_145 ?_
                  refine g_iadd C dX6_readsOne_146 ?_
                  refine g_put C hw [cA G (a 6) 4 (up rk rm 1), oX6 h a ft pn ra2__28 (rm + 0) rP rS rD rQ al rw rc tr, cA G (a 7) 12 rt2__29, cA G (a 27) 240 ce] hin_X6_readsOne_X6 tyX6 tyX6_ok nmX6 1 rfl rfl 5 (by decide) lk_X6_readsOne_91 rfl rfl rfl rfl (Nat.le_of_ble_eq_true rfl) rfl dX6_readsOne_147 ?_
                  clear hw
                  intro H locs hw
                  refine g_iload C hl 1 rfl dX6_readsOne_150 ?_
                  exact g_zret C hr (ws' := [oX6 h a ft pn ra2__28 (rm + 0) rP rS rD rQ al rw rc tr, cA G (a 6) 4 (up rk rm 1), cA G (a 7) 12 rt2__29, cA G (a 27) 240 ce]) hw [1, 0, 2, 3] (by decide) rfl (by rcases hz1 with q | q; exact Or.inl (congrArg iI q); exact Or.inr (congrArg iI q)) ⟨ok__27, ra2__28, (rm + 0), (up rk rm 1), rt2__29, rfl, rfl, (by first | (exfalso; omega) | exact on_f0 (by omega) hpre hra.2 | exact on_f1 (by omega) (by omega) (by omega) (by omega) | exact on_N1 (by omega) (by omega) (by omega) hlt (by assumption) (by omega) rfl | exact on_N2 (by omega) (by omega) (by omega) hlt (by assumption) (by assumption) (by assumption) (by omega) rfl | exact on_N3 (by omega) (by omega) (by omega) hlt (by assumption) (by assumption) (by assumption) (by assumption) (by assumption) (by omega) rfl | exact on_N4 (by omega) (by omega) (by omega) (by omega) (by assumption) (by assumption) (by assumption) (by assumption) (by assumption) (by omega)), (by first | exact ⟨hno, kdOK_up hkr (by decide)⟩ | exact ⟨hnr, hkr⟩)⟩ dX6_readsOne_152
                · skip
                  refine g_iconst C dX6_readsOne_141 ?_
                  refine g_goto C 146 dX6_readsOne_142 (by decide) ?_
                  refine g_iadd C dX6_readsOne_146 ?_
                  refine g_put C hw [cA G (a 6) 4 (up rk rm 1), oX6 h a ft pn ra2__28 (rm + 1) rP rS rD rQ al rw rc tr, cA G (a 7) 12 rt2__29, cA G (a 27) 240 ce] hin_X6_readsOne_X6 tyX6 tyX6_ok nmX6 1 rfl rfl 5 (by decide) lk_X6_readsOne_91 rfl rfl rfl rfl (Nat.le_of_ble_eq_true rfl) rfl dX6_readsOne_147 ?_
                  clear hw
                  intro H locs hw
                  refine g_iload C hl 1 rfl dX6_readsOne_150 ?_
                  exact g_zret C hr (ws' := [oX6 h a ft pn ra2__28 (rm + 1) rP rS rD rQ al rw rc tr, cA G (a 6) 4 (up rk rm 1), cA G (a 7) 12 rt2__29, cA G (a 27) 240 ce]) hw [1, 0, 2, 3] (by decide) rfl (by rcases hz1 with q | q; exact Or.inl (congrArg iI q); exact Or.inr (congrArg iI q)) ⟨ok__27, ra2__28, (rm + 1), (up rk rm 1), rt2__29, rfl, rfl, (by first | (exfalso; omega) | exact on_f0 (by omega) hpre hra.2 | exact on_f1 (by omega) (by omega) (by omega) (by omega) | exact on_N1 (by omega) (by omega) (by omega) hlt (by assumption) (by omega) rfl | exact on_N2 (by omega) (by omega) (by omega) hlt (by assumption) (by assumption) (by assumption) (by omega) rfl | exact on_N3 (by omega) (by omega) (by omega) hlt (by assumption) (by assumption) (by assumption) (by assumption) (by assumption) (by omega) rfl | exact on_N4 (by omega) (by omega) (by omega) (by omega) (by assumption) (by assumption) (by assumption) (by assumption) (by assumption) (by omega)), (by first | exact ⟨hno, kdOK_up hkr (by decide)⟩ | exact ⟨hnr, hkr⟩)⟩ dX6_readsOne_152
            · skip
              refine g_iconst C dX6_readsOne_115 ?_
              refine g_goto C 130 dX6_readsOne_116 (by decide) ?_
              refine g_iast C hw [cA G (a 6) 4 (up rk rm 0), oX6 h a ft pn ra2__28 rm rP rS rD rQ al rw rc tr, cA G (a 7) 12 rt2__29, cA G (a 27) 240 ce] 0 rfl (by omega) (Nat.le_of_ble_eq_true rfl) rfl dX6_readsOne_130 ?_
              clear hw
              intro H locs hw
              refine g_aload_n C hl 3 rfl rfl dX6_readsOne_131 ?_
              refine g_dup C dX6_readsOne_132 rfl ?_
              refine g_get C hw hin_X6_readsOne_X6 1 rfl rfl 5 (by decide) lk_X6_readsOne_91 rfl dX6_readsOne_133 ?_
              refine g_iload C hl 1 rfl dX6_readsOne_136 ?_
              refine g_if_eq C 145 dX6_readsOne_138 (by decide) (by omega) (fun c_36 => ?_) (fun c_36 => ?_)
              · skip
                refine g_iconst C dX6_readsOne_145 ?_
                refine g_iadd C dX6_readsOne_146 ?_
                refine g_put C hw [cA G (a 6) 4 (up rk rm 0), oX6 h a ft pn ra2__28 (rm + 0) rP rS rD rQ al rw rc tr, cA G (a 7) 12 rt2__29, cA G (a 27) 240 ce] hin_X6_readsOne_X6 tyX6 tyX6_ok nmX6 1 rfl rfl 5 (by decide) lk_X6_readsOne_91 rfl rfl rfl rfl (Nat.le_of_ble_eq_true rfl) rfl dX6_readsOne_147 ?_
                clear hw
                intro H locs hw
                refine g_iload C hl 1 rfl dX6_readsOne_150 ?_
                exact g_zret C hr (ws' := [oX6 h a ft pn ra2__28 (rm + 0) rP rS rD rQ al rw rc tr, cA G (a 6) 4 (up rk rm 0), cA G (a 7) 12 rt2__29, cA G (a 27) 240 ce]) hw [1, 0, 2, 3] (by decide) rfl (by rcases hz1 with q | q; exact Or.inl (congrArg iI q); exact Or.inr (congrArg iI q)) ⟨ok__27, ra2__28, (rm + 0), (up rk rm 0), rt2__29, rfl, rfl, (by first | (exfalso; omega) | exact on_f0 (by omega) hpre hra.2 | exact on_f1 (by omega) (by omega) (by omega) (by omega) | exact on_N1 (by omega) (by omega) (by omega) hlt (by assumption) (by omega) rfl | exact on_N2 (by omega) (by omega) (by omega) hlt (by assumption) (by assumption) (by assumption) (by omega) rfl | exact on_N3 (by omega) (by omega) (by omega) hlt (by assumption) (by assumption) (by assumption) (by assumption) (by assumption) (by omega) rfl | exact on_N4 (by omega) (by omega) (by omega) (by omega) (by assumption) (by assumption) (by assumption) (by assumption) (by assumption) (by omega)), (by first | exact ⟨hno, kdOK_up hkr (by decide)⟩ | exact ⟨hnr, hkr⟩)⟩ dX6_readsOne_152
              · skip
                refine g_iconst C dX6_readsOne_141 ?_
                refine g_goto C 146 dX6_readsOne_142 (by decide) ?_
                refine g_iadd C dX6_readsOne_146 ?_
                refine g_put C hw [cA G (a 6) 4 (up rk rm 0), oX6 h a ft pn ra2__28 (rm + 1) rP rS rD rQ al rw rc tr, cA G (a 7) 12 rt2__29, cA G (a 27) 240 ce] hin_X6_readsOne_X6 tyX6 tyX6_ok nmX6 1 rfl rfl 5 (by decide) lk_X6_readsOne_91 rfl rfl rfl rfl (Nat.le_of_ble_eq_true rfl) rfl dX6_readsOne_147 ?_
                clear hw
                intro H locs hw
                refine g_iload C hl 1 rfl dX6_readsOne_150 ?_
                exact g_zret C hr (ws' := [oX6 h a ft pn ra2__28 (rm + 1) rP rS rD rQ al rw rc tr, cA G (a 6) 4 (up rk rm 0), cA G (a 7) 12 rt2__29, cA G (a 27) 240 ce]) hw [1, 0, 2, 3] (by decide) rfl (by rcases hz1 with q | q; exact Or.inl (congrArg iI q); exact Or.inr (congrArg iI q)) ⟨ok__27, ra2__28, (rm + 1), (up rk rm 0), rt2__29, rfl, rfl, (by first | (exfalso; omega) | exact on_f0 (by omega) hpre hra.2 | exact on_f1 (by omega) (by omega) (by omega) (by omega) | exact on_N1 (by omega) (by omega) (by omega) hlt (by assumption) (by omega) rfl | exact on_N2 (by omega) (by omega) (by omega) hlt (by assumption) (by assumption) (by assumption) (by omega) rfl | exact on_N3 (by omega) (by omega) (by omega) hlt (by assumption) (by assumption) (by assumption) (by assumption) (by assumption) (by omega) rfl | exact on_N4 (by omega) (by omega) (by omega) (by omega) (by assumption) (by assumption) (by assumption) (by assumption) (by assumption) (by omega)), (by first | exact ⟨hno, kdOK_up hkr (by decide)⟩ | exact ⟨hnr, hkr⟩)⟩ dX6_readsOne_152
      · intro hj_37
        replace hj_37 : ∀ (u_' : Unit), ((((cdF ce fr nn) (ra + 1) = 112 ∨ (cdF ce fr nn) (ra + 1) = 109 ∨ (cdF ce fr nn) (ra + 1) = 115))) → ∀ (H : Heap) (locs : List Loc) (ls : Array Slot), gW D A s.heap [cA G (a 6) 4 rk, cA G (a 7) 12 rt, oX6 h a ft pn (ra + 1) rm rP rS rD rQ al rw rc tr, cA G (a 27) 240 ce] H locs → lv_has ls 6 [(3, .int (iI (((cdF ce fr nn) (ra + 1))))), (0, .ref h), (1, .int (iI fr)), (2, .int (iI nn))] → W p l e _ s m _ below meth c H locs _ _ _ (F0 m 58 ls []) := fun u_' => hj_37 u_'
        refine g_iload_n C hl 0 rfl rfl dX6_readsOne_38 ?_
        refine g_bipush C dX6_readsOne_39 (by decide) ?_
        refine g_icmp_eq C 58 dX6_readsOne_41 (by decide) (by omega) (by omega) (fun c_38 => ?_) (fun c_38 => ?_)
        · skip
          have hw : gW D A s.heap [cA G (a 6) 4 rk, cA G (a 7) 12 rt, oX6 h a ft pn (ra + 1) rm rP rS rD rQ al rw rc tr, cA G (a 27) 240 ce] H locs := g_perm hw [0, 1, 2, 3] (by decide) rfl
          exact hj_37 () (by omega) H locs ls hw (lv_sub hl [0, 1, 2, 3] rfl)
        · skip
          refine g_iload_n C hl 0 rfl rfl dX6_readsOne_44 ?_
          refine g_bipush C dX6_readsOne_45 (by decide) ?_
          refine g_icmp_eq C 58 dX6_readsOne_47 (by decide) (by omega) (by omega) (fun c_39 => ?_) (fun c_39 => ?_)
          · skip
            have hw : gW D A s.heap [cA G (a 6) 4 rk, cA G (a 7) 12 rt, oX6 h a ft pn (ra + 1) rm rP rS rD rQ al rw rc tr, cA G (a 27) 240 ce] H locs := g_perm hw [0, 1, 2, 3] (by decide) rfl
            exact hj_37 () (by omega) H locs ls hw (lv_sub hl [0, 1, 2, 3] rfl)
          · skip
            refine g_iload_n C hl 0 rfl rfl dX6_readsOne_50 ?_
            refine g_bipush C dX6_readsOne_51 (by decide) ?_
            refine g_icmp_eq C 58 dX6_readsOne_53 (by decide) (by omega) (by omega) (fun c_40 => ?_) (fun c_40 => ?_)
            · skip
              have hw : gW D A s.heap [cA G (a 6) 4 rk, cA G (a 7) 12 rt, oX6 h a ft pn (ra + 1) rm rP rS rD rQ al rw rc tr, cA G (a 27) 240 ce] H locs := g_perm hw [0, 1, 2, 3] (by decide) rfl
              exact hj_37 () (by omega) H locs ls hw (lv_sub hl [0, 1, 2, 3] rfl)
            · skip
              refine g_iconst C dX6_readsOne_56 ?_
              exact g_zret C hr (ws' := [oX6 h a ft pn (ra + 1) rm rP rS rD rQ al rw rc tr, cA G (a 6) 4 rk, cA G (a 7) 12 rt, cA G (a 27) 240 ce]) hw [2, 0, 1, 3] (by decide) rfl (Or.inl rfl) ⟨0, (ra + 1), rm, rk, rt, rfl, rfl, (by first | (exfalso; omega) | exact on_f0 (by omega) hpre hra.2 | exact on_f1 (by omega) (by omega) (by omega) (by omega) | exact on_N1 (by omega) (by omega) (by omega) hlt (by assumption) (by omega) rfl | exact on_N2 (by omega) (by omega) (by omega) hlt (by assumption) (by assumption) (by assumption) (by omega) rfl | exact on_N3 (by omega) (by omega) (by omega) hlt (by assumption) (by assumption) (by assumption) (by assumption) (by assumption) (by omega) rfl | exact on_N4 (by omega) (by omega) (by omega) (by omega) (by assumption) (by assumption) (by assumption) (by assumption) (by assumption) (by omega)), (by first | exact ⟨hno, kdOK_up hkr (by decide)⟩ | exact ⟨hnr, hkr⟩)⟩ dX6_readsOne_57
    · skip
      refine g_iconst C dX6_readsOne_19 ?_
      exact g_zret C hr (ws' := [oX6 h a ft pn ra rm rP rS rD rQ al rw rc tr, cA G (a 6) 4 rk, cA G (a 7) 12 rt, cA G (a 27) 240 ce]) hw [2, 0, 1, 3] (by decide) rfl (Or.inl rfl) ⟨0, ra, rm, rk, rt, rfl, rfl, (by first | (exfalso; omega) | exact on_f0 (by omega) hpre hra.2 | exact on_f1 (by omega) (by omega) (by omega) (by omega) | exact on_N1 (by omega) (by omega) (by omega) hlt (by assumption) (by omega) rfl | exact on_N2 (by omega) (by omega) (by omega) hlt (by assumption) (by assumption) (by assumption) (by omega) rfl | exact on_N3 (by omega) (by omega) (by omega) hlt (by assumption) (by assumption) (by assumption) (by assumption) (by assumption) (by omega) rfl | exact on_N4 (by omega) (by omega) (by omega) (by omega) (by assumption) (by assumption) (by assumption) (by assumption) (by assumption) (by omega)), (by first | exact ⟨hno, kdOK_up hkr (by decide)⟩ | exact ⟨hnr, hkr⟩)⟩ dX6_readsOne_20

set_option maxRecDepth 20000 in
theorem hin_X6_readsAll_X6 : ∀ w ∈ u_ws RX6 TX6 30, w ∈ wsX6_readsAll := by
  intro w h
  exact List.mem_cons_of_mem _ (List.mem_append_right _ (h))
set_option maxRecDepth 20000 in
theorem lk_X6_readsAll_82 : Cond.fieldLink RX6 82 (TX6 4).1 (TX6 4).2.1 (TX6 4).2.2.1 ∈ wsX6_readsAll := List.mem_cons_of_mem _ (List.mem_append_left _ (List.mem_of_getElem? (i := 0) rfl))
set_option maxRecDepth 20000 in
theorem lk_X6_readsAll_91 : Cond.fieldLink RX6 91 (TX6 5).1 (TX6 5).2.1 (TX6 5).2.2.1 ∈ wsX6_readsAll := List.mem_cons_of_mem _ (List.mem_append_left _ (List.mem_of_getElem? (i := 1) rfl))
set_option maxRecDepth 100000 in
set_option maxHeartbeats 8000000 in
theorem m_X6_readsAll (l : Launch) (D : va_G) (G : gT) (h : Nat) (a : Nat → Nat) (ft : Int) (pn : Int) (ra : Int) (rm : Int) (rP : Int) (rS : Int) (rD : Int) (rQ : Int) (al : Int) (rw : Int) (rc : Int) (tr : Int) (ce : Int → Int) (rk : Int → Int) (rt : Int → Int) (fr : Int) (nn : Int) (hfr : 0 ≤ fr ∧ fr + nn ≤ 240) (hnn : 0 ≤ nn ∧ nn ≤ 60) (hce : ∀ j, -2147483648 ≤ ce j ∧ ce j ≤ 2147483647) (hnr : nuOK rt) (hkr : kdOK rk) : gMi l yX6_readsAll wsX6_readsAll ({ frames := 3, cells := 0, slots := 0, locals := 75 }) D G [.ref h, .int (iI fr), .int (iI nn)] [oX6 h a ft pn ra rm rP rS rD rQ al rw rc tr, cA G (a 6) 4 rk, cA G (a 7) 12 rt, cA G (a 27) 240 ce] 0 0 (fun (r : Int32) (w : va_W) => ∃ (ok : Int) (ra2 : Int) (rm2 : Int) (rk2 : Int → Int) (rt2 : Int → Int), r = (iI ok) ∧ w = [oX6 h a ft pn ra2 rm2 rP rS rD rQ al rw rc tr, cA G (a 6) 4 rk2, cA G (a 7) 12 rt2, cA G (a 27) 240 ce] ∧ (alP (cdF ce fr nn) nn ok ra2 rm2 rk2 rt2) ∧ (nuOK rt2 ∧ kdOK rk2)) := by
  refine g_start_i (cc := cX6_readsAll) (nL := 4) (own := RX6) (ret := some .boolean) (by decide +kernel) rfl rfl (Nat.le_of_ble_eq_true rfl) ?_
  intro p e s m below meth c A ls C hr hnm hw hl
  have hl : lv_has ls 4 [(0, .ref h), (1, .int (iI fr)), (2, .int (iI nn))] := hl
  have hcb : ∀ x, -2147483648 ≤ cdF ce fr nn x ∧ cdF ce fr nn x ≤ 2147483647 := by
    intro x
    have := hce (fr + x)
    unfold cdF
    split <;> omega
  have hc0 := hcb 0
  have hcn : ∀ x, nn ≤ x → cdF ce fr nn x = -9 := fun x hx => if_neg (by omega)
  have hq0 := hcn 0
  refine g_aload_n C hl 0 rfl rfl dX6_readsAll_0 ?_
  refine g_iconst C dX6_readsAll_1 ?_
  refine g_put C hw [oX6 h a ft pn 0 rm rP rS rD rQ al rw rc tr, cA G (a 6) 4 rk, cA G (a 7) 12 rt, cA G (a 27) 240 ce] hin_X6_readsAll_X6 tyX6 tyX6_ok nmX6 0 rfl rfl 4 (by decide) lk_X6_readsAll_82 rfl rfl rfl rfl (Nat.le_of_ble_eq_true rfl) rfl dX6_readsAll_2 ?_
  clear hw
  intro H locs hw
  refine g_aload_n C hl 0 rfl rfl dX6_readsAll_5 ?_
  refine g_iconst C dX6_readsAll_6 ?_
  refine g_put C hw [oX6 h a ft pn 0 0 rP rS rD rQ al rw rc tr, cA G (a 6) 4 rk, cA G (a 7) 12 rt, cA G (a 27) 240 ce] hin_X6_readsAll_X6 tyX6 tyX6_ok nmX6 0 rfl rfl 5 (by decide) lk_X6_readsAll_91 rfl rfl rfl rfl (Nat.le_of_ble_eq_true rfl) rfl dX6_readsAll_7 ?_
  clear hw
  intro H locs hw
  refine g_aload_n C hl 0 rfl rfl dX6_readsAll_10 ?_
  refine g_iload_n C hl 1 rfl rfl dX6_readsAll_11 ?_
  refine g_iload_n C hl 2 rfl rfl dX6_readsAll_12 ?_
  refine g_callVi C hw (wr := [cA G (a 6) 4 rk, cA G (a 7) 12 rt]) (As := [.int (iI fr), .int (iI nn)]) (rest := []) (m_X6_codeAt l D G (h := h) (a := a) (ft := ft) (pn := pn) (ra := 0) (rm := 0) (rP := rP) (rS := rS) (rD := rD) (rQ := rQ) (al := al) (rw := rw) (rc := rc) (tr := tr) (ce := ce) (fr := fr) (nn := nn) (by first | assumption | omega) (by first | assumption | omega) (by first | assumption | omega)) (cwV 2 C.1.2.2.2.2 gX6_readsAll_X6_codeAt rfl rfl rfl (by decide +kernel) ⟨Nat.le_of_ble_eq_true rfl, Nat.le_of_ble_eq_true rfl⟩) [0, 3] [1, 2] rfl rfl (by decide) (by decide) (by decide) 0 rfl rfl rfl hl.1 _ rfl (Nat.le_of_ble_eq_true rfl) dX6_readsAll_13 ⟨Nat.le_of_ble_eq_true rfl, Nat.le_of_ble_eq_true rfl⟩ ?_
  clear hw
  rintro _ _ H locs ⟨rfl, rfl⟩ hw
  have hw : gW D A s.heap [cA G (a 6) 4 rk, cA G (a 7) 12 rt, oX6 h a ft pn 0 0 rP rS rD rQ al rw rc tr, cA G (a 27) 240 ce] H locs := hw
  refine g_bipush C dX6_readsAll_16 (by decide) ?_
  refine g_icmp_eq C 23 dX6_readsAll_18 (by decide) (by omega) (by omega) (fun c_1 => ?_) (fun c_1 => ?_)
  · skip
    refine g_aload_n C hl 0 rfl rfl dX6_readsAll_23 ?_
    refine g_dup C dX6_readsAll_24 rfl ?_
    refine g_get C hw hin_X6_readsAll_X6 2 rfl rfl 4 (by decide) lk_X6_readsAll_82 rfl dX6_readsAll_25 ?_
    refine g_iconst C dX6_readsAll_28 ?_
    refine g_iadd C dX6_readsAll_29 ?_
    refine g_nI (show (0 + 1 : Int) = 1 by decide) ?_
    refine g_put C hw [cA G (a 6) 4 rk, cA G (a 7) 12 rt, oX6 h a ft pn 1 0 rP rS rD rQ al rw rc tr, cA G (a 27) 240 ce] hin_X6_readsAll_X6 tyX6 tyX6_ok nmX6 2 rfl rfl 4 (by decide) lk_X6_readsAll_82 rfl rfl rfl rfl (Nat.le_of_ble_eq_true rfl) rfl dX6_readsAll_30 ?_
    clear hw
    intro H locs hw
    refine g_iconst C dX6_readsAll_33 ?_
    refine g_istore_n C [(3, .int (iI 1)), (0, .ref h), (1, .int (iI fr)), (2, .int (iI nn))] dX6_readsAll_34 rfl hl (by decide) rfl ?_
    clear hl
    intro ls hl
    refine g_loop (σ := (Int) × (Int) × (Int) × (Int → Int) × (Int → Int)) (fun z_ => [cA G (a 6) 4 z_.2.2.2.1, cA G (a 7) 12 z_.2.2.2.2, oX6 h a ft pn z_.2.1 z_.2.2.1 rP rS rD rQ al rw rc tr, cA G (a 27) 240 ce]) (fun z_ => [(3, .int (iI (z_.1))), (0, .ref h), (1, .int (iI fr)), (2, .int (iI nn))]) (fun z_ => (lpP (cdF ce fr nn) nn z_.1 z_.2.1 z_.2.2.1 z_.2.2.2.1 z_.2.2.2.2) ∧ (nuOK z_.2.2.2.2) ∧ (kdOK z_.2.2.2.1)) (fun z_ => (2 * (nn - z_.2.1) + z_.1).toNat) (1, 1, 0, rk, rt) ⟨by (try dsimp only); exact lp_init (by omega) (by omega), by (try dsimp only); exact hnr, by (try dsimp only); exact hkr⟩ hw (lv_sub hl [0, 1, 2, 3] rfl) ?_
    clear hw hl
    rintro ⟨si, ra1, rm1, rk1, rt1⟩ ⟨hlp, hno, hko⟩ H locs ls hw hl ih_2
    replace hlp : lpP (cdF ce fr nn) nn si ra1 rm1 rk1 rt1 := hlp
    replace hno : nuOK rt1 := hno
    replace hko : kdOK rk1 := hko
    replace hw : gW D A s.heap [cA G (a 6) 4 rk1, cA G (a 7) 12 rt1, oX6 h a ft pn ra1 rm1 rP rS rD rQ al rw rc tr, cA G (a 27) 240 ce] H locs := hw
    replace hl : lv_has ls 4 [(3, .int (iI si)), (0, .ref h), (1, .int (iI fr)), (2, .int (iI nn))] := hl
    replace ih_2 : ∀ (si' : Int) (ra1' : Int) (rm1' : Int) (rk1' : Int → Int) (rt1' : Int → Int), ((lpP (cdF ce fr nn) nn si' ra1' rm1' rk1' rt1') ∧ (nuOK rt1') ∧ (kdOK rk1')) → ((2 * (nn - ra1') + si').toNat) < ((2 * (nn - ra1) + si).toNat) → ∀ (H : Heap) (locs : List Loc) (ls : Array Slot), gW D A s.heap [cA G (a 6) 4 rk1', cA G (a 7) 12 rt1', oX6 h a ft pn ra1' rm1' rP rS rD rQ al rw rc tr, cA G (a 27) 240 ce] H locs → lv_has ls 4 [(3, .int (iI (si'))), (0, .ref h), (1, .int (iI fr)), (2, .int (iI nn))] → W p l e _ s m _ below meth c H locs _ _ _ (F0 m 35 ls []) := fun si' ra1' rm1' rk1' rt1' => ih_2 (si', ra1', rm1', rk1', rt1')
    have hlr := lp_r hlp
    refine g_iload_n C hl 0 rfl rfl dX6_readsAll_35 ?_
    refine g_if_eq C 65 dX6_readsAll_36 (by decide) (by omega) (fun c_3 => ?_) (fun c_3 => ?_)
    · skip
      refine g_iload_n C hl 0 rfl rfl dX6_readsAll_65 ?_
      exact g_zret C hr (ws' := [oX6 h a ft pn ra1 rm1 rP rS rD rQ al rw rc tr, cA G (a 6) 4 rk1, cA G (a 7) 12 rt1, cA G (a 27) 240 ce]) hw [2, 0, 1, 3] (by decide) rfl (by rcases hlr.1 with q | q; exact Or.inl (congrArg iI q); exact Or.inr (congrArg iI q)) ⟨si, ra1, rm1, rk1, rt1, rfl, rfl, (by first | exact al_f0 (by omega) (by omega) | exact lp_end1 hlp (by omega) | exact lp_end2 hlp (by omega) (by omega) (by omega)), (by first | exact ⟨hno, hko⟩ | exact ⟨hnr, hkr⟩)⟩ dX6_readsAll_66
    · skip
      refine g_aload_n C hl 1 rfl rfl dX6_readsAll_39 ?_
      refine g_get C hw hin_X6_readsAll_X6 2 rfl rfl 5 (by decide) lk_X6_readsAll_91 rfl dX6_readsAll_40 ?_
      refine g_iconst C dX6_readsAll_43 ?_
      refine g_icmp_lt C 55 dX6_readsAll_44 (by decide) (by omega) (by omega) (fun c_4 => ?_) (fun c_4 => ?_)
      · skip
        refine g_aload_n C hl 1 rfl rfl dX6_readsAll_55 ?_
        refine g_iload_n C hl 2 rfl rfl dX6_readsAll_56 ?_
        refine g_iload_n C hl 3 rfl rfl dX6_readsAll_57 ?_
        refine g_callVi C hw (wr := []) (As := [.int (iI fr), .int (iI nn)]) (rest := []) (m_X6_readsOne l D G (h := h) (a := a) (ft := ft) (pn := pn) (ra := ra1) (rm := rm1) (rP := rP) (rS := rS) (rD := rD) (rQ := rQ) (al := al) (rw := rw) (rc := rc) (tr := tr) (ce := ce) (rk := rk1) (rt := rt1) (fr := fr) (nn := nn) (by first | assumption | omega) (by first | assumption | omega) (by first | assumption | omega) (by first | assumption | omega) (by first | assumption | omega) (by first | assumption | omega) (by first | assumption | omega) (by first | assumption | omega)) (cwV 2 C.1.2.2.2.2 gX6_readsAll_X6_readsOne rfl rfl rfl (by decide +kernel) ⟨Nat.le_of_ble_eq_true rfl, Nat.le_of_ble_eq_true rfl⟩) [2, 0, 1, 3] [] rfl rfl (by decide) (by decide) (by decide) 0 rfl rfl rfl hl.1 _ rfl (Nat.le_of_ble_eq_true rfl) dX6_readsAll_58 ⟨Nat.le_of_ble_eq_true rfl, Nat.le_of_ble_eq_true rfl⟩ ?_
        clear hw
        rintro _ _ H locs ⟨ok__5, ra2__6, rm2__7, rk2__8, rt2__9, rfl, rfl, hp_10, hp_11⟩ hw
        have hw : gW D A s.heap [oX6 h a ft pn ra2__6 rm2__7 rP rS rD rQ al rw rc tr, cA G (a 6) 4 rk2__8, cA G (a 7) 12 rt2__9, cA G (a 27) 240 ce] H locs := hw
        have hp_10 : onP (cdF ce fr nn) nn ra1 rm1 rk1 rt1 ok__5 ra2__6 rm2__7 rk2__8 rt2__9 := hp_10
        have hp_11 : nuOK rt2__9 ∧ kdOK rk2__8 := hp_11
        have hon := hp_10
        have hno2 := hp_11
        have hlp2 := lp_step hlp (by omega) hon
        have hlr2 := lp_r hlp2
        refine g_istore_n C [(3, .int (iI ok__5)), (0, .ref h), (1, .int (iI fr)), (2, .int (iI nn))] dX6_readsAll_61 rfl hl (by decide) rfl ?_
        clear hl
        intro ls hl
        refine g_goto C 35 dX6_readsAll_62 (by decide) ?_
        have hw : gW D A s.heap [cA G (a 6) 4 rk2__8, cA G (a 7) 12 rt2__9, oX6 h a ft pn ra2__6 rm2__7 rP rS rD rQ al rw rc tr, cA G (a 27) 240 ce] H locs := g_perm hw [1, 2, 0, 3] (by decide) rfl
        exact ih_2 ok__5 ra2__6 rm2__7 rk2__8 rt2__9 ⟨by exact hlp2, by exact hno2.1, by exact hno2.2⟩ (by rcases hon with ⟨q1, q2, q3, q4, q5, -⟩ | ⟨q1, q2, q3, -⟩ <;> omega) H locs ls hw (lv_sub hl [0, 1, 2, 3] rfl)
      · skip
        refine g_aload_n C hl 1 rfl rfl dX6_readsAll_47 ?_
        refine g_get C hw hin_X6_readsAll_X6 2 rfl rfl 4 (by decide) lk_X6_readsAll_82 rfl dX6_readsAll_48 ?_
        refine g_iload_n C hl 3 rfl rfl dX6_readsAll_51 ?_
        refine g_icmp_ge C 65 dX6_readsAll_52 (by decide) (by omega) (by omega) (fun c_12 => ?_) (fun c_12 => ?_)
        · skip
          refine g_iload_n C hl 0 rfl rfl dX6_readsAll_65 ?_
          exact g_zret C hr (ws' := [oX6 h a ft pn ra1 rm1 rP rS rD rQ al rw rc tr, cA G (a 6) 4 rk1, cA G (a 7) 12 rt1, cA G (a 27) 240 ce]) hw [2, 0, 1, 3] (by decide) rfl (by rcases hlr.1 with q | q; exact Or.inl (congrArg iI q); exact Or.inr (congrArg iI q)) ⟨si, ra1, rm1, rk1, rt1, rfl, rfl, (by first | exact al_f0 (by omega) (by omega) | exact lp_end1 hlp (by omega) | exact lp_end2 hlp (by omega) (by omega) (by omega)), (by first | exact ⟨hno, hko⟩ | exact ⟨hnr, hkr⟩)⟩ dX6_readsAll_66
        · skip
          refine g_aload_n C hl 1 rfl rfl dX6_readsAll_55 ?_
          refine g_iload_n C hl 2 rfl rfl dX6_readsAll_56 ?_
          refine g_iload_n C hl 3 rfl rfl dX6_readsAll_57 ?_
          refine g_callVi C hw (wr := []) (As := [.int (iI fr), .int (iI nn)]) (rest := []) (m_X6_readsOne l D G (h := h) (a := a) (ft := ft) (pn := pn) (ra := ra1) (rm := rm1) (rP := rP) (rS := rS) (rD := rD) (rQ := rQ) (al := al) (rw := rw) (rc := rc) (tr := tr) (ce := ce) (rk := rk1) (rt := rt1) (fr := fr) (nn := nn) (by first | assumption | omega) (by first | assumption | omega) (by first | assumption | omega) (by first | assumption | omega) (by first | assumption | omega) (by first | assumption | omega) (by first | assumption | omega) (by first | assumption | omega)) (cwV 2 C.1.2.2.2.2 gX6_readsAll_X6_readsOne rfl rfl rfl (by decide +kernel) ⟨Nat.le_of_ble_eq_true rfl, Nat.le_of_ble_eq_true rfl⟩) [2, 0, 1, 3] [] rfl rfl (by decide) (by decide) (by decide) 0 rfl rfl rfl hl.1 _ rfl (Nat.le_of_ble_eq_true rfl) dX6_readsAll_58 ⟨Nat.le_of_ble_eq_true rfl, Nat.le_of_ble_eq_true rfl⟩ ?_
          clear hw
          rintro _ _ H locs ⟨ok__13, ra2__14, rm2__15, rk2__16, rt2__17, rfl, rfl, hp_18, hp_19⟩ hw
          have hw : gW D A s.heap [oX6 h a ft pn ra2__14 rm2__15 rP rS rD rQ al rw rc tr, cA G (a 6) 4 rk2__16, cA G (a 7) 12 rt2__17, cA G (a 27) 240 ce] H locs := hw
          have hp_18 : onP (cdF ce fr nn) nn ra1 rm1 rk1 rt1 ok__13 ra2__14 rm2__15 rk2__16 rt2__17 := hp_18
          have hp_19 : nuOK rt2__17 ∧ kdOK rk2__16 := hp_19
          have hon := hp_18
          have hno2 := hp_19
          have hlp2 := lp_step hlp (by omega) hon
          have hlr2 := lp_r hlp2
          refine g_istore_n C [(3, .int (iI ok__13)), (0, .ref h), (1, .int (iI fr)), (2, .int (iI nn))] dX6_readsAll_61 rfl hl (by decide) rfl ?_
          clear hl
          intro ls hl
          refine g_goto C 35 dX6_readsAll_62 (by decide) ?_
          have hw : gW D A s.heap [cA G (a 6) 4 rk2__16, cA G (a 7) 12 rt2__17, oX6 h a ft pn ra2__14 rm2__15 rP rS rD rQ al rw rc tr, cA G (a 27) 240 ce] H locs := g_perm hw [1, 2, 0, 3] (by decide) rfl
          exact ih_2 ok__13 ra2__14 rm2__15 rk2__16 rt2__17 ⟨by exact hlp2, by exact hno2.1, by exact hno2.2⟩ (by rcases hon with ⟨q1, q2, q3, q4, q5, -⟩ | ⟨q1, q2, q3, -⟩ <;> omega) H locs ls hw (lv_sub hl [0, 1, 2, 3] rfl)
  · skip
    refine g_iconst C dX6_readsAll_21 ?_
    exact g_zret C hr (ws' := [oX6 h a ft pn 0 0 rP rS rD rQ al rw rc tr, cA G (a 6) 4 rk, cA G (a 7) 12 rt, cA G (a 27) 240 ce]) hw [2, 0, 1, 3] (by decide) rfl (Or.inl rfl) ⟨0, 0, 0, rk, rt, rfl, rfl, (by first | exact al_f0 (by omega) (by omega) | exact lp_end1 hlp (by omega) | exact lp_end2 hlp (by omega) (by omega) (by omega)), (by first | exact ⟨hno, hko⟩ | exact ⟨hnr, hkr⟩)⟩ dX6_readsAll_22

set_option maxRecDepth 20000 in
theorem cn_X6_polynomials_117 : Jvm.Cond.constantLong RX6 117 (2) ∈ wsX6_polynomials := List.mem_cons_of_mem _ (List.mem_append_left _ (List.mem_append_left _ (List.mem_of_getElem? (i := 0) rfl)))
set_option maxRecDepth 20000 in
theorem hin_X6_polynomials_X6 : ∀ w ∈ u_ws RX6 TX6 30, w ∈ wsX6_polynomials := by
  intro w h
  exact List.mem_cons_of_mem _ (List.mem_append_right _ (h))
set_option maxRecDepth 20000 in
theorem lk_X6_polynomials_91 : Cond.fieldLink RX6 91 (TX6 5).1 (TX6 5).2.1 (TX6 5).2.2.1 ∈ wsX6_polynomials := List.mem_cons_of_mem _ (List.mem_append_left _ (List.mem_append_left _ (List.mem_of_getElem? (i := 2) rfl)))
set_option maxRecDepth 20000 in
theorem lk_X6_polynomials_75 : Cond.fieldLink RX6 75 (TX6 1).1 (TX6 1).2.1 (TX6 1).2.2.1 ∈ wsX6_polynomials := List.mem_cons_of_mem _ (List.mem_append_left _ (List.mem_append_left _ (List.mem_of_getElem? (i := 3) rfl)))
set_option maxRecDepth 20000 in
theorem lk_X6_polynomials_126 : Cond.fieldLink RX6 126 (TX6 21).1 (TX6 21).2.1 (TX6 21).2.2.1 ∈ wsX6_polynomials := List.mem_cons_of_mem _ (List.mem_append_left _ (List.mem_append_left _ (List.mem_of_getElem? (i := 8) rfl)))
set_option maxRecDepth 20000 in
theorem lk_X6_polynomials_7 : Cond.fieldLink RX6 7 (TX6 2).1 (TX6 2).2.1 (TX6 2).2.2.1 ∈ wsX6_polynomials := List.mem_cons_of_mem _ (List.mem_append_left _ (List.mem_append_left _ (List.mem_of_getElem? (i := 4) rfl)))
set_option maxRecDepth 20000 in
theorem lk_X6_polynomials_16 : Cond.fieldLink RX6 16 (TX6 6).1 (TX6 6).2.1 (TX6 6).2.2.1 ∈ wsX6_polynomials := List.mem_cons_of_mem _ (List.mem_append_left _ (List.mem_append_left _ (List.mem_of_getElem? (i := 5) rfl)))
set_option maxRecDepth 20000 in
theorem lk_X6_polynomials_13 : Cond.fieldLink RX6 13 (TX6 3).1 (TX6 3).2.1 (TX6 3).2.2.1 ∈ wsX6_polynomials := List.mem_cons_of_mem _ (List.mem_append_left _ (List.mem_append_left _ (List.mem_of_getElem? (i := 6) rfl)))
set_option maxRecDepth 20000 in
theorem lk_X6_polynomials_19 : Cond.fieldLink RX6 19 (TX6 7).1 (TX6 7).2.1 (TX6 7).2.2.1 ∈ wsX6_polynomials := List.mem_cons_of_mem _ (List.mem_append_left _ (List.mem_append_left _ (List.mem_of_getElem? (i := 7) rfl)))
set_option maxRecDepth 20000 in
theorem lk_X6_polynomials_82 : Cond.fieldLink RX6 82 (TX6 4).1 (TX6 4).2.1 (TX6 4).2.2.1 ∈ wsX6_polynomials := List.mem_cons_of_mem _ (List.mem_append_left _ (List.mem_append_left _ (List.mem_of_getElem? (i := 1) rfl)))
set_option maxRecDepth 100000 in
set_option maxHeartbeats 8000000 in
theorem m_X6_polynomials (l : Launch) (D : va_G) (G : gT) (h : Nat) (a : Nat → Nat) (ft : Int) (pn : Int) (ra : Int) (rm : Int) (rP : Int) (rS : Int) (rD : Int) (rQ : Int) (al : Int) (rw : Int) (rc : Int) (tr : Int) (kd : Int → Int) (nu : Int → Int) (rk : Int → Int) (rt : Int → Int) (sz : Int → Int) (ln : Int → Int) (ce : Int → Int) (kk : Int) (lv : Int) (ii : Int) (nn : Int) (hkd : kdOK kd) (hnu : nuOK nu) (hnr : nuOK rt) (hkr : kdOK rk) (hn : 0 ≤ pn ∧ pn ≤ 4) (hk : -2147483648 ≤ kk ∧ kk ≤ 2147483647) (hla : -2147483648 ≤ lv ∧ lv ≤ 2147483647) (hi : -2147483648 ≤ ii ∧ ii ≤ 2147483647) (hn9 : -2147483648 ≤ nn ∧ nn ≤ 2147483647) (hsh : shOK sz ln ce) : gMi l yX6_polynomials wsX6_polynomials ({ frames := 4, cells := 0, slots := 0, locals := 98 }) D G [.ref h, .int (iI kk), .int (iI lv), .int (iI ii), .int (iI nn)] [oX6 h a ft pn ra rm rP rS rD rQ al rw rc tr, cA G (a 2) 4 kd, cA G (a 3) 12 nu, cA G (a 6) 4 rk, cA G (a 7) 12 rt, cA G (a 25) 4 sz, cA G (a 26) 4 ln, cA G (a 27) 240 ce] 0 0 (fun (r : Int32) (w : va_W) => ∃ (pn2 : Int) (ra2 : Int) (rm2 : Int) (rc2 : Int) (kd2 : Int → Int) (nu2 : Int → Int) (rk2 : Int → Int) (rt2 : Int → Int), r = (iI (R_pol sz ln ce kk lv ii nn)) ∧ w = [oX6 h a (F_pol sz ln kk lv ii nn) pn2 ra2 rm2 rP rS rD rQ al rw rc2 tr, cA G (a 2) 4 kd2, cA G (a 3) 12 nu2, cA G (a 6) 4 rk2, cA G (a 7) 12 rt2, cA G (a 25) 4 sz, cA G (a 26) 4 ln, cA G (a 27) 240 ce] ∧ ((okP sz ln ce kk lv ii nn → pn2 = ((PRS ce (60 * kk + ii) nn).2.length : Int) ∧ (1 ≤ pn2 ∧ pn2 ≤ 4) ∧ hasP kd2 nu2 (PRS ce (60 * kk + ii) nn).2 ∧ rc2 = 0) ∧ (¬ okP sz ln ce kk lv ii nn → pn2 = pn ∧ kd2 = kd ∧ nu2 = nu ∧ rc2 = rc)) ∧ (kdOK kd2 ∧ nuOK nu2 ∧ kdOK rk2 ∧ nuOK rt2)) := by
  refine g_start_i (cc := cX6_polynomials) (nL := 8) (own := RX6) (ret := some .int) (by decide +kernel) rfl rfl (Nat.le_of_ble_eq_true rfl) ?_
  intro p e s m below meth c A ls C hr hnm hw hl
  have hl : lv_has ls 8 [(0, .ref h), (1, .int (iI kk)), (2, .int (iI lv)), (3, .int (iI ii)), (4, .int (iI nn))] := hl
  obtain ⟨hsz, hln, hce⟩ := id hsh
  have s0 := hsz kk
  have l0 := hln kk
  have hbr := R_bar_r sz ln kk lv ii nn
  refine g_iload_n C hl 1 rfl rfl dX6_polynomials_0 ?_
  refine g_callSi C hw (wr := [oX6 h a ft pn ra rm rP rS rD rQ al rw rc tr, cA G (a 2) 4 kd, cA G (a 3) 12 nu, cA G (a 6) 4 rk, cA G (a 7) 12 rt, cA G (a 25) 4 sz, cA G (a 26) 4 ln, cA G (a 27) 240 ce]) (As := [.int (iI kk)]) (rest := []) (m_X6_noSheet l D G (kk := kk) (by first | assumption | omega)) (va_cwS 1 C.1.2.2.2.2 gX6_polynomials_X6_noSheet rfl rfl rfl (by decide +kernel) ⟨Nat.le_of_ble_eq_true rfl, Nat.le_of_ble_eq_true rfl⟩) [] [0, 1, 2, 3, 4, 5, 6, 7] rfl rfl (by decide) (by decide) (by decide) rfl hl.1 _ rfl (Nat.le_of_ble_eq_true rfl) dX6_polynomials_1 ⟨Nat.le_of_ble_eq_true rfl, Nat.le_of_ble_eq_true rfl⟩ ?_
  clear hw
  rintro _ _ H locs ⟨rfl, rfl⟩ hw
  have hw : gW D A s.heap [oX6 h a ft pn ra rm rP rS rD rQ al rw rc tr, cA G (a 2) 4 kd, cA G (a 3) 12 nu, cA G (a 6) 4 rk, cA G (a 7) 12 rt, cA G (a 25) 4 sz, cA G (a 26) 4 ln, cA G (a 27) 240 ce] H locs := hw
  refine g_ifb_eq C 13 dX6_polynomials_4 (by decide) (fun c_1 => ?_) (fun c_1 => ?_)
  · skip
    refine g_iload_n C hl 2 rfl rfl dX6_polynomials_13 ?_
    refine g_i2l C dX6_polynomials_14 (by omega) ?_
    refine g_lconst0 C dX6_polynomials_15 ?_
    refine g_ldc2 C (2) cn_X6_polynomials_117 (by decide +kernel) dX6_polynomials_16 ?_
    refine g_callSi C hw (wr := [oX6 h a ft pn ra rm rP rS rD rQ al rw rc tr, cA G (a 2) 4 kd, cA G (a 3) 12 nu, cA G (a 6) 4 rk, cA G (a 7) 12 rt, cA G (a 25) 4 sz, cA G (a 26) 4 ln, cA G (a 27) 240 ce]) (As := [.long (lI (lv)), .long (lI (0)), .long (lI (2))]) (rest := []) (m_X6_in l D G (va := lv) (vb := 0) (vc := 2) (by first | assumption | omega) (by first | assumption | omega) (by first | assumption | omega)) (va_cwS 3 C.1.2.2.2.2 gX6_polynomials_X6_in rfl rfl rfl (by decide +kernel) ⟨Nat.le_of_ble_eq_true rfl, Nat.le_of_ble_eq_true rfl⟩) [] [0, 1, 2, 3, 4, 5, 6, 7] rfl rfl (by decide) (by decide) (by decide) rfl hl.1 _ rfl (Nat.le_of_ble_eq_true rfl) dX6_polynomials_19 ⟨Nat.le_of_ble_eq_true rfl, Nat.le_of_ble_eq_true rfl⟩ ?_
    clear hw
    rintro _ _ H locs ⟨rfl, rfl⟩ hw
    have hw : gW D A s.heap [oX6 h a ft pn ra rm rP rS rD rQ al rw rc tr, cA G (a 2) 4 kd, cA G (a 3) 12 nu, cA G (a 6) 4 rk, cA G (a 7) 12 rt, cA G (a 25) 4 sz, cA G (a 26) 4 ln, cA G (a 27) 240 ce] H locs := hw
    refine g_ifb_ne C 32 dX6_polynomials_22 (by decide) (fun c_2 => ?_) (fun c_2 => ?_)
    · skip
      refine g_aload_n C hl 0 rfl rfl dX6_polynomials_32 ?_
      refine g_iload_n C hl 1 rfl rfl dX6_polynomials_33 ?_
      refine g_iload_n C hl 2 rfl rfl dX6_polynomials_34 ?_
      refine g_iload_n C hl 3 rfl rfl dX6_polynomials_35 ?_
      refine g_iload C hl 4 rfl dX6_polynomials_36 ?_
      refine g_i2l C dX6_polynomials_38 (by omega) ?_
      refine g_callVi C hw (wr := [cA G (a 2) 4 kd, cA G (a 3) 12 nu, cA G (a 6) 4 rk, cA G (a 7) 12 rt, cA G (a 27) 240 ce]) (As := [.int (iI kk), .int (iI lv), .int (iI ii), .long (lI (nn))]) (rest := []) (m_X6_cellsBarred l D G (h := h) (a := a) (ft := ft) (pn := pn) (ra := ra) (rm := rm) (rP := rP) (rS := rS) (rD := rD) (rQ := rQ) (al := al) (rw := rw) (rc := rc) (tr := tr) (sz := sz) (ln := ln) (kk := kk) (lv := lv) (ii := ii) (nn := nn) (by first | assumption | omega) (by first | assumption | omega) (by first | assumption | omega) (by first | assumption | omega) (by first | assumption | omega) (by first | assumption | omega)) (cwV 4 C.1.2.2.2.2 gX6_polynomials_X6_cellsBarred rfl rfl rfl (by decide +kernel) ⟨Nat.le_of_ble_eq_true rfl, Nat.le_of_ble_eq_true rfl⟩) [0, 5, 6] [1, 2, 3, 4, 7] rfl rfl (by decide) (by decide) (by decide) 0 rfl rfl rfl hl.1 _ rfl (Nat.le_of_ble_eq_true rfl) dX6_polynomials_39 ⟨Nat.le_of_ble_eq_true rfl, Nat.le_of_ble_eq_true rfl⟩ ?_
      clear hw
      rintro _ _ H locs ⟨rfl, rfl⟩ hw
      have hw : gW D A s.heap [cA G (a 2) 4 kd, cA G (a 3) 12 nu, cA G (a 6) 4 rk, cA G (a 7) 12 rt, cA G (a 27) 240 ce, oX6 h a (F_bar sz ln ft kk lv ii nn) pn ra rm rP rS rD rQ al rw rc tr, cA G (a 25) 4 sz, cA G (a 26) 4 ln] H locs := hw
      refine g_istore C [(5, .int (iI ((R_bar sz ln kk lv ii nn)))), (0, .ref h), (1, .int (iI kk)), (2, .int (iI lv)), (3, .int (iI ii)), (4, .int (iI nn))] dX6_polynomials_42 hl (by decide) rfl ?_
      clear hl
      intro ls hl
      refine g_iload C hl 0 rfl dX6_polynomials_44 ?_
      refine g_if_ge C 52 dX6_polynomials_46 (by decide) (by omega) (fun c_3 => ?_) (fun c_3 => ?_)
      · skip
        obtain ⟨b1, b2, b3⟩ := R_bar_0 (by omega : ¬ R_bar sz ln kk lv ii nn < 0)
        have b4 := b2 ft
        refine g_aload_n C hl 1 rfl rfl dX6_polynomials_52 ?_
        refine g_bipush C dX6_polynomials_53 (by decide) ?_
        refine g_iload_n C hl 2 rfl rfl dX6_polynomials_55 ?_
        refine g_imul C dX6_polynomials_56 ?_
        refine g_iload_n C hl 4 rfl rfl dX6_polynomials_57 ?_
        refine g_iadd C dX6_polynomials_58 ?_
        refine g_iload C hl 5 rfl dX6_polynomials_59 ?_
        refine g_callVi C hw (wr := [cA G (a 2) 4 kd, cA G (a 3) 12 nu, cA G (a 25) 4 sz, cA G (a 26) 4 ln]) (As := [.int (iI ((60 * kk) + ii)), .int (iI nn)]) (rest := []) (m_X6_readsAll l D G (h := h) (a := a) (ft := (F_bar sz ln ft kk lv ii nn)) (pn := pn) (ra := ra) (rm := rm) (rP := rP) (rS := rS) (rD := rD) (rQ := rQ) (al := al) (rw := rw) (rc := rc) (tr := tr) (ce := ce) (rk := rk) (rt := rt) (fr := ((60 * kk) + ii)) (nn := nn) (by first | assumption | omega) (by first | assumption | omega) (by first | assumption | omega) (by first | assumption | omega) (by first | assumption | omega)) (cwV 2 C.1.2.2.2.2 gX6_polynomials_X6_readsAll rfl rfl rfl (by decide +kernel) ⟨Nat.le_of_ble_eq_true rfl, Nat.le_of_ble_eq_true rfl⟩) [5, 2, 3, 4] [0, 1, 6, 7] rfl rfl (by decide) (by decide) (by decide) 0 rfl rfl rfl hl.1 _ rfl (Nat.le_of_ble_eq_true rfl) dX6_polynomials_61 ⟨Nat.le_of_ble_eq_true rfl, Nat.le_of_ble_eq_true rfl⟩ ?_
        clear hw
        rintro _ _ H locs ⟨okN, raN, rmN, rkN, rtN, rfl, rfl, hp_4, hp_5⟩ hw
        have hw : gW D A s.heap [cA G (a 2) 4 kd, cA G (a 3) 12 nu, cA G (a 25) 4 sz, cA G (a 26) 4 ln, oX6 h a (F_bar sz ln ft kk lv ii nn) pn raN rmN rP rS rD rQ al rw rc tr, cA G (a 6) 4 rkN, cA G (a 7) 12 rtN, cA G (a 27) 240 ce] H locs := hw
        have hp_4 : alP (cdF ce ((60 * kk) + ii) nn) nn okN raN rmN rkN rtN := hp_4
        have hp_5 : nuOK rtN ∧ kdOK rkN := hp_5
        have hal := hp_4
        obtain ⟨hrtN, hrkN⟩ := hp_5
        have hlr := al_r hal
        refine g_if_ne C 79 dX6_polynomials_64 (by decide) (by omega) (fun c_6 => ?_) (fun c_6 => ?_)
        · skip
          refine g_aload_n C hl 1 rfl rfl dX6_polynomials_79 ?_
          refine g_aload_n C hl 1 rfl rfl dX6_polynomials_80 ?_
          refine g_get C hw hin_X6_polynomials_X6 4 rfl rfl 5 (by decide) lk_X6_polynomials_91 rfl dX6_polynomials_81 ?_
          refine g_put C hw [cA G (a 2) 4 kd, cA G (a 3) 12 nu, cA G (a 25) 4 sz, cA G (a 26) 4 ln, oX6 h a (F_bar sz ln ft kk lv ii nn) rmN raN rmN rP rS rD rQ al rw rc tr, cA G (a 6) 4 rkN, cA G (a 7) 12 rtN, cA G (a 27) 240 ce] hin_X6_polynomials_X6 tyX6 tyX6_ok nmX6 4 rfl rfl 1 (by decide) lk_X6_polynomials_75 rfl rfl rfl rfl (Nat.le_of_ble_eq_true rfl) rfl dX6_polynomials_84 ?_
          clear hw
          intro H locs hw
          refine g_iconst C dX6_polynomials_87 ?_
          refine g_istore C [(6, .int (iI 0)), (5, .int (iI ((R_bar sz ln kk lv ii nn)))), (0, .ref h), (1, .int (iI kk)), (2, .int (iI lv)), (3, .int (iI ii)), (4, .int (iI nn))] dX6_polynomials_88 hl (by decide) rfl ?_
          clear hl
          intro ls hl
          refine g_loop (σ := (Int) × (Int → Int) × (Int → Int)) (fun z_ => [cA G (a 2) 4 z_.2.1, cA G (a 3) 12 z_.2.2, cA G (a 25) 4 sz, cA G (a 26) 4 ln, oX6 h a (F_bar sz ln ft kk lv ii nn) rmN raN rmN rP rS rD rQ al rw rc tr, cA G (a 6) 4 rkN, cA G (a 7) 12 rtN, cA G (a 27) 240 ce]) (fun z_ => [(6, .int (iI (z_.1))), (5, .int (iI ((R_bar sz ln kk lv ii nn)))), (0, .ref h), (1, .int (iI kk)), (2, .int (iI lv)), (3, .int (iI ii)), (4, .int (iI nn))]) (fun z_ => (0 ≤ z_.1 ∧ z_.1 ≤ rmN) ∧ (∀ j, 0 ≤ j → j < z_.1 → z_.2.1 j = rkN j) ∧ (∀ j, 0 ≤ j → j < 3 * z_.1 → z_.2.2 j = rtN j) ∧ (kdOK z_.2.1) ∧ (nuOK z_.2.2)) (fun z_ => (rmN - z_.1).toNat) (0, kd, nu) ⟨by (try dsimp only); omega, by (try dsimp only); intro j h1 h2; omega, by (try dsimp only); intro j h1 h2; omega, by (try dsimp only); exact hkd, by (try dsimp only); exact hnu⟩ hw (lv_sub hl [0, 1, 2, 3, 4, 5, 6] rfl) ?_
          clear hw hl
          rintro ⟨pp, kd1, nu1⟩ ⟨hpp, hk1, hn1, hko, hno⟩ H locs ls hw hl ih_7
          replace hpp : 0 ≤ pp ∧ pp ≤ rmN := hpp
          replace hk1 : ∀ j, 0 ≤ j → j < pp → kd1 j = rkN j := hk1
          replace hn1 : ∀ j, 0 ≤ j → j < 3 * pp → nu1 j = rtN j := hn1
          replace hko : kdOK kd1 := hko
          replace hno : nuOK nu1 := hno
          replace hw : gW D A s.heap [cA G (a 2) 4 kd1, cA G (a 3) 12 nu1, cA G (a 25) 4 sz, cA G (a 26) 4 ln, oX6 h a (F_bar sz ln ft kk lv ii nn) rmN raN rmN rP rS rD rQ al rw rc tr, cA G (a 6) 4 rkN, cA G (a 7) 12 rtN, cA G (a 27) 240 ce] H locs := hw
          replace hl : lv_has ls 8 [(6, .int (iI pp)), (5, .int (iI ((R_bar sz ln kk lv ii nn)))), (0, .ref h), (1, .int (iI kk)), (2, .int (iI lv)), (3, .int (iI ii)), (4, .int (iI nn))] := hl
          replace ih_7 : ∀ (pp' : Int) (kd1' : Int → Int) (nu1' : Int → Int), ((0 ≤ pp' ∧ pp' ≤ rmN) ∧ (∀ j, 0 ≤ j → j < pp' → kd1' j = rkN j) ∧ (∀ j, 0 ≤ j → j < 3 * pp' → nu1' j = rtN j) ∧ (kdOK kd1') ∧ (nuOK nu1')) → ((rmN - pp').toNat) < ((rmN - pp).toNat) → ∀ (H : Heap) (locs : List Loc) (ls : Array Slot), gW D A s.heap [cA G (a 2) 4 kd1', cA G (a 3) 12 nu1', cA G (a 25) 4 sz, cA G (a 26) 4 ln, oX6 h a (F_bar sz ln ft kk lv ii nn) rmN raN rmN rP rS rD rQ al rw rc tr, cA G (a 6) 4 rkN, cA G (a 7) 12 rtN, cA G (a 27) 240 ce] H locs → lv_has ls 8 [(6, .int (iI (pp'))), (5, .int (iI ((R_bar sz ln kk lv ii nn)))), (0, .ref h), (1, .int (iI kk)), (2, .int (iI lv)), (3, .int (iI ii)), (4, .int (iI nn))] → W p l e _ s m _ below meth c H locs _ _ _ (F0 m 90 ls []) := fun pp' kd1' nu1' => ih_7 (pp', kd1', nu1')
          refine g_iload C hl 0 rfl dX6_polynomials_90 ?_
          refine g_aload_n C hl 2 rfl rfl dX6_polynomials_92 ?_
          refine g_get C hw hin_X6_polynomials_X6 4 rfl rfl 1 (by decide) lk_X6_polynomials_75 rfl dX6_polynomials_93 ?_
          refine g_icmp_ge C 158 dX6_polynomials_96 (by decide) (by omega) (by omega) (fun c_8 => ?_) (fun c_8 => ?_)
          · skip
            refine g_aload_n C hl 2 rfl rfl dX6_polynomials_158 ?_
            refine g_iconst C dX6_polynomials_159 ?_
            refine g_put C hw [cA G (a 2) 4 kd1, cA G (a 3) 12 nu1, cA G (a 25) 4 sz, cA G (a 26) 4 ln, oX6 h a (F_bar sz ln ft kk lv ii nn) rmN raN rmN rP rS rD rQ al rw 0 tr, cA G (a 6) 4 rkN, cA G (a 7) 12 rtN, cA G (a 27) 240 ce] hin_X6_polynomials_X6 tyX6 tyX6_ok nmX6 4 rfl rfl 21 (by decide) lk_X6_polynomials_126 rfl rfl rfl rfl (Nat.le_of_ble_eq_true rfl) rfl dX6_polynomials_160 ?_
            clear hw
            intro H locs hw
            refine g_aload_n C hl 2 rfl rfl dX6_polynomials_163 ?_
            refine g_aload_n C hl 2 rfl rfl dX6_polynomials_164 ?_
            refine g_get C hw hin_X6_polynomials_X6 4 rfl rfl 1 (by decide) lk_X6_polynomials_75 rfl dX6_polynomials_165 ?_
            refine g_callVi C hw (wr := [cA G (a 2) 4 kd1, cA G (a 3) 12 nu1, cA G (a 25) 4 sz, cA G (a 26) 4 ln, cA G (a 6) 4 rkN, cA G (a 7) 12 rtN, cA G (a 27) 240 ce]) (As := [.int (iI rmN)]) (rest := []) (m_X6_refused l D G (h := h) (a := a) (ft := (F_bar sz ln ft kk lv ii nn)) (pn := rmN) (ra := raN) (rm := rmN) (rP := rP) (rS := rS) (rD := rD) (rQ := rQ) (al := al) (rw := rw) (rc := 0) (tr := tr) (cd := rmN) ) (cwV 1 C.1.2.2.2.2 gX6_polynomials_X6_refused rfl rfl rfl (by decide +kernel) ⟨Nat.le_of_ble_eq_true rfl, Nat.le_of_ble_eq_true rfl⟩) [4] [0, 1, 2, 3, 5, 6, 7] rfl rfl (by decide) (by decide) (by decide) 0 rfl rfl rfl hl.1 _ rfl (Nat.le_of_ble_eq_true rfl) dX6_polynomials_168 ⟨Nat.le_of_ble_eq_true rfl, Nat.le_of_ble_eq_true rfl⟩ ?_
            clear hw
            rintro _ _ H locs ⟨rfl, rfl⟩ hw
            have hw : gW D A s.heap [cA G (a 2) 4 kd1, cA G (a 3) 12 nu1, cA G (a 25) 4 sz, cA G (a 26) 4 ln, cA G (a 6) 4 rkN, cA G (a 7) 12 rtN, cA G (a 27) 240 ce, oX6 h a 0 rmN raN rmN rP rS rD rQ al rw 0 tr] H locs := hw
            obtain ⟨acc9, hacc9, hl9, hm9, hh9⟩ : ∃ acc : List pyT, PRS ce (60 * kk + ii) nn = (-9, acc) ∧ (acc.length : Int) = rmN ∧ (1 ≤ rmN ∧ rmN ≤ 4) ∧ hasP rkN rtN acc := by
              rcases hal with ⟨-, acc, q⟩ | ⟨q, -⟩
              · exact ⟨acc, q⟩
              · omega
            have w9 : P_st kk lv = 0 := by unfold P_st; (repeat' split) <;> omega
            obtain ⟨wr9, wf9, wo9⟩ := R_pol_4 (sz := sz) (ln := ln) (ce := ce) (k := kk) (lane := lv) (i := ii) (n := nn) w9 b1 (by rw [hacc9])
            rw [hacc9] at wr9
            have hhp : hasP kd1 nu1 acc9 := hasP_eq hh9 (fun j h1 h2 => hk1 j h1 (by omega)) (fun j h1 h2 => hn1 j h1 (by omega))
            exact g_iret C hr (ws' := [oX6 h a 0 rmN raN rmN rP rS rD rQ al rw 0 tr, cA G (a 2) 4 kd1, cA G (a 3) 12 nu1, cA G (a 6) 4 rkN, cA G (a 7) 12 rtN, cA G (a 25) 4 sz, cA G (a 26) 4 ln, cA G (a 27) 240 ce]) hw [7, 0, 1, 4, 5, 2, 3, 6] (by decide) rfl ⟨rmN, raN, rmN, 0, kd1, nu1, rkN, rtN, (congrArg iI (by rw [wr9]; exact hl9.symm)), (by rw [wf9]), (by first | exact ⟨fun q => absurd q wo9, fun _ => ⟨rfl, rfl, rfl, rfl⟩⟩ | exact ⟨fun _ => ⟨by rw [hacc9]; exact hl9.symm, hm9, by rw [hacc9]; exact hhp, rfl⟩, fun q => absurd wo9 q⟩), (by first | exact ⟨hko, hno, hrkN, hrtN⟩ | exact ⟨hkd, hnu, hrkN, hrtN⟩ | exact ⟨hkd, hnu, hkr, hnr⟩)⟩ dX6_polynomials_171
          · skip
            refine g_aload_n C hl 2 rfl rfl dX6_polynomials_99 ?_
            refine g_get C hw hin_X6_polynomials_X6 4 rfl rfl 2 (by decide) lk_X6_polynomials_7 rfl dX6_polynomials_100 ?_
            refine g_iload C hl 0 rfl dX6_polynomials_103 ?_
            refine g_aload_n C hl 2 rfl rfl dX6_polynomials_105 ?_
            refine g_get C hw hin_X6_polynomials_X6 4 rfl rfl 6 (by decide) lk_X6_polynomials_16 rfl dX6_polynomials_106 ?_
            refine g_iload C hl 0 rfl dX6_polynomials_109 ?_
            refine g_iald C hw 5 rfl (by omega) (Nat.le_of_ble_eq_true rfl) dX6_polynomials_111 ?_
            refine g_iast C hw [cA G (a 2) 4 (up kd1 pp (rkN pp)), cA G (a 3) 12 nu1, cA G (a 25) 4 sz, cA G (a 26) 4 ln, oX6 h a (F_bar sz ln ft kk lv ii nn) rmN raN rmN rP rS rD rQ al rw rc tr, cA G (a 6) 4 rkN, cA G (a 7) 12 rtN, cA G (a 27) 240 ce] 0 rfl (by omega) (Nat.le_of_ble_eq_true rfl) rfl dX6_polynomials_112 ?_
            clear hw
            intro H locs hw
            refine g_iconst C dX6_polynomials_113 ?_
            refine g_istore C [(7, .int (iI 0)), (6, .int (iI pp)), (5, .int (iI ((R_bar sz ln kk lv ii nn)))), (0, .ref h), (1, .int (iI kk)), (2, .int (iI lv)), (3, .int (iI ii)), (4, .int (iI nn))] dX6_polynomials_114 hl (by decide) rfl ?_
            clear hl
            intro ls hl
            refine g_loop (σ := (Int) × (Int → Int)) (fun z_ => [cA G (a 2) 4 (up kd1 pp (rkN pp)), cA G (a 3) 12 z_.2, cA G (a 25) 4 sz, cA G (a 26) 4 ln, oX6 h a (F_bar sz ln ft kk lv ii nn) rmN raN rmN rP rS rD rQ al rw rc tr, cA G (a 6) 4 rkN, cA G (a 7) 12 rtN, cA G (a 27) 240 ce]) (fun z_ => [(7, .int (iI (z_.1))), (6, .int (iI pp)), (5, .int (iI ((R_bar sz ln kk lv ii nn)))), (0, .ref h), (1, .int (iI kk)), (2, .int (iI lv)), (3, .int (iI ii)), (4, .int (iI nn))]) (fun z_ => (0 ≤ z_.1 ∧ z_.1 ≤ 3) ∧ (∀ j, 0 ≤ j → j < 3 * pp + z_.1 → z_.2 j = rtN j) ∧ (nuOK z_.2)) (fun z_ => (3 - z_.1).toNat) (0, nu1) ⟨by (try dsimp only); omega, by (try dsimp only); intro j h1 h2; exact hn1 j h1 (by omega), by (try dsimp only); exact hno⟩ hw (lv_sub hl [0, 1, 2, 3, 4, 5, 6, 7] rfl) ?_
            clear hw hl
            rintro ⟨xx, nu3⟩ ⟨hxx, hn2, hno2⟩ H locs ls hw hl ih_9
            replace hxx : 0 ≤ xx ∧ xx ≤ 3 := hxx
            replace hn2 : ∀ j, 0 ≤ j → j < 3 * pp + xx → nu3 j = rtN j := hn2
            replace hno2 : nuOK nu3 := hno2
            replace hw : gW D A s.heap [cA G (a 2) 4 (up kd1 pp (rkN pp)), cA G (a 3) 12 nu3, cA G (a 25) 4 sz, cA G (a 26) 4 ln, oX6 h a (F_bar sz ln ft kk lv ii nn) rmN raN rmN rP rS rD rQ al rw rc tr, cA G (a 6) 4 rkN, cA G (a 7) 12 rtN, cA G (a 27) 240 ce] H locs := hw
            replace hl : lv_has ls 8 [(7, .int (iI xx)), (6, .int (iI pp)), (5, .int (iI ((R_bar sz ln kk lv ii nn)))), (0, .ref h), (1, .int (iI kk)), (2, .int (iI lv)), (3, .int (iI ii)), (4, .int (iI nn))] := hl
            replace ih_9 : ∀ (xx' : Int) (nu3' : Int → Int), ((0 ≤ xx' ∧ xx' ≤ 3) ∧ (∀ j, 0 ≤ j → j < 3 * pp + xx' → nu3' j = rtN j) ∧ (nuOK nu3')) → ((3 - xx').toNat) < ((3 - xx).toNat) → ∀ (H : Heap) (locs : List Loc) (ls : Array Slot), gW D A s.heap [cA G (a 2) 4 (up kd1 pp (rkN pp)), cA G (a 3) 12 nu3', cA G (a 25) 4 sz, cA G (a 26) 4 ln, oX6 h a (F_bar sz ln ft kk lv ii nn) rmN raN rmN rP rS rD rQ al rw rc tr, cA G (a 6) 4 rkN, cA G (a 7) 12 rtN, cA G (a 27) 240 ce] H locs → lv_has ls 8 [(7, .int (iI (xx'))), (6, .int (iI pp)), (5, .int (iI ((R_bar sz ln kk lv ii nn)))), (0, .ref h), (1, .int (iI kk)), (2, .int (iI lv)), (3, .int (iI ii)), (4, .int (iI nn))] → W p l e _ s m _ below meth c H locs _ _ _ (F0 m 116 ls []) := fun xx' nu3' => ih_9 (xx', nu3')
            refine g_iload C hl 0 rfl dX6_polynomials_116 ?_
            refine g_iconst C dX6_polynomials_118 ?_
            refine g_icmp_ge C 152 dX6_polynomials_119 (by decide) (by omega) (by omega) (fun c_10 => ?_) (fun c_10 => ?_)
            · skip
              refine g_iinc C [(6, .int (iI (pp + 1))), (7, .int (iI xx)), (5, .int (iI ((R_bar sz ln kk lv ii nn)))), (0, .ref h), (1, .int (iI kk)), (2, .int (iI lv)), (3, .int (iI ii)), (4, .int (iI nn))] 1 dX6_polynomials_152 hl rfl (by decide) rfl ?_
              clear hl
              intro ls hl
              refine g_goto C 90 dX6_polynomials_155 (by decide) ?_
              have hw : gW D A s.heap [cA G (a 2) 4 (up kd1 pp (rkN pp)), cA G (a 3) 12 nu3, cA G (a 25) 4 sz, cA G (a 26) 4 ln, oX6 h a (F_bar sz ln ft kk lv ii nn) rmN raN rmN rP rS rD rQ al rw rc tr, cA G (a 6) 4 rkN, cA G (a 7) 12 rtN, cA G (a 27) 240 ce] H locs := g_perm hw [0, 1, 2, 3, 4, 5, 6, 7] (by decide) rfl
              exact ih_7 (pp + 1) (up kd1 pp (rkN pp)) nu3 ⟨by omega, by intro j h1 h2; by_cases q : j = pp; rw [q, up_s]; rw [up_n q]; exact hk1 j h1 (by omega), by intro j h1 h2; exact hn2 j h1 (by omega), by exact kdOK_up hko (hrkN pp), by exact hno2⟩ (by omega) H locs ls hw (lv_sub hl [0, 2, 3, 4, 5, 6, 7] rfl)
            · skip
              refine g_aload_n C hl 3 rfl rfl dX6_polynomials_122 ?_
              refine g_get C hw hin_X6_polynomials_X6 4 rfl rfl 3 (by decide) lk_X6_polynomials_13 rfl dX6_polynomials_123 ?_
              refine g_iconst C dX6_polynomials_126 ?_
              refine g_iload C hl 1 rfl dX6_polynomials_127 ?_
              refine g_imul C dX6_polynomials_129 ?_
              refine g_iload C hl 0 rfl dX6_polynomials_130 ?_
              refine g_iadd C dX6_polynomials_132 ?_
              refine g_aload_n C hl 3 rfl rfl dX6_polynomials_133 ?_
              refine g_get C hw hin_X6_polynomials_X6 4 rfl rfl 7 (by decide) lk_X6_polynomials_19 rfl dX6_polynomials_134 ?_
              refine g_iconst C dX6_polynomials_137 ?_
              refine g_iload C hl 1 rfl dX6_polynomials_138 ?_
              refine g_imul C dX6_polynomials_140 ?_
              refine g_iload C hl 0 rfl dX6_polynomials_141 ?_
              refine g_iadd C dX6_polynomials_143 ?_
              refine g_iald C hw 6 rfl (by omega) (Nat.le_of_ble_eq_true rfl) dX6_polynomials_144 ?_
              refine g_iast C hw [cA G (a 2) 4 (up kd1 pp (rkN pp)), cA G (a 3) 12 (up nu3 ((3 * pp) + xx) (rtN ((3 * pp) + xx))), cA G (a 25) 4 sz, cA G (a 26) 4 ln, oX6 h a (F_bar sz ln ft kk lv ii nn) rmN raN rmN rP rS rD rQ al rw rc tr, cA G (a 6) 4 rkN, cA G (a 7) 12 rtN, cA G (a 27) 240 ce] 1 rfl (by omega) (Nat.le_of_ble_eq_true rfl) rfl dX6_polynomials_145 ?_
              clear hw
              intro H locs hw
              refine g_iinc C [(7, .int (iI (xx + 1))), (6, .int (iI pp)), (5, .int (iI ((R_bar sz ln kk lv ii nn)))), (0, .ref h), (1, .int (iI kk)), (2, .int (iI lv)), (3, .int (iI ii)), (4, .int (iI nn))] 0 dX6_polynomials_146 hl rfl (by decide) rfl ?_
              clear hl
              intro ls hl
              refine g_goto C 116 dX6_polynomials_149 (by decide) ?_
              have hw : gW D A s.heap [cA G (a 2) 4 (up kd1 pp (rkN pp)), cA G (a 3) 12 (up nu3 ((3 * pp) + xx) (rtN ((3 * pp) + xx))), cA G (a 25) 4 sz, cA G (a 26) 4 ln, oX6 h a (F_bar sz ln ft kk lv ii nn) rmN raN rmN rP rS rD rQ al rw rc tr, cA G (a 6) 4 rkN, cA G (a 7) 12 rtN, cA G (a 27) 240 ce] H locs := g_perm hw [0, 1, 2, 3, 4, 5, 6, 7] (by decide) rfl
              exact ih_9 (xx + 1) (up nu3 ((3 * pp) + xx) (rtN ((3 * pp) + xx))) ⟨by omega, by intro j h1 h2; by_cases q : j = 3 * pp + xx; rw [q, up_s]; rw [up_n q]; exact hn2 j h1 (by omega), by exact nuOK_up hno2 (hrtN _)⟩ (by omega) H locs ls hw (lv_sub hl [0, 1, 2, 3, 4, 5, 6, 7] rfl)
        · skip
          refine g_aload_n C hl 1 rfl rfl dX6_polynomials_67 ?_
          refine g_bipush C dX6_polynomials_68 (by decide) ?_
          refine g_aload_n C hl 1 rfl rfl dX6_polynomials_70 ?_
          refine g_get C hw hin_X6_polynomials_X6 4 rfl rfl 4 (by decide) lk_X6_polynomials_82 rfl dX6_polynomials_71 ?_
          refine g_isub C dX6_polynomials_74 ?_
          refine g_callVi C hw (wr := [cA G (a 2) 4 kd, cA G (a 3) 12 nu, cA G (a 25) 4 sz, cA G (a 26) 4 ln, cA G (a 6) 4 rkN, cA G (a 7) 12 rtN, cA G (a 27) 240 ce]) (As := [.int (iI ((-100) - raN))]) (rest := []) (m_X6_refused l D G (h := h) (a := a) (ft := (F_bar sz ln ft kk lv ii nn)) (pn := pn) (ra := raN) (rm := rmN) (rP := rP) (rS := rS) (rD := rD) (rQ := rQ) (al := al) (rw := rw) (rc := rc) (tr := tr) (cd := ((-100) - raN)) ) (cwV 1 C.1.2.2.2.2 gX6_polynomials_X6_refused rfl rfl rfl (by decide +kernel) ⟨Nat.le_of_ble_eq_true rfl, Nat.le_of_ble_eq_true rfl⟩) [4] [0, 1, 2, 3, 5, 6, 7] rfl rfl (by decide) (by decide) (by decide) 0 rfl rfl rfl hl.1 _ rfl (Nat.le_of_ble_eq_true rfl) dX6_polynomials_75 ⟨Nat.le_of_ble_eq_true rfl, Nat.le_of_ble_eq_true rfl⟩ ?_
          clear hw
          rintro _ _ H locs ⟨rfl, rfl⟩ hw
          have hw : gW D A s.heap [cA G (a 2) 4 kd, cA G (a 3) 12 nu, cA G (a 25) 4 sz, cA G (a 26) 4 ln, cA G (a 6) 4 rkN, cA G (a 7) 12 rtN, cA G (a 27) 240 ce, oX6 h a 0 pn raN rmN rP rS rD rQ al rw rc tr] H locs := hw
          obtain ⟨acc9, hacc9⟩ : ∃ acc : List pyT, PRS ce (60 * kk + ii) nn = (raN, acc) := by
            rcases hal with ⟨q, -⟩ | ⟨-, -, acc, q⟩
            · omega
            · exact ⟨acc, q⟩
          have w9 : P_st kk lv = 0 := by unfold P_st; (repeat' split) <;> omega
          obtain ⟨wr9, wf9, wo9⟩ := R_pol_3 (sz := sz) (ln := ln) (ce := ce) (k := kk) (lane := lv) (i := ii) (n := nn) w9 b1 (by rw [hacc9]; show ¬ raN = -9; omega)
          rw [hacc9] at wr9
          exact g_iret C hr (ws' := [oX6 h a 0 pn raN rmN rP rS rD rQ al rw rc tr, cA G (a 2) 4 kd, cA G (a 3) 12 nu, cA G (a 6) 4 rkN, cA G (a 7) 12 rtN, cA G (a 25) 4 sz, cA G (a 26) 4 ln, cA G (a 27) 240 ce]) hw [7, 0, 1, 4, 5, 2, 3, 6] (by decide) rfl ⟨pn, raN, rmN, rc, kd, nu, rkN, rtN, (congrArg iI (by exact wr9.symm)), (by rw [wf9]), (by first | exact ⟨fun q => absurd q wo9, fun _ => ⟨rfl, rfl, rfl, rfl⟩⟩ | exact ⟨fun _ => ⟨by rw [hacc9]; exact hl9.symm, hm9, by rw [hacc9]; exact hhp, rfl⟩, fun q => absurd wo9 q⟩), (by first | exact ⟨hko, hno, hrkN, hrtN⟩ | exact ⟨hkd, hnu, hrkN, hrtN⟩ | exact ⟨hkd, hnu, hkr, hnr⟩)⟩ dX6_polynomials_78
      · skip
        refine g_iload C hl 0 rfl dX6_polynomials_49 ?_
        obtain ⟨b1, b2, b3⟩ := R_bar_c (by omega : R_bar sz ln kk lv ii nn < 0)
        have w9 : P_st kk lv = 0 := by unfold P_st; (repeat' split) <;> omega
        obtain ⟨wr9, wf9, wo9⟩ := R_pol_2 (sz := sz) (ln := ln) (ce := ce) (k := kk) (lane := lv) (i := ii) (n := nn) w9 b1
        rw [← b2] at wr9
        have b4 := b3 ft
        rw [← b4] at wf9
        exact g_iret C hr (ws' := [oX6 h a (F_bar sz ln ft kk lv ii nn) pn ra rm rP rS rD rQ al rw rc tr, cA G (a 2) 4 kd, cA G (a 3) 12 nu, cA G (a 6) 4 rk, cA G (a 7) 12 rt, cA G (a 25) 4 sz, cA G (a 26) 4 ln, cA G (a 27) 240 ce]) hw [5, 0, 1, 2, 3, 6, 7, 4] (by decide) rfl ⟨pn, ra, rm, rc, kd, nu, rk, rt, (congrArg iI (by exact wr9.symm)), (by rw [wf9]), (by first | exact ⟨fun q => absurd q wo9, fun _ => ⟨rfl, rfl, rfl, rfl⟩⟩ | exact ⟨fun _ => ⟨by rw [hacc9]; exact hl9.symm, hm9, by rw [hacc9]; exact hhp, rfl⟩, fun q => absurd wo9 q⟩), (by first | exact ⟨hko, hno, hrkN, hrtN⟩ | exact ⟨hkd, hnu, hrkN, hrtN⟩ | exact ⟨hkd, hnu, hkr, hnr⟩)⟩ dX6_polynomials_51
    · skip
      refine g_aload_n C hl 0 rfl rfl dX6_polynomials_25 ?_
      refine g_bipush C dX6_polynomials_26 (by decide) ?_
      refine g_callVi C hw (wr := [cA G (a 2) 4 kd, cA G (a 3) 12 nu, cA G (a 6) 4 rk, cA G (a 7) 12 rt, cA G (a 25) 4 sz, cA G (a 26) 4 ln, cA G (a 27) 240 ce]) (As := [.int (iI ((-2)))]) (rest := []) (m_X6_refused l D G (h := h) (a := a) (ft := ft) (pn := pn) (ra := ra) (rm := rm) (rP := rP) (rS := rS) (rD := rD) (rQ := rQ) (al := al) (rw := rw) (rc := rc) (tr := tr) (cd := (-2)) ) (cwV 1 C.1.2.2.2.2 gX6_polynomials_X6_refused rfl rfl rfl (by decide +kernel) ⟨Nat.le_of_ble_eq_true rfl, Nat.le_of_ble_eq_true rfl⟩) [0] [1, 2, 3, 4, 5, 6, 7] rfl rfl (by decide) (by decide) (by decide) 0 rfl rfl rfl hl.1 _ rfl (Nat.le_of_ble_eq_true rfl) dX6_polynomials_28 ⟨Nat.le_of_ble_eq_true rfl, Nat.le_of_ble_eq_true rfl⟩ ?_
      clear hw
      rintro _ _ H locs ⟨rfl, rfl⟩ hw
      have hw : gW D A s.heap [cA G (a 2) 4 kd, cA G (a 3) 12 nu, cA G (a 6) 4 rk, cA G (a 7) 12 rt, cA G (a 25) 4 sz, cA G (a 26) 4 ln, cA G (a 27) 240 ce, oX6 h a 0 pn ra rm rP rS rD rQ al rw rc tr] H locs := hw
      have w9 : P_st kk lv = -2 := by unfold P_st; (repeat' split) <;> omega
      obtain ⟨wr9, wf9, wo9⟩ := R_pol_1 (sz := sz) (ln := ln) (ce := ce) (k := kk) (lane := lv) (i := ii) (n := nn) (by rw [w9]; decide)
      rw [w9] at wr9
      exact g_iret C hr (ws' := [oX6 h a 0 pn ra rm rP rS rD rQ al rw rc tr, cA G (a 2) 4 kd, cA G (a 3) 12 nu, cA G (a 6) 4 rk, cA G (a 7) 12 rt, cA G (a 25) 4 sz, cA G (a 26) 4 ln, cA G (a 27) 240 ce]) hw [7, 0, 1, 2, 3, 4, 5, 6] (by decide) rfl ⟨pn, ra, rm, rc, kd, nu, rk, rt, (congrArg iI (by exact wr9.symm)), (by rw [wf9]), (by first | exact ⟨fun q => absurd q wo9, fun _ => ⟨rfl, rfl, rfl, rfl⟩⟩ | exact ⟨fun _ => ⟨by rw [hacc9]; exact hl9.symm, hm9, by rw [hacc9]; exact hhp, rfl⟩, fun q => absurd wo9 q⟩), (by first | exact ⟨hko, hno, hrkN, hrtN⟩ | exact ⟨hkd, hnu, hrkN, hrtN⟩ | exact ⟨hkd, hnu, hkr, hnr⟩)⟩ dX6_polynomials_31
  · skip
    refine g_aload_n C hl 0 rfl rfl dX6_polynomials_7 ?_
    refine g_iconst C dX6_polynomials_8 ?_
    refine g_callVi C hw (wr := [cA G (a 2) 4 kd, cA G (a 3) 12 nu, cA G (a 6) 4 rk, cA G (a 7) 12 rt, cA G (a 25) 4 sz, cA G (a 26) 4 ln, cA G (a 27) 240 ce]) (As := [.int (iI ((-1)))]) (rest := []) (m_X6_refused l D G (h := h) (a := a) (ft := ft) (pn := pn) (ra := ra) (rm := rm) (rP := rP) (rS := rS) (rD := rD) (rQ := rQ) (al := al) (rw := rw) (rc := rc) (tr := tr) (cd := (-1)) ) (cwV 1 C.1.2.2.2.2 gX6_polynomials_X6_refused rfl rfl rfl (by decide +kernel) ⟨Nat.le_of_ble_eq_true rfl, Nat.le_of_ble_eq_true rfl⟩) [0] [1, 2, 3, 4, 5, 6, 7] rfl rfl (by decide) (by decide) (by decide) 0 rfl rfl rfl hl.1 _ rfl (Nat.le_of_ble_eq_true rfl) dX6_polynomials_9 ⟨Nat.le_of_ble_eq_true rfl, Nat.le_of_ble_eq_true rfl⟩ ?_
    clear hw
    rintro _ _ H locs ⟨rfl, rfl⟩ hw
    have hw : gW D A s.heap [cA G (a 2) 4 kd, cA G (a 3) 12 nu, cA G (a 6) 4 rk, cA G (a 7) 12 rt, cA G (a 25) 4 sz, cA G (a 26) 4 ln, cA G (a 27) 240 ce, oX6 h a 0 pn ra rm rP rS rD rQ al rw rc tr] H locs := hw
    have w9 : P_st kk lv = -1 := by unfold P_st; (repeat' split) <;> omega
    obtain ⟨wr9, wf9, wo9⟩ := R_pol_1 (sz := sz) (ln := ln) (ce := ce) (k := kk) (lane := lv) (i := ii) (n := nn) (by rw [w9]; decide)
    rw [w9] at wr9
    exact g_iret C hr (ws' := [oX6 h a 0 pn ra rm rP rS rD rQ al rw rc tr, cA G (a 2) 4 kd, cA G (a 3) 12 nu, cA G (a 6) 4 rk, cA G (a 7) 12 rt, cA G (a 25) 4 sz, cA G (a 26) 4 ln, cA G (a 27) 240 ce]) hw [7, 0, 1, 2, 3, 4, 5, 6] (by decide) rfl ⟨pn, ra, rm, rc, kd, nu, rk, rt, (congrArg iI (by exact wr9.symm)), (by rw [wf9]), (by first | exact ⟨fun q => absurd q wo9, fun _ => ⟨rfl, rfl, rfl, rfl⟩⟩ | exact ⟨fun _ => ⟨by rw [hacc9]; exact hl9.symm, hm9, by rw [hacc9]; exact hhp, rfl⟩, fun q => absurd wo9 q⟩), (by first | exact ⟨hko, hno, hrkN, hrtN⟩ | exact ⟨hkd, hnu, hrkN, hrtN⟩ | exact ⟨hkd, hnu, hkr, hnr⟩)⟩ dX6_polynomials_12
