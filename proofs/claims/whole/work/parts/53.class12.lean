set_option maxRecDepth 20000 in
theorem hin_X5_polynomials_X5 : ∀ w ∈ u_ws RX5 TX5 9, w ∈ wsX5_polynomials := by
  intro w h
  exact List.mem_cons_of_mem _ (List.mem_append_left _ (List.mem_append_left _ (List.mem_append_left _ (List.mem_append_left _ (List.mem_append_left _ (List.mem_append_right _ (h)))))))
set_option maxRecDepth 20000 in
theorem lk_X5_polynomials_51 : Cond.fieldLink RX5 51 (TX5 8).1 (TX5 8).2.1 (TX5 8).2.2.1 ∈ wsX5_polynomials := List.mem_cons_of_mem _ (List.mem_append_left _ (List.mem_append_left _ (List.mem_append_left _ (List.mem_append_left _ (List.mem_append_left _ (List.mem_append_left _ (List.mem_append_left _ (List.mem_of_getElem? (i := 0) rfl))))))))
set_option maxRecDepth 20000 in
theorem lk_X5_polynomials_13 : Cond.fieldLink RX5 13 (TX5 0).1 (TX5 0).2.1 (TX5 0).2.2.1 ∈ wsX5_polynomials := List.mem_cons_of_mem _ (List.mem_append_left _ (List.mem_append_left _ (List.mem_append_left _ (List.mem_append_left _ (List.mem_append_left _ (List.mem_append_left _ (List.mem_append_left _ (List.mem_of_getElem? (i := 1) rfl))))))))
set_option maxRecDepth 100000 in
set_option maxHeartbeats 8000000 in
theorem m_X5_polynomials_n (l : Launch) (D : va_G) (G : gT) (h : Nat) (a : Nat → Nat) (tr : Int) (lf : Int) (qf : Nat → Option Nat) (sz : Int → Int) (ln : Int → Int) (ce : Int → Int) (kk : Int) (lv : Int) (ii : Int) (nn : Int) (hk : -2147483648 ≤ kk ∧ kk ≤ 2147483647) (hlv : -2147483648 ≤ lv ∧ lv ≤ 2147483647) (hi : -2147483648 ≤ ii ∧ ii ≤ 2147483647) (hn9 : -2147483648 ≤ nn ∧ nn ≤ 2147483647) (hqn : 0 ≤ kk → kk ≤ 3 → qf kk.toNat = none) (hsk : 0 ≤ kk → kk ≤ 3 → sz kk = -1) : gMi l yX5_polynomials wsX5_polynomials ({ frames := 6, cells := 0, slots := 0, locals := 169 }) D G [.ref h, .int (iI kk), .int (iI lv), .int (iI ii), .int (iI nn)] [oX5 h a tr lf, cQ G (a 0) 4 qf] 0 0 (fun (r : Int32) (w : va_W) => r = (iI (R_pol sz ln ce kk lv ii nn)) ∧ w = [oX5 h a tr (F_pol sz ln kk lv ii nn), cQ G (a 0) 4 qf] ∧ (¬ okP sz ln ce kk lv ii nn)) := by
  refine g_start_i (cc := cX5_polynomials) (nL := 8) (own := RX5) (ret := some .int) (by decide +kernel) rfl rfl (Nat.le_of_ble_eq_true rfl) ?_
  intro p e s m below meth c A ls C hr hnm hw hl
  have hl : lv_has ls 8 [(0, .ref h), (1, .int (iI kk)), (2, .int (iI lv)), (3, .int (iI ii)), (4, .int (iI nn))] := hl
  refine g_aload_n C hl 0 rfl rfl dX5_polynomials_0 ?_
  refine g_iconst C dX5_polynomials_1 ?_
  refine g_put C hw [oX5 h a tr 0, cQ G (a 0) 4 qf] hin_X5_polynomials_X5 tyX5 tyX5_ok nmX5 0 rfl rfl 8 (by decide) lk_X5_polynomials_51 rfl rfl rfl rfl (Nat.le_of_ble_eq_true rfl) rfl dX5_polynomials_2 ?_
  clear hw
  intro H locs hw
  refine g_iload_n C hl 1 rfl rfl dX5_polynomials_5 ?_
  refine g_callSi C hw (wr := [oX5 h a tr 0, cQ G (a 0) 4 qf]) (As := [.int (iI kk)]) (rest := []) (m_X5_isSheet l D G (kk := kk) (by first | assumption | omega)) (va_cwS 1 C.1.2.2.2.2 gX5_polynomials_X5_isSheet rfl rfl rfl (by decide +kernel) ⟨Nat.le_of_ble_eq_true rfl, Nat.le_of_ble_eq_true rfl⟩) [] [0, 1] rfl rfl (by decide) (by decide) (by decide) rfl hl.1 _ rfl (Nat.le_of_ble_eq_true rfl) dX5_polynomials_6 ⟨Nat.le_of_ble_eq_true rfl, Nat.le_of_ble_eq_true rfl⟩ ?_
  clear hw
  rintro _ _ H locs ⟨rfl, rfl⟩ hw
  have hw : gW D A s.heap [oX5 h a tr 0, cQ G (a 0) 4 qf] H locs := hw
  refine g_ifb_ne C 14 dX5_polynomials_9 (by decide) (fun c_1 => ?_) (fun c_1 => ?_)
  · skip
    refine g_iload_n C hl 2 rfl rfl dX5_polynomials_14 ?_
    refine g_iconst C dX5_polynomials_15 ?_
    refine g_callSi C hw (wr := [oX5 h a tr 0, cQ G (a 0) 4 qf]) (As := [.int (iI lv), .int (iI 3)]) (rest := []) (m_X5_isBelow l D G (na := lv) (nb := 3) (by first | assumption | omega) (by first | assumption | omega)) (va_cwS 2 C.1.2.2.2.2 gX5_polynomials_X5_isBelow rfl rfl rfl (by decide +kernel) ⟨Nat.le_of_ble_eq_true rfl, Nat.le_of_ble_eq_true rfl⟩) [] [0, 1] rfl rfl (by decide) (by decide) (by decide) rfl hl.1 _ rfl (Nat.le_of_ble_eq_true rfl) dX5_polynomials_16 ⟨Nat.le_of_ble_eq_true rfl, Nat.le_of_ble_eq_true rfl⟩ ?_
    clear hw
    rintro _ _ H locs ⟨rfl, rfl⟩ hw
    have hw : gW D A s.heap [oX5 h a tr 0, cQ G (a 0) 4 qf] H locs := hw
    refine g_ifb_ne C 25 dX5_polynomials_19 (by decide) (fun c_2 => ?_) (fun c_2 => ?_)
    · skip
      refine g_aload_n C hl 0 rfl rfl dX5_polynomials_25 ?_
      refine g_get C hw hin_X5_polynomials_X5 0 rfl rfl 0 (by decide) lk_X5_polynomials_13 rfl dX5_polynomials_26 ?_
      refine g_iload_n C hl 1 rfl rfl dX5_polynomials_29 ?_
      refine g_aald C hw 1 rfl (by omega) (Nat.le_of_ble_eq_true rfl) dX5_polynomials_30 ?_
      refine g_topv (show va_rf (qf kk.toNat) = .null by exact rf_n (hqn (by omega) (by omega))) ?_
      refine g_astoreN C [(5, .null), (0, .ref h), (1, .int (iI kk)), (2, .int (iI lv)), (3, .int (iI ii)), (4, .int (iI nn))] dX5_polynomials_31 hl (by decide) rfl ?_
      clear hl
      intro ls hl
      refine g_aloadN C hl 0 rfl dX5_polynomials_33 ?_
      refine g_iload_n C hl 3 rfl rfl dX5_polynomials_35 ?_
      refine g_iload_n C hl 4 rfl rfl dX5_polynomials_36 ?_
      refine g_iload C hl 5 rfl dX5_polynomials_37 ?_
      refine g_callSi C hw (wr := [oX5 h a tr 0, cQ G (a 0) 4 qf]) (As := [.null, .int (iI lv), .int (iI ii), .int (iI nn)]) (rest := []) (m_X5_foc_n l D G (lv := lv) (ii := ii) (nn := nn) ) (va_cwS 4 C.1.2.2.2.2 gX5_polynomials_X5_faultOfCells rfl rfl rfl (by decide +kernel) ⟨Nat.le_of_ble_eq_true rfl, Nat.le_of_ble_eq_true rfl⟩) [] [0, 1] rfl rfl (by decide) (by decide) (by decide) rfl hl.1 _ rfl (Nat.le_of_ble_eq_true rfl) dX5_polynomials_39 ⟨Nat.le_of_ble_eq_true rfl, Nat.le_of_ble_eq_true rfl⟩ ?_
      clear hw
      rintro _ _ H locs ⟨rfl, rfl⟩ hw
      have hw : gW D A s.heap [oX5 h a tr 0, cQ G (a 0) 4 qf] H locs := hw
      refine g_istore C [(6, .int (iI 1)), (5, .null), (0, .ref h), (1, .int (iI kk)), (2, .int (iI lv)), (3, .int (iI ii)), (4, .int (iI nn))] dX5_polynomials_42 hl (by decide) rfl ?_
      clear hl
      intro ls hl
      refine g_iload C hl 0 rfl dX5_polynomials_44 ?_
      refine g_if_eq C 56 dX5_polynomials_46 (by decide) (by decide) (fun c_3 => absurd c_3 (by decide)) (fun c_3 => ?_)
      have hb1 : barC sz ln kk lv ii (nn) = 1 := by have := hsk (by omega) (by omega); unfold barC; rw [if_neg (by omega), if_pos (by omega)]
      have w9 : P_st kk lv = 0 := by unfold P_st; (repeat' split) <;> omega
      obtain ⟨wr9, wf9, wo9⟩ := R_pol_2 (sz := sz) (ln := ln) (ce := ce) (k := kk) (lane := lv) (i := ii) (n := nn) w9 (by omega)
      rw [hb1] at wr9 wf9
      refine g_aload_n C hl 2 rfl rfl dX5_polynomials_49 ?_
      refine g_iload C hl 0 rfl dX5_polynomials_50 ?_
      refine g_callVi C hw (wr := [cQ G (a 0) 4 qf]) (As := [.int (iI 1)]) (rest := []) (m_X5_failed l D G (h := h) (a := a) (tr := tr) (lf := 0) (fv := 1) ) (cwV 1 C.1.2.2.2.2 gX5_polynomials_X5_failed rfl rfl rfl (by decide +kernel) ⟨Nat.le_of_ble_eq_true rfl, Nat.le_of_ble_eq_true rfl⟩) [0] [1] rfl rfl (by decide) (by decide) (by decide) 0 rfl rfl rfl hl.1 _ rfl (Nat.le_of_ble_eq_true rfl) dX5_polynomials_52 ⟨Nat.le_of_ble_eq_true rfl, Nat.le_of_ble_eq_true rfl⟩ ?_
      clear hw
      rintro _ _ H locs ⟨rfl, rfl⟩ hw
      have hw : gW D A s.heap [cQ G (a 0) 4 qf, oX5 h a tr 1] H locs := hw
      exact g_iret C hr (ws' := [oX5 h a tr 1, cQ G (a 0) 4 qf]) hw [1, 0] (by decide) rfl ⟨(congrArg iI (by rw [wr9]; try omega)), (by rw [wf9]), (by exact wo9)⟩ dX5_polynomials_55
    · skip
      have w9 : P_st kk lv = -2 := by unfold P_st; (repeat' split) <;> omega
      obtain ⟨wr9, wf9, wo9⟩ := R_pol_1 (sz := sz) (ln := ln) (ce := ce) (k := kk) (lane := lv) (i := ii) (n := nn) (by rw [w9]; decide)
      rw [w9] at wr9
      refine g_bipush C dX5_polynomials_22 (by decide) ?_
      exact g_iret C hr (ws' := [oX5 h a tr 0, cQ G (a 0) 4 qf]) hw [0, 1] (by decide) rfl ⟨(congrArg iI (by rw [wr9]; try omega)), (by rw [wf9]), (by exact wo9)⟩ dX5_polynomials_24
  · skip
    have w9 : P_st kk lv = -1 := by unfold P_st; (repeat' split) <;> omega
    obtain ⟨wr9, wf9, wo9⟩ := R_pol_1 (sz := sz) (ln := ln) (ce := ce) (k := kk) (lane := lv) (i := ii) (n := nn) (by rw [w9]; decide)
    rw [w9] at wr9
    refine g_iconst C dX5_polynomials_12 ?_
    exact g_iret C hr (ws' := [oX5 h a tr 0, cQ G (a 0) 4 qf]) hw [0, 1] (by decide) rfl ⟨(congrArg iI (by rw [wr9]; try omega)), (by rw [wf9]), (by exact wo9)⟩ dX5_polynomials_13

set_option maxRecDepth 20000 in
theorem lk_X5_polynomials_40 : Cond.fieldLink RX5 40 (TX5 5).1 (TX5 5).2.1 (TX5 5).2.2.1 ∈ wsX5_polynomials := List.mem_cons_of_mem _ (List.mem_append_left _ (List.mem_append_left _ (List.mem_append_left _ (List.mem_append_left _ (List.mem_append_left _ (List.mem_append_left _ (List.mem_append_left _ (List.mem_of_getElem? (i := 2) rfl))))))))
set_option maxRecDepth 20000 in
theorem hin_X5_polynomials_X2 : ∀ w ∈ u_ws RX2 TX2 2, w ∈ wsX5_polynomials := by
  intro w h
  exact List.mem_cons_of_mem _ (List.mem_append_left _ (List.mem_append_left _ (List.mem_append_left _ (List.mem_append_left _ (List.mem_append_right _ (h))))))
set_option maxRecDepth 20000 in
theorem lk_X5_polynomials_71 : Cond.fieldLink RX5 71 (TX2 1).1 (TX2 1).2.1 (TX2 1).2.2.1 ∈ wsX5_polynomials := List.mem_cons_of_mem _ (List.mem_append_left _ (List.mem_append_left _ (List.mem_append_left _ (List.mem_append_left _ (List.mem_append_left _ (List.mem_append_left _ (List.mem_append_left _ (List.mem_of_getElem? (i := 3) rfl))))))))
set_option maxRecDepth 20000 in
theorem lk_X5_polynomials_20 : Cond.fieldLink RX5 20 (TX5 1).1 (TX5 1).2.1 (TX5 1).2.2.1 ∈ wsX5_polynomials := List.mem_cons_of_mem _ (List.mem_append_left _ (List.mem_append_left _ (List.mem_append_left _ (List.mem_append_left _ (List.mem_append_left _ (List.mem_append_left _ (List.mem_append_left _ (List.mem_of_getElem? (i := 4) rfl))))))))
set_option maxRecDepth 20000 in
theorem hin_X5_polynomials_X3 : ∀ w ∈ u_ws RX3 TX3 4, w ∈ wsX5_polynomials := by
  intro w h
  exact List.mem_cons_of_mem _ (List.mem_append_left _ (List.mem_append_left _ (List.mem_append_left _ (List.mem_append_right _ (h)))))
set_option maxRecDepth 20000 in
theorem lk_X5_polynomials_79 : Cond.fieldLink RX5 79 (TX3 0).1 (TX3 0).2.1 (TX3 0).2.2.1 ∈ wsX5_polynomials := List.mem_cons_of_mem _ (List.mem_append_left _ (List.mem_append_left _ (List.mem_append_left _ (List.mem_append_left _ (List.mem_append_left _ (List.mem_append_left _ (List.mem_append_left _ (List.mem_of_getElem? (i := 5) rfl))))))))
set_option maxRecDepth 20000 in
theorem lk_X5_polynomials_47 : Cond.fieldLink RX5 47 (TX5 6).1 (TX5 6).2.1 (TX5 6).2.2.1 ∈ wsX5_polynomials := List.mem_cons_of_mem _ (List.mem_append_left _ (List.mem_append_left _ (List.mem_append_left _ (List.mem_append_left _ (List.mem_append_left _ (List.mem_append_left _ (List.mem_append_left _ (List.mem_of_getElem? (i := 6) rfl))))))))
set_option maxRecDepth 20000 in
theorem hin_X5_polynomials_X1 : ∀ w ∈ u_ws RX1 TX1 4, w ∈ wsX5_polynomials := by
  intro w h
  exact List.mem_cons_of_mem _ (List.mem_append_left _ (List.mem_append_left _ (List.mem_append_right _ (h))))
set_option maxRecDepth 20000 in
theorem lk_X5_polynomials_86 : Cond.fieldLink RX5 86 (TX1 0).1 (TX1 0).2.1 (TX1 0).2.2.1 ∈ wsX5_polynomials := List.mem_cons_of_mem _ (List.mem_append_left _ (List.mem_append_left _ (List.mem_append_left _ (List.mem_append_left _ (List.mem_append_left _ (List.mem_append_left _ (List.mem_append_left _ (List.mem_of_getElem? (i := 7) rfl))))))))
set_option maxRecDepth 20000 in
theorem lk_X5_polynomials_27 : Cond.fieldLink RX5 27 (TX5 2).1 (TX5 2).2.1 (TX5 2).2.2.1 ∈ wsX5_polynomials := List.mem_cons_of_mem _ (List.mem_append_left _ (List.mem_append_left _ (List.mem_append_left _ (List.mem_append_left _ (List.mem_append_left _ (List.mem_append_left _ (List.mem_append_left _ (List.mem_of_getElem? (i := 8) rfl))))))))
set_option maxRecDepth 20000 in
theorem hin_X5_polynomials_X4 : ∀ w ∈ u_ws RX4 TX4 3, w ∈ wsX5_polynomials := by
  intro w h
  exact List.mem_cons_of_mem _ (List.mem_append_left _ (List.mem_append_right _ (h)))
set_option maxRecDepth 20000 in
theorem lk_X5_polynomials_92 : Cond.fieldLink RX5 92 (TX4 0).1 (TX4 0).2.1 (TX4 0).2.2.1 ∈ wsX5_polynomials := List.mem_cons_of_mem _ (List.mem_append_left _ (List.mem_append_left _ (List.mem_append_left _ (List.mem_append_left _ (List.mem_append_left _ (List.mem_append_left _ (List.mem_append_left _ (List.mem_of_getElem? (i := 9) rfl))))))))
set_option maxRecDepth 100000 in
set_option maxHeartbeats 8000000 in
theorem m_X5_polynomials_s (l : Launch) (D : va_G) (G : gT) (h : Nat) (a : Nat → Nat) (tr : Int) (lf : Int) (ta : Nat → Nat) (cn : Int) (kd : Int → Int) (nu : Int → Int) (qf : Nat → Option Nat) (sa : Nat) (sb : Nat → Nat) (la1 : Int) (zn : Nat) (gg : Int → Int) (la : Nat → Nat) (ul : Int) (rw : Int) (ex : Int → Int) (rt : Int → Int) (mi : Int → Int) (si : Int → Int) (un : Int → Int) (be : Int → Int) (ka : Int → Int) (br : Int → Int) (ra : Nat → Nat) (sp : Int) (co : Int) (da : Int) (rb : Nat → Nat) (dc : Int) (dk : Int → Int) (dn : Int → Int) (ga : Nat → Nat) (rc : Int) (sz : Int → Int) (ln : Int → Int) (ce : Int → Int) (kk : Int) (lv : Int) (ii : Int) (nn : Int) (hkd : kdOK kd) (hnu : nuOK nu) (hdk : kdOK dk) (hdn : nuOK dn) (hcn : 0 ≤ cn ∧ cn ≤ 4) (hX : LnX (exT cn kd nu) cn ex) (hT : LnT (exT cn kd nu) cn rt) (hZ : LnZ (exT cn kd nu) cn mi si un be) (hB : hasB ka br (ALb (exT cn kd nu) cn.toNat)) (hul : ul = ((ALb (exT cn kd nu) cn.toNat).length : Int)) (hk : -2147483648 ≤ kk ∧ kk ≤ 2147483647) (hlv : -2147483648 ≤ lv ∧ lv ≤ 2147483647) (hi : -2147483648 ≤ ii ∧ ii ≤ 2147483647) (hn9 : -2147483648 ≤ nn ∧ nn ≤ 2147483647) (hk3 : 0 ≤ kk ∧ kk ≤ 3) (hqs : qf kk.toNat = some sa) (hsk : sz kk = zn) (hlk : ln kk = la1) (hla1 : 0 ≤ la1 ∧ la1 ≤ 2) (hzn : zn ≤ 60) (hce : ∀ j, 0 ≤ j → j < (zn : Int) → gg j = ce (60 * kk + j) ∧ -2147483648 ≤ gg j ∧ gg j ≤ 2147483647) (hcr : ∀ j, -2147483648 ≤ ce j ∧ ce j ≤ 2147483647) : gMi l yX5_polynomials wsX5_polynomials ({ frames := 6, cells := 0, slots := 0, locals := 169 }) D G [.ref h, .int (iI kk), .int (iI lv), .int (iI ii), .int (iI nn)] [oX5 h a tr lf, oX4 (a 1) ta cn, cA G (ta 1) 4 kd, cA G (ta 2) 12 nu, cQ G (a 0) 4 qf, oX2 sa sb la1, cA G (sb 1) zn gg, oX0 (a 2) la cn ul rw, cA G (la 1) 12 ex, cA G (la 2) 4 rt, cA G (la 3) 8 mi, cA G (la 4) 8 si, cA G (la 5) 8 un, cA G (la 6) 8 be, cA G (la 8) 8 ka, cA G (la 9) 8 br, oX3 (a 5) ra sp co da, oX4 (ra 0) rb dc, cA G (rb 1) 4 dk, cA G (rb 2) 12 dn, oX1 (a 6) ga rc] 0 0 (fun (r : Int32) (w : va_W) => ∃ (cn2 : Int) (kd2 : Int → Int) (nu2 : Int → Int) (lc2 : Int) (ul2 : Int) (ex2 : Int → Int) (rt2 : Int → Int) (mi2 : Int → Int) (si2 : Int → Int) (un2 : Int → Int) (be2 : Int → Int) (ka2 : Int → Int) (br2 : Int → Int) (sp2 : Int) (co2 : Int) (da2 : Int) (dc2 : Int) (dk2 : Int → Int) (dn2 : Int → Int) (rc2 : Int), r = (iI (R_pol sz ln ce kk lv ii nn)) ∧ w = [oX5 h a tr (F_pol sz ln kk lv ii nn), oX4 (a 1) ta cn2, cA G (ta 1) 4 kd2, cA G (ta 2) 12 nu2, cQ G (a 0) 4 qf, oX2 sa sb la1, cA G (sb 1) zn gg, oX0 (a 2) la lc2 ul2 rw, cA G (la 1) 12 ex2, cA G (la 2) 4 rt2, cA G (la 3) 8 mi2, cA G (la 4) 8 si2, cA G (la 5) 8 un2, cA G (la 6) 8 be2, cA G (la 8) 8 ka2, cA G (la 9) 8 br2, oX3 (a 5) ra sp2 co2 da2, oX4 (ra 0) rb dc2, cA G (rb 1) 4 dk2, cA G (rb 2) 12 dn2, oX1 (a 6) ga rc2] ∧ ((okP sz ln ce kk lv ii nn → cn2 = ((PRS ce (60 * kk + ii) nn).2.length : Int) ∧ hasP kd2 nu2 (PRS ce (60 * kk + ii) nn).2 ∧ rc2 = 0) ∧ (¬ okP sz ln ce kk lv ii nn → cn2 = cn ∧ kd2 = kd ∧ nu2 = nu ∧ rc2 = rc)) ∧ (kdOK kd2 ∧ nuOK nu2 ∧ kdOK dk2 ∧ nuOK dn2) ∧ ((0 ≤ cn2 ∧ cn2 ≤ 4) ∧ lc2 = cn2) ∧ (LnX (exT cn2 kd2 nu2) cn2 ex2 ∧ LnT (exT cn2 kd2 nu2) cn2 rt2 ∧ LnZ (exT cn2 kd2 nu2) cn2 mi2 si2 un2 be2 ∧ hasB ka2 br2 (ALb (exT cn2 kd2 nu2) cn2.toNat) ∧ ul2 = ((ALb (exT cn2 kd2 nu2) cn2.toNat).length : Int))) := by
  refine g_start_i (cc := cX5_polynomials) (nL := 8) (own := RX5) (ret := some .int) (by decide +kernel) rfl rfl (Nat.le_of_ble_eq_true rfl) ?_
  intro p e s m below meth c A ls C hr hnm hw hl
  have hl : lv_has ls 8 [(0, .ref h), (1, .int (iI kk)), (2, .int (iI lv)), (3, .int (iI ii)), (4, .int (iI nn))] := hl
  have hb9 := barC_r sz ln kk lv ii nn
  have hbz : barC sz ln kk lv ii nn = 0 → 0 ≤ ii ∧ 0 ≤ nn ∧ ii + nn ≤ (zn : Int) := by unfold barC; (repeat' split) <;> omega
  have hpl := PRS_len ce (60 * kk + ii) nn
  refine g_aload_n C hl 0 rfl rfl dX5_polynomials_0 ?_
  refine g_iconst C dX5_polynomials_1 ?_
  refine g_put C hw [oX5 h a tr 0, oX4 (a 1) ta cn, cA G (ta 1) 4 kd, cA G (ta 2) 12 nu, cQ G (a 0) 4 qf, oX2 sa sb la1, cA G (sb 1) zn gg, oX0 (a 2) la cn ul rw, cA G (la 1) 12 ex, cA G (la 2) 4 rt, cA G (la 3) 8 mi, cA G (la 4) 8 si, cA G (la 5) 8 un, cA G (la 6) 8 be, cA G (la 8) 8 ka, cA G (la 9) 8 br, oX3 (a 5) ra sp co da, oX4 (ra 0) rb dc, cA G (rb 1) 4 dk, cA G (rb 2) 12 dn, oX1 (a 6) ga rc] hin_X5_polynomials_X5 tyX5 tyX5_ok nmX5 0 rfl rfl 8 (by decide) lk_X5_polynomials_51 rfl rfl rfl rfl (Nat.le_of_ble_eq_true rfl) rfl dX5_polynomials_2 ?_
  clear hw
  intro H locs hw
  refine g_iload_n C hl 1 rfl rfl dX5_polynomials_5 ?_
  refine g_callSi C hw (wr := [oX5 h a tr 0, oX4 (a 1) ta cn, cA G (ta 1) 4 kd, cA G (ta 2) 12 nu, cQ G (a 0) 4 qf, oX2 sa sb la1, cA G (sb 1) zn gg, oX0 (a 2) la cn ul rw, cA G (la 1) 12 ex, cA G (la 2) 4 rt, cA G (la 3) 8 mi, cA G (la 4) 8 si, cA G (la 5) 8 un, cA G (la 6) 8 be, cA G (la 8) 8 ka, cA G (la 9) 8 br, oX3 (a 5) ra sp co da, oX4 (ra 0) rb dc, cA G (rb 1) 4 dk, cA G (rb 2) 12 dn, oX1 (a 6) ga rc]) (As := [.int (iI kk)]) (rest := []) (m_X5_isSheet l D G (kk := kk) (by first | assumption | omega)) (va_cwS 1 C.1.2.2.2.2 gX5_polynomials_X5_isSheet rfl rfl rfl (by decide +kernel) ⟨Nat.le_of_ble_eq_true rfl, Nat.le_of_ble_eq_true rfl⟩) [] [0, 1, 2, 3, 4, 5, 6, 7, 8, 9, 10, 11, 12, 13, 14, 15, 16, 17, 18, 19, 20] rfl rfl (by decide) (by decide) (by decide) rfl hl.1 _ rfl (Nat.le_of_ble_eq_true rfl) dX5_polynomials_6 ⟨Nat.le_of_ble_eq_true rfl, Nat.le_of_ble_eq_true rfl⟩ ?_
  clear hw
  rintro _ _ H locs ⟨rfl, rfl⟩ hw
  have hw : gW D A s.heap [oX5 h a tr 0, oX4 (a 1) ta cn, cA G (ta 1) 4 kd, cA G (ta 2) 12 nu, cQ G (a 0) 4 qf, oX2 sa sb la1, cA G (sb 1) zn gg, oX0 (a 2) la cn ul rw, cA G (la 1) 12 ex, cA G (la 2) 4 rt, cA G (la 3) 8 mi, cA G (la 4) 8 si, cA G (la 5) 8 un, cA G (la 6) 8 be, cA G (la 8) 8 ka, cA G (la 9) 8 br, oX3 (a 5) ra sp co da, oX4 (ra 0) rb dc, cA G (rb 1) 4 dk, cA G (rb 2) 12 dn, oX1 (a 6) ga rc] H locs := hw
  refine g_ifb_ne C 14 dX5_polynomials_9 (by decide) (fun c_1 => ?_) (fun c_1 => ?_)
  · skip
    refine g_iload_n C hl 2 rfl rfl dX5_polynomials_14 ?_
    refine g_iconst C dX5_polynomials_15 ?_
    refine g_callSi C hw (wr := [oX5 h a tr 0, oX4 (a 1) ta cn, cA G (ta 1) 4 kd, cA G (ta 2) 12 nu, cQ G (a 0) 4 qf, oX2 sa sb la1, cA G (sb 1) zn gg, oX0 (a 2) la cn ul rw, cA G (la 1) 12 ex, cA G (la 2) 4 rt, cA G (la 3) 8 mi, cA G (la 4) 8 si, cA G (la 5) 8 un, cA G (la 6) 8 be, cA G (la 8) 8 ka, cA G (la 9) 8 br, oX3 (a 5) ra sp co da, oX4 (ra 0) rb dc, cA G (rb 1) 4 dk, cA G (rb 2) 12 dn, oX1 (a 6) ga rc]) (As := [.int (iI lv), .int (iI 3)]) (rest := []) (m_X5_isBelow l D G (na := lv) (nb := 3) (by first | assumption | omega) (by first | assumption | omega)) (va_cwS 2 C.1.2.2.2.2 gX5_polynomials_X5_isBelow rfl rfl rfl (by decide +kernel) ⟨Nat.le_of_ble_eq_true rfl, Nat.le_of_ble_eq_true rfl⟩) [] [0, 1, 2, 3, 4, 5, 6, 7, 8, 9, 10, 11, 12, 13, 14, 15, 16, 17, 18, 19, 20] rfl rfl (by decide) (by decide) (by decide) rfl hl.1 _ rfl (Nat.le_of_ble_eq_true rfl) dX5_polynomials_16 ⟨Nat.le_of_ble_eq_true rfl, Nat.le_of_ble_eq_true rfl⟩ ?_
    clear hw
    rintro _ _ H locs ⟨rfl, rfl⟩ hw
    have hw : gW D A s.heap [oX5 h a tr 0, oX4 (a 1) ta cn, cA G (ta 1) 4 kd, cA G (ta 2) 12 nu, cQ G (a 0) 4 qf, oX2 sa sb la1, cA G (sb 1) zn gg, oX0 (a 2) la cn ul rw, cA G (la 1) 12 ex, cA G (la 2) 4 rt, cA G (la 3) 8 mi, cA G (la 4) 8 si, cA G (la 5) 8 un, cA G (la 6) 8 be, cA G (la 8) 8 ka, cA G (la 9) 8 br, oX3 (a 5) ra sp co da, oX4 (ra 0) rb dc, cA G (rb 1) 4 dk, cA G (rb 2) 12 dn, oX1 (a 6) ga rc] H locs := hw
    refine g_ifb_ne C 25 dX5_polynomials_19 (by decide) (fun c_2 => ?_) (fun c_2 => ?_)
    · skip
      refine g_aload_n C hl 0 rfl rfl dX5_polynomials_25 ?_
      refine g_get C hw hin_X5_polynomials_X5 0 rfl rfl 0 (by decide) lk_X5_polynomials_13 rfl dX5_polynomials_26 ?_
      refine g_iload_n C hl 1 rfl rfl dX5_polynomials_29 ?_
      refine g_aald C hw 4 rfl (by omega) (Nat.le_of_ble_eq_true rfl) dX5_polynomials_30 ?_
      refine g_topv (show va_rf (qf kk.toNat) = .ref sa by exact rf_s hqs) ?_
      refine g_astore C [(5, .ref sa), (0, .ref h), (1, .int (iI kk)), (2, .int (iI lv)), (3, .int (iI ii)), (4, .int (iI nn))] dX5_polynomials_31 hl (by decide) rfl ?_
      clear hl
      intro ls hl
      refine g_aload C hl 0 rfl dX5_polynomials_33 ?_
      refine g_iload_n C hl 3 rfl rfl dX5_polynomials_35 ?_
      refine g_iload_n C hl 4 rfl rfl dX5_polynomials_36 ?_
      refine g_iload C hl 5 rfl dX5_polynomials_37 ?_
      refine g_callSi C hw (wr := [oX5 h a tr 0, oX4 (a 1) ta cn, cA G (ta 1) 4 kd, cA G (ta 2) 12 nu, cQ G (a 0) 4 qf, oX0 (a 2) la cn ul rw, cA G (la 1) 12 ex, cA G (la 2) 4 rt, cA G (la 3) 8 mi, cA G (la 4) 8 si, cA G (la 5) 8 un, cA G (la 6) 8 be, cA G (la 8) 8 ka, cA G (la 9) 8 br, oX3 (a 5) ra sp co da, oX4 (ra 0) rb dc, cA G (rb 1) 4 dk, cA G (rb 2) 12 dn, oX1 (a 6) ga rc]) (As := [.ref sa, .int (iI lv), .int (iI ii), .int (iI nn)]) (rest := []) (m_X5_foc_s l D G (sa := sa) (sb := sb) (la1 := la1) (zn := zn) (gg := gg) (sz := sz) (ln := ln) (kk := kk) (lv := lv) (ii := ii) (nn := nn) (by first | assumption | omega) (by first | assumption | omega) (by first | assumption | omega) (by first | assumption | omega) (by first | assumption | omega) (by first | assumption | omega) (by first | assumption | omega)) (va_cwS 4 C.1.2.2.2.2 gX5_polynomials_X5_faultOfCells rfl rfl rfl (by decide +kernel) ⟨Nat.le_of_ble_eq_true rfl, Nat.le_of_ble_eq_true rfl⟩) [5, 6] [0, 1, 2, 3, 4, 7, 8, 9, 10, 11, 12, 13, 14, 15, 16, 17, 18, 19, 20] rfl rfl (by decide) (by decide) (by decide) rfl hl.1 _ rfl (Nat.le_of_ble_eq_true rfl) dX5_polynomials_39 ⟨Nat.le_of_ble_eq_true rfl, Nat.le_of_ble_eq_true rfl⟩ ?_
      clear hw
      rintro _ _ H locs ⟨rfl, rfl⟩ hw
      have hw : gW D A s.heap [oX5 h a tr 0, oX4 (a 1) ta cn, cA G (ta 1) 4 kd, cA G (ta 2) 12 nu, cQ G (a 0) 4 qf, oX0 (a 2) la cn ul rw, cA G (la 1) 12 ex, cA G (la 2) 4 rt, cA G (la 3) 8 mi, cA G (la 4) 8 si, cA G (la 5) 8 un, cA G (la 6) 8 be, cA G (la 8) 8 ka, cA G (la 9) 8 br, oX3 (a 5) ra sp co da, oX4 (ra 0) rb dc, cA G (rb 1) 4 dk, cA G (rb 2) 12 dn, oX1 (a 6) ga rc, oX2 sa sb la1, cA G (sb 1) zn gg] H locs := hw
      refine g_istore C [(6, .int (iI ((barC sz ln kk lv ii nn)))), (5, .ref sa), (0, .ref h), (1, .int (iI kk)), (2, .int (iI lv)), (3, .int (iI ii)), (4, .int (iI nn))] dX5_polynomials_42 hl (by decide) rfl ?_
      clear hl
      intro ls hl
      refine g_iload C hl 0 rfl dX5_polynomials_44 ?_
      refine g_if_eq C 56 dX5_polynomials_46 (by decide) (by omega) (fun c_3 => ?_) (fun c_3 => ?_)
      · skip
        have b1 : barC sz ln kk lv ii nn = 0 := by omega
        have b2 := hbz b1
        refine g_aload_n C hl 2 rfl rfl dX5_polynomials_56 ?_
        refine g_get C hw hin_X5_polynomials_X5 0 rfl rfl 5 (by decide) lk_X5_polynomials_40 rfl dX5_polynomials_57 ?_
        refine g_aload C hl 1 rfl dX5_polynomials_60 ?_
        refine g_get C hw hin_X5_polynomials_X2 19 rfl rfl 1 (by decide) lk_X5_polynomials_71 rfl dX5_polynomials_62 ?_
        refine g_iload_n C hl 5 rfl rfl dX5_polynomials_65 ?_
        refine g_iload C hl 6 rfl dX5_polynomials_66 ?_
        refine g_callVi C hw (wr := [oX5 h a tr 0, oX4 (a 1) ta cn, cA G (ta 1) 4 kd, cA G (ta 2) 12 nu, cQ G (a 0) 4 qf, oX0 (a 2) la cn ul rw, cA G (la 1) 12 ex, cA G (la 2) 4 rt, cA G (la 3) 8 mi, cA G (la 4) 8 si, cA G (la 5) 8 un, cA G (la 6) 8 be, cA G (la 8) 8 ka, cA G (la 9) 8 br, oX1 (a 6) ga rc, oX2 sa sb la1]) (As := [.ref ((sb 1)), .int (iI ii), .int (iI nn)]) (rest := []) (m_X3_firstFault l D G (h := (a 5)) (a := ra) (sp := sp) (ce := co) (da := da) (b := rb) (dc := dc) (dk := dk) (dn := dn) (ca := (sb 1)) (zn := zn) (g := gg) (cd := (cdF ce (60 * kk + ii) nn)) (fr := ii) (nn := nn) (by first | assumption | omega) (by first | assumption | omega) (by first | assumption | omega) (by first | assumption | omega) (by first | assumption | omega) (by intro x h1 h2; unfold cdF; rw [if_pos (by omega), show 60 * kk + ii + x = 60 * kk + (ii + x) by omega]; exact (hce (ii + x) (by omega) (by omega)).1.symm) (by intro x; unfold cdF; split; exact hcr _; decide)) (cwV 3 C.1.2.2.2.2 gX5_polynomials_X3_firstFault rfl rfl rfl (by decide +kernel) ⟨Nat.le_of_ble_eq_true rfl, Nat.le_of_ble_eq_true rfl⟩) [14, 15, 16, 17, 20] [0, 1, 2, 3, 4, 5, 6, 7, 8, 9, 10, 11, 12, 13, 18, 19] rfl rfl (by decide) (by decide) (by decide) 0 rfl rfl rfl hl.1 _ rfl (Nat.le_of_ble_eq_true rfl) dX5_polynomials_68 ⟨Nat.le_of_ble_eq_true rfl, Nat.le_of_ble_eq_true rfl⟩ ?_
        clear hw
        rintro _ _ H locs ⟨sp2__4, ce2__5, da2__6, dcN, dkN, dnN, rfl, rfl, hp_7, hp_8⟩ hw
        have hw : gW D A s.heap [oX5 h a tr 0, oX4 (a 1) ta cn, cA G (ta 1) 4 kd, cA G (ta 2) 12 nu, cQ G (a 0) 4 qf, oX0 (a 2) la cn ul rw, cA G (la 1) 12 ex, cA G (la 2) 4 rt, cA G (la 3) 8 mi, cA G (la 4) 8 si, cA G (la 5) 8 un, cA G (la 6) 8 be, cA G (la 8) 8 ka, cA G (la 9) 8 br, oX1 (a 6) ga rc, oX2 sa sb la1, oX3 (a 5) ra sp2__4 ce2__5 da2__6, oX4 (ra 0) rb dcN, cA G (rb 1) 4 dkN, cA G (rb 2) 12 dnN, cA G (sb 1) zn gg] H locs := hw
        have hp_7 : (RUN (cdF ce (60 * kk + ii) nn) nn 0 0 0 [] []).1 = -9 → dcN = ((RUN (cdF ce (60 * kk + ii) nn) nn 0 0 0 [] []).2.length : Int) ∧ hasP dkN dnN (RUN (cdF ce (60 * kk + ii) nn) nn 0 0 0 [] []).2 := hp_7
        have hp_8 : kdOK dkN ∧ nuOK dnN := hp_8
        have hpr := PRS_r (ce := ce) (f := 60 * kk + ii) (n := nn) (by omega)
        have hff := hp_7
        have hfk := hp_8
        replace hff : (PRS ce (60 * kk + ii) nn).1 = -9 → dcN = ((PRS ce (60 * kk + ii) nn).2.length : Int) ∧ hasP dkN dnN (PRS ce (60 * kk + ii) nn).2 := hff
        refine g_nI (show (((RUN (cdF ce (60 * kk + ii) nn) nn 0 0 0 [] []).1) : Int) = (PRS ce (60 * kk + ii) nn).1 by rfl) ?_
        refine g_istore C [(7, .int (iI ((PRS ce (60 * kk + ii) nn).1))), (6, .int (iI ((barC sz ln kk lv ii nn)))), (5, .ref sa), (0, .ref h), (1, .int (iI kk)), (2, .int (iI lv)), (3, .int (iI ii)), (4, .int (iI nn))] dX5_polynomials_71 hl (by decide) rfl ?_
        clear hl
        intro ls hl
        refine g_iload C hl 0 rfl dX5_polynomials_73 ?_
        refine g_bipush C dX5_polynomials_75 (by decide) ?_
        refine g_icmp_eq C 86 dX5_polynomials_77 (by decide) (by omega) (by omega) (fun c_9 => ?_) (fun c_9 => ?_)
        · skip
          have w9 : P_st kk lv = 0 := by unfold P_st; (repeat' split) <;> omega
          obtain ⟨wr9, wf9, wo9⟩ := R_pol_4 (sz := sz) (ln := ln) (ce := ce) (k := kk) (lane := lv) (i := ii) (n := nn) w9 b1 (by assumption)
          obtain ⟨hf1, hf2⟩ := hff (by assumption)
          refine g_aload_n C hl 3 rfl rfl dX5_polynomials_86 ?_
          refine g_get C hw hin_X5_polynomials_X5 0 rfl rfl 1 (by decide) lk_X5_polynomials_20 rfl dX5_polynomials_87 ?_
          refine g_aload_n C hl 3 rfl rfl dX5_polynomials_90 ?_
          refine g_get C hw hin_X5_polynomials_X5 0 rfl rfl 5 (by decide) lk_X5_polynomials_40 rfl dX5_polynomials_91 ?_
          refine g_get C hw hin_X5_polynomials_X3 16 rfl rfl 0 (by decide) lk_X5_polynomials_79 rfl dX5_polynomials_94 ?_
          refine g_callVv C hw (wr := [oX5 h a tr 0, cQ G (a 0) 4 qf, oX0 (a 2) la cn ul rw, cA G (la 1) 12 ex, cA G (la 2) 4 rt, cA G (la 3) 8 mi, cA G (la 4) 8 si, cA G (la 5) 8 un, cA G (la 6) 8 be, cA G (la 8) 8 ka, cA G (la 9) 8 br, oX1 (a 6) ga rc, oX2 sa sb la1, oX3 (a 5) ra sp2__4 ce2__5 da2__6, cA G (sb 1) zn gg]) (As := [.ref ((ra 0))]) (rest := []) (m_X4_become l D G (h := (a 1)) (a := ta) (cn := cn) (kd := kd) (nu := nu) (o := (ra 0)) (b := rb) (cn2 := dcN) (kd2 := dkN) (nu2 := dnN) (by exact hkd) (by exact hnu) (by exact hfk.1) (by exact hfk.2)) (cwV 1 C.1.2.2.2.2 gX5_polynomials_X4_become rfl rfl rfl (by decide +kernel) ⟨Nat.le_of_ble_eq_true rfl, Nat.le_of_ble_eq_true rfl⟩) [1, 2, 3, 17, 18, 19] [0, 4, 5, 6, 7, 8, 9, 10, 11, 12, 13, 14, 15, 16, 20] rfl rfl (by decide) (by decide) (by decide) 0 rfl rfl rfl hl.1 _ rfl (Nat.le_of_ble_eq_true rfl) dX5_polynomials_97 ⟨Nat.le_of_ble_eq_true rfl, Nat.le_of_ble_eq_true rfl⟩ ?_
          clear hw
          rintro _ H locs ⟨kd3__10, nu3__11, rfl, hp_12, hp_13⟩ hw
          have hw : gW D A s.heap [oX5 h a tr 0, cQ G (a 0) 4 qf, oX0 (a 2) la cn ul rw, cA G (la 1) 12 ex, cA G (la 2) 4 rt, cA G (la 3) 8 mi, cA G (la 4) 8 si, cA G (la 5) 8 un, cA G (la 6) 8 be, cA G (la 8) 8 ka, cA G (la 9) 8 br, oX1 (a 6) ga rc, oX2 sa sb la1, oX3 (a 5) ra sp2__4 ce2__5 da2__6, cA G (sb 1) zn gg, oX4 (a 1) ta dcN, cA G (ta 1) 4 kd3__10, cA G (ta 2) 12 nu3__11, oX4 (ra 0) rb dcN, cA G (rb 1) 4 dkN, cA G (rb 2) 12 dnN] H locs := hw
          have hp_12 : (∀ j, 0 ≤ j → j < 4 → kd3__10 j = dkN j) ∧ (∀ j, 0 ≤ j → j < 12 → nu3__11 j = dnN j) := hp_12
          have hp_13 : kdOK kd3__10 ∧ nuOK nu3__11 := hp_13
          have hbc := hp_12
          have hbk := hp_13
          have hpp9 := hasP_eq hf2 (fun j h1 h2 => hbc.1 j h1 (by omega)) (fun j h1 h2 => hbc.2 j h1 (by omega))
          refine g_aload_n C hl 3 rfl rfl dX5_polynomials_100 ?_
          refine g_get C hw hin_X5_polynomials_X5 0 rfl rfl 6 (by decide) lk_X5_polynomials_47 rfl dX5_polynomials_101 ?_
          refine g_iconst C dX5_polynomials_104 ?_
          refine g_put C hw [oX5 h a tr 0, cQ G (a 0) 4 qf, oX0 (a 2) la cn ul rw, cA G (la 1) 12 ex, cA G (la 2) 4 rt, cA G (la 3) 8 mi, cA G (la 4) 8 si, cA G (la 5) 8 un, cA G (la 6) 8 be, cA G (la 8) 8 ka, cA G (la 9) 8 br, oX1 (a 6) ga 0, oX2 sa sb la1, oX3 (a 5) ra sp2__4 ce2__5 da2__6, cA G (sb 1) zn gg, oX4 (a 1) ta dcN, cA G (ta 1) 4 kd3__10, cA G (ta 2) 12 nu3__11, oX4 (ra 0) rb dcN, cA G (rb 1) 4 dkN, cA G (rb 2) 12 dnN] hin_X5_polynomials_X1 tyX1 tyX1_ok nmX1 11 rfl rfl 0 (by decide) lk_X5_polynomials_86 rfl rfl rfl rfl (Nat.le_of_ble_eq_true rfl) rfl dX5_polynomials_105 ?_
          clear hw
          intro H locs hw
          refine g_aload_n C hl 3 rfl rfl dX5_polynomials_108 ?_
          refine g_get C hw hin_X5_polynomials_X5 0 rfl rfl 2 (by decide) lk_X5_polynomials_27 rfl dX5_polynomials_109 ?_
          refine g_aload_n C hl 3 rfl rfl dX5_polynomials_112 ?_
          refine g_get C hw hin_X5_polynomials_X5 0 rfl rfl 1 (by decide) lk_X5_polynomials_20 rfl dX5_polynomials_113 ?_
          refine g_callVv C hw (wr := [oX5 h a tr 0, cQ G (a 0) 4 qf, oX1 (a 6) ga 0, oX2 sa sb la1, oX3 (a 5) ra sp2__4 ce2__5 da2__6, cA G (sb 1) zn gg, oX4 (ra 0) rb dcN, cA G (rb 1) 4 dkN, cA G (rb 2) 12 dnN]) (As := [.ref ((a 1))]) (rest := []) (m_X0_lay l D G (h := (a 2)) (a := la) (cn := cn) (ul := ul) (rw := rw) (ex := ex) (rt := rt) (mi := mi) (si := si) (un := un) (be := be) (ka := ka) (br := br) (o := (a 1)) (b := ta) (ct := dcN) (kd := kd3__10) (nu := nu3__11) (by exact hbk.1) (by exact hbk.2) (by omega)) (cwV 1 C.1.2.2.2.2 gX5_polynomials_X0_lay rfl rfl rfl (by decide +kernel) ⟨Nat.le_of_ble_eq_true rfl, Nat.le_of_ble_eq_true rfl⟩) [2, 3, 4, 5, 6, 7, 8, 9, 10, 15, 16, 17] [0, 1, 11, 12, 13, 14, 18, 19, 20] rfl rfl (by decide) (by decide) (by decide) 0 rfl rfl rfl hl.1 _ rfl (Nat.le_of_ble_eq_true rfl) dX5_polynomials_116 ⟨Nat.le_of_ble_eq_true rfl, Nat.le_of_ble_eq_true rfl⟩ ?_
          clear hw
          rintro _ H locs ⟨ex2__14, rt2__15, mi2__16, si2__17, un2__18, be2__19, ka2__20, br2__21, rfl, hp_22, hp_23, hp_24, hp_25⟩ hw
          have hw : gW D A s.heap [oX5 h a tr 0, cQ G (a 0) 4 qf, oX1 (a 6) ga 0, oX2 sa sb la1, oX3 (a 5) ra sp2__4 ce2__5 da2__6, cA G (sb 1) zn gg, oX4 (ra 0) rb dcN, cA G (rb 1) 4 dkN, cA G (rb 2) 12 dnN, oX0 (a 2) la dcN ((ALb (exT dcN kd3__10 nu3__11) dcN.toNat).length : Int) rw, cA G (la 1) 12 ex2__14, cA G (la 2) 4 rt2__15, cA G (la 3) 8 mi2__16, cA G (la 4) 8 si2__17, cA G (la 5) 8 un2__18, cA G (la 6) 8 be2__19, cA G (la 8) 8 ka2__20, cA G (la 9) 8 br2__21, oX4 (a 1) ta dcN, cA G (ta 1) 4 kd3__10, cA G (ta 2) 12 nu3__11] H locs := hw
          have hp_22 : LnX (exT dcN kd3__10 nu3__11) dcN ex2__14 := hp_22
          have hp_23 : LnT (exT dcN kd3__10 nu3__11) dcN rt2__15 := hp_23
          have hp_24 : LnZ (exT dcN kd3__10 nu3__11) dcN mi2__16 si2__17 un2__18 be2__19 := hp_24
          have hp_25 : hasB ka2__20 br2__21 (ALb (exT dcN kd3__10 nu3__11) dcN.toNat) := hp_25
          have q1 := hp_22
          have q2 := hp_23
          have q3 := hp_24
          have q4 := hp_25
          refine g_aload_n C hl 3 rfl rfl dX5_polynomials_119 ?_
          refine g_get C hw hin_X5_polynomials_X5 0 rfl rfl 1 (by decide) lk_X5_polynomials_20 rfl dX5_polynomials_120 ?_
          refine g_get C hw hin_X5_polynomials_X4 18 rfl rfl 0 (by decide) lk_X5_polynomials_92 rfl dX5_polynomials_123 ?_
          exact g_iret C hr (ws' := [oX5 h a tr 0, oX4 (a 1) ta dcN, cA G (ta 1) 4 kd3__10, cA G (ta 2) 12 nu3__11, cQ G (a 0) 4 qf, oX2 sa sb la1, cA G (sb 1) zn gg, oX0 (a 2) la dcN ((ALb (exT dcN kd3__10 nu3__11) dcN.toNat).length : Int) rw, cA G (la 1) 12 ex2__14, cA G (la 2) 4 rt2__15, cA G (la 3) 8 mi2__16, cA G (la 4) 8 si2__17, cA G (la 5) 8 un2__18, cA G (la 6) 8 be2__19, cA G (la 8) 8 ka2__20, cA G (la 9) 8 br2__21, oX3 (a 5) ra sp2__4 ce2__5 da2__6, oX4 (ra 0) rb dcN, cA G (rb 1) 4 dkN, cA G (rb 2) 12 dnN, oX1 (a 6) ga 0]) hw [0, 18, 19, 20, 1, 3, 5, 9, 10, 11, 12, 13, 14, 15, 16, 17, 4, 6, 7, 8, 2] (by decide) rfl ⟨dcN, kd3__10, nu3__11, dcN, ((ALb (exT dcN kd3__10 nu3__11) dcN.toNat).length : Int), ex2__14, rt2__15, mi2__16, si2__17, un2__18, be2__19, ka2__20, br2__21, sp2__4, ce2__5, da2__6, dcN, dkN, dnN, 0, (congrArg iI (by rw [wr9]; omega)), (by rw [wf9]), (by first | exact ⟨fun q => absurd q wo9, fun _ => ⟨rfl, rfl, rfl, rfl⟩⟩ | exact ⟨fun _ => ⟨hf1, hpp9, rfl⟩, fun q => absurd wo9 q⟩), (by first | exact ⟨hkd, hnu, hdk, hdn⟩ | exact ⟨hkd, hnu, hfk.1, hfk.2⟩ | exact ⟨hbk.1, hbk.2, hfk.1, hfk.2⟩), (by exact ⟨by omega, rfl⟩), (by first | exact ⟨hX, hT, hZ, hB, hul⟩ | exact ⟨q1, q2, q3, q4, rfl⟩)⟩ dX5_polynomials_126
        · skip
          have w9 : P_st kk lv = 0 := by unfold P_st; (repeat' split) <;> omega
          obtain ⟨wr9, wf9, wo9⟩ := R_pol_3 (sz := sz) (ln := ln) (ce := ce) (k := kk) (lane := lv) (i := ii) (n := nn) w9 b1 (by assumption)
          refine g_bipush C dX5_polynomials_80 (by decide) ?_
          refine g_iload C hl 0 rfl dX5_polynomials_82 ?_
          refine g_isub C dX5_polynomials_84 ?_
          exact g_iret C hr (ws' := [oX5 h a tr 0, oX4 (a 1) ta cn, cA G (ta 1) 4 kd, cA G (ta 2) 12 nu, cQ G (a 0) 4 qf, oX2 sa sb la1, cA G (sb 1) zn gg, oX0 (a 2) la cn ul rw, cA G (la 1) 12 ex, cA G (la 2) 4 rt, cA G (la 3) 8 mi, cA G (la 4) 8 si, cA G (la 5) 8 un, cA G (la 6) 8 be, cA G (la 8) 8 ka, cA G (la 9) 8 br, oX3 (a 5) ra sp2__4 ce2__5 da2__6, oX4 (ra 0) rb dcN, cA G (rb 1) 4 dkN, cA G (rb 2) 12 dnN, oX1 (a 6) ga rc]) hw [0, 1, 2, 3, 4, 15, 20, 5, 6, 7, 8, 9, 10, 11, 12, 13, 16, 17, 18, 19, 14] (by decide) rfl ⟨cn, kd, nu, cn, ul, ex, rt, mi, si, un, be, ka, br, sp2__4, ce2__5, da2__6, dcN, dkN, dnN, rc, (congrArg iI (by rw [wr9]; try omega)), (by rw [wf9]), (by first | exact ⟨fun q => absurd q wo9, fun _ => ⟨rfl, rfl, rfl, rfl⟩⟩ | exact ⟨fun _ => ⟨hf1, hpp9, rfl⟩, fun q => absurd wo9 q⟩), (by first | exact ⟨hkd, hnu, hdk, hdn⟩ | exact ⟨hkd, hnu, hfk.1, hfk.2⟩ | exact ⟨hbk.1, hbk.2, hfk.1, hfk.2⟩), (by exact ⟨by omega, rfl⟩), (by first | exact ⟨hX, hT, hZ, hB, hul⟩ | exact ⟨q1, q2, q3, q4, rfl⟩)⟩ dX5_polynomials_85
      · skip
        have w9 : P_st kk lv = 0 := by unfold P_st; (repeat' split) <;> omega
        obtain ⟨wr9, wf9, wo9⟩ := R_pol_2 (sz := sz) (ln := ln) (ce := ce) (k := kk) (lane := lv) (i := ii) (n := nn) w9 (by omega)
        refine g_aload_n C hl 2 rfl rfl dX5_polynomials_49 ?_
        refine g_iload C hl 0 rfl dX5_polynomials_50 ?_
        refine g_callVi C hw (wr := [oX4 (a 1) ta cn, cA G (ta 1) 4 kd, cA G (ta 2) 12 nu, cQ G (a 0) 4 qf, oX0 (a 2) la cn ul rw, cA G (la 1) 12 ex, cA G (la 2) 4 rt, cA G (la 3) 8 mi, cA G (la 4) 8 si, cA G (la 5) 8 un, cA G (la 6) 8 be, cA G (la 8) 8 ka, cA G (la 9) 8 br, oX3 (a 5) ra sp co da, oX4 (ra 0) rb dc, cA G (rb 1) 4 dk, cA G (rb 2) 12 dn, oX1 (a 6) ga rc, oX2 sa sb la1, cA G (sb 1) zn gg]) (As := [.int (iI ((barC sz ln kk lv ii nn)))]) (rest := []) (m_X5_failed l D G (h := h) (a := a) (tr := tr) (lf := 0) (fv := (barC sz ln kk lv ii nn)) ) (cwV 1 C.1.2.2.2.2 gX5_polynomials_X5_failed rfl rfl rfl (by decide +kernel) ⟨Nat.le_of_ble_eq_true rfl, Nat.le_of_ble_eq_true rfl⟩) [0] [1, 2, 3, 4, 5, 6, 7, 8, 9, 10, 11, 12, 13, 14, 15, 16, 17, 18, 19, 20] rfl rfl (by decide) (by decide) (by decide) 0 rfl rfl rfl hl.1 _ rfl (Nat.le_of_ble_eq_true rfl) dX5_polynomials_52 ⟨Nat.le_of_ble_eq_true rfl, Nat.le_of_ble_eq_true rfl⟩ ?_
        clear hw
        rintro _ _ H locs ⟨rfl, rfl⟩ hw
        have hw : gW D A s.heap [oX4 (a 1) ta cn, cA G (ta 1) 4 kd, cA G (ta 2) 12 nu, cQ G (a 0) 4 qf, oX0 (a 2) la cn ul rw, cA G (la 1) 12 ex, cA G (la 2) 4 rt, cA G (la 3) 8 mi, cA G (la 4) 8 si, cA G (la 5) 8 un, cA G (la 6) 8 be, cA G (la 8) 8 ka, cA G (la 9) 8 br, oX3 (a 5) ra sp co da, oX4 (ra 0) rb dc, cA G (rb 1) 4 dk, cA G (rb 2) 12 dn, oX1 (a 6) ga rc, oX2 sa sb la1, cA G (sb 1) zn gg, oX5 h a tr (barC sz ln kk lv ii nn)] H locs := hw
        exact g_iret C hr (ws' := [oX5 h a tr (barC sz ln kk lv ii nn), oX4 (a 1) ta cn, cA G (ta 1) 4 kd, cA G (ta 2) 12 nu, cQ G (a 0) 4 qf, oX2 sa sb la1, cA G (sb 1) zn gg, oX0 (a 2) la cn ul rw, cA G (la 1) 12 ex, cA G (la 2) 4 rt, cA G (la 3) 8 mi, cA G (la 4) 8 si, cA G (la 5) 8 un, cA G (la 6) 8 be, cA G (la 8) 8 ka, cA G (la 9) 8 br, oX3 (a 5) ra sp co da, oX4 (ra 0) rb dc, cA G (rb 1) 4 dk, cA G (rb 2) 12 dn, oX1 (a 6) ga rc]) hw [20, 0, 1, 2, 3, 18, 19, 4, 5, 6, 7, 8, 9, 10, 11, 12, 13, 14, 15, 16, 17] (by decide) rfl ⟨cn, kd, nu, cn, ul, ex, rt, mi, si, un, be, ka, br, sp, co, da, dc, dk, dn, rc, (congrArg iI (by rw [wr9]; try omega)), (by rw [wf9]), (by first | exact ⟨fun q => absurd q wo9, fun _ => ⟨rfl, rfl, rfl, rfl⟩⟩ | exact ⟨fun _ => ⟨hf1, hpp9, rfl⟩, fun q => absurd wo9 q⟩), (by first | exact ⟨hkd, hnu, hdk, hdn⟩ | exact ⟨hkd, hnu, hfk.1, hfk.2⟩ | exact ⟨hbk.1, hbk.2, hfk.1, hfk.2⟩), (by exact ⟨by omega, rfl⟩), (by first | exact ⟨hX, hT, hZ, hB, hul⟩ | exact ⟨q1, q2, q3, q4, rfl⟩)⟩ dX5_polynomials_55
    · skip
      have w9 : P_st kk lv = -2 := by unfold P_st; (repeat' split) <;> omega
      obtain ⟨wr9, wf9, wo9⟩ := R_pol_1 (sz := sz) (ln := ln) (ce := ce) (k := kk) (lane := lv) (i := ii) (n := nn) (by rw [w9]; decide)
      rw [w9] at wr9
      refine g_bipush C dX5_polynomials_22 (by decide) ?_
      exact g_iret C hr (ws' := [oX5 h a tr 0, oX4 (a 1) ta cn, cA G (ta 1) 4 kd, cA G (ta 2) 12 nu, cQ G (a 0) 4 qf, oX2 sa sb la1, cA G (sb 1) zn gg, oX0 (a 2) la cn ul rw, cA G (la 1) 12 ex, cA G (la 2) 4 rt, cA G (la 3) 8 mi, cA G (la 4) 8 si, cA G (la 5) 8 un, cA G (la 6) 8 be, cA G (la 8) 8 ka, cA G (la 9) 8 br, oX3 (a 5) ra sp co da, oX4 (ra 0) rb dc, cA G (rb 1) 4 dk, cA G (rb 2) 12 dn, oX1 (a 6) ga rc]) hw [0, 1, 2, 3, 4, 5, 6, 7, 8, 9, 10, 11, 12, 13, 14, 15, 16, 17, 18, 19, 20] (by decide) rfl ⟨cn, kd, nu, cn, ul, ex, rt, mi, si, un, be, ka, br, sp, co, da, dc, dk, dn, rc, (congrArg iI (by rw [wr9]; try omega)), (by rw [wf9]), (by first | exact ⟨fun q => absurd q wo9, fun _ => ⟨rfl, rfl, rfl, rfl⟩⟩ | exact ⟨fun _ => ⟨hf1, hpp9, rfl⟩, fun q => absurd wo9 q⟩), (by first | exact ⟨hkd, hnu, hdk, hdn⟩ | exact ⟨hkd, hnu, hfk.1, hfk.2⟩ | exact ⟨hbk.1, hbk.2, hfk.1, hfk.2⟩), (by exact ⟨by omega, rfl⟩), (by first | exact ⟨hX, hT, hZ, hB, hul⟩ | exact ⟨q1, q2, q3, q4, rfl⟩)⟩ dX5_polynomials_24
  · skip
    have w9 : P_st kk lv = -1 := by unfold P_st; (repeat' split) <;> omega
    obtain ⟨wr9, wf9, wo9⟩ := R_pol_1 (sz := sz) (ln := ln) (ce := ce) (k := kk) (lane := lv) (i := ii) (n := nn) (by rw [w9]; decide)
    rw [w9] at wr9
    refine g_iconst C dX5_polynomials_12 ?_
    exact g_iret C hr (ws' := [oX5 h a tr 0, oX4 (a 1) ta cn, cA G (ta 1) 4 kd, cA G (ta 2) 12 nu, cQ G (a 0) 4 qf, oX2 sa sb la1, cA G (sb 1) zn gg, oX0 (a 2) la cn ul rw, cA G (la 1) 12 ex, cA G (la 2) 4 rt, cA G (la 3) 8 mi, cA G (la 4) 8 si, cA G (la 5) 8 un, cA G (la 6) 8 be, cA G (la 8) 8 ka, cA G (la 9) 8 br, oX3 (a 5) ra sp co da, oX4 (ra 0) rb dc, cA G (rb 1) 4 dk, cA G (rb 2) 12 dn, oX1 (a 6) ga rc]) hw [0, 1, 2, 3, 4, 5, 6, 7, 8, 9, 10, 11, 12, 13, 14, 15, 16, 17, 18, 19, 20] (by decide) rfl ⟨cn, kd, nu, cn, ul, ex, rt, mi, si, un, be, ka, br, sp, co, da, dc, dk, dn, rc, (congrArg iI (by rw [wr9]; try omega)), (by rw [wf9]), (by first | exact ⟨fun q => absurd q wo9, fun _ => ⟨rfl, rfl, rfl, rfl⟩⟩ | exact ⟨fun _ => ⟨hf1, hpp9, rfl⟩, fun q => absurd wo9 q⟩), (by first | exact ⟨hkd, hnu, hdk, hdn⟩ | exact ⟨hkd, hnu, hfk.1, hfk.2⟩ | exact ⟨hbk.1, hbk.2, hfk.1, hfk.2⟩), (by exact ⟨by omega, rfl⟩), (by first | exact ⟨hX, hT, hZ, hB, hul⟩ | exact ⟨q1, q2, q3, q4, rfl⟩)⟩ dX5_polynomials_13
