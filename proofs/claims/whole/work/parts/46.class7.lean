set_option maxRecDepth 20000 in
theorem hin_X5_ofPolynomial_X5 : ∀ w ∈ u_ws RX5 TX5 9, w ∈ wsX5_ofPolynomial := by
  intro w h
  exact List.mem_cons_of_mem _ (List.mem_append_left _ (List.mem_append_left _ (List.mem_append_right _ (h))))
set_option maxRecDepth 20000 in
theorem lk_X5_ofPolynomial_20 : Cond.fieldLink RX5 20 (TX5 1).1 (TX5 1).2.1 (TX5 1).2.2.1 ∈ wsX5_ofPolynomial := List.mem_cons_of_mem _ (List.mem_append_left _ (List.mem_append_left _ (List.mem_append_left _ (List.mem_of_getElem? (i := 0) rfl))))
set_option maxRecDepth 20000 in
theorem hin_X5_ofPolynomial_X4 : ∀ w ∈ u_ws RX4 TX4 3, w ∈ wsX5_ofPolynomial := by
  intro w h
  exact List.mem_cons_of_mem _ (List.mem_append_left _ (List.mem_append_right _ (h)))
set_option maxRecDepth 20000 in
theorem lk_X5_ofPolynomial_102 : Cond.fieldLink RX5 102 (TX4 2).1 (TX4 2).2.1 (TX4 2).2.2.1 ∈ wsX5_ofPolynomial := List.mem_cons_of_mem _ (List.mem_append_left _ (List.mem_append_left _ (List.mem_append_left _ (List.mem_of_getElem? (i := 4) rfl))))
set_option maxRecDepth 20000 in
theorem lk_X5_ofPolynomial_27 : Cond.fieldLink RX5 27 (TX5 2).1 (TX5 2).2.1 (TX5 2).2.2.1 ∈ wsX5_ofPolynomial := List.mem_cons_of_mem _ (List.mem_append_left _ (List.mem_append_left _ (List.mem_append_left _ (List.mem_of_getElem? (i := 2) rfl))))
set_option maxRecDepth 20000 in
theorem hin_X5_ofPolynomial_X0 : ∀ w ∈ u_ws RX0 TX0 14, w ∈ wsX5_ofPolynomial := by
  intro w h
  exact List.mem_cons_of_mem _ (List.mem_append_right _ (h))
set_option maxRecDepth 20000 in
theorem lk_X5_ofPolynomial_99 : Cond.fieldLink RX5 99 (TX0 2).1 (TX0 2).2.1 (TX0 2).2.2.1 ∈ wsX5_ofPolynomial := List.mem_cons_of_mem _ (List.mem_append_left _ (List.mem_append_left _ (List.mem_append_left _ (List.mem_of_getElem? (i := 3) rfl))))
set_option maxRecDepth 20000 in
theorem lk_X5_ofPolynomial_96 : Cond.fieldLink RX5 96 (TX4 1).1 (TX4 1).2.1 (TX4 1).2.2.1 ∈ wsX5_ofPolynomial := List.mem_cons_of_mem _ (List.mem_append_left _ (List.mem_append_left _ (List.mem_append_left _ (List.mem_of_getElem? (i := 1) rfl))))
set_option maxRecDepth 100000 in
set_option maxHeartbeats 8000000 in
theorem m_X5_ofPolynomial (l : Launch) (D : va_G) (G : gT) (h : Nat) (a : Nat → Nat) (tr : Int) (lf : Int) (ta : Nat → Nat) (cn : Int) (kd : Int → Int) (nu : Int → Int) (la : Nat → Nat) (ul : Int) (rw : Int) (rt : Int → Int) (pp : Int) (wh : Int) (hkd : kdOK kd) (hnu : nuOK nu) (hcn : 0 ≤ cn ∧ cn ≤ 4) (hT : LnT (exT cn kd nu) cn rt) (hp : -2147483648 ≤ pp ∧ pp ≤ 2147483647) (hw1 : -2147483648 ≤ wh ∧ wh ≤ 2147483647) : gMi l yX5_ofPolynomial wsX5_ofPolynomial ({ frames := 2, cells := 0, slots := 0, locals := 42 }) D G [.ref h, .int (iI pp), .int (iI wh)] [oX5 h a tr lf, oX4 (a 1) ta cn, cA G (ta 1) 4 kd, cA G (ta 2) 12 nu, oX0 (a 2) la cn ul rw, cA G (la 2) 4 rt] 0 0 (fun (r : Int32) (w : va_W) => r = (iI (R_ofp cn kd nu pp wh)) ∧ w = [oX5 h a tr lf, oX4 (a 1) ta cn, cA G (ta 1) 4 kd, cA G (ta 2) 12 nu, oX0 (a 2) la cn ul rw, cA G (la 2) 4 rt]) := by
  refine g_start_i (cc := cX5_ofPolynomial) (nL := 3) (own := RX5) (ret := some .int) (by decide +kernel) rfl rfl (Nat.le_of_ble_eq_true rfl) ?_
  intro p e s m below meth c A ls C hr hnm hw hl
  have hl : lv_has ls 3 [(0, .ref h), (1, .int (iI pp)), (2, .int (iI wh))] := hl
  have k0 := hkd pp
  have n0 := hnu (3 * pp + (wh - 10))
  have b0 := exT_b (n := cn) (kd := kd) hnu pp (wh - 20)
  have hnr := nR_r (exT cn kd nu) pp
  refine g_aload_n C hl 0 rfl rfl dX5_ofPolynomial_0 ?_
  refine g_iload_n C hl 1 rfl rfl dX5_ofPolynomial_1 ?_
  refine g_callVi C hw (wr := [cA G (ta 1) 4 kd, cA G (ta 2) 12 nu, oX0 (a 2) la cn ul rw, cA G (la 2) 4 rt]) (As := [.int (iI pp)]) (rest := []) (m_X5_isPolynomial l D G (h := h) (a := a) (tr := tr) (lf := lf) (ta := ta) (cn := cn) (pp := pp) (by first | assumption | omega) (by first | assumption | omega)) (cwV 1 C.1.2.2.2.2 gX5_ofPolynomial_X5_isPolynomial rfl rfl rfl (by decide +kernel) ⟨Nat.le_of_ble_eq_true rfl, Nat.le_of_ble_eq_true rfl⟩) [0, 1] [2, 3, 4, 5] rfl rfl (by decide) (by decide) (by decide) 0 rfl rfl rfl hl.1 _ rfl (Nat.le_of_ble_eq_true rfl) dX5_ofPolynomial_2 ⟨Nat.le_of_ble_eq_true rfl, Nat.le_of_ble_eq_true rfl⟩ ?_
  clear hw
  rintro _ _ H locs ⟨rfl, rfl⟩ hw
  have hw : gW D A s.heap [cA G (ta 1) 4 kd, cA G (ta 2) 12 nu, oX0 (a 2) la cn ul rw, cA G (la 2) 4 rt, oX5 h a tr lf, oX4 (a 1) ta cn] H locs := hw
  refine g_ifb_ne C 10 dX5_ofPolynomial_5 (by decide) (fun c_1 => ?_) (fun c_1 => ?_)
  · skip
    refine g_iload_n C hl 2 rfl rfl dX5_ofPolynomial_10 ?_
    refine g_if_ne C 24 dX5_ofPolynomial_11 (by decide) (by omega) (fun c_2 => ?_) (fun c_2 => ?_)
    · skip
      refine g_iload_n C hl 2 rfl rfl dX5_ofPolynomial_24 ?_
      refine g_iconst C dX5_ofPolynomial_25 ?_
      refine g_icmp_ne C 39 dX5_ofPolynomial_26 (by decide) (by omega) (by omega) (fun c_3 => ?_) (fun c_3 => ?_)
      · skip
        refine g_iload_n C hl 2 rfl rfl dX5_ofPolynomial_39 ?_
        refine g_bipush C dX5_ofPolynomial_40 (by decide) ?_
        refine g_icmp_lt C 71 dX5_ofPolynomial_42 (by decide) (by omega) (by omega) (fun c_4 => ?_) (fun c_4 => ?_)
        · skip
          refine g_iload_n C hl 2 rfl rfl dX5_ofPolynomial_71 ?_
          refine g_bipush C dX5_ofPolynomial_72 (by decide) ?_
          refine g_icmp_lt C 99 dX5_ofPolynomial_74 (by decide) (by omega) (by omega) (fun c_5 => ?_) (fun c_5 => ?_)
          · skip
            refine g_bipush C dX5_ofPolynomial_99 (by decide) ?_
            exact g_iret C hr (ws' := [oX5 h a tr lf, oX4 (a 1) ta cn, cA G (ta 1) 4 kd, cA G (ta 2) 12 nu, oX0 (a 2) la cn ul rw, cA G (la 2) 4 rt]) hw [4, 5, 0, 1, 2, 3] (by decide) rfl ⟨(congrArg iI (by unfold R_ofp; (repeat' split) <;> omega)), rfl⟩ dX5_ofPolynomial_101
          · skip
            refine g_iload_n C hl 2 rfl rfl dX5_ofPolynomial_77 ?_
            refine g_bipush C dX5_ofPolynomial_78 (by decide) ?_
            refine g_icmp_ge C 99 dX5_ofPolynomial_80 (by decide) (by omega) (by omega) (fun c_6 => ?_) (fun c_6 => ?_)
            · skip
              refine g_bipush C dX5_ofPolynomial_99 (by decide) ?_
              exact g_iret C hr (ws' := [oX5 h a tr lf, oX4 (a 1) ta cn, cA G (ta 1) 4 kd, cA G (ta 2) 12 nu, oX0 (a 2) la cn ul rw, cA G (la 2) 4 rt]) hw [4, 5, 0, 1, 2, 3] (by decide) rfl ⟨(congrArg iI (by unfold R_ofp; (repeat' split) <;> omega)), rfl⟩ dX5_ofPolynomial_101
            · skip
              refine g_aload_n C hl 0 rfl rfl dX5_ofPolynomial_83 ?_
              refine g_get C hw hin_X5_ofPolynomial_X5 4 rfl rfl 1 (by decide) lk_X5_ofPolynomial_20 rfl dX5_ofPolynomial_84 ?_
              refine g_iload_n C hl 1 rfl rfl dX5_ofPolynomial_87 ?_
              refine g_iload_n C hl 2 rfl rfl dX5_ofPolynomial_88 ?_
              refine g_bipush C dX5_ofPolynomial_89 (by decide) ?_
              refine g_isub C dX5_ofPolynomial_91 ?_
              refine g_callVi C hw (wr := [oX0 (a 2) la cn ul rw, cA G (la 2) 4 rt, oX5 h a tr lf]) (As := [.int (iI pp), .int (iI (wh - 20))]) (rest := []) (m_X4_exact l D G (h := (a 1)) (a := ta) (cn := cn) (kd := kd) (nu := nu) (pp := pp) (kk := (wh - 20)) (by first | assumption | omega) (by first | assumption | omega) (by first | assumption | omega) (by first | assumption | omega)) (cwV 2 C.1.2.2.2.2 gX5_ofPolynomial_X4_exact rfl rfl rfl (by decide +kernel) ⟨Nat.le_of_ble_eq_true rfl, Nat.le_of_ble_eq_true rfl⟩) [5, 0, 1] [2, 3, 4] rfl rfl (by decide) (by decide) (by decide) 0 rfl rfl rfl hl.1 _ rfl (Nat.le_of_ble_eq_true rfl) dX5_ofPolynomial_92 ⟨Nat.le_of_ble_eq_true rfl, Nat.le_of_ble_eq_true rfl⟩ ?_
              clear hw
              rintro _ _ H locs ⟨rfl, rfl⟩ hw
              have hw : gW D A s.heap [oX0 (a 2) la cn ul rw, cA G (la 2) 4 rt, oX5 h a tr lf, oX4 (a 1) ta cn, cA G (ta 1) 4 kd, cA G (ta 2) 12 nu] H locs := hw
              refine g_nI (show ((exF kd nu pp (wh - 20)) : Int) = (exT cn kd nu) pp (wh - 20) by exact (exT_in (by omega)).symm) ?_
              refine g_bipush C dX5_ofPolynomial_95 (by decide) ?_
              refine g_iadd C dX5_ofPolynomial_97 ?_
              exact g_iret C hr (ws' := [oX5 h a tr lf, oX4 (a 1) ta cn, cA G (ta 1) 4 kd, cA G (ta 2) 12 nu, oX0 (a 2) la cn ul rw, cA G (la 2) 4 rt]) hw [2, 3, 4, 5, 0, 1] (by decide) rfl ⟨(congrArg iI (by unfold R_ofp; (repeat' split) <;> omega)), rfl⟩ dX5_ofPolynomial_98
        · skip
          refine g_iload_n C hl 2 rfl rfl dX5_ofPolynomial_45 ?_
          refine g_bipush C dX5_ofPolynomial_46 (by decide) ?_
          refine g_icmp_ge C 71 dX5_ofPolynomial_48 (by decide) (by omega) (by omega) (fun c_7 => ?_) (fun c_7 => ?_)
          · skip
            refine g_iload_n C hl 2 rfl rfl dX5_ofPolynomial_71 ?_
            refine g_bipush C dX5_ofPolynomial_72 (by decide) ?_
            refine g_icmp_lt C 99 dX5_ofPolynomial_74 (by decide) (by omega) (by omega) (fun c_8 => ?_) (fun c_8 => ?_)
            · skip
              refine g_bipush C dX5_ofPolynomial_99 (by decide) ?_
              exact g_iret C hr (ws' := [oX5 h a tr lf, oX4 (a 1) ta cn, cA G (ta 1) 4 kd, cA G (ta 2) 12 nu, oX0 (a 2) la cn ul rw, cA G (la 2) 4 rt]) hw [4, 5, 0, 1, 2, 3] (by decide) rfl ⟨(congrArg iI (by unfold R_ofp; (repeat' split) <;> omega)), rfl⟩ dX5_ofPolynomial_101
            · skip
              refine g_iload_n C hl 2 rfl rfl dX5_ofPolynomial_77 ?_
              refine g_bipush C dX5_ofPolynomial_78 (by decide) ?_
              refine g_icmp_ge C 99 dX5_ofPolynomial_80 (by decide) (by omega) (by omega) (fun c_9 => ?_) (fun c_9 => ?_)
              · skip
                refine g_bipush C dX5_ofPolynomial_99 (by decide) ?_
                exact g_iret C hr (ws' := [oX5 h a tr lf, oX4 (a 1) ta cn, cA G (ta 1) 4 kd, cA G (ta 2) 12 nu, oX0 (a 2) la cn ul rw, cA G (la 2) 4 rt]) hw [4, 5, 0, 1, 2, 3] (by decide) rfl ⟨(congrArg iI (by unfold R_ofp; (repeat' split) <;> omega)), rfl⟩ dX5_ofPolynomial_101
              · skip
                refine g_aload_n C hl 0 rfl rfl dX5_ofPolynomial_83 ?_
                refine g_get C hw hin_X5_ofPolynomial_X5 4 rfl rfl 1 (by decide) lk_X5_ofPolynomial_20 rfl dX5_ofPolynomial_84 ?_
                refine g_iload_n C hl 1 rfl rfl dX5_ofPolynomial_87 ?_
                refine g_iload_n C hl 2 rfl rfl dX5_ofPolynomial_88 ?_
                refine g_bipush C dX5_ofPolynomial_89 (by decide) ?_
                refine g_isub C dX5_ofPolynomial_91 ?_
                refine g_callVi C hw (wr := [oX0 (a 2) la cn ul rw, cA G (la 2) 4 rt, oX5 h a tr lf]) (As := [.int (iI pp), .int (iI (wh - 20))]) (rest := []) (m_X4_exact l D G (h := (a 1)) (a := ta) (cn := cn) (kd := kd) (nu := nu) (pp := pp) (kk := (wh - 20)) (by first | assumption | omega) (by first | assumption | omega) (by first | assumption | omega) (by first | assumption | omega)) (cwV 2 C.1.2.2.2.2 gX5_ofPolynomial_X4_exact rfl rfl rfl (by decide +kernel) ⟨Nat.le_of_ble_eq_true rfl, Nat.le_of_ble_eq_true rfl⟩) [5, 0, 1] [2, 3, 4] rfl rfl (by decide) (by decide) (by decide) 0 rfl rfl rfl hl.1 _ rfl (Nat.le_of_ble_eq_true rfl) dX5_ofPolynomial_92 ⟨Nat.le_of_ble_eq_true rfl, Nat.le_of_ble_eq_true rfl⟩ ?_
                clear hw
                rintro _ _ H locs ⟨rfl, rfl⟩ hw
                have hw : gW D A s.heap [oX0 (a 2) la cn ul rw, cA G (la 2) 4 rt, oX5 h a tr lf, oX4 (a 1) ta cn, cA G (ta 1) 4 kd, cA G (ta 2) 12 nu] H locs := hw
                refine g_nI (show ((exF kd nu pp (wh - 20)) : Int) = (exT cn kd nu) pp (wh - 20) by exact (exT_in (by omega)).symm) ?_
                refine g_bipush C dX5_ofPolynomial_95 (by decide) ?_
                refine g_iadd C dX5_ofPolynomial_97 ?_
                exact g_iret C hr (ws' := [oX5 h a tr lf, oX4 (a 1) ta cn, cA G (ta 1) 4 kd, cA G (ta 2) 12 nu, oX0 (a 2) la cn ul rw, cA G (la 2) 4 rt]) hw [2, 3, 4, 5, 0, 1] (by decide) rfl ⟨(congrArg iI (by unfold R_ofp; (repeat' split) <;> omega)), rfl⟩ dX5_ofPolynomial_98
          · skip
            refine g_aload_n C hl 0 rfl rfl dX5_ofPolynomial_51 ?_
            refine g_get C hw hin_X5_ofPolynomial_X5 4 rfl rfl 1 (by decide) lk_X5_ofPolynomial_20 rfl dX5_ofPolynomial_52 ?_
            refine g_get C hw hin_X5_ofPolynomial_X4 5 rfl rfl 2 (by decide) lk_X5_ofPolynomial_102 rfl dX5_ofPolynomial_55 ?_
            refine g_iload_n C hl 1 rfl rfl dX5_ofPolynomial_58 ?_
            refine g_iconst C dX5_ofPolynomial_59 ?_
            refine g_imul C dX5_ofPolynomial_60 ?_
            refine g_iload_n C hl 2 rfl rfl dX5_ofPolynomial_61 ?_
            refine g_iadd C dX5_ofPolynomial_62 ?_
            refine g_bipush C dX5_ofPolynomial_63 (by decide) ?_
            refine g_isub C dX5_ofPolynomial_65 ?_
            refine g_nI (show (((pp * 3) + wh) - 10 : Int) = 3 * pp + (wh - 10) by omega) ?_
            refine g_iald C hw 1 rfl (by omega) (Nat.le_of_ble_eq_true rfl) dX5_ofPolynomial_66 ?_
            refine g_bipush C dX5_ofPolynomial_67 (by decide) ?_
            refine g_iadd C dX5_ofPolynomial_69 ?_
            exact g_iret C hr (ws' := [oX5 h a tr lf, oX4 (a 1) ta cn, cA G (ta 1) 4 kd, cA G (ta 2) 12 nu, oX0 (a 2) la cn ul rw, cA G (la 2) 4 rt]) hw [4, 5, 0, 1, 2, 3] (by decide) rfl ⟨(congrArg iI (by unfold R_ofp; (repeat' split) <;> omega)), rfl⟩ dX5_ofPolynomial_70
      · skip
        refine g_aload_n C hl 0 rfl rfl dX5_ofPolynomial_29 ?_
        refine g_get C hw hin_X5_ofPolynomial_X5 4 rfl rfl 2 (by decide) lk_X5_ofPolynomial_27 rfl dX5_ofPolynomial_30 ?_
        refine g_get C hw hin_X5_ofPolynomial_X0 2 rfl rfl 2 (by decide) lk_X5_ofPolynomial_99 rfl dX5_ofPolynomial_33 ?_
        refine g_iload_n C hl 1 rfl rfl dX5_ofPolynomial_36 ?_
        refine g_iald C hw 3 rfl (by omega) (Nat.le_of_ble_eq_true rfl) dX5_ofPolynomial_37 ?_
        exact g_iret C hr (ws' := [oX5 h a tr lf, oX4 (a 1) ta cn, cA G (ta 1) 4 kd, cA G (ta 2) 12 nu, oX0 (a 2) la cn ul rw, cA G (la 2) 4 rt]) hw [4, 5, 0, 1, 2, 3] (by decide) rfl ⟨(congrArg iI (by unfold R_ofp; rw [if_neg (by omega), if_neg (by omega), if_pos (by omega)]; exact hT pp (by omega) (by omega))), rfl⟩ dX5_ofPolynomial_38
    · skip
      refine g_aload_n C hl 0 rfl rfl dX5_ofPolynomial_14 ?_
      refine g_get C hw hin_X5_ofPolynomial_X5 4 rfl rfl 1 (by decide) lk_X5_ofPolynomial_20 rfl dX5_ofPolynomial_15 ?_
      refine g_get C hw hin_X5_ofPolynomial_X4 5 rfl rfl 1 (by decide) lk_X5_ofPolynomial_96 rfl dX5_ofPolynomial_18 ?_
      refine g_iload_n C hl 1 rfl rfl dX5_ofPolynomial_21 ?_
      refine g_iald C hw 0 rfl (by omega) (Nat.le_of_ble_eq_true rfl) dX5_ofPolynomial_22 ?_
      exact g_iret C hr (ws' := [oX5 h a tr lf, oX4 (a 1) ta cn, cA G (ta 1) 4 kd, cA G (ta 2) 12 nu, oX0 (a 2) la cn ul rw, cA G (la 2) 4 rt]) hw [4, 5, 0, 1, 2, 3] (by decide) rfl ⟨(congrArg iI (by unfold R_ofp; (repeat' split) <;> omega)), rfl⟩ dX5_ofPolynomial_23
  · skip
    refine g_iconst C dX5_ofPolynomial_8 ?_
    exact g_iret C hr (ws' := [oX5 h a tr lf, oX4 (a 1) ta cn, cA G (ta 1) 4 kd, cA G (ta 2) 12 nu, oX0 (a 2) la cn ul rw, cA G (la 2) 4 rt]) hw [4, 5, 0, 1, 2, 3] (by decide) rfl ⟨(congrArg iI (by unfold R_ofp; (repeat' split) <;> omega)), rfl⟩ dX5_ofPolynomial_9

set_option maxRecDepth 20000 in
theorem cn_X5_value_111 : Jvm.Cond.constantLong RX5 111 (-9223372036854775808) ∈ wsX5_value := List.mem_cons_of_mem _ (List.mem_append_left _ (List.mem_append_left _ (List.mem_of_getElem? (i := 2) rfl)))
set_option maxRecDepth 20000 in
theorem cn_X5_value_109 : Jvm.Cond.constant RX5 109 (-1000000) ∈ wsX5_value := List.mem_cons_of_mem _ (List.mem_append_left _ (List.mem_append_left _ (List.mem_of_getElem? (i := 0) rfl)))
set_option maxRecDepth 20000 in
theorem cn_X5_value_110 : Jvm.Cond.constant RX5 110 (1000000) ∈ wsX5_value := List.mem_cons_of_mem _ (List.mem_append_left _ (List.mem_append_left _ (List.mem_of_getElem? (i := 1) rfl)))
set_option maxRecDepth 20000 in
theorem hin_X5_value_X5 : ∀ w ∈ u_ws RX5 TX5 9, w ∈ wsX5_value := by
  intro w h
  exact List.mem_cons_of_mem _ (List.mem_append_left _ (List.mem_append_right _ (h)))
set_option maxRecDepth 20000 in
theorem lk_X5_value_20 : Cond.fieldLink RX5 20 (TX5 1).1 (TX5 1).2.1 (TX5 1).2.2.1 ∈ wsX5_value := List.mem_cons_of_mem _ (List.mem_append_left _ (List.mem_append_left _ (List.mem_of_getElem? (i := 3) rfl)))
set_option maxRecDepth 100000 in
set_option maxHeartbeats 8000000 in
theorem m_X5_value (l : Launch) (D : va_G) (G : gT) (h : Nat) (a : Nat → Nat) (tr : Int) (lf : Int) (ta : Nat → Nat) (cn : Int) (kd : Int → Int) (nu : Int → Int) (pp : Int) (xv : Int) (hkd : kdOK kd) (hnu : nuOK nu) (hcn : 0 ≤ cn ∧ cn ≤ 4) (hp : -2147483648 ≤ pp ∧ pp ≤ 2147483647) (hx : -2147483648 ≤ xv ∧ xv ≤ 2147483647) : gMl l yX5_value wsX5_value ({ frames := 2, cells := 0, slots := 0, locals := 42 }) D G [.ref h, .int (iI pp), .int (iI xv)] [oX5 h a tr lf, oX4 (a 1) ta cn, cA G (ta 1) 4 kd, cA G (ta 2) 12 nu] 0 0 (fun (r : Int64) (w : va_W) => r = (lI (R_val cn kd nu pp xv)) ∧ w = [oX5 h a tr lf, oX4 (a 1) ta cn, cA G (ta 1) 4 kd, cA G (ta 2) 12 nu]) := by
  refine g_start_l (cc := cX5_value) (nL := 5) (own := RX5) (ret := some .long) (by decide +kernel) rfl rfl (Nat.le_of_ble_eq_true rfl) ?_
  intro p e s m below meth c A ls C hr hnm hw hl
  have hl : lv_has ls 5 [(0, .ref h), (1, .int (iI pp)), (2, .int (iI xv))] := hl
  have b0 := exT_b (n := cn) (kd := kd) hnu pp 0
  have b1 := exT_b (n := cn) (kd := kd) hnu pp 1
  have b2 := exT_b (n := cn) (kd := kd) hnu pp 2
  refine g_aload_n C hl 0 rfl rfl dX5_value_0 ?_
  refine g_iload_n C hl 1 rfl rfl dX5_value_1 ?_
  refine g_callVi C hw (wr := [cA G (ta 1) 4 kd, cA G (ta 2) 12 nu]) (As := [.int (iI pp)]) (rest := []) (m_X5_isPolynomial l D G (h := h) (a := a) (tr := tr) (lf := lf) (ta := ta) (cn := cn) (pp := pp) (by first | assumption | omega) (by first | assumption | omega)) (cwV 1 C.1.2.2.2.2 gX5_value_X5_isPolynomial rfl rfl rfl (by decide +kernel) ⟨Nat.le_of_ble_eq_true rfl, Nat.le_of_ble_eq_true rfl⟩) [0, 1] [2, 3] rfl rfl (by decide) (by decide) (by decide) 0 rfl rfl rfl hl.1 _ rfl (Nat.le_of_ble_eq_true rfl) dX5_value_2 ⟨Nat.le_of_ble_eq_true rfl, Nat.le_of_ble_eq_true rfl⟩ ?_
  clear hw
  rintro _ _ H locs ⟨rfl, rfl⟩ hw
  have hw : gW D A s.heap [cA G (ta 1) 4 kd, cA G (ta 2) 12 nu, oX5 h a tr lf, oX4 (a 1) ta cn] H locs := hw
  refine g_ifb_eq C 20 dX5_value_5 (by decide) (fun c_1 => ?_) (fun c_1 => ?_)
  · skip
    refine g_ldc2 C (-9223372036854775808) cn_X5_value_111 (by decide +kernel) dX5_value_20 ?_
    exact g_lret C hr (ws' := [oX5 h a tr lf, oX4 (a 1) ta cn, cA G (ta 1) 4 kd, cA G (ta 2) 12 nu]) hw [2, 3, 0, 1] (by decide) rfl ⟨(congrArg lI (by unfold R_val; (repeat' split) <;> omega)), rfl⟩ dX5_value_23
  · skip
    refine g_iload_n C hl 2 rfl rfl dX5_value_8 ?_
    refine g_ldc C (-1000000) cn_X5_value_109 (by decide +kernel) dX5_value_9 ?_
    refine g_icmp_lt C 20 dX5_value_11 (by decide) (by omega) (by omega) (fun c_2 => ?_) (fun c_2 => ?_)
    · skip
      refine g_ldc2 C (-9223372036854775808) cn_X5_value_111 (by decide +kernel) dX5_value_20 ?_
      exact g_lret C hr (ws' := [oX5 h a tr lf, oX4 (a 1) ta cn, cA G (ta 1) 4 kd, cA G (ta 2) 12 nu]) hw [2, 3, 0, 1] (by decide) rfl ⟨(congrArg lI (by unfold R_val; (repeat' split) <;> omega)), rfl⟩ dX5_value_23
    · skip
      refine g_iload_n C hl 2 rfl rfl dX5_value_14 ?_
      refine g_ldc C (1000000) cn_X5_value_110 (by decide +kernel) dX5_value_15 ?_
      refine g_icmp_le C 24 dX5_value_17 (by decide) (by omega) (by omega) (fun c_3 => ?_) (fun c_3 => ?_)
      · skip
        refine g_iload_n C hl 2 rfl rfl dX5_value_24 ?_
        refine g_i2l C dX5_value_25 (by omega) ?_
        refine g_lstore_n C [(3, .long (lI (xv))), (0, .ref h), (1, .int (iI pp)), (2, .int (iI xv))] dX5_value_26 rfl hl (by decide) rfl ?_
        clear hl
        intro ls hl
        refine g_aload_n C hl 1 rfl rfl dX5_value_27 ?_
        refine g_get C hw hin_X5_value_X5 2 rfl rfl 1 (by decide) lk_X5_value_20 rfl dX5_value_28 ?_
        refine g_iload_n C hl 2 rfl rfl dX5_value_31 ?_
        refine g_iconst C dX5_value_32 ?_
        refine g_callVi C hw (wr := [oX5 h a tr lf]) (As := [.int (iI pp), .int (iI 0)]) (rest := []) (m_X4_exact l D G (h := (a 1)) (a := ta) (cn := cn) (kd := kd) (nu := nu) (pp := pp) (kk := 0) (by first | assumption | omega) (by first | assumption | omega) (by first | assumption | omega) (by first | assumption | omega)) (cwV 2 C.1.2.2.2.2 gX5_value_X4_exact rfl rfl rfl (by decide +kernel) ⟨Nat.le_of_ble_eq_true rfl, Nat.le_of_ble_eq_true rfl⟩) [3, 0, 1] [2] rfl rfl (by decide) (by decide) (by decide) 0 rfl rfl rfl hl.1 _ rfl (Nat.le_of_ble_eq_true rfl) dX5_value_33 ⟨Nat.le_of_ble_eq_true rfl, Nat.le_of_ble_eq_true rfl⟩ ?_
        clear hw
        rintro _ _ H locs ⟨rfl, rfl⟩ hw
        have hw : gW D A s.heap [oX5 h a tr lf, oX4 (a 1) ta cn, cA G (ta 1) 4 kd, cA G (ta 2) 12 nu] H locs := hw
        refine g_nI (show ((exF kd nu pp 0) : Int) = (exT cn kd nu) pp 0 by exact (exT_in (by omega)).symm) ?_
        refine g_i2l C dX5_value_36 (by omega) ?_
        refine g_aload_n C hl 1 rfl rfl dX5_value_37 ?_
        refine g_get C hw hin_X5_value_X5 0 rfl rfl 1 (by decide) lk_X5_value_20 rfl dX5_value_38 ?_
        refine g_iload_n C hl 2 rfl rfl dX5_value_41 ?_
        refine g_iconst C dX5_value_42 ?_
        refine g_callVi C hw (wr := [oX5 h a tr lf]) (As := [.int (iI pp), .int (iI 1)]) (rest := [.long (lI ((exT cn kd nu) pp 0))]) (m_X4_exact l D G (h := (a 1)) (a := ta) (cn := cn) (kd := kd) (nu := nu) (pp := pp) (kk := 1) (by first | assumption | omega) (by first | assumption | omega) (by first | assumption | omega) (by first | assumption | omega)) (cwV 2 C.1.2.2.2.2 gX5_value_X4_exact rfl rfl rfl (by decide +kernel) ⟨Nat.le_of_ble_eq_true rfl, Nat.le_of_ble_eq_true rfl⟩) [1, 2, 3] [0] rfl rfl (by decide) (by decide) (by decide) 0 rfl rfl rfl hl.1 _ rfl (Nat.le_of_ble_eq_true rfl) dX5_value_43 ⟨Nat.le_of_ble_eq_true rfl, Nat.le_of_ble_eq_true rfl⟩ ?_
        clear hw
        rintro _ _ H locs ⟨rfl, rfl⟩ hw
        have hw : gW D A s.heap [oX5 h a tr lf, oX4 (a 1) ta cn, cA G (ta 1) 4 kd, cA G (ta 2) 12 nu] H locs := hw
        refine g_nI (show ((exF kd nu pp 1) : Int) = (exT cn kd nu) pp 1 by exact (exT_in (by omega)).symm) ?_
        refine g_i2l C dX5_value_46 (by omega) ?_
        refine g_lload_n C hl 0 rfl rfl dX5_value_47 ?_
        refine g_lmul C dX5_value_48 ?_
        refine g_ladd C dX5_value_49 ?_
        refine g_aload_n C hl 1 rfl rfl dX5_value_50 ?_
        refine g_get C hw hin_X5_value_X5 0 rfl rfl 1 (by decide) lk_X5_value_20 rfl dX5_value_51 ?_
        refine g_iload_n C hl 2 rfl rfl dX5_value_54 ?_
        refine g_iconst C dX5_value_55 ?_
        refine g_callVi C hw (wr := [oX5 h a tr lf]) (As := [.int (iI pp), .int (iI 2)]) (rest := [.long (lI (((exT cn kd nu) pp 0) + (((exT cn kd nu) pp 1) * xv)))]) (m_X4_exact l D G (h := (a 1)) (a := ta) (cn := cn) (kd := kd) (nu := nu) (pp := pp) (kk := 2) (by first | assumption | omega) (by first | assumption | omega) (by first | assumption | omega) (by first | assumption | omega)) (cwV 2 C.1.2.2.2.2 gX5_value_X4_exact rfl rfl rfl (by decide +kernel) ⟨Nat.le_of_ble_eq_true rfl, Nat.le_of_ble_eq_true rfl⟩) [1, 2, 3] [0] rfl rfl (by decide) (by decide) (by decide) 0 rfl rfl rfl hl.1 _ rfl (Nat.le_of_ble_eq_true rfl) dX5_value_56 ⟨Nat.le_of_ble_eq_true rfl, Nat.le_of_ble_eq_true rfl⟩ ?_
        clear hw
        rintro _ _ H locs ⟨rfl, rfl⟩ hw
        have hw : gW D A s.heap [oX5 h a tr lf, oX4 (a 1) ta cn, cA G (ta 1) 4 kd, cA G (ta 2) 12 nu] H locs := hw
        refine g_nI (show ((exF kd nu pp 2) : Int) = (exT cn kd nu) pp 2 by exact (exT_in (by omega)).symm) ?_
        refine g_i2l C dX5_value_59 (by omega) ?_
        refine g_lload_n C hl 0 rfl rfl dX5_value_60 ?_
        refine g_lmul C dX5_value_61 ?_
        refine g_lload_n C hl 0 rfl rfl dX5_value_62 ?_
        refine g_lmul C dX5_value_63 ?_
        refine g_ladd C dX5_value_64 ?_
        exact g_lret C hr (ws' := [oX5 h a tr lf, oX4 (a 1) ta cn, cA G (ta 1) 4 kd, cA G (ta 2) 12 nu]) hw [0, 1, 2, 3] (by decide) rfl ⟨(congrArg lI (by unfold R_val; (repeat' split) <;> omega)), rfl⟩ dX5_value_65
      · skip
        refine g_ldc2 C (-9223372036854775808) cn_X5_value_111 (by decide +kernel) dX5_value_20 ?_
        exact g_lret C hr (ws' := [oX5 h a tr lf, oX4 (a 1) ta cn, cA G (ta 1) 4 kd, cA G (ta 2) 12 nu]) hw [2, 3, 0, 1] (by decide) rfl ⟨(congrArg lI (by unfold R_val; (repeat' split) <;> omega)), rfl⟩ dX5_value_23

set_option maxRecDepth 20000 in
theorem hin_X5_tune_X5 : ∀ w ∈ u_ws RX5 TX5 9, w ∈ wsX5_tune := by
  intro w h
  exact List.mem_cons_of_mem _ (List.mem_append_left _ (List.mem_append_left _ (List.mem_append_right _ (h))))
set_option maxRecDepth 20000 in
theorem lk_X5_tune_20 : Cond.fieldLink RX5 20 (TX5 1).1 (TX5 1).2.1 (TX5 1).2.2.1 ∈ wsX5_tune := List.mem_cons_of_mem _ (List.mem_append_left _ (List.mem_append_left _ (List.mem_append_left _ (List.mem_append_left _ (List.mem_of_getElem? (i := 0) rfl)))))
set_option maxRecDepth 20000 in
theorem hin_X5_tune_X4 : ∀ w ∈ u_ws RX4 TX4 3, w ∈ wsX5_tune := by
  intro w h
  exact List.mem_cons_of_mem _ (List.mem_append_left _ (List.mem_append_right _ (h)))
set_option maxRecDepth 20000 in
theorem lk_X5_tune_102 : Cond.fieldLink RX5 102 (TX4 2).1 (TX4 2).2.1 (TX4 2).2.2.1 ∈ wsX5_tune := List.mem_cons_of_mem _ (List.mem_append_left _ (List.mem_append_left _ (List.mem_append_left _ (List.mem_append_left _ (List.mem_of_getElem? (i := 1) rfl)))))
set_option maxRecDepth 20000 in
theorem lk_X5_tune_27 : Cond.fieldLink RX5 27 (TX5 2).1 (TX5 2).2.1 (TX5 2).2.2.1 ∈ wsX5_tune := List.mem_cons_of_mem _ (List.mem_append_left _ (List.mem_append_left _ (List.mem_append_left _ (List.mem_append_left _ (List.mem_of_getElem? (i := 2) rfl)))))
set_option maxRecDepth 100000 in
set_option maxHeartbeats 8000000 in
theorem m_X5_tune (l : Launch) (D : va_G) (G : gT) (h : Nat) (a : Nat → Nat) (tr : Int) (lf : Int) (ta : Nat → Nat) (cn : Int) (kd : Int → Int) (nu : Int → Int) (la : Nat → Nat) (ul : Int) (rw : Int) (ex : Int → Int) (rt : Int → Int) (mi : Int → Int) (si : Int → Int) (un : Int → Int) (be : Int → Int) (ka : Int → Int) (br : Int → Int) (pp : Int) (kk : Int) (vv : Int) (hkd : kdOK kd) (hnu : nuOK nu) (hcn : 0 ≤ cn ∧ cn ≤ 4) (hX : LnX (exT cn kd nu) cn ex) (hT : LnT (exT cn kd nu) cn rt) (hZ : LnZ (exT cn kd nu) cn mi si un be) (hB : hasB ka br (ALb (exT cn kd nu) cn.toNat)) (hul : ul = ((ALb (exT cn kd nu) cn.toNat).length : Int)) (hp : -2147483648 ≤ pp ∧ pp ≤ 2147483647) (hk : -2147483648 ≤ kk ∧ kk ≤ 2147483647) (hv : -2147483648 ≤ vv ∧ vv ≤ 2147483647) : gMi l yX5_tune wsX5_tune ({ frames := 6, cells := 0, slots := 0, locals := 169 }) D G [.ref h, .int (iI pp), .int (iI kk), .int (iI vv)] [oX5 h a tr lf, oX4 (a 1) ta cn, cA G (ta 1) 4 kd, cA G (ta 2) 12 nu, oX0 (a 2) la cn ul rw, cA G (la 1) 12 ex, cA G (la 2) 4 rt, cA G (la 3) 8 mi, cA G (la 4) 8 si, cA G (la 5) 8 un, cA G (la 6) 8 be, cA G (la 8) 8 ka, cA G (la 9) 8 br] 0 0 (fun (r : Int32) (w : va_W) => ∃ (ul2 : Int) (ex2 : Int → Int) (rt2 : Int → Int) (mi2 : Int → Int) (si2 : Int → Int) (un2 : Int → Int) (be2 : Int → Int) (ka2 : Int → Int) (br2 : Int → Int), r = (iI (R_tune cn nu pp kk vv)) ∧ w = [oX5 h a tr lf, oX4 (a 1) ta cn, cA G (ta 1) 4 kd, cA G (ta 2) 12 (tuF cn nu pp kk vv), oX0 (a 2) la cn ul2 rw, cA G (la 1) 12 ex2, cA G (la 2) 4 rt2, cA G (la 3) 8 mi2, cA G (la 4) 8 si2, cA G (la 5) 8 un2, cA G (la 6) 8 be2, cA G (la 8) 8 ka2, cA G (la 9) 8 br2] ∧ (LnX (exT cn kd (tuF cn nu pp kk vv)) cn ex2 ∧ LnT (exT cn kd (tuF cn nu pp kk vv)) cn rt2 ∧ LnZ (exT cn kd (tuF cn nu pp kk vv)) cn mi2 si2 un2 be2 ∧ hasB ka2 br2 (ALb (exT cn kd (tuF cn nu pp kk vv)) cn.toNat) ∧ ul2 = ((ALb (exT cn kd (tuF cn nu pp kk vv)) cn.toNat).length : Int))) := by
  refine g_start_i (cc := cX5_tune) (nL := 5) (own := RX5) (ret := some .int) (by decide +kernel) rfl rfl (Nat.le_of_ble_eq_true rfl) ?_
  intro p e s m below meth c A ls C hr hnm hw hl
  have hl : lv_has ls 5 [(0, .ref h), (1, .int (iI pp)), (2, .int (iI kk)), (3, .int (iI vv))] := hl
  have n0 := hnu (3 * pp + kk)
  refine g_aload_n C hl 0 rfl rfl dX5_tune_0 ?_
  refine g_iload_n C hl 1 rfl rfl dX5_tune_1 ?_
  refine g_callVi C hw (wr := [cA G (ta 1) 4 kd, cA G (ta 2) 12 nu, oX0 (a 2) la cn ul rw, cA G (la 1) 12 ex, cA G (la 2) 4 rt, cA G (la 3) 8 mi, cA G (la 4) 8 si, cA G (la 5) 8 un, cA G (la 6) 8 be, cA G (la 8) 8 ka, cA G (la 9) 8 br]) (As := [.int (iI pp)]) (rest := []) (m_X5_isPolynomial l D G (h := h) (a := a) (tr := tr) (lf := lf) (ta := ta) (cn := cn) (pp := pp) (by first | assumption | omega) (by first | assumption | omega)) (cwV 1 C.1.2.2.2.2 gX5_tune_X5_isPolynomial rfl rfl rfl (by decide +kernel) ⟨Nat.le_of_ble_eq_true rfl, Nat.le_of_ble_eq_true rfl⟩) [0, 1] [2, 3, 4, 5, 6, 7, 8, 9, 10, 11, 12] rfl rfl (by decide) (by decide) (by decide) 0 rfl rfl rfl hl.1 _ rfl (Nat.le_of_ble_eq_true rfl) dX5_tune_2 ⟨Nat.le_of_ble_eq_true rfl, Nat.le_of_ble_eq_true rfl⟩ ?_
  clear hw
  rintro _ _ H locs ⟨rfl, rfl⟩ hw
  have hw : gW D A s.heap [cA G (ta 1) 4 kd, cA G (ta 2) 12 nu, oX0 (a 2) la cn ul rw, cA G (la 1) 12 ex, cA G (la 2) 4 rt, cA G (la 3) 8 mi, cA G (la 4) 8 si, cA G (la 5) 8 un, cA G (la 6) 8 be, cA G (la 8) 8 ka, cA G (la 9) 8 br, oX5 h a tr lf, oX4 (a 1) ta cn] H locs := hw
  refine g_ifb_ne C 10 dX5_tune_5 (by decide) (fun c_1 => ?_) (fun c_1 => ?_)
  · skip
    refine g_iload_n C hl 2 rfl rfl dX5_tune_10 ?_
    refine g_iconst C dX5_tune_11 ?_
    refine g_callSi C hw (wr := [cA G (ta 1) 4 kd, cA G (ta 2) 12 nu, oX0 (a 2) la cn ul rw, cA G (la 1) 12 ex, cA G (la 2) 4 rt, cA G (la 3) 8 mi, cA G (la 4) 8 si, cA G (la 5) 8 un, cA G (la 6) 8 be, cA G (la 8) 8 ka, cA G (la 9) 8 br, oX5 h a tr lf, oX4 (a 1) ta cn]) (As := [.int (iI kk), .int (iI 3)]) (rest := []) (m_X5_isBelow l D G (na := kk) (nb := 3) (by first | assumption | omega) (by first | assumption | omega)) (va_cwS 2 C.1.2.2.2.2 gX5_tune_X5_isBelow rfl rfl rfl (by decide +kernel) ⟨Nat.le_of_ble_eq_true rfl, Nat.le_of_ble_eq_true rfl⟩) [] [0, 1, 2, 3, 4, 5, 6, 7, 8, 9, 10, 11, 12] rfl rfl (by decide) (by decide) (by decide) rfl hl.1 _ rfl (Nat.le_of_ble_eq_true rfl) dX5_tune_12 ⟨Nat.le_of_ble_eq_true rfl, Nat.le_of_ble_eq_true rfl⟩ ?_
    clear hw
    rintro _ _ H locs ⟨rfl, rfl⟩ hw
    have hw : gW D A s.heap [cA G (ta 1) 4 kd, cA G (ta 2) 12 nu, oX0 (a 2) la cn ul rw, cA G (la 1) 12 ex, cA G (la 2) 4 rt, cA G (la 3) 8 mi, cA G (la 4) 8 si, cA G (la 5) 8 un, cA G (la 6) 8 be, cA G (la 8) 8 ka, cA G (la 9) 8 br, oX5 h a tr lf, oX4 (a 1) ta cn] H locs := hw
    refine g_ifb_eq C 25 dX5_tune_15 (by decide) (fun c_2 => ?_) (fun c_2 => ?_)
    · skip
      refine g_bipush C dX5_tune_25 (by decide) ?_
      exact g_iret C hr (ws' := [oX5 h a tr lf, oX4 (a 1) ta cn, cA G (ta 1) 4 kd, cA G (ta 2) 12 nu, oX0 (a 2) la cn ul rw, cA G (la 1) 12 ex, cA G (la 2) 4 rt, cA G (la 3) 8 mi, cA G (la 4) 8 si, cA G (la 5) 8 un, cA G (la 6) 8 be, cA G (la 8) 8 ka, cA G (la 9) 8 br]) hw [11, 12, 0, 1, 2, 3, 4, 5, 6, 7, 8, 9, 10] (by decide) rfl ⟨ul, ex, rt, mi, si, un, be, ka, br, (congrArg iI (by unfold R_tune; (try rw [show pp * 3 + kk = 3 * pp + kk by omega]); (repeat' split) <;> omega)), (by first | rw [tuF_f (by omega)] | rw [tuF_t (by omega), show pp * 3 + kk = 3 * pp + kk by omega]), (by first | (rw [tuF_f (by omega)]; exact ⟨hX, hT, hZ, hB, hul⟩) | (rw [tuF_t (by omega), ← show pp * 3 + kk = 3 * pp + kk by omega]; exact ⟨hq1, hq2, hq3, hq4, rfl⟩))⟩ dX5_tune_27
    · skip
      refine g_iload_n C hl 3 rfl rfl dX5_tune_18 ?_
      refine g_callSi C hw (wr := [cA G (ta 1) 4 kd, cA G (ta 2) 12 nu, oX0 (a 2) la cn ul rw, cA G (la 1) 12 ex, cA G (la 2) 4 rt, cA G (la 3) 8 mi, cA G (la 4) 8 si, cA G (la 5) 8 un, cA G (la 6) 8 be, cA G (la 8) 8 ka, cA G (la 9) 8 br, oX5 h a tr lf, oX4 (a 1) ta cn]) (As := [.int (iI vv)]) (rest := []) (m_X5_isNumber l D G (vv := vv) (by first | assumption | omega)) (va_cwS 1 C.1.2.2.2.2 gX5_tune_X5_isNumber rfl rfl rfl (by decide +kernel) ⟨Nat.le_of_ble_eq_true rfl, Nat.le_of_ble_eq_true rfl⟩) [] [0, 1, 2, 3, 4, 5, 6, 7, 8, 9, 10, 11, 12] rfl rfl (by decide) (by decide) (by decide) rfl hl.1 _ rfl (Nat.le_of_ble_eq_true rfl) dX5_tune_19 ⟨Nat.le_of_ble_eq_true rfl, Nat.le_of_ble_eq_true rfl⟩ ?_
      clear hw
      rintro _ _ H locs ⟨rfl, rfl⟩ hw
      have hw : gW D A s.heap [cA G (ta 1) 4 kd, cA G (ta 2) 12 nu, oX0 (a 2) la cn ul rw, cA G (la 1) 12 ex, cA G (la 2) 4 rt, cA G (la 3) 8 mi, cA G (la 4) 8 si, cA G (la 5) 8 un, cA G (la 6) 8 be, cA G (la 8) 8 ka, cA G (la 9) 8 br, oX5 h a tr lf, oX4 (a 1) ta cn] H locs := hw
      refine g_ifb_ne C 28 dX5_tune_22 (by decide) (fun c_3 => ?_) (fun c_3 => ?_)
      · skip
        refine g_aload_n C hl 0 rfl rfl dX5_tune_28 ?_
        refine g_get C hw hin_X5_tune_X5 11 rfl rfl 1 (by decide) lk_X5_tune_20 rfl dX5_tune_29 ?_
        refine g_get C hw hin_X5_tune_X4 12 rfl rfl 2 (by decide) lk_X5_tune_102 rfl dX5_tune_32 ?_
        refine g_iload_n C hl 1 rfl rfl dX5_tune_35 ?_
        refine g_iconst C dX5_tune_36 ?_
        refine g_imul C dX5_tune_37 ?_
        refine g_iload_n C hl 2 rfl rfl dX5_tune_38 ?_
        refine g_iadd C dX5_tune_39 ?_
        refine g_iald C hw 1 rfl (by omega) (Nat.le_of_ble_eq_true rfl) dX5_tune_40 ?_
        refine g_istore C [(4, .int (iI (nu ((pp * 3) + kk)))), (0, .ref h), (1, .int (iI pp)), (2, .int (iI kk)), (3, .int (iI vv))] dX5_tune_41 hl (by decide) rfl ?_
        clear hl
        intro ls hl
        refine g_aload_n C hl 1 rfl rfl dX5_tune_43 ?_
        refine g_get C hw hin_X5_tune_X5 11 rfl rfl 1 (by decide) lk_X5_tune_20 rfl dX5_tune_44 ?_
        refine g_get C hw hin_X5_tune_X4 12 rfl rfl 2 (by decide) lk_X5_tune_102 rfl dX5_tune_47 ?_
        refine g_iload_n C hl 2 rfl rfl dX5_tune_50 ?_
        refine g_iconst C dX5_tune_51 ?_
        refine g_imul C dX5_tune_52 ?_
        refine g_iload_n C hl 3 rfl rfl dX5_tune_53 ?_
        refine g_iadd C dX5_tune_54 ?_
        refine g_iload_n C hl 4 rfl rfl dX5_tune_55 ?_
        refine g_iast C hw [cA G (ta 1) 4 kd, cA G (ta 2) 12 (up nu ((pp * 3) + kk) vv), oX0 (a 2) la cn ul rw, cA G (la 1) 12 ex, cA G (la 2) 4 rt, cA G (la 3) 8 mi, cA G (la 4) 8 si, cA G (la 5) 8 un, cA G (la 6) 8 be, cA G (la 8) 8 ka, cA G (la 9) 8 br, oX5 h a tr lf, oX4 (a 1) ta cn] 1 rfl (by omega) (Nat.le_of_ble_eq_true rfl) rfl dX5_tune_56 ?_
        clear hw
        intro H locs hw
        refine g_aload_n C hl 1 rfl rfl dX5_tune_57 ?_
        refine g_get C hw hin_X5_tune_X5 11 rfl rfl 2 (by decide) lk_X5_tune_27 rfl dX5_tune_58 ?_
        refine g_aload_n C hl 1 rfl rfl dX5_tune_61 ?_
        refine g_get C hw hin_X5_tune_X5 11 rfl rfl 1 (by decide) lk_X5_tune_20 rfl dX5_tune_62 ?_
        refine g_callVv C hw (wr := [oX5 h a tr lf]) (As := [.ref ((a 1))]) (rest := []) (m_X0_lay l D G (h := (a 2)) (a := la) (cn := cn) (ul := ul) (rw := rw) (ex := ex) (rt := rt) (mi := mi) (si := si) (un := un) (be := be) (ka := ka) (br := br) (o := (a 1)) (b := ta) (ct := cn) (kd := kd) (nu := (up nu ((pp * 3) + kk) vv)) (by first | assumption | omega) (by exact nuOK_up hnu (by omega)) (by first | assumption | omega)) (cwV 1 C.1.2.2.2.2 gX5_tune_X0_lay rfl rfl rfl (by decide +kernel) ⟨Nat.le_of_ble_eq_true rfl, Nat.le_of_ble_eq_true rfl⟩) [2, 3, 4, 5, 6, 7, 8, 9, 10, 12, 0, 1] [11] rfl rfl (by decide) (by decide) (by decide) 0 rfl rfl rfl hl.1 _ rfl (Nat.le_of_ble_eq_true rfl) dX5_tune_65 ⟨Nat.le_of_ble_eq_true rfl, Nat.le_of_ble_eq_true rfl⟩ ?_
        clear hw
        rintro _ H locs ⟨ex2__4, rt2__5, mi2__6, si2__7, un2__8, be2__9, ka2__10, br2__11, rfl, hp_12, hp_13, hp_14, hp_15⟩ hw
        have hw : gW D A s.heap [oX5 h a tr lf, oX0 (a 2) la cn ((ALb (exT cn kd (up nu ((pp * 3) + kk) vv)) cn.toNat).length : Int) rw, cA G (la 1) 12 ex2__4, cA G (la 2) 4 rt2__5, cA G (la 3) 8 mi2__6, cA G (la 4) 8 si2__7, cA G (la 5) 8 un2__8, cA G (la 6) 8 be2__9, cA G (la 8) 8 ka2__10, cA G (la 9) 8 br2__11, oX4 (a 1) ta cn, cA G (ta 1) 4 kd, cA G (ta 2) 12 (up nu ((pp * 3) + kk) vv)] H locs := hw
        have hp_12 : LnX (exT cn kd (up nu ((pp * 3) + kk) vv)) cn ex2__4 := hp_12
        have hp_13 : LnT (exT cn kd (up nu ((pp * 3) + kk) vv)) cn rt2__5 := hp_13
        have hp_14 : LnZ (exT cn kd (up nu ((pp * 3) + kk) vv)) cn mi2__6 si2__7 un2__8 be2__9 := hp_14
        have hp_15 : hasB ka2__10 br2__11 (ALb (exT cn kd (up nu ((pp * 3) + kk) vv)) cn.toNat) := hp_15
        have hq1 := hp_12
        have hq2 := hp_13
        have hq3 := hp_14
        have hq4 := hp_15
        refine g_iload C hl 0 rfl dX5_tune_68 ?_
        refine g_bipush C dX5_tune_70 (by decide) ?_
        refine g_iadd C dX5_tune_72 ?_
        exact g_iret C hr (ws' := [oX5 h a tr lf, oX4 (a 1) ta cn, cA G (ta 1) 4 kd, cA G (ta 2) 12 (up nu ((pp * 3) + kk) vv), oX0 (a 2) la cn ((ALb (exT cn kd (up nu ((pp * 3) + kk) vv)) cn.toNat).length : Int) rw, cA G (la 1) 12 ex2__4, cA G (la 2) 4 rt2__5, cA G (la 3) 8 mi2__6, cA G (la 4) 8 si2__7, cA G (la 5) 8 un2__8, cA G (la 6) 8 be2__9, cA G (la 8) 8 ka2__10, cA G (la 9) 8 br2__11]) hw [0, 10, 11, 12, 1, 2, 3, 4, 5, 6, 7, 8, 9] (by decide) rfl ⟨((ALb (exT cn kd (up nu ((pp * 3) + kk) vv)) cn.toNat).length : Int), ex2__4, rt2__5, mi2__6, si2__7, un2__8, be2__9, ka2__10, br2__11, (congrArg iI (by unfold R_tune; (try rw [show pp * 3 + kk = 3 * pp + kk by omega]); (repeat' split) <;> omega)), (by first | rw [tuF_f (by omega)] | rw [tuF_t (by omega), show pp * 3 + kk = 3 * pp + kk by omega]), (by first | (rw [tuF_f (by omega)]; exact ⟨hX, hT, hZ, hB, hul⟩) | (rw [tuF_t (by omega), ← show pp * 3 + kk = 3 * pp + kk by omega]; exact ⟨hq1, hq2, hq3, hq4, rfl⟩))⟩ dX5_tune_73
      · skip
        refine g_bipush C dX5_tune_25 (by decide) ?_
        exact g_iret C hr (ws' := [oX5 h a tr lf, oX4 (a 1) ta cn, cA G (ta 1) 4 kd, cA G (ta 2) 12 nu, oX0 (a 2) la cn ul rw, cA G (la 1) 12 ex, cA G (la 2) 4 rt, cA G (la 3) 8 mi, cA G (la 4) 8 si, cA G (la 5) 8 un, cA G (la 6) 8 be, cA G (la 8) 8 ka, cA G (la 9) 8 br]) hw [11, 12, 0, 1, 2, 3, 4, 5, 6, 7, 8, 9, 10] (by decide) rfl ⟨ul, ex, rt, mi, si, un, be, ka, br, (congrArg iI (by unfold R_tune; (try rw [show pp * 3 + kk = 3 * pp + kk by omega]); (repeat' split) <;> omega)), (by first | rw [tuF_f (by omega)] | rw [tuF_t (by omega), show pp * 3 + kk = 3 * pp + kk by omega]), (by first | (rw [tuF_f (by omega)]; exact ⟨hX, hT, hZ, hB, hul⟩) | (rw [tuF_t (by omega), ← show pp * 3 + kk = 3 * pp + kk by omega]; exact ⟨hq1, hq2, hq3, hq4, rfl⟩))⟩ dX5_tune_27
  · skip
    refine g_iconst C dX5_tune_8 ?_
    exact g_iret C hr (ws' := [oX5 h a tr lf, oX4 (a 1) ta cn, cA G (ta 1) 4 kd, cA G (ta 2) 12 nu, oX0 (a 2) la cn ul rw, cA G (la 1) 12 ex, cA G (la 2) 4 rt, cA G (la 3) 8 mi, cA G (la 4) 8 si, cA G (la 5) 8 un, cA G (la 6) 8 be, cA G (la 8) 8 ka, cA G (la 9) 8 br]) hw [11, 12, 0, 1, 2, 3, 4, 5, 6, 7, 8, 9, 10] (by decide) rfl ⟨ul, ex, rt, mi, si, un, be, ka, br, (congrArg iI (by unfold R_tune; (try rw [show pp * 3 + kk = 3 * pp + kk by omega]); (repeat' split) <;> omega)), (by first | rw [tuF_f (by omega)] | rw [tuF_t (by omega), show pp * 3 + kk = 3 * pp + kk by omega]), (by first | (rw [tuF_f (by omega)]; exact ⟨hX, hT, hZ, hB, hul⟩) | (rw [tuF_t (by omega), ← show pp * 3 + kk = 3 * pp + kk by omega]; exact ⟨hq1, hq2, hq3, hq4, rfl⟩))⟩ dX5_tune_9

set_option maxRecDepth 100000 in
set_option maxHeartbeats 8000000 in
theorem m_X5_commonDivisor (l : Launch) (D : va_G) (G : gT) (uu : Int) (dd : Int) (hu : 0 ≤ uu ∧ uu ≤ 1000) (hd : 1 ≤ dd ∧ dd ≤ 1000) : gMi l yX5_commonDivisor wsX5_commonDivisor ({ frames := 0, cells := 0, slots := 0, locals := 0 }) D G [.int (iI uu), .int (iI dd)] [] 0 0 (fun (r : Int32) (w : va_W) => r = (iI ((Nat.gcd uu.toNat dd.toNat : Int))) ∧ w = []) := by
  refine g_start_i (cc := cX5_commonDivisor) (nL := 3) (own := RX5) (ret := some .int) (by decide +kernel) rfl rfl (Nat.le_of_ble_eq_true rfl) ?_
  intro p e s m below meth c A ls C hr hnm hw hl
  have hl : lv_has ls 3 [(0, .int (iI uu)), (1, .int (iI dd))] := hl
  obtain ⟨g1, g2, g3, g4, g5⟩ := gcd_p (u := uu) (l := dd) (by omega) (by omega)
  refine g_iload_n C hl 1 rfl rfl dX5_commonDivisor_0 ?_
  refine g_istore_n C [(2, .int (iI dd)), (0, .int (iI uu)), (1, .int (iI dd))] dX5_commonDivisor_1 rfl hl (by decide) rfl ?_
  clear hl
  intro ls hl
  refine g_loop (σ := (Int)) (fun z_ => []) (fun z_ => [(2, .int (iI z_)), (0, .int (iI uu)), (1, .int (iI dd))]) (fun z_ => (1 ≤ z_ ∧ z_ ≤ dd) ∧ ((Nat.gcd uu.toNat dd.toNat : Int) ≤ z_)) (fun z_ => z_.toNat) dd ⟨by (try dsimp only); omega, by (try dsimp only); omega⟩ hw (lv_sub hl [0, 1, 2] rfl) ?_
  clear hw hl
  rintro xx ⟨hx, hg⟩ H locs ls hw hl ih_1
  replace hx : 1 ≤ xx ∧ xx ≤ dd := hx
  replace hg : (Nat.gcd uu.toNat dd.toNat : Int) ≤ xx := hg
  replace hw : gW D A s.heap [] H locs := hw
  replace hl : lv_has ls 3 [(2, .int (iI xx)), (0, .int (iI uu)), (1, .int (iI dd))] := hl
  replace ih_1 : ∀ (xx' : Int), ((1 ≤ xx' ∧ xx' ≤ dd) ∧ ((Nat.gcd uu.toNat dd.toNat : Int) ≤ xx')) → (xx'.toNat) < (xx.toNat) → ∀ (H : Heap) (locs : List Loc) (ls : Array Slot), gW D A s.heap [] H locs → lv_has ls 3 [(2, .int (iI (xx'))), (0, .int (iI uu)), (1, .int (iI dd))] → W p l e _ s m _ below meth c H locs _ _ _ (F0 m 2 ls []) := fun xx' => ih_1 xx'
  refine g_iload_n C hl 0 rfl rfl dX5_commonDivisor_2 ?_
  refine g_iconst C dX5_commonDivisor_3 ?_
  refine g_icmp_le C 27 dX5_commonDivisor_4 (by decide) (by omega) (by omega) (fun c_2 => ?_) (fun c_2 => ?_)
  · skip
    refine g_iconst C dX5_commonDivisor_27 ?_
    exact g_iret C hr (ws' := []) hw [] (by decide) rfl ⟨(congrArg iI (by omega)), rfl⟩ dX5_commonDivisor_28
  · skip
    refine g_iload_n C hl 1 rfl rfl dX5_commonDivisor_7 ?_
    refine g_iload_n C hl 0 rfl rfl dX5_commonDivisor_8 ?_
    refine g_irem C dX5_commonDivisor_9 (by omega) (by omega) ?_
    have := Int.emod_nonneg uu (b := xx) (by omega)
    have := Int.emod_lt_of_pos uu (b := xx) (by omega)
    refine g_nI (show (uu - uu.tdiv xx * xx : Int) = uu % xx by rw [Int.tdiv_eq_ediv_of_nonneg (by omega)]; have := Int.mul_ediv_add_emod uu xx; rw [Int.mul_comm] at this; omega) ?_
    refine g_if_ne C 21 dX5_commonDivisor_10 (by decide) (by omega) (fun c_3 => ?_) (fun c_3 => ?_)
    · skip
      refine g_iinc C [(2, .int (iI (xx + (-1)))), (0, .int (iI uu)), (1, .int (iI dd))] 0 dX5_commonDivisor_21 hl rfl (by decide) rfl ?_
      clear hl
      intro ls hl
      refine g_goto C 2 dX5_commonDivisor_24 (by decide) ?_
      have hw : gW D A s.heap [] H locs := g_perm hw [] (by decide) rfl
      exact ih_1 (xx + (-1)) ⟨by omega, by have hne : ¬ (Nat.gcd uu.toNat dd.toNat : Int) = xx := (fun e9 => by rw [e9] at g3 g4; omega); omega⟩ (by omega) H locs ls hw (lv_sub hl [0, 1, 2] rfl)
    · skip
      refine g_iload_n C hl 2 rfl rfl dX5_commonDivisor_13 ?_
      refine g_iload_n C hl 0 rfl rfl dX5_commonDivisor_14 ?_
      refine g_irem C dX5_commonDivisor_15 (by omega) (by omega) ?_
      have := Int.emod_nonneg dd (b := xx) (by omega)
      have := Int.emod_lt_of_pos dd (b := xx) (by omega)
      refine g_nI (show (dd - dd.tdiv xx * xx : Int) = dd % xx by rw [Int.tdiv_eq_ediv_of_nonneg (by omega)]; have := Int.mul_ediv_add_emod dd xx; rw [Int.mul_comm] at this; omega) ?_
      refine g_if_ne C 21 dX5_commonDivisor_16 (by decide) (by omega) (fun c_4 => ?_) (fun c_4 => ?_)
      · skip
        refine g_iinc C [(2, .int (iI (xx + (-1)))), (0, .int (iI uu)), (1, .int (iI dd))] 0 dX5_commonDivisor_21 hl rfl (by decide) rfl ?_
        clear hl
        intro ls hl
        refine g_goto C 2 dX5_commonDivisor_24 (by decide) ?_
        have hw : gW D A s.heap [] H locs := g_perm hw [] (by decide) rfl
        exact ih_1 (xx + (-1)) ⟨by omega, by have hne : ¬ (Nat.gcd uu.toNat dd.toNat : Int) = xx := (fun e9 => by rw [e9] at g3 g4; omega); omega⟩ (by omega) H locs ls hw (lv_sub hl [0, 1, 2] rfl)
      · skip
        refine g_iload_n C hl 0 rfl rfl dX5_commonDivisor_19 ?_
        exact g_iret C hr (ws' := []) hw [] (by decide) rfl ⟨(congrArg iI (by have := g5 xx (by omega) (by omega) (by omega); omega)), rfl⟩ dX5_commonDivisor_20

set_option maxRecDepth 20000 in
theorem cn_X5_odds_111 : Jvm.Cond.constantLong RX5 111 (-9223372036854775808) ∈ wsX5_odds := List.mem_cons_of_mem _ (List.mem_append_left _ (List.mem_append_left _ (List.mem_append_left _ (List.mem_append_left _ (List.mem_of_getElem? (i := 0) rfl)))))
set_option maxRecDepth 20000 in
theorem hin_X5_odds_X5 : ∀ w ∈ u_ws RX5 TX5 9, w ∈ wsX5_odds := by
  intro w h
  exact List.mem_cons_of_mem _ (List.mem_append_left _ (List.mem_append_left _ (List.mem_append_right _ (h))))
set_option maxRecDepth 20000 in
theorem lk_X5_odds_27 : Cond.fieldLink RX5 27 (TX5 2).1 (TX5 2).2.1 (TX5 2).2.2.1 ∈ wsX5_odds := List.mem_cons_of_mem _ (List.mem_append_left _ (List.mem_append_left _ (List.mem_append_left _ (List.mem_append_left _ (List.mem_of_getElem? (i := 1) rfl)))))
set_option maxRecDepth 100000 in
set_option maxHeartbeats 8000000 in
theorem m_X5_odds (l : Launch) (D : va_G) (G : gT) (h : Nat) (a : Nat → Nat) (tr : Int) (lf : Int) (ta : Nat → Nat) (cn : Int) (la : Nat → Nat) (ul : Int) (rw : Int) (ex : Int → Int) (mi : Int → Int) (si : Int → Int) (un : Int → Int) (be : Int → Int) (ka : Int → Int) (E : Int → Int → Int) (pp : Int) (sv : Int) (wh : Int) (hcn : 0 ≤ cn ∧ cn ≤ 4) (hE : EB E) (hX : LnX E cn ex) (hZ : LnZ E cn mi si un be) (hKA : hasL ka (ALn E cn.toNat)) (hul : ul = ((ALn E cn.toNat).length : Int)) (hp : -2147483648 ≤ pp ∧ pp ≤ 2147483647) (hs : -2147483648 ≤ sv ∧ sv ≤ 2147483647) (hw1 : -2147483648 ≤ wh ∧ wh ≤ 2147483647) : gMl l yX5_odds wsX5_odds ({ frames := 4, cells := 0, slots := 0, locals := 117 }) D G [.ref h, .int (iI pp), .int (iI sv), .int (iI wh)] [oX5 h a tr lf, oX4 (a 1) ta cn, oX0 (a 2) la cn ul rw, cA G (la 1) 12 ex, cA G (la 3) 8 mi, cA G (la 4) 8 si, cA G (la 5) 8 un, cA G (la 6) 8 be, cA G (la 8) 8 ka] 0 0 (fun (r : Int64) (w : va_W) => r = (lI (R_odd cn E (ALn E cn.toNat) pp sv wh)) ∧ w = [oX5 h a tr lf, oX4 (a 1) ta cn, oX0 (a 2) la cn ul rw, cA G (la 1) 12 ex, cA G (la 3) 8 mi, cA G (la 4) 8 si, cA G (la 5) 8 un, cA G (la 6) 8 be, cA G (la 8) 8 ka]) := by
  refine g_start_l (cc := cX5_odds) (nL := 7) (own := RX5) (ret := some .long) (by decide +kernel) rfl rfl (Nat.le_of_ble_eq_true rfl) ?_
  intro p e s m below meth c A ls C hr hnm hw hl
  have hl : lv_has ls 7 [(0, .ref h), (1, .int (iI pp)), (2, .int (iI sv)), (3, .int (iI wh))] := hl
  have hlen := ALn_len E cn.toNat
  refine g_aload_n C hl 0 rfl rfl dX5_odds_0 ?_
  refine g_iload_n C hl 1 rfl rfl dX5_odds_1 ?_
  refine g_callVi C hw (wr := [oX0 (a 2) la cn ul rw, cA G (la 1) 12 ex, cA G (la 3) 8 mi, cA G (la 4) 8 si, cA G (la 5) 8 un, cA G (la 6) 8 be, cA G (la 8) 8 ka]) (As := [.int (iI pp)]) (rest := []) (m_X5_isPolynomial l D G (h := h) (a := a) (tr := tr) (lf := lf) (ta := ta) (cn := cn) (pp := pp) (by first | assumption | omega) (by first | assumption | omega)) (cwV 1 C.1.2.2.2.2 gX5_odds_X5_isPolynomial rfl rfl rfl (by decide +kernel) ⟨Nat.le_of_ble_eq_true rfl, Nat.le_of_ble_eq_true rfl⟩) [0, 1] [2, 3, 4, 5, 6, 7, 8] rfl rfl (by decide) (by decide) (by decide) 0 rfl rfl rfl hl.1 _ rfl (Nat.le_of_ble_eq_true rfl) dX5_odds_2 ⟨Nat.le_of_ble_eq_true rfl, Nat.le_of_ble_eq_true rfl⟩ ?_
  clear hw
  rintro _ _ H locs ⟨rfl, rfl⟩ hw
  have hw : gW D A s.heap [oX0 (a 2) la cn ul rw, cA G (la 1) 12 ex, cA G (la 3) 8 mi, cA G (la 4) 8 si, cA G (la 5) 8 un, cA G (la 6) 8 be, cA G (la 8) 8 ka, oX5 h a tr lf, oX4 (a 1) ta cn] H locs := hw
  refine g_ifb_eq C 24 dX5_odds_5 (by decide) (fun c_1 => ?_) (fun c_1 => ?_)
  · skip
    refine g_ldc2 C (-9223372036854775808) cn_X5_odds_111 (by decide +kernel) dX5_odds_24 ?_
    exact g_lret C hr (ws' := [oX5 h a tr lf, oX4 (a 1) ta cn, oX0 (a 2) la cn ul rw, cA G (la 1) 12 ex, cA G (la 3) 8 mi, cA G (la 4) 8 si, cA G (la 5) 8 un, cA G (la 6) 8 be, cA G (la 8) 8 ka]) hw [7, 8, 0, 1, 2, 3, 4, 5, 6] (by decide) rfl ⟨(congrArg lI (by unfold R_odd; rw [if_pos (by omega)])), rfl⟩ dX5_odds_27
  · skip
    refine g_iload_n C hl 2 rfl rfl dX5_odds_8 ?_
    refine g_iconst C dX5_odds_9 ?_
    refine g_callSi C hw (wr := [oX0 (a 2) la cn ul rw, cA G (la 1) 12 ex, cA G (la 3) 8 mi, cA G (la 4) 8 si, cA G (la 5) 8 un, cA G (la 6) 8 be, cA G (la 8) 8 ka, oX5 h a tr lf, oX4 (a 1) ta cn]) (As := [.int (iI sv), .int (iI 3)]) (rest := []) (m_X5_isBelow l D G (na := sv) (nb := 3) (by first | assumption | omega) (by first | assumption | omega)) (va_cwS 2 C.1.2.2.2.2 gX5_odds_X5_isBelow rfl rfl rfl (by decide +kernel) ⟨Nat.le_of_ble_eq_true rfl, Nat.le_of_ble_eq_true rfl⟩) [] [0, 1, 2, 3, 4, 5, 6, 7, 8] rfl rfl (by decide) (by decide) (by decide) rfl hl.1 _ rfl (Nat.le_of_ble_eq_true rfl) dX5_odds_10 ⟨Nat.le_of_ble_eq_true rfl, Nat.le_of_ble_eq_true rfl⟩ ?_
    clear hw
    rintro _ _ H locs ⟨rfl, rfl⟩ hw
    have hw : gW D A s.heap [oX0 (a 2) la cn ul rw, cA G (la 1) 12 ex, cA G (la 3) 8 mi, cA G (la 4) 8 si, cA G (la 5) 8 un, cA G (la 6) 8 be, cA G (la 8) 8 ka, oX5 h a tr lf, oX4 (a 1) ta cn] H locs := hw
    refine g_ifb_eq C 24 dX5_odds_13 (by decide) (fun c_2 => ?_) (fun c_2 => ?_)
    · skip
      refine g_ldc2 C (-9223372036854775808) cn_X5_odds_111 (by decide +kernel) dX5_odds_24 ?_
      exact g_lret C hr (ws' := [oX5 h a tr lf, oX4 (a 1) ta cn, oX0 (a 2) la cn ul rw, cA G (la 1) 12 ex, cA G (la 3) 8 mi, cA G (la 4) 8 si, cA G (la 5) 8 un, cA G (la 6) 8 be, cA G (la 8) 8 ka]) hw [7, 8, 0, 1, 2, 3, 4, 5, 6] (by decide) rfl ⟨(congrArg lI (by unfold R_odd; rw [if_pos (by omega)])), rfl⟩ dX5_odds_27
    · skip
      refine g_iload_n C hl 3 rfl rfl dX5_odds_16 ?_
      refine g_iconst C dX5_odds_17 ?_
      refine g_callSi C hw (wr := [oX0 (a 2) la cn ul rw, cA G (la 1) 12 ex, cA G (la 3) 8 mi, cA G (la 4) 8 si, cA G (la 5) 8 un, cA G (la 6) 8 be, cA G (la 8) 8 ka, oX5 h a tr lf, oX4 (a 1) ta cn]) (As := [.int (iI wh), .int (iI 2)]) (rest := []) (m_X5_isBelow l D G (na := wh) (nb := 2) (by first | assumption | omega) (by first | assumption | omega)) (va_cwS 2 C.1.2.2.2.2 gX5_odds_X5_isBelow rfl rfl rfl (by decide +kernel) ⟨Nat.le_of_ble_eq_true rfl, Nat.le_of_ble_eq_true rfl⟩) [] [0, 1, 2, 3, 4, 5, 6, 7, 8] rfl rfl (by decide) (by decide) (by decide) rfl hl.1 _ rfl (Nat.le_of_ble_eq_true rfl) dX5_odds_18 ⟨Nat.le_of_ble_eq_true rfl, Nat.le_of_ble_eq_true rfl⟩ ?_
      clear hw
      rintro _ _ H locs ⟨rfl, rfl⟩ hw
      have hw : gW D A s.heap [oX0 (a 2) la cn ul rw, cA G (la 1) 12 ex, cA G (la 3) 8 mi, cA G (la 4) 8 si, cA G (la 5) 8 un, cA G (la 6) 8 be, cA G (la 8) 8 ka, oX5 h a tr lf, oX4 (a 1) ta cn] H locs := hw
      refine g_ifb_ne C 28 dX5_odds_21 (by decide) (fun c_3 => ?_) (fun c_3 => ?_)
      · skip
        refine g_aload_n C hl 0 rfl rfl dX5_odds_28 ?_
        refine g_get C hw hin_X5_odds_X5 7 rfl rfl 2 (by decide) lk_X5_odds_27 rfl dX5_odds_29 ?_
        refine g_callVi C hw (wr := [cA G (la 1) 12 ex, cA G (la 3) 8 mi, cA G (la 4) 8 si, cA G (la 5) 8 un, cA G (la 6) 8 be, cA G (la 8) 8 ka, oX5 h a tr lf, oX4 (a 1) ta cn]) (As := []) (rest := []) (m_X0_spots l D G (h := (a 2)) (a := la) (cn := cn) (ul := ul) (rw := rw) ) (cwV 0 C.1.2.2.2.2 gX5_odds_X0_spots rfl rfl rfl (by decide +kernel) ⟨Nat.le_of_ble_eq_true rfl, Nat.le_of_ble_eq_true rfl⟩) [0] [1, 2, 3, 4, 5, 6, 7, 8] rfl rfl (by decide) (by decide) (by decide) 0 rfl rfl rfl hl.1 _ rfl (Nat.le_of_ble_eq_true rfl) dX5_odds_32 ⟨Nat.le_of_ble_eq_true rfl, Nat.le_of_ble_eq_true rfl⟩ ?_
        clear hw
        rintro _ _ H locs ⟨rfl, rfl⟩ hw
        have hw : gW D A s.heap [cA G (la 1) 12 ex, cA G (la 3) 8 mi, cA G (la 4) 8 si, cA G (la 5) 8 un, cA G (la 6) 8 be, cA G (la 8) 8 ka, oX5 h a tr lf, oX4 (a 1) ta cn, oX0 (a 2) la cn ul rw] H locs := hw
        refine g_istore C [(4, .int (iI ((2 * ul + 1)))), (0, .ref h), (1, .int (iI pp)), (2, .int (iI sv)), (3, .int (iI wh))] dX5_odds_35 hl (by decide) rfl ?_
        clear hl
        intro ls hl
        refine g_iconst C dX5_odds_37 ?_
        refine g_istore C [(5, .int (iI 0)), (4, .int (iI ((2 * ul + 1)))), (0, .ref h), (1, .int (iI pp)), (2, .int (iI sv)), (3, .int (iI wh))] dX5_odds_38 hl (by decide) rfl ?_
        clear hl
        intro ls hl
        refine g_iconst C dX5_odds_40 ?_
        refine g_istore C [(6, .int (iI 0)), (5, .int (iI 0)), (4, .int (iI ((2 * ul + 1)))), (0, .ref h), (1, .int (iI pp)), (2, .int (iI sv)), (3, .int (iI wh))] dX5_odds_41 hl (by decide) rfl ?_
        clear hl
        intro ls hl
        refine g_loop (σ := (Int) × (Int)) (fun z_ => [cA G (la 1) 12 ex, cA G (la 3) 8 mi, cA G (la 4) 8 si, cA G (la 5) 8 un, cA G (la 6) 8 be, cA G (la 8) 8 ka, oX5 h a tr lf, oX4 (a 1) ta cn, oX0 (a 2) la cn ul rw]) (fun z_ => [(6, .int (iI (z_.2))), (5, .int (iI (z_.1))), (4, .int (iI ((2 * ul + 1)))), (0, .ref h), (1, .int (iI pp)), (2, .int (iI sv)), (3, .int (iI wh))]) (fun z_ => (0 ≤ z_.2 ∧ z_.2 ≤ 2 * ul + 1) ∧ (z_.1 = cnF (fun k => sSp E (ALn E cn.toNat) k pp + 1 == sv) z_.2.toNat)) (fun z_ => (2 * ul + 1 - z_.2).toNat) (0, 0) ⟨by (try dsimp only); omega, by (try dsimp only); rfl⟩ hw (lv_sub hl [0, 1, 2, 3, 4, 5, 6] rfl) ?_
        clear hw hl
        rintro ⟨mn, kk⟩ ⟨hkk, hmn⟩ H locs ls hw hl ih_4
        replace hkk : 0 ≤ kk ∧ kk ≤ 2 * ul + 1 := hkk
        replace hmn : mn = cnF (fun k => sSp E (ALn E cn.toNat) k pp + 1 == sv) kk.toNat := hmn
        replace hw : gW D A s.heap [cA G (la 1) 12 ex, cA G (la 3) 8 mi, cA G (la 4) 8 si, cA G (la 5) 8 un, cA G (la 6) 8 be, cA G (la 8) 8 ka, oX5 h a tr lf, oX4 (a 1) ta cn, oX0 (a 2) la cn ul rw] H locs := hw
        replace hl : lv_has ls 7 [(6, .int (iI kk)), (5, .int (iI mn)), (4, .int (iI ((2 * ul + 1)))), (0, .ref h), (1, .int (iI pp)), (2, .int (iI sv)), (3, .int (iI wh))] := hl
        replace ih_4 : ∀ (mn' : Int) (kk' : Int), ((0 ≤ kk' ∧ kk' ≤ 2 * ul + 1) ∧ (mn' = cnF (fun k => sSp E (ALn E cn.toNat) k pp + 1 == sv) kk'.toNat)) → ((2 * ul + 1 - kk').toNat) < ((2 * ul + 1 - kk).toNat) → ∀ (H : Heap) (locs : List Loc) (ls : Array Slot), gW D A s.heap [cA G (la 1) 12 ex, cA G (la 3) 8 mi, cA G (la 4) 8 si, cA G (la 5) 8 un, cA G (la 6) 8 be, cA G (la 8) 8 ka, oX5 h a tr lf, oX4 (a 1) ta cn, oX0 (a 2) la cn ul rw] H locs → lv_has ls 7 [(6, .int (iI (kk'))), (5, .int (iI (mn'))), (4, .int (iI ((2 * ul + 1)))), (0, .ref h), (1, .int (iI pp)), (2, .int (iI sv)), (3, .int (iI wh))] → W p l e _ s m _ below meth c H locs _ _ _ (F0 m 43 ls []) := fun mn' kk' => ih_4 (mn', kk')
        have hcn9 := cnF_r (fun k => sSp E (ALn E cn.toNat) k pp + 1 == sv) kk.toNat
        have hsb := sSp_r E (ALn E cn.toNat) kk pp
        refine g_iload C hl 0 rfl dX5_odds_43 ?_
        refine g_iload C hl 2 rfl dX5_odds_45 ?_
        refine g_icmp_ge C 75 dX5_odds_47 (by decide) (by omega) (by omega) (fun c_5 => ?_) (fun c_5 => ?_)
        · skip
          have hke : kk.toNat = 2 * (ALn E cn.toNat).length + 1 := by omega
          rw [hke] at hmn
          have hcn2 := cnF_r (fun k => sSp E (ALn E cn.toNat) k pp + 1 == sv) (2 * (ALn E cn.toNat).length + 1)
          obtain ⟨g1, g2, g3, g4, g5⟩ := gcd_p (u := mn) (l := 2 * ul + 1) (by omega) (by omega)
          have hdv := Int.ediv_nonneg (a := mn) (b := (Nat.gcd mn.toNat (2 * ul + 1).toNat : Int)) (by omega) (by omega)
          have hdv2 := Int.ediv_le_self (a := mn) (Nat.gcd mn.toNat (2 * ul + 1).toNat : Int) (by omega)
          have hdw := Int.ediv_nonneg (a := 2 * ul + 1) (b := (Nat.gcd mn.toNat (2 * ul + 1).toNat : Int)) (by omega) (by omega)
          have hdw2 := Int.ediv_le_self (a := 2 * ul + 1) (Nat.gcd mn.toNat (2 * ul + 1).toNat : Int) (by omega)
          refine g_iload C hl 1 rfl dX5_odds_75 ?_
          refine g_iload C hl 2 rfl dX5_odds_77 ?_
          refine g_callSi C hw (wr := [cA G (la 1) 12 ex, cA G (la 3) 8 mi, cA G (la 4) 8 si, cA G (la 5) 8 un, cA G (la 6) 8 be, cA G (la 8) 8 ka, oX5 h a tr lf, oX4 (a 1) ta cn, oX0 (a 2) la cn ul rw]) (As := [.int (iI mn), .int (iI ((2 * ul + 1)))]) (rest := []) (m_X5_commonDivisor l D G (uu := mn) (dd := (2 * ul + 1)) (by first | assumption | omega) (by first | assumption | omega)) (va_cwS 2 C.1.2.2.2.2 gX5_odds_X5_commonDivisor rfl rfl rfl (by decide +kernel) ⟨Nat.le_of_ble_eq_true rfl, Nat.le_of_ble_eq_true rfl⟩) [] [0, 1, 2, 3, 4, 5, 6, 7, 8] rfl rfl (by decide) (by decide) (by decide) rfl hl.1 _ rfl (Nat.le_of_ble_eq_true rfl) dX5_odds_79 ⟨Nat.le_of_ble_eq_true rfl, Nat.le_of_ble_eq_true rfl⟩ ?_
          clear hw
          rintro _ _ H locs ⟨rfl, rfl⟩ hw
          have hw : gW D A s.heap [cA G (la 1) 12 ex, cA G (la 3) 8 mi, cA G (la 4) 8 si, cA G (la 5) 8 un, cA G (la 6) 8 be, cA G (la 8) 8 ka, oX5 h a tr lf, oX4 (a 1) ta cn, oX0 (a 2) la cn ul rw] H locs := hw
          refine g_istore C [(6, .int (iI ((Nat.gcd mn.toNat (2 * ul + 1).toNat : Int)))), (5, .int (iI mn)), (4, .int (iI ((2 * ul + 1)))), (0, .ref h), (1, .int (iI pp)), (2, .int (iI sv)), (3, .int (iI wh))] dX5_odds_82 hl (by decide) rfl ?_
          clear hl
          intro ls hl
          refine g_iload_n C hl 6 rfl rfl dX5_odds_84 ?_
          refine g_if_ne C 97 dX5_odds_85 (by decide) (by omega) (fun c_6 => ?_) (fun c_6 => ?_)
          · skip
            refine g_iload C hl 2 rfl dX5_odds_97 ?_
            refine g_iload C hl 0 rfl dX5_odds_99 ?_
            refine g_idiv C dX5_odds_101 (by omega) (by omega) ?_
            refine g_nI (show ((2 * ul + 1).tdiv (Nat.gcd mn.toNat (2 * ul + 1).toNat : Int) : Int) = (2 * ul + 1) / (Nat.gcd mn.toNat (2 * ul + 1).toNat : Int) by exact Int.tdiv_eq_ediv_of_nonneg (by omega)) ?_
            refine g_i2l C dX5_odds_102 (by omega) ?_
            exact g_lret C hr (ws' := [oX5 h a tr lf, oX4 (a 1) ta cn, oX0 (a 2) la cn ul rw, cA G (la 1) 12 ex, cA G (la 3) 8 mi, cA G (la 4) 8 si, cA G (la 5) 8 un, cA G (la 6) 8 be, cA G (la 8) 8 ka]) hw [6, 7, 8, 0, 1, 2, 3, 4, 5] (by decide) rfl ⟨(congrArg lI (by unfold R_odd R_shr; rw [if_neg (by omega), ← hmn, ← hul]; first | (rw [if_pos (by omega)]; done) | (rw [if_neg (by omega)]; done))), rfl⟩ dX5_odds_103
          · skip
            refine g_iload C hl 1 rfl dX5_odds_88 ?_
            refine g_iload C hl 0 rfl dX5_odds_90 ?_
            refine g_idiv C dX5_odds_92 (by omega) (by omega) ?_
            refine g_nI (show (mn.tdiv (Nat.gcd mn.toNat (2 * ul + 1).toNat : Int) : Int) = mn / (Nat.gcd mn.toNat (2 * ul + 1).toNat : Int) by exact Int.tdiv_eq_ediv_of_nonneg (by omega)) ?_
            refine g_i2l C dX5_odds_93 (by omega) ?_
            refine g_goto C 103 dX5_odds_94 (by decide) ?_
            exact g_lret C hr (ws' := [oX5 h a tr lf, oX4 (a 1) ta cn, oX0 (a 2) la cn ul rw, cA G (la 1) 12 ex, cA G (la 3) 8 mi, cA G (la 4) 8 si, cA G (la 5) 8 un, cA G (la 6) 8 be, cA G (la 8) 8 ka]) hw [6, 7, 8, 0, 1, 2, 3, 4, 5] (by decide) rfl ⟨(congrArg lI (by unfold R_odd R_shr; rw [if_neg (by omega), ← hmn, ← hul]; first | (rw [if_pos (by omega)]; done) | (rw [if_neg (by omega)]; done))), rfl⟩ dX5_odds_103
        · skip
          refine g_aload_n C hl 3 rfl rfl dX5_odds_50 ?_
          refine g_get C hw hin_X5_odds_X5 6 rfl rfl 2 (by decide) lk_X5_odds_27 rfl dX5_odds_51 ?_
          refine g_iload C hl 0 rfl dX5_odds_54 ?_
          refine g_iload_n C hl 4 rfl rfl dX5_odds_56 ?_
          refine g_callVi C hw (wr := [oX5 h a tr lf, oX4 (a 1) ta cn]) (As := [.int (iI kk), .int (iI pp)]) (rest := []) (m_X0_signInSpot l D G (h := (a 2)) (a := la) (cn := cn) (ul := ul) (rw := rw) (ex := ex) (mi := mi) (si := si) (un := un) (be := be) (ka := ka) (E := E) (kk := kk) (qq := pp) (by first | assumption | omega) (by first | assumption | omega) (by first | assumption | omega) (by first | assumption | omega) (by first | assumption | omega) (by first | assumption | omega) (by first | assumption | omega) (by first | assumption | omega)) (cwV 2 C.1.2.2.2.2 gX5_odds_X0_signInSpot rfl rfl rfl (by decide +kernel) ⟨Nat.le_of_ble_eq_true rfl, Nat.le_of_ble_eq_true rfl⟩) [8, 0, 1, 2, 3, 4, 5] [6, 7] rfl rfl (by decide) (by decide) (by decide) 0 rfl rfl rfl hl.1 _ rfl (Nat.le_of_ble_eq_true rfl) dX5_odds_57 ⟨Nat.le_of_ble_eq_true rfl, Nat.le_of_ble_eq_true rfl⟩ ?_
          clear hw
          rintro _ _ H locs ⟨rfl, rfl⟩ hw
          have hw : gW D A s.heap [oX5 h a tr lf, oX4 (a 1) ta cn, oX0 (a 2) la cn ul rw, cA G (la 1) 12 ex, cA G (la 3) 8 mi, cA G (la 4) 8 si, cA G (la 5) 8 un, cA G (la 6) 8 be, cA G (la 8) 8 ka] H locs := hw
          refine g_iconst C dX5_odds_60 ?_
          refine g_iadd C dX5_odds_61 ?_
          refine g_iload_n C hl 5 rfl rfl dX5_odds_62 ?_
          refine g_icmp_ne C 69 dX5_odds_63 (by decide) (by omega) (by omega) (fun c_7 => ?_) (fun c_7 => ?_)
          · skip
            refine g_iinc C [(6, .int (iI (kk + 1))), (5, .int (iI mn)), (4, .int (iI ((2 * ul + 1)))), (0, .ref h), (1, .int (iI pp)), (2, .int (iI sv)), (3, .int (iI wh))] 0 dX5_odds_69 hl rfl (by decide) rfl ?_
            clear hl
            intro ls hl
            refine g_goto C 43 dX5_odds_72 (by decide) ?_
            have hw : gW D A s.heap [cA G (la 1) 12 ex, cA G (la 3) 8 mi, cA G (la 4) 8 si, cA G (la 5) 8 un, cA G (la 6) 8 be, cA G (la 8) 8 ka, oX5 h a tr lf, oX4 (a 1) ta cn, oX0 (a 2) la cn ul rw] H locs := g_perm hw [3, 4, 5, 6, 7, 8, 0, 1, 2] (by decide) rfl
            exact ih_4 mn (kk + 1) ⟨by omega, by rw [cnF_s hkk.1, hmn]; first | (rw [if_pos (by simp; omega)]; done) | (rw [if_neg (by simp; omega)]; omega)⟩ (by omega) H locs ls hw (lv_sub hl [0, 1, 2, 3, 4, 5, 6] rfl)
          · skip
            refine g_iinc C [(5, .int (iI (mn + 1))), (6, .int (iI kk)), (4, .int (iI ((2 * ul + 1)))), (0, .ref h), (1, .int (iI pp)), (2, .int (iI sv)), (3, .int (iI wh))] 1 dX5_odds_66 hl rfl (by decide) rfl ?_
            clear hl
            intro ls hl
            refine g_iinc C [(6, .int (iI (kk + 1))), (5, .int (iI (mn + 1))), (4, .int (iI ((2 * ul + 1)))), (0, .ref h), (1, .int (iI pp)), (2, .int (iI sv)), (3, .int (iI wh))] 1 dX5_odds_69 hl rfl (by decide) rfl ?_
            clear hl
            intro ls hl
            refine g_goto C 43 dX5_odds_72 (by decide) ?_
            have hw : gW D A s.heap [cA G (la 1) 12 ex, cA G (la 3) 8 mi, cA G (la 4) 8 si, cA G (la 5) 8 un, cA G (la 6) 8 be, cA G (la 8) 8 ka, oX5 h a tr lf, oX4 (a 1) ta cn, oX0 (a 2) la cn ul rw] H locs := g_perm hw [3, 4, 5, 6, 7, 8, 0, 1, 2] (by decide) rfl
            exact ih_4 (mn + 1) (kk + 1) ⟨by omega, by rw [cnF_s hkk.1, hmn]; first | (rw [if_pos (by simp; omega)]; done) | (rw [if_neg (by simp; omega)]; omega)⟩ (by omega) H locs ls hw (lv_sub hl [0, 1, 2, 3, 4, 5, 6] rfl)
      · skip
        refine g_ldc2 C (-9223372036854775808) cn_X5_odds_111 (by decide +kernel) dX5_odds_24 ?_
        exact g_lret C hr (ws' := [oX5 h a tr lf, oX4 (a 1) ta cn, oX0 (a 2) la cn ul rw, cA G (la 1) 12 ex, cA G (la 3) 8 mi, cA G (la 4) 8 si, cA G (la 5) 8 un, cA G (la 6) 8 be, cA G (la 8) 8 ka]) hw [7, 8, 0, 1, 2, 3, 4, 5, 6] (by decide) rfl ⟨(congrArg lI (by unfold R_odd; rw [if_pos (by omega)])), rfl⟩ dX5_odds_27

set_option maxRecDepth 20000 in
theorem hin_X5_plainBody_X5 : ∀ w ∈ u_ws RX5 TX5 9, w ∈ wsX5_plainBody := by
  intro w h
  exact List.mem_cons_of_mem _ (List.mem_append_left _ (List.mem_append_right _ (h)))
set_option maxRecDepth 20000 in
theorem lk_X5_plainBody_27 : Cond.fieldLink RX5 27 (TX5 2).1 (TX5 2).2.1 (TX5 2).2.2.1 ∈ wsX5_plainBody := List.mem_cons_of_mem _ (List.mem_append_left _ (List.mem_append_left _ (List.mem_of_getElem? (i := 0) rfl)))
set_option maxRecDepth 20000 in
theorem hin_X5_plainBody_X0 : ∀ w ∈ u_ws RX0 TX0 14, w ∈ wsX5_plainBody := by
  intro w h
  exact List.mem_cons_of_mem _ (List.mem_append_right _ (h))
set_option maxRecDepth 20000 in
theorem lk_X5_plainBody_99 : Cond.fieldLink RX5 99 (TX0 2).1 (TX0 2).2.1 (TX0 2).2.2.1 ∈ wsX5_plainBody := List.mem_cons_of_mem _ (List.mem_append_left _ (List.mem_append_left _ (List.mem_of_getElem? (i := 1) rfl)))
set_option maxRecDepth 100000 in
set_option maxHeartbeats 8000000 in
theorem m_X5_plainBody (l : Launch) (D : va_G) (G : gT) (h : Nat) (a : Nat → Nat) (tr : Int) (lf : Int) (cn : Int) (la : Nat → Nat) (ul : Int) (rw : Int) (rt : Int → Int) (E : Int → Int → Int) (pp : Int) (hcn : 0 ≤ cn ∧ cn ≤ 4) (hT : LnT E cn rt) (hp : 0 ≤ pp ∧ pp < cn) : gMi l yX5_plainBody wsX5_plainBody ({ frames := 1, cells := 0, slots := 0, locals := 21 }) D G [.ref h, .int (iI pp)] [oX5 h a tr lf, oX0 (a 2) la cn ul rw, cA G (la 2) 4 rt] 0 0 (fun (r : Int32) (w : va_W) => r = (iI (nR E pp)) ∧ w = [oX5 h a (31 * tr + 1) lf, oX0 (a 2) la cn ul rw, cA G (la 2) 4 rt]) := by
  refine g_start_i (cc := cX5_plainBody) (nL := 2) (own := RX5) (ret := some .int) (by decide +kernel) rfl rfl (Nat.le_of_ble_eq_true rfl) ?_
  intro p e s m below meth c A ls C hr hnm hw hl
  have hl : lv_has ls 2 [(0, .ref h), (1, .int (iI pp))] := hl
  have ht9 := hT pp hp.1 hp.2
  refine g_aload_n C hl 0 rfl rfl dX5_plainBody_0 ?_
  refine g_iconst C dX5_plainBody_1 ?_
  refine g_callVv C hw (wr := [oX0 (a 2) la cn ul rw, cA G (la 2) 4 rt]) (As := [.int (iI 1)]) (rest := []) (m_X5_leaveInTrace l D G (h := h) (a := a) (tr := tr) (lf := lf) (nn := 1) ) (cwV 1 C.1.2.2.2.2 gX5_plainBody_X5_leaveInTrace rfl rfl rfl (by decide +kernel) ⟨Nat.le_of_ble_eq_true rfl, Nat.le_of_ble_eq_true rfl⟩) [0] [1, 2] rfl rfl (by decide) (by decide) (by decide) 0 rfl rfl rfl hl.1 _ rfl (Nat.le_of_ble_eq_true rfl) dX5_plainBody_2 ⟨Nat.le_of_ble_eq_true rfl, Nat.le_of_ble_eq_true rfl⟩ ?_
  clear hw
  rintro _ H locs rfl hw
  have hw : gW D A s.heap [oX0 (a 2) la cn ul rw, cA G (la 2) 4 rt, oX5 h a (31 * tr + 1) lf] H locs := hw
  refine g_aload_n C hl 0 rfl rfl dX5_plainBody_5 ?_
  refine g_get C hw hin_X5_plainBody_X5 2 rfl rfl 2 (by decide) lk_X5_plainBody_27 rfl dX5_plainBody_6 ?_
  refine g_get C hw hin_X5_plainBody_X0 0 rfl rfl 2 (by decide) lk_X5_plainBody_99 rfl dX5_plainBody_9 ?_
  refine g_iload_n C hl 1 rfl rfl dX5_plainBody_12 ?_
  refine g_iald C hw 1 rfl (by omega) (Nat.le_of_ble_eq_true rfl) dX5_plainBody_13 ?_
  exact g_iret C hr (ws' := [oX5 h a (31 * tr + 1) lf, oX0 (a 2) la cn ul rw, cA G (la 2) 4 rt]) hw [2, 0, 1] (by decide) rfl ⟨(congrArg iI (by omega)), rfl⟩ dX5_plainBody_14

set_option maxRecDepth 100000 in
set_option maxHeartbeats 8000000 in
theorem m_X5_mirroredBody (l : Launch) (D : va_G) (G : gT) (h : Nat) (a : Nat → Nat) (tr : Int) (lf : Int) (cn : Int) (la : Nat → Nat) (ul : Int) (rw : Int) (rt : Int → Int) (E : Int → Int → Int) (pp : Int) (hcn : 0 ≤ cn ∧ cn ≤ 4) (hT : LnT E cn rt) (hp : 0 ≤ pp ∧ pp < cn) : gMi l yX5_mirroredBody wsX5_mirroredBody ({ frames := 2, cells := 0, slots := 0, locals := 42 }) D G [.ref h, .int (iI pp)] [oX5 h a tr lf, oX0 (a 2) la cn ul rw, cA G (la 2) 4 rt] 0 0 (fun (r : Int32) (w : va_W) => r = (iI (nR E pp + 100)) ∧ w = [oX5 h a (31 * (31 * tr + 2) + 1) lf, oX0 (a 2) la cn ul rw, cA G (la 2) 4 rt]) := by
  refine g_start_i (cc := cX5_mirroredBody) (nL := 2) (own := RX5) (ret := some .int) (by decide +kernel) rfl rfl (Nat.le_of_ble_eq_true rfl) ?_
  intro p e s m below meth c A ls C hr hnm hw hl
  have hl : lv_has ls 2 [(0, .ref h), (1, .int (iI pp))] := hl
  have hnr := nR_r E pp
  refine g_aload_n C hl 0 rfl rfl dX5_mirroredBody_0 ?_
  refine g_iconst C dX5_mirroredBody_1 ?_
  refine g_callVv C hw (wr := [oX0 (a 2) la cn ul rw, cA G (la 2) 4 rt]) (As := [.int (iI 2)]) (rest := []) (m_X5_leaveInTrace l D G (h := h) (a := a) (tr := tr) (lf := lf) (nn := 2) ) (cwV 1 C.1.2.2.2.2 gX5_mirroredBody_X5_leaveInTrace rfl rfl rfl (by decide +kernel) ⟨Nat.le_of_ble_eq_true rfl, Nat.le_of_ble_eq_true rfl⟩) [0] [1, 2] rfl rfl (by decide) (by decide) (by decide) 0 rfl rfl rfl hl.1 _ rfl (Nat.le_of_ble_eq_true rfl) dX5_mirroredBody_2 ⟨Nat.le_of_ble_eq_true rfl, Nat.le_of_ble_eq_true rfl⟩ ?_
  clear hw
  rintro _ H locs rfl hw
  have hw : gW D A s.heap [oX0 (a 2) la cn ul rw, cA G (la 2) 4 rt, oX5 h a (31 * tr + 2) lf] H locs := hw
  refine g_aload_n C hl 0 rfl rfl dX5_mirroredBody_5 ?_
  refine g_iload_n C hl 1 rfl rfl dX5_mirroredBody_6 ?_
  refine g_callVi C hw (wr := []) (As := [.int (iI pp)]) (rest := []) (m_X5_plainBody l D G (h := h) (a := a) (tr := (31 * tr + 2)) (lf := lf) (cn := cn) (la := la) (ul := ul) (rw := rw) (rt := rt) (E := E) (pp := pp) (by first | assumption | omega) (by first | assumption | omega) (by first | assumption | omega)) (cwV 1 C.1.2.2.2.2 gX5_mirroredBody_X5_plainBody rfl rfl rfl (by decide +kernel) ⟨Nat.le_of_ble_eq_true rfl, Nat.le_of_ble_eq_true rfl⟩) [2, 0, 1] [] rfl rfl (by decide) (by decide) (by decide) 0 rfl rfl rfl hl.1 _ rfl (Nat.le_of_ble_eq_true rfl) dX5_mirroredBody_7 ⟨Nat.le_of_ble_eq_true rfl, Nat.le_of_ble_eq_true rfl⟩ ?_
  clear hw
  rintro _ _ H locs ⟨rfl, rfl⟩ hw
  have hw : gW D A s.heap [oX5 h a (31 * (31 * tr + 2) + 1) lf, oX0 (a 2) la cn ul rw, cA G (la 2) 4 rt] H locs := hw
  refine g_bipush C dX5_mirroredBody_10 (by decide) ?_
  refine g_iadd C dX5_mirroredBody_12 ?_
  exact g_iret C hr (ws' := [oX5 h a (31 * (31 * tr + 2) + 1) lf, oX0 (a 2) la cn ul rw, cA G (la 2) 4 rt]) hw [0, 1, 2] (by decide) rfl ⟨(congrArg iI (by omega)), rfl⟩ dX5_mirroredBody_13

set_option maxRecDepth 100000 in
set_option maxHeartbeats 8000000 in
theorem m_X5_shiftedBody (l : Launch) (D : va_G) (G : gT) (h : Nat) (a : Nat → Nat) (tr : Int) (lf : Int) (cn : Int) (la : Nat → Nat) (ul : Int) (rw : Int) (rt : Int → Int) (E : Int → Int → Int) (pp : Int) (hcn : 0 ≤ cn ∧ cn ≤ 4) (hT : LnT E cn rt) (hp : 0 ≤ pp ∧ pp < cn) : gMi l yX5_shiftedBody wsX5_shiftedBody ({ frames := 3, cells := 0, slots := 0, locals := 63 }) D G [.ref h, .int (iI pp)] [oX5 h a tr lf, oX0 (a 2) la cn ul rw, cA G (la 2) 4 rt] 0 0 (fun (r : Int32) (w : va_W) => r = (iI (2 * nR E pp + 100)) ∧ w = [oX5 h a (31 * (31 * (31 * (31 * tr + 3) + 2) + 1) + 1) lf, oX0 (a 2) la cn ul rw, cA G (la 2) 4 rt]) := by
  refine g_start_i (cc := cX5_shiftedBody) (nL := 4) (own := RX5) (ret := some .int) (by decide +kernel) rfl rfl (Nat.le_of_ble_eq_true rfl) ?_
  intro p e s m below meth c A ls C hr hnm hw hl
  have hl : lv_has ls 4 [(0, .ref h), (1, .int (iI pp))] := hl
  have hnr := nR_r E pp
  refine g_aload_n C hl 0 rfl rfl dX5_shiftedBody_0 ?_
  refine g_iconst C dX5_shiftedBody_1 ?_
  refine g_callVv C hw (wr := [oX0 (a 2) la cn ul rw, cA G (la 2) 4 rt]) (As := [.int (iI 3)]) (rest := []) (m_X5_leaveInTrace l D G (h := h) (a := a) (tr := tr) (lf := lf) (nn := 3) ) (cwV 1 C.1.2.2.2.2 gX5_shiftedBody_X5_leaveInTrace rfl rfl rfl (by decide +kernel) ⟨Nat.le_of_ble_eq_true rfl, Nat.le_of_ble_eq_true rfl⟩) [0] [1, 2] rfl rfl (by decide) (by decide) (by decide) 0 rfl rfl rfl hl.1 _ rfl (Nat.le_of_ble_eq_true rfl) dX5_shiftedBody_2 ⟨Nat.le_of_ble_eq_true rfl, Nat.le_of_ble_eq_true rfl⟩ ?_
  clear hw
  rintro _ H locs rfl hw
  have hw : gW D A s.heap [oX0 (a 2) la cn ul rw, cA G (la 2) 4 rt, oX5 h a (31 * tr + 3) lf] H locs := hw
  refine g_aload_n C hl 0 rfl rfl dX5_shiftedBody_5 ?_
  refine g_iload_n C hl 1 rfl rfl dX5_shiftedBody_6 ?_
  refine g_callVi C hw (wr := []) (As := [.int (iI pp)]) (rest := []) (m_X5_mirroredBody l D G (h := h) (a := a) (tr := (31 * tr + 3)) (lf := lf) (cn := cn) (la := la) (ul := ul) (rw := rw) (rt := rt) (E := E) (pp := pp) (by first | assumption | omega) (by first | assumption | omega) (by first | assumption | omega)) (cwV 1 C.1.2.2.2.2 gX5_shiftedBody_X5_mirroredBody rfl rfl rfl (by decide +kernel) ⟨Nat.le_of_ble_eq_true rfl, Nat.le_of_ble_eq_true rfl⟩) [2, 0, 1] [] rfl rfl (by decide) (by decide) (by decide) 0 rfl rfl rfl hl.1 _ rfl (Nat.le_of_ble_eq_true rfl) dX5_shiftedBody_7 ⟨Nat.le_of_ble_eq_true rfl, Nat.le_of_ble_eq_true rfl⟩ ?_
  clear hw
  rintro _ _ H locs ⟨rfl, rfl⟩ hw
  have hw : gW D A s.heap [oX5 h a (31 * (31 * (31 * tr + 3) + 2) + 1) lf, oX0 (a 2) la cn ul rw, cA G (la 2) 4 rt] H locs := hw
  refine g_istore_n C [(2, .int (iI ((nR E pp + 100)))), (0, .ref h), (1, .int (iI pp))] dX5_shiftedBody_10 rfl hl (by decide) rfl ?_
  clear hl
  intro ls hl
  refine g_aload_n C hl 1 rfl rfl dX5_shiftedBody_11 ?_
  refine g_iload_n C hl 2 rfl rfl dX5_shiftedBody_12 ?_
  refine g_callVi C hw (wr := []) (As := [.int (iI pp)]) (rest := []) (m_X5_plainBody l D G (h := h) (a := a) (tr := (31 * (31 * (31 * tr + 3) + 2) + 1)) (lf := lf) (cn := cn) (la := la) (ul := ul) (rw := rw) (rt := rt) (E := E) (pp := pp) (by first | assumption | omega) (by first | assumption | omega) (by first | assumption | omega)) (cwV 1 C.1.2.2.2.2 gX5_shiftedBody_X5_plainBody rfl rfl rfl (by decide +kernel) ⟨Nat.le_of_ble_eq_true rfl, Nat.le_of_ble_eq_true rfl⟩) [0, 1, 2] [] rfl rfl (by decide) (by decide) (by decide) 0 rfl rfl rfl hl.1 _ rfl (Nat.le_of_ble_eq_true rfl) dX5_shiftedBody_13 ⟨Nat.le_of_ble_eq_true rfl, Nat.le_of_ble_eq_true rfl⟩ ?_
  clear hw
  rintro _ _ H locs ⟨rfl, rfl⟩ hw
  have hw : gW D A s.heap [oX5 h a (31 * (31 * (31 * (31 * tr + 3) + 2) + 1) + 1) lf, oX0 (a 2) la cn ul rw, cA G (la 2) 4 rt] H locs := hw
  refine g_istore_n C [(3, .int (iI ((nR E pp)))), (2, .int (iI ((nR E pp + 100)))), (0, .ref h), (1, .int (iI pp))] dX5_shiftedBody_16 rfl hl (by decide) rfl ?_
  clear hl
  intro ls hl
  refine g_iload_n C hl 1 rfl rfl dX5_shiftedBody_17 ?_
  refine g_iload_n C hl 0 rfl rfl dX5_shiftedBody_18 ?_
  refine g_iadd C dX5_shiftedBody_19 ?_
  exact g_iret C hr (ws' := [oX5 h a (31 * (31 * (31 * (31 * tr + 3) + 2) + 1) + 1) lf, oX0 (a 2) la cn ul rw, cA G (la 2) 4 rt]) hw [0, 1, 2] (by decide) rfl ⟨(congrArg iI (by omega)), rfl⟩ dX5_shiftedBody_20

set_option maxRecDepth 20000 in
theorem hin_X5_tell_X5 : ∀ w ∈ u_ws RX5 TX5 9, w ∈ wsX5_tell := by
  intro w h
  exact List.mem_cons_of_mem _ (List.mem_append_left _ (List.mem_append_left _ (List.mem_append_right _ (h))))
set_option maxRecDepth 20000 in
theorem lk_X5_tell_20 : Cond.fieldLink RX5 20 (TX5 1).1 (TX5 1).2.1 (TX5 1).2.2.1 ∈ wsX5_tell := List.mem_cons_of_mem _ (List.mem_append_left _ (List.mem_append_left _ (List.mem_append_left _ (List.mem_append_left _ (List.mem_of_getElem? (i := 0) rfl)))))
set_option maxRecDepth 20000 in
theorem hin_X5_tell_X4 : ∀ w ∈ u_ws RX4 TX4 3, w ∈ wsX5_tell := by
  intro w h
  exact List.mem_cons_of_mem _ (List.mem_append_left _ (List.mem_append_right _ (h)))
set_option maxRecDepth 20000 in
theorem lk_X5_tell_96 : Cond.fieldLink RX5 96 (TX4 1).1 (TX4 1).2.1 (TX4 1).2.2.1 ∈ wsX5_tell := List.mem_cons_of_mem _ (List.mem_append_left _ (List.mem_append_left _ (List.mem_append_left _ (List.mem_append_left _ (List.mem_of_getElem? (i := 1) rfl)))))
set_option maxRecDepth 100000 in
set_option maxHeartbeats 8000000 in
theorem m_X5_tell (l : Launch) (D : va_G) (G : gT) (h : Nat) (a : Nat → Nat) (tr : Int) (lf : Int) (ta : Nat → Nat) (cn : Int) (kd : Int → Int) (nu : Int → Int) (la : Nat → Nat) (ul : Int) (rw : Int) (rt : Int → Int) (pp : Int) (hkd : kdOK kd) (hnu : nuOK nu) (hcn : 0 ≤ cn ∧ cn ≤ 4) (hT : LnT (exT cn kd nu) cn rt) (hp : -2147483648 ≤ pp ∧ pp ≤ 2147483647) : gMi l yX5_tell wsX5_tell ({ frames := 4, cells := 0, slots := 0, locals := 86 }) D G [.ref h, .int (iI pp)] [oX5 h a tr lf, oX4 (a 1) ta cn, cA G (ta 1) 4 kd, cA G (ta 2) 12 nu, oX0 (a 2) la cn ul rw, cA G (la 2) 4 rt] 0 0 (fun (r : Int32) (w : va_W) => r = (iI (R_tel cn kd (exT cn kd nu) pp)) ∧ w = [oX5 h a (T_tel cn kd tr pp) lf, oX4 (a 1) ta cn, cA G (ta 1) 4 kd, cA G (ta 2) 12 nu, oX0 (a 2) la cn ul rw, cA G (la 2) 4 rt]) := by
  refine g_start_i (cc := cX5_tell) (nL := 2) (own := RX5) (ret := some .int) (by decide +kernel) rfl rfl (Nat.le_of_ble_eq_true rfl) ?_
  intro p e s m below meth c A ls C hr hnm hw hl
  have hl : lv_has ls 2 [(0, .ref h), (1, .int (iI pp))] := hl
  have k0 := hkd pp
  have hnr := nR_r (exT cn kd nu) pp
  refine g_aload_n C hl 0 rfl rfl dX5_tell_0 ?_
  refine g_iload_n C hl 1 rfl rfl dX5_tell_1 ?_
  refine g_callVi C hw (wr := [cA G (ta 1) 4 kd, cA G (ta 2) 12 nu, oX0 (a 2) la cn ul rw, cA G (la 2) 4 rt]) (As := [.int (iI pp)]) (rest := []) (m_X5_isPolynomial l D G (h := h) (a := a) (tr := tr) (lf := lf) (ta := ta) (cn := cn) (pp := pp) (by first | assumption | omega) (by first | assumption | omega)) (cwV 1 C.1.2.2.2.2 gX5_tell_X5_isPolynomial rfl rfl rfl (by decide +kernel) ⟨Nat.le_of_ble_eq_true rfl, Nat.le_of_ble_eq_true rfl⟩) [0, 1] [2, 3, 4, 5] rfl rfl (by decide) (by decide) (by decide) 0 rfl rfl rfl hl.1 _ rfl (Nat.le_of_ble_eq_true rfl) dX5_tell_2 ⟨Nat.le_of_ble_eq_true rfl, Nat.le_of_ble_eq_true rfl⟩ ?_
  clear hw
  rintro _ _ H locs ⟨rfl, rfl⟩ hw
  have hw : gW D A s.heap [cA G (ta 1) 4 kd, cA G (ta 2) 12 nu, oX0 (a 2) la cn ul rw, cA G (la 2) 4 rt, oX5 h a tr lf, oX4 (a 1) ta cn] H locs := hw
  refine g_ifb_ne C 10 dX5_tell_5 (by decide) (fun c_1 => ?_) (fun c_1 => ?_)
  · skip
    refine g_aload_n C hl 0 rfl rfl dX5_tell_10 ?_
    refine g_get C hw hin_X5_tell_X5 4 rfl rfl 1 (by decide) lk_X5_tell_20 rfl dX5_tell_11 ?_
    refine g_get C hw hin_X5_tell_X4 5 rfl rfl 1 (by decide) lk_X5_tell_96 rfl dX5_tell_14 ?_
    refine g_iload_n C hl 1 rfl rfl dX5_tell_17 ?_
    refine g_iald C hw 0 rfl (by omega) (Nat.le_of_ble_eq_true rfl) dX5_tell_18 ?_
    rcases (by omega : kd pp = 0 ∨ kd pp = 1 ∨ kd pp = 2) with hs_2 | hs_2 | hs_2
    · skip
      refine g_look C 0 37 56 hs_2 (by decide) dX5_tell_19 (by decide +kernel) (by decide +kernel) (by decide) ?_
      refine g_aload_n C hl 0 rfl rfl dX5_tell_56 ?_
      refine g_iload_n C hl 1 rfl rfl dX5_tell_57 ?_
      refine g_callVi C hw (wr := [cA G (ta 1) 4 kd, cA G (ta 2) 12 nu, oX4 (a 1) ta cn]) (As := [.int (iI pp)]) (rest := []) (m_X5_plainBody l D G (h := h) (a := a) (tr := tr) (lf := lf) (cn := cn) (la := la) (ul := ul) (rw := rw) (rt := rt) (E := (exT cn kd nu)) (pp := pp) (by first | assumption | omega) (by first | assumption | omega) (by first | assumption | omega)) (cwV 1 C.1.2.2.2.2 gX5_tell_X5_plainBody rfl rfl rfl (by decide +kernel) ⟨Nat.le_of_ble_eq_true rfl, Nat.le_of_ble_eq_true rfl⟩) [4, 2, 3] [0, 1, 5] rfl rfl (by decide) (by decide) (by decide) 0 rfl rfl rfl hl.1 _ rfl (Nat.le_of_ble_eq_true rfl) dX5_tell_58 ⟨Nat.le_of_ble_eq_true rfl, Nat.le_of_ble_eq_true rfl⟩ ?_
      clear hw
      rintro _ _ H locs ⟨rfl, rfl⟩ hw
      have hw : gW D A s.heap [cA G (ta 1) 4 kd, cA G (ta 2) 12 nu, oX4 (a 1) ta cn, oX5 h a (31 * tr + 1) lf, oX0 (a 2) la cn ul rw, cA G (la 2) 4 rt] H locs := hw
      exact g_iret C hr (ws' := [oX5 h a (31 * tr + 1) lf, oX4 (a 1) ta cn, cA G (ta 1) 4 kd, cA G (ta 2) 12 nu, oX0 (a 2) la cn ul rw, cA G (la 2) 4 rt]) hw [3, 2, 0, 1, 4, 5] (by decide) rfl ⟨(congrArg iI (by unfold R_tel; (repeat' split) <;> omega)), (by unfold T_tel trT; (repeat' (split <;> try (exfalso; omega))) <;> first | rfl | (exfalso; omega))⟩ dX5_tell_61
    · skip
      refine g_look C 1 31 50 hs_2 (by decide) dX5_tell_19 (by decide +kernel) (by decide +kernel) (by decide) ?_
      refine g_aload_n C hl 0 rfl rfl dX5_tell_50 ?_
      refine g_iload_n C hl 1 rfl rfl dX5_tell_51 ?_
      refine g_callVi C hw (wr := [cA G (ta 1) 4 kd, cA G (ta 2) 12 nu, oX4 (a 1) ta cn]) (As := [.int (iI pp)]) (rest := []) (m_X5_mirroredBody l D G (h := h) (a := a) (tr := tr) (lf := lf) (cn := cn) (la := la) (ul := ul) (rw := rw) (rt := rt) (E := (exT cn kd nu)) (pp := pp) (by first | assumption | omega) (by first | assumption | omega) (by first | assumption | omega)) (cwV 1 C.1.2.2.2.2 gX5_tell_X5_mirroredBody rfl rfl rfl (by decide +kernel) ⟨Nat.le_of_ble_eq_true rfl, Nat.le_of_ble_eq_true rfl⟩) [4, 2, 3] [0, 1, 5] rfl rfl (by decide) (by decide) (by decide) 0 rfl rfl rfl hl.1 _ rfl (Nat.le_of_ble_eq_true rfl) dX5_tell_52 ⟨Nat.le_of_ble_eq_true rfl, Nat.le_of_ble_eq_true rfl⟩ ?_
      clear hw
      rintro _ _ H locs ⟨rfl, rfl⟩ hw
      have hw : gW D A s.heap [cA G (ta 1) 4 kd, cA G (ta 2) 12 nu, oX4 (a 1) ta cn, oX5 h a (31 * (31 * tr + 2) + 1) lf, oX0 (a 2) la cn ul rw, cA G (la 2) 4 rt] H locs := hw
      exact g_iret C hr (ws' := [oX5 h a (31 * (31 * tr + 2) + 1) lf, oX4 (a 1) ta cn, cA G (ta 1) 4 kd, cA G (ta 2) 12 nu, oX0 (a 2) la cn ul rw, cA G (la 2) 4 rt]) hw [3, 2, 0, 1, 4, 5] (by decide) rfl ⟨(congrArg iI (by unfold R_tel; (repeat' split) <;> omega)), (by unfold T_tel trT; (repeat' (split <;> try (exfalso; omega))) <;> first | rfl | (exfalso; omega))⟩ dX5_tell_55
    · skip
      refine g_look C 2 25 44 hs_2 (by decide) dX5_tell_19 (by decide +kernel) (by decide +kernel) (by decide) ?_
      refine g_aload_n C hl 0 rfl rfl dX5_tell_44 ?_
      refine g_iload_n C hl 1 rfl rfl dX5_tell_45 ?_
      refine g_callVi C hw (wr := [cA G (ta 1) 4 kd, cA G (ta 2) 12 nu, oX4 (a 1) ta cn]) (As := [.int (iI pp)]) (rest := []) (m_X5_shiftedBody l D G (h := h) (a := a) (tr := tr) (lf := lf) (cn := cn) (la := la) (ul := ul) (rw := rw) (rt := rt) (E := (exT cn kd nu)) (pp := pp) (by first | assumption | omega) (by first | assumption | omega) (by first | assumption | omega)) (cwV 1 C.1.2.2.2.2 gX5_tell_X5_shiftedBody rfl rfl rfl (by decide +kernel) ⟨Nat.le_of_ble_eq_true rfl, Nat.le_of_ble_eq_true rfl⟩) [4, 2, 3] [0, 1, 5] rfl rfl (by decide) (by decide) (by decide) 0 rfl rfl rfl hl.1 _ rfl (Nat.le_of_ble_eq_true rfl) dX5_tell_46 ⟨Nat.le_of_ble_eq_true rfl, Nat.le_of_ble_eq_true rfl⟩ ?_
      clear hw
      rintro _ _ H locs ⟨rfl, rfl⟩ hw
      have hw : gW D A s.heap [cA G (ta 1) 4 kd, cA G (ta 2) 12 nu, oX4 (a 1) ta cn, oX5 h a (31 * (31 * (31 * (31 * tr + 3) + 2) + 1) + 1) lf, oX0 (a 2) la cn ul rw, cA G (la 2) 4 rt] H locs := hw
      exact g_iret C hr (ws' := [oX5 h a (31 * (31 * (31 * (31 * tr + 3) + 2) + 1) + 1) lf, oX4 (a 1) ta cn, cA G (ta 1) 4 kd, cA G (ta 2) 12 nu, oX0 (a 2) la cn ul rw, cA G (la 2) 4 rt]) hw [3, 2, 0, 1, 4, 5] (by decide) rfl ⟨(congrArg iI (by unfold R_tel; (repeat' split) <;> omega)), (by unfold T_tel trT; (repeat' (split <;> try (exfalso; omega))) <;> first | rfl | (exfalso; omega))⟩ dX5_tell_49
  · skip
    refine g_iconst C dX5_tell_8 ?_
    exact g_iret C hr (ws' := [oX5 h a tr lf, oX4 (a 1) ta cn, cA G (ta 1) 4 kd, cA G (ta 2) 12 nu, oX0 (a 2) la cn ul rw, cA G (la 2) 4 rt]) hw [4, 5, 0, 1, 2, 3] (by decide) rfl ⟨(congrArg iI (by unfold R_tel; (repeat' split) <;> omega)), (by unfold T_tel trT; (repeat' (split <;> try (exfalso; omega))) <;> first | rfl | (exfalso; omega))⟩ dX5_tell_9

set_option maxRecDepth 20000 in
theorem hin_X5_call_X5 : ∀ w ∈ u_ws RX5 TX5 9, w ∈ wsX5_call := by
  intro w h
  exact List.mem_cons_of_mem _ (List.mem_append_left _ (List.mem_append_right _ (h)))
set_option maxRecDepth 20000 in
theorem lk_X5_call_20 : Cond.fieldLink RX5 20 (TX5 1).1 (TX5 1).2.1 (TX5 1).2.2.1 ∈ wsX5_call := List.mem_cons_of_mem _ (List.mem_append_left _ (List.mem_append_left _ (List.mem_of_getElem? (i := 0) rfl)))
set_option maxRecDepth 20000 in
theorem hin_X5_call_X4 : ∀ w ∈ u_ws RX4 TX4 3, w ∈ wsX5_call := by
  intro w h
  exact List.mem_cons_of_mem _ (List.mem_append_right _ (h))
set_option maxRecDepth 20000 in
theorem lk_X5_call_96 : Cond.fieldLink RX5 96 (TX4 1).1 (TX4 1).2.1 (TX4 1).2.2.1 ∈ wsX5_call := List.mem_cons_of_mem _ (List.mem_append_left _ (List.mem_append_left _ (List.mem_of_getElem? (i := 1) rfl)))
set_option maxRecDepth 100000 in
set_option maxHeartbeats 8000000 in
theorem m_X5_call (l : Launch) (D : va_G) (G : gT) (h : Nat) (a : Nat → Nat) (tr : Int) (lf : Int) (ta : Nat → Nat) (cn : Int) (kd : Int → Int) (nu : Int → Int) (pp : Int) (hkd : kdOK kd) (hnu : nuOK nu) (hcn : 0 ≤ cn ∧ cn ≤ 4) (hp : -2147483648 ≤ pp ∧ pp ≤ 2147483647) : gMi l yX5_call wsX5_call ({ frames := 2, cells := 0, slots := 0, locals := 42 }) D G [.ref h, .int (iI pp)] [oX5 h a tr lf, oX4 (a 1) ta cn, cA G (ta 1) 4 kd, cA G (ta 2) 12 nu] 0 0 (fun (r : Int32) (w : va_W) => r = (iI (R_call cn kd pp)) ∧ w = [oX5 h a (T_call cn kd tr pp) lf, oX4 (a 1) ta cn, cA G (ta 1) 4 kd, cA G (ta 2) 12 nu]) := by
  refine g_start_i (cc := cX5_call) (nL := 2) (own := RX5) (ret := some .int) (by decide +kernel) rfl rfl (Nat.le_of_ble_eq_true rfl) ?_
  intro p e s m below meth c A ls C hr hnm hw hl
  have hl : lv_has ls 2 [(0, .ref h), (1, .int (iI pp))] := hl
  have k0 := hkd pp
  refine g_aload_n C hl 0 rfl rfl dX5_call_0 ?_
  refine g_iload_n C hl 1 rfl rfl dX5_call_1 ?_
  refine g_callVi C hw (wr := [cA G (ta 1) 4 kd, cA G (ta 2) 12 nu]) (As := [.int (iI pp)]) (rest := []) (m_X5_isPolynomial l D G (h := h) (a := a) (tr := tr) (lf := lf) (ta := ta) (cn := cn) (pp := pp) (by first | assumption | omega) (by first | assumption | omega)) (cwV 1 C.1.2.2.2.2 gX5_call_X5_isPolynomial rfl rfl rfl (by decide +kernel) ⟨Nat.le_of_ble_eq_true rfl, Nat.le_of_ble_eq_true rfl⟩) [0, 1] [2, 3] rfl rfl (by decide) (by decide) (by decide) 0 rfl rfl rfl hl.1 _ rfl (Nat.le_of_ble_eq_true rfl) dX5_call_2 ⟨Nat.le_of_ble_eq_true rfl, Nat.le_of_ble_eq_true rfl⟩ ?_
  clear hw
  rintro _ _ H locs ⟨rfl, rfl⟩ hw
  have hw : gW D A s.heap [cA G (ta 1) 4 kd, cA G (ta 2) 12 nu, oX5 h a tr lf, oX4 (a 1) ta cn] H locs := hw
  refine g_ifb_ne C 10 dX5_call_5 (by decide) (fun c_1 => ?_) (fun c_1 => ?_)
  · skip
    refine g_aload_n C hl 0 rfl rfl dX5_call_10 ?_
    refine g_get C hw hin_X5_call_X5 2 rfl rfl 1 (by decide) lk_X5_call_20 rfl dX5_call_11 ?_
    refine g_get C hw hin_X5_call_X4 3 rfl rfl 1 (by decide) lk_X5_call_96 rfl dX5_call_14 ?_
    refine g_iload_n C hl 1 rfl rfl dX5_call_17 ?_
    refine g_iald C hw 0 rfl (by omega) (Nat.le_of_ble_eq_true rfl) dX5_call_18 ?_
    refine g_iconst C dX5_call_19 ?_
    refine g_icmp_ne C 31 dX5_call_20 (by decide) (by omega) (by omega) (fun c_2 => ?_) (fun c_2 => ?_)
    · skip
      refine g_aload_n C hl 0 rfl rfl dX5_call_31 ?_
      refine g_iconst C dX5_call_32 ?_
      refine g_callVv C hw (wr := [cA G (ta 1) 4 kd, cA G (ta 2) 12 nu, oX4 (a 1) ta cn]) (As := [.int (iI 4)]) (rest := []) (m_X5_leaveInTrace l D G (h := h) (a := a) (tr := tr) (lf := lf) (nn := 4) ) (cwV 1 C.1.2.2.2.2 gX5_call_X5_leaveInTrace rfl rfl rfl (by decide +kernel) ⟨Nat.le_of_ble_eq_true rfl, Nat.le_of_ble_eq_true rfl⟩) [2] [0, 1, 3] rfl rfl (by decide) (by decide) (by decide) 0 rfl rfl rfl hl.1 _ rfl (Nat.le_of_ble_eq_true rfl) dX5_call_33 ⟨Nat.le_of_ble_eq_true rfl, Nat.le_of_ble_eq_true rfl⟩ ?_
      clear hw
      rintro _ H locs rfl hw
      have hw : gW D A s.heap [cA G (ta 1) 4 kd, cA G (ta 2) 12 nu, oX4 (a 1) ta cn, oX5 h a (31 * tr + 4) lf] H locs := hw
      refine g_iload_n C hl 1 rfl rfl dX5_call_36 ?_
      exact g_iret C hr (ws' := [oX5 h a (31 * tr + 4) lf, oX4 (a 1) ta cn, cA G (ta 1) 4 kd, cA G (ta 2) 12 nu]) hw [3, 2, 0, 1] (by decide) rfl ⟨(congrArg iI (by unfold R_call; (repeat' split) <;> omega)), (by unfold T_call; (repeat' (split <;> try (exfalso; omega))) <;> first | rfl | (exfalso; omega))⟩ dX5_call_37
    · skip
      refine g_aload_n C hl 0 rfl rfl dX5_call_23 ?_
      refine g_iconst C dX5_call_24 ?_
      refine g_callVv C hw (wr := [cA G (ta 1) 4 kd, cA G (ta 2) 12 nu, oX4 (a 1) ta cn]) (As := [.int (iI 5)]) (rest := []) (m_X5_leaveInTrace l D G (h := h) (a := a) (tr := tr) (lf := lf) (nn := 5) ) (cwV 1 C.1.2.2.2.2 gX5_call_X5_leaveInTrace rfl rfl rfl (by decide +kernel) ⟨Nat.le_of_ble_eq_true rfl, Nat.le_of_ble_eq_true rfl⟩) [2] [0, 1, 3] rfl rfl (by decide) (by decide) (by decide) 0 rfl rfl rfl hl.1 _ rfl (Nat.le_of_ble_eq_true rfl) dX5_call_25 ⟨Nat.le_of_ble_eq_true rfl, Nat.le_of_ble_eq_true rfl⟩ ?_
      clear hw
      rintro _ H locs rfl hw
      have hw : gW D A s.heap [cA G (ta 1) 4 kd, cA G (ta 2) 12 nu, oX4 (a 1) ta cn, oX5 h a (31 * tr + 5) lf] H locs := hw
      refine g_bipush C dX5_call_28 (by decide) ?_
      exact g_iret C hr (ws' := [oX5 h a (31 * tr + 5) lf, oX4 (a 1) ta cn, cA G (ta 1) 4 kd, cA G (ta 2) 12 nu]) hw [3, 2, 0, 1] (by decide) rfl ⟨(congrArg iI (by unfold R_call; (repeat' split) <;> omega)), (by unfold T_call; (repeat' (split <;> try (exfalso; omega))) <;> first | rfl | (exfalso; omega))⟩ dX5_call_30
  · skip
    refine g_iconst C dX5_call_8 ?_
    exact g_iret C hr (ws' := [oX5 h a tr lf, oX4 (a 1) ta cn, cA G (ta 1) 4 kd, cA G (ta 2) 12 nu]) hw [2, 3, 0, 1] (by decide) rfl ⟨(congrArg iI (by unfold R_call; (repeat' split) <;> omega)), (by unfold T_call; (repeat' (split <;> try (exfalso; omega))) <;> first | rfl | (exfalso; omega))⟩ dX5_call_9

set_option maxRecDepth 20000 in
theorem hin_X5_as_X5 : ∀ w ∈ u_ws RX5 TX5 9, w ∈ wsX5_as := by
  intro w h
  exact List.mem_cons_of_mem _ (List.mem_append_left _ (List.mem_append_right _ (h)))
set_option maxRecDepth 20000 in
theorem lk_X5_as_51 : Cond.fieldLink RX5 51 (TX5 8).1 (TX5 8).2.1 (TX5 8).2.2.1 ∈ wsX5_as := List.mem_cons_of_mem _ (List.mem_append_left _ (List.mem_append_left _ (List.mem_of_getElem? (i := 0) rfl)))
set_option maxRecDepth 20000 in
theorem lk_X5_as_20 : Cond.fieldLink RX5 20 (TX5 1).1 (TX5 1).2.1 (TX5 1).2.2.1 ∈ wsX5_as := List.mem_cons_of_mem _ (List.mem_append_left _ (List.mem_append_left _ (List.mem_of_getElem? (i := 1) rfl)))
set_option maxRecDepth 20000 in
theorem hin_X5_as_X4 : ∀ w ∈ u_ws RX4 TX4 3, w ∈ wsX5_as := by
  intro w h
  exact List.mem_cons_of_mem _ (List.mem_append_right _ (h))
set_option maxRecDepth 20000 in
theorem lk_X5_as_96 : Cond.fieldLink RX5 96 (TX4 1).1 (TX4 1).2.1 (TX4 1).2.2.1 ∈ wsX5_as := List.mem_cons_of_mem _ (List.mem_append_left _ (List.mem_append_left _ (List.mem_of_getElem? (i := 2) rfl)))
set_option maxRecDepth 100000 in
set_option maxHeartbeats 8000000 in
theorem m_X5_as (l : Launch) (D : va_G) (G : gT) (h : Nat) (a : Nat → Nat) (tr : Int) (lf : Int) (ta : Nat → Nat) (cn : Int) (kd : Int → Int) (nu : Int → Int) (pp : Int) (kk : Int) (hkd : kdOK kd) (hnu : nuOK nu) (hcn : 0 ≤ cn ∧ cn ≤ 4) (hp : -2147483648 ≤ pp ∧ pp ≤ 2147483647) (hk : -2147483648 ≤ kk ∧ kk ≤ 2147483647) : gMi l yX5_as wsX5_as ({ frames := 2, cells := 0, slots := 0, locals := 42 }) D G [.ref h, .int (iI pp), .int (iI kk)] [oX5 h a tr lf, oX4 (a 1) ta cn, cA G (ta 1) 4 kd, cA G (ta 2) 12 nu] 0 0 (fun (r : Int32) (w : va_W) => r = (iI (R_as cn kd pp kk)) ∧ w = [oX5 h a tr (F_as cn kd pp kk), oX4 (a 1) ta cn, cA G (ta 1) 4 kd, cA G (ta 2) 12 nu]) := by
  refine g_start_i (cc := cX5_as) (nL := 3) (own := RX5) (ret := some .int) (by decide +kernel) rfl rfl (Nat.le_of_ble_eq_true rfl) ?_
  intro p e s m below meth c A ls C hr hnm hw hl
  have hl : lv_has ls 3 [(0, .ref h), (1, .int (iI pp)), (2, .int (iI kk))] := hl
  have k0 := hkd pp
  refine g_aload_n C hl 0 rfl rfl dX5_as_0 ?_
  refine g_iconst C dX5_as_1 ?_
  refine g_put C hw [oX5 h a tr 0, oX4 (a 1) ta cn, cA G (ta 1) 4 kd, cA G (ta 2) 12 nu] hin_X5_as_X5 tyX5 tyX5_ok nmX5 0 rfl rfl 8 (by decide) lk_X5_as_51 rfl rfl rfl rfl (Nat.le_of_ble_eq_true rfl) rfl dX5_as_2 ?_
  clear hw
  intro H locs hw
  refine g_aload_n C hl 0 rfl rfl dX5_as_5 ?_
  refine g_iload_n C hl 1 rfl rfl dX5_as_6 ?_
  refine g_callVi C hw (wr := [cA G (ta 1) 4 kd, cA G (ta 2) 12 nu]) (As := [.int (iI pp)]) (rest := []) (m_X5_isPolynomial l D G (h := h) (a := a) (tr := tr) (lf := 0) (ta := ta) (cn := cn) (pp := pp) (by first | assumption | omega) (by first | assumption | omega)) (cwV 1 C.1.2.2.2.2 gX5_as_X5_isPolynomial rfl rfl rfl (by decide +kernel) ⟨Nat.le_of_ble_eq_true rfl, Nat.le_of_ble_eq_true rfl⟩) [0, 1] [2, 3] rfl rfl (by decide) (by decide) (by decide) 0 rfl rfl rfl hl.1 _ rfl (Nat.le_of_ble_eq_true rfl) dX5_as_7 ⟨Nat.le_of_ble_eq_true rfl, Nat.le_of_ble_eq_true rfl⟩ ?_
  clear hw
  rintro _ _ H locs ⟨rfl, rfl⟩ hw
  have hw : gW D A s.heap [cA G (ta 1) 4 kd, cA G (ta 2) 12 nu, oX5 h a tr 0, oX4 (a 1) ta cn] H locs := hw
  refine g_ifb_ne C 15 dX5_as_10 (by decide) (fun c_1 => ?_) (fun c_1 => ?_)
  · skip
    refine g_iload_n C hl 2 rfl rfl dX5_as_15 ?_
    refine g_iconst C dX5_as_16 ?_
    refine g_callSi C hw (wr := [cA G (ta 1) 4 kd, cA G (ta 2) 12 nu, oX5 h a tr 0, oX4 (a 1) ta cn]) (As := [.int (iI kk), .int (iI 3)]) (rest := []) (m_X5_isBelow l D G (na := kk) (nb := 3) (by first | assumption | omega) (by first | assumption | omega)) (va_cwS 2 C.1.2.2.2.2 gX5_as_X5_isBelow rfl rfl rfl (by decide +kernel) ⟨Nat.le_of_ble_eq_true rfl, Nat.le_of_ble_eq_true rfl⟩) [] [0, 1, 2, 3] rfl rfl (by decide) (by decide) (by decide) rfl hl.1 _ rfl (Nat.le_of_ble_eq_true rfl) dX5_as_17 ⟨Nat.le_of_ble_eq_true rfl, Nat.le_of_ble_eq_true rfl⟩ ?_
    clear hw
    rintro _ _ H locs ⟨rfl, rfl⟩ hw
    have hw : gW D A s.heap [cA G (ta 1) 4 kd, cA G (ta 2) 12 nu, oX5 h a tr 0, oX4 (a 1) ta cn] H locs := hw
    refine g_ifb_ne C 26 dX5_as_20 (by decide) (fun c_2 => ?_) (fun c_2 => ?_)
    · skip
      refine g_aload_n C hl 0 rfl rfl dX5_as_26 ?_
      refine g_get C hw hin_X5_as_X5 2 rfl rfl 1 (by decide) lk_X5_as_20 rfl dX5_as_27 ?_
      refine g_get C hw hin_X5_as_X4 3 rfl rfl 1 (by decide) lk_X5_as_96 rfl dX5_as_30 ?_
      refine g_iload_n C hl 1 rfl rfl dX5_as_33 ?_
      refine g_iald C hw 0 rfl (by omega) (Nat.le_of_ble_eq_true rfl) dX5_as_34 ?_
      refine g_iload_n C hl 2 rfl rfl dX5_as_35 ?_
      refine g_icmp_lt C 43 dX5_as_36 (by decide) (by omega) (by omega) (fun c_3 => ?_) (fun c_3 => ?_)
      · skip
        refine g_aload_n C hl 0 rfl rfl dX5_as_43 ?_
        refine g_iconst C dX5_as_44 ?_
        refine g_callVi C hw (wr := [cA G (ta 1) 4 kd, cA G (ta 2) 12 nu, oX4 (a 1) ta cn]) (As := [.int (iI 2)]) (rest := []) (m_X5_failed l D G (h := h) (a := a) (tr := tr) (lf := 0) (fv := 2) ) (cwV 1 C.1.2.2.2.2 gX5_as_X5_failed rfl rfl rfl (by decide +kernel) ⟨Nat.le_of_ble_eq_true rfl, Nat.le_of_ble_eq_true rfl⟩) [2] [0, 1, 3] rfl rfl (by decide) (by decide) (by decide) 0 rfl rfl rfl hl.1 _ rfl (Nat.le_of_ble_eq_true rfl) dX5_as_45 ⟨Nat.le_of_ble_eq_true rfl, Nat.le_of_ble_eq_true rfl⟩ ?_
        clear hw
        rintro _ _ H locs ⟨rfl, rfl⟩ hw
        have hw : gW D A s.heap [cA G (ta 1) 4 kd, cA G (ta 2) 12 nu, oX4 (a 1) ta cn, oX5 h a tr 2] H locs := hw
        exact g_iret C hr (ws' := [oX5 h a tr 2, oX4 (a 1) ta cn, cA G (ta 1) 4 kd, cA G (ta 2) 12 nu]) hw [3, 2, 0, 1] (by decide) rfl ⟨(congrArg iI (by unfold R_as; (repeat' split) <;> omega)), (by unfold F_as; (repeat' (split <;> try (exfalso; omega))) <;> first | rfl | (exfalso; omega))⟩ dX5_as_48
      · skip
        refine g_iconst C dX5_as_39 ?_
        refine g_goto C 48 dX5_as_40 (by decide) ?_
        exact g_iret C hr (ws' := [oX5 h a tr 0, oX4 (a 1) ta cn, cA G (ta 1) 4 kd, cA G (ta 2) 12 nu]) hw [2, 3, 0, 1] (by decide) rfl ⟨(congrArg iI (by unfold R_as; (repeat' split) <;> omega)), (by unfold F_as; (repeat' (split <;> try (exfalso; omega))) <;> first | rfl | (exfalso; omega))⟩ dX5_as_48
    · skip
      refine g_bipush C dX5_as_23 (by decide) ?_
      exact g_iret C hr (ws' := [oX5 h a tr 0, oX4 (a 1) ta cn, cA G (ta 1) 4 kd, cA G (ta 2) 12 nu]) hw [2, 3, 0, 1] (by decide) rfl ⟨(congrArg iI (by unfold R_as; (repeat' split) <;> omega)), (by unfold F_as; (repeat' (split <;> try (exfalso; omega))) <;> first | rfl | (exfalso; omega))⟩ dX5_as_25
  · skip
    refine g_iconst C dX5_as_13 ?_
    exact g_iret C hr (ws' := [oX5 h a tr 0, oX4 (a 1) ta cn, cA G (ta 1) 4 kd, cA G (ta 2) 12 nu]) hw [2, 3, 0, 1] (by decide) rfl ⟨(congrArg iI (by unfold R_as; (repeat' split) <;> omega)), (by unfold F_as; (repeat' (split <;> try (exfalso; omega))) <;> first | rfl | (exfalso; omega))⟩ dX5_as_14

set_option maxRecDepth 20000 in
theorem hin_X5_many_X5 : ∀ w ∈ u_ws RX5 TX5 9, w ∈ wsX5_many := by
  intro w h
  exact List.mem_cons_of_mem _ (List.mem_append_left _ (List.mem_append_left _ (List.mem_append_left _ (List.mem_append_right _ (h)))))
set_option maxRecDepth 20000 in
theorem lk_X5_many_20 : Cond.fieldLink RX5 20 (TX5 1).1 (TX5 1).2.1 (TX5 1).2.2.1 ∈ wsX5_many := List.mem_cons_of_mem _ (List.mem_append_left _ (List.mem_append_left _ (List.mem_append_left _ (List.mem_append_left _ (List.mem_of_getElem? (i := 0) rfl)))))
set_option maxRecDepth 20000 in
theorem hin_X5_many_X4 : ∀ w ∈ u_ws RX4 TX4 3, w ∈ wsX5_many := by
  intro w h
  exact List.mem_cons_of_mem _ (List.mem_append_left _ (List.mem_append_left _ (List.mem_append_right _ (h))))
set_option maxRecDepth 20000 in
theorem lk_X5_many_92 : Cond.fieldLink RX5 92 (TX4 0).1 (TX4 0).2.1 (TX4 0).2.2.1 ∈ wsX5_many := List.mem_cons_of_mem _ (List.mem_append_left _ (List.mem_append_left _ (List.mem_append_left _ (List.mem_append_left _ (List.mem_of_getElem? (i := 1) rfl)))))
set_option maxRecDepth 20000 in
theorem lk_X5_many_27 : Cond.fieldLink RX5 27 (TX5 2).1 (TX5 2).2.1 (TX5 2).2.2.1 ∈ wsX5_many := List.mem_cons_of_mem _ (List.mem_append_left _ (List.mem_append_left _ (List.mem_append_left _ (List.mem_append_left _ (List.mem_of_getElem? (i := 2) rfl)))))
set_option maxRecDepth 20000 in
theorem lk_X5_many_47 : Cond.fieldLink RX5 47 (TX5 6).1 (TX5 6).2.1 (TX5 6).2.2.1 ∈ wsX5_many := List.mem_cons_of_mem _ (List.mem_append_left _ (List.mem_append_left _ (List.mem_append_left _ (List.mem_append_left _ (List.mem_of_getElem? (i := 3) rfl)))))
set_option maxRecDepth 20000 in
theorem hin_X5_many_X1 : ∀ w ∈ u_ws RX1 TX1 4, w ∈ wsX5_many := by
  intro w h
  exact List.mem_cons_of_mem _ (List.mem_append_left _ (List.mem_append_right _ (h)))
set_option maxRecDepth 20000 in
theorem lk_X5_many_86 : Cond.fieldLink RX5 86 (TX1 0).1 (TX1 0).2.1 (TX1 0).2.2.1 ∈ wsX5_many := List.mem_cons_of_mem _ (List.mem_append_left _ (List.mem_append_left _ (List.mem_append_left _ (List.mem_append_left _ (List.mem_of_getElem? (i := 4) rfl)))))
set_option maxRecDepth 100000 in
set_option maxHeartbeats 8000000 in
theorem m_X5_many (l : Launch) (D : va_G) (G : gT) (h : Nat) (a : Nat → Nat) (tr : Int) (lf : Int) (ta : Nat → Nat) (cn : Int) (la : Nat → Nat) (ul : Int) (rw : Int) (ex : Int → Int) (rt : Int → Int) (ga : Nat → Nat) (rc : Int) (E : Int → Int → Int) (wh : Int) (hcn : 0 ≤ cn ∧ cn ≤ 4) (hE : EB E) (hX : LnX E cn ex) (hT : LnT E cn rt) (hw1 : -2147483648 ≤ wh ∧ wh ≤ 2147483647) : gMi l yX5_many wsX5_many ({ frames := 1, cells := 0, slots := 0, locals := 23 }) D G [.ref h, .int (iI wh)] [oX5 h a tr lf, oX4 (a 1) ta cn, oX0 (a 2) la cn ul rw, cA G (la 1) 12 ex, cA G (la 2) 4 rt, oX1 (a 6) ga rc] 0 0 (fun (r : Int32) (w : va_W) => r = (iI (R_many cn E rc wh)) ∧ w = [oX5 h a tr lf, oX4 (a 1) ta cn, oX0 (a 2) la cn ul rw, cA G (la 1) 12 ex, cA G (la 2) 4 rt, oX1 (a 6) ga rc]) := by
  refine g_start_i (cc := cX5_many) (nL := 2) (own := RX5) (ret := some .int) (by decide +kernel) rfl rfl (Nat.le_of_ble_eq_true rfl) ?_
  intro p e s m below meth c A ls C hr hnm hw hl
  have hl : lv_has ls 2 [(0, .ref h), (1, .int (iI wh))] := hl
  refine g_iload_n C hl 1 rfl rfl dX5_many_0 ?_
  rcases (by omega : wh = 0 ∨ wh = 1 ∨ wh = 2 ∨ wh = 3 ∨ (wh < 0 ∨ 3 < wh)) with hs_1 | hs_1 | hs_1 | hs_1 | hs_1
  · skip
    refine g_tabIn C 0 31 32 hs_1 (by decide) dX5_many_1 (by decide) (by decide) (by decide +kernel) (by decide) ?_
    refine g_aload_n C hl 0 rfl rfl dX5_many_32 ?_
    refine g_get C hw hin_X5_many_X5 0 rfl rfl 1 (by decide) lk_X5_many_20 rfl dX5_many_33 ?_
    refine g_get C hw hin_X5_many_X4 1 rfl rfl 0 (by decide) lk_X5_many_92 rfl dX5_many_36 ?_
    exact g_iret C hr (ws' := [oX5 h a tr lf, oX4 (a 1) ta cn, oX0 (a 2) la cn ul rw, cA G (la 1) 12 ex, cA G (la 2) 4 rt, oX1 (a 6) ga rc]) hw [0, 1, 2, 3, 4, 5] (by decide) rfl ⟨(congrArg iI (by unfold R_many; (repeat' split) <;> first | rfl | omega)), rfl⟩ dX5_many_39
  · skip
    refine g_tabIn C 1 39 40 hs_1 (by decide) dX5_many_1 (by decide) (by decide) (by decide +kernel) (by decide) ?_
    refine g_aload_n C hl 0 rfl rfl dX5_many_40 ?_
    refine g_get C hw hin_X5_many_X5 0 rfl rfl 2 (by decide) lk_X5_many_27 rfl dX5_many_41 ?_
    refine g_callVi C hw (wr := [oX5 h a tr lf, oX4 (a 1) ta cn, cA G (la 1) 12 ex, oX1 (a 6) ga rc]) (As := []) (rest := []) (m_X0_rootsInAll l D G (h := (a 2)) (a := la) (cn := cn) (ul := ul) (rw := rw) (rt := rt) (E := E) (by first | assumption | omega) (by first | assumption | omega)) (cwV 0 C.1.2.2.2.2 gX5_many_X0_rootsInAll rfl rfl rfl (by decide +kernel) ⟨Nat.le_of_ble_eq_true rfl, Nat.le_of_ble_eq_true rfl⟩) [2, 4] [0, 1, 3, 5] rfl rfl (by decide) (by decide) (by decide) 0 rfl rfl rfl hl.1 _ rfl (Nat.le_of_ble_eq_true rfl) dX5_many_44 ⟨Nat.le_of_ble_eq_true rfl, Nat.le_of_ble_eq_true rfl⟩ ?_
    clear hw
    rintro _ _ H locs ⟨rfl, rfl⟩ hw
    have hw : gW D A s.heap [oX5 h a tr lf, oX4 (a 1) ta cn, cA G (la 1) 12 ex, oX1 (a 6) ga rc, oX0 (a 2) la cn ul rw, cA G (la 2) 4 rt] H locs := hw
    exact g_iret C hr (ws' := [oX5 h a tr lf, oX4 (a 1) ta cn, oX0 (a 2) la cn ul rw, cA G (la 1) 12 ex, cA G (la 2) 4 rt, oX1 (a 6) ga rc]) hw [0, 1, 4, 2, 5, 3] (by decide) rfl ⟨(congrArg iI (by unfold R_many; (repeat' split) <;> first | rfl | omega)), rfl⟩ dX5_many_47
  · skip
    refine g_tabIn C 2 47 48 hs_1 (by decide) dX5_many_1 (by decide) (by decide) (by decide +kernel) (by decide) ?_
    refine g_aload_n C hl 0 rfl rfl dX5_many_48 ?_
    refine g_get C hw hin_X5_many_X5 0 rfl rfl 2 (by decide) lk_X5_many_27 rfl dX5_many_49 ?_
    refine g_callVi C hw (wr := [oX5 h a tr lf, oX4 (a 1) ta cn, cA G (la 2) 4 rt, oX1 (a 6) ga rc]) (As := []) (rest := []) (m_X0_zeroes l D G (h := (a 2)) (a := la) (cn := cn) (ul := ul) (rw := rw) (ex := ex) (E := E) (by first | assumption | omega) (by first | assumption | omega) (by first | assumption | omega)) (cwV 0 C.1.2.2.2.2 gX5_many_X0_zeroes rfl rfl rfl (by decide +kernel) ⟨Nat.le_of_ble_eq_true rfl, Nat.le_of_ble_eq_true rfl⟩) [2, 3] [0, 1, 4, 5] rfl rfl (by decide) (by decide) (by decide) 0 rfl rfl rfl hl.1 _ rfl (Nat.le_of_ble_eq_true rfl) dX5_many_52 ⟨Nat.le_of_ble_eq_true rfl, Nat.le_of_ble_eq_true rfl⟩ ?_
    clear hw
    rintro _ _ H locs ⟨rfl, rfl⟩ hw
    have hw : gW D A s.heap [oX5 h a tr lf, oX4 (a 1) ta cn, cA G (la 2) 4 rt, oX1 (a 6) ga rc, oX0 (a 2) la cn ul rw, cA G (la 1) 12 ex] H locs := hw
    exact g_iret C hr (ws' := [oX5 h a tr lf, oX4 (a 1) ta cn, oX0 (a 2) la cn ul rw, cA G (la 1) 12 ex, cA G (la 2) 4 rt, oX1 (a 6) ga rc]) hw [0, 1, 4, 5, 2, 3] (by decide) rfl ⟨(congrArg iI (by unfold R_many; (repeat' split) <;> first | rfl | omega)), rfl⟩ dX5_many_55
  · skip
    refine g_tabIn C 3 55 56 hs_1 (by decide) dX5_many_1 (by decide) (by decide) (by decide +kernel) (by decide) ?_
    refine g_aload_n C hl 0 rfl rfl dX5_many_56 ?_
    refine g_get C hw hin_X5_many_X5 0 rfl rfl 6 (by decide) lk_X5_many_47 rfl dX5_many_57 ?_
    refine g_get C hw hin_X5_many_X1 5 rfl rfl 0 (by decide) lk_X5_many_86 rfl dX5_many_60 ?_
    exact g_iret C hr (ws' := [oX5 h a tr lf, oX4 (a 1) ta cn, oX0 (a 2) la cn ul rw, cA G (la 1) 12 ex, cA G (la 2) 4 rt, oX1 (a 6) ga rc]) hw [0, 1, 2, 3, 4, 5] (by decide) rfl ⟨(congrArg iI (by unfold R_many; (repeat' split) <;> first | rfl | omega)), rfl⟩ dX5_many_63
  · skip
    refine g_tabOut C 64 (by omega) dX5_many_1 (by omega) (by decide) ?_
    refine g_bipush C dX5_many_64 (by decide) ?_
    exact g_iret C hr (ws' := [oX5 h a tr lf, oX4 (a 1) ta cn, oX0 (a 2) la cn ul rw, cA G (la 1) 12 ex, cA G (la 2) 4 rt, oX1 (a 6) ga rc]) hw [0, 1, 2, 3, 4, 5] (by decide) rfl ⟨(congrArg iI (by unfold R_many; (repeat' split) <;> first | rfl | omega)), rfl⟩ dX5_many_66
