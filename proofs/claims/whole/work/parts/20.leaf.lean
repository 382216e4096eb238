set_option maxRecDepth 100000 in
set_option maxHeartbeats 8000000 in
theorem m_X6_in (l : Launch) (D : va_G) (G : gT) (va : Int) (vb : Int) (vc : Int) (ha : -9223372036854775808 ≤ va ∧ va ≤ 9223372036854775807) (hb : -9223372036854775808 ≤ vb ∧ vb ≤ 9223372036854775807) (hc : -9223372036854775808 ≤ vc ∧ vc ≤ 9223372036854775807) : gMi l yX6_in wsX6_in ({ frames := 0, cells := 0, slots := 0, locals := 0 }) D G [.long (lI (va)), .long (lI (vb)), .long (lI (vc))] [] 0 0 (fun (r : Int32) (w : va_W) => r = (iI (bI (vb ≤ va ∧ va ≤ vc))) ∧ w = []) := by
  refine g_start_i (cc := cX6_in) (nL := 6) (own := RX6) (ret := some .boolean) (by decide +kernel) rfl rfl (Nat.le_of_ble_eq_true rfl) ?_
  intro p e s m below meth c A ls C hr hnm hw hl
  have hl : lv_has ls 6 [(0, .long (lI (va))), (2, .long (lI (vb))), (4, .long (lI (vc)))] := hl
  refine g_lload_n C hl 0 rfl rfl dX6_in_0 ?_
  refine g_lload_n C hl 1 rfl rfl dX6_in_1 ?_
  refine g_lcmp_lt C 17 dX6_in_2 dX6_in_3 (by decide) (by omega) (by omega) (fun c_1 => ?_) (fun c_1 => ?_)
  · skip
    refine g_iconst C dX6_in_17 ?_
    exact g_zret C hr (ws' := []) hw [] (by decide) rfl (Or.inl rfl) ⟨(congrArg iI (by first | rfl | omega | (simp only [bI]; (repeat' split) <;> omega) | (simp_all [bI]; done) | (simp_all [bI]; omega))), rfl⟩ dX6_in_18
  · skip
    refine g_lload_n C hl 0 rfl rfl dX6_in_6 ?_
    refine g_lload C hl 2 rfl dX6_in_7 ?_
    refine g_lcmp_gt C 17 dX6_in_9 dX6_in_10 (by decide) (by omega) (by omega) (fun c_2 => ?_) (fun c_2 => ?_)
    · skip
      refine g_iconst C dX6_in_17 ?_
      exact g_zret C hr (ws' := []) hw [] (by decide) rfl (Or.inl rfl) ⟨(congrArg iI (by first | rfl | omega | (simp only [bI]; (repeat' split) <;> omega) | (simp_all [bI]; done) | (simp_all [bI]; omega))), rfl⟩ dX6_in_18
    · skip
      refine g_iconst C dX6_in_13 ?_
      refine g_goto C 18 dX6_in_14 (by decide) ?_
      exact g_zret C hr (ws' := []) hw [] (by decide) rfl (Or.inr rfl) ⟨(congrArg iI (by first | rfl | omega | (simp only [bI]; (repeat' split) <;> omega) | (simp_all [bI]; done) | (simp_all [bI]; omega))), rfl⟩ dX6_in_18

set_option maxRecDepth 20000 in
theorem cn_X6_lost_65 : Jvm.Cond.constantLong RX6 65 (-9223372036854775808) ∈ wsX6_lost := List.mem_cons_of_mem _ (List.mem_of_getElem? (i := 0) rfl)
set_option maxRecDepth 100000 in
set_option maxHeartbeats 8000000 in
theorem m_X6_lost (l : Launch) (D : va_G) (G : gT)   : gMl l yX6_lost wsX6_lost ({ frames := 0, cells := 0, slots := 0, locals := 0 }) D G [] [] 0 0 (fun (r : Int64) (w : va_W) => r = (lI (-9223372036854775808)) ∧ w = []) := by
  refine g_start_l (cc := cX6_lost) (nL := 0) (own := RX6) (ret := some .long) (by decide +kernel) rfl rfl (Nat.le_of_ble_eq_true rfl) ?_
  intro p e s m below meth c A ls C hr hnm hw hl
  have hl : lv_has ls 0 [] := hl
  refine g_ldc2 C (-9223372036854775808) cn_X6_lost_65 (by decide +kernel) dX6_lost_0 ?_
  exact g_lret C hr (ws' := []) hw [] (by decide) rfl ⟨(congrArg lI (by first | rfl | omega | (simp only [bI]; (repeat' split) <;> omega) | (simp_all [bI]; done) | (simp_all [bI]; omega))), rfl⟩ dX6_lost_3

set_option maxRecDepth 100000 in
set_option maxHeartbeats 8000000 in
theorem m_X6_signOf (l : Launch) (D : va_G) (G : gT) (va : Int) (ha : -9223372036854775808 ≤ va ∧ va ≤ 9223372036854775807) : gMi l yX6_signOf wsX6_signOf ({ frames := 0, cells := 0, slots := 0, locals := 0 }) D G [.long (lI (va))] [] 0 0 (fun (r : Int32) (w : va_W) => r = (iI (sg va)) ∧ w = []) := by
  refine g_start_i (cc := cX6_signOf) (nL := 2) (own := RX6) (ret := some .int) (by decide +kernel) rfl rfl (Nat.le_of_ble_eq_true rfl) ?_
  intro p e s m below meth c A ls C hr hnm hw hl
  have hl : lv_has ls 2 [(0, .long (lI (va)))] := hl
  refine g_lload_n C hl 0 rfl rfl dX6_signOf_0 ?_
  refine g_lconst0 C dX6_signOf_1 ?_
  refine g_lcmp_ge C 10 dX6_signOf_2 dX6_signOf_3 (by decide) (by omega) (by omega) (fun c_1 => ?_) (fun c_1 => ?_)
  · skip
    refine g_lload_n C hl 0 rfl rfl dX6_signOf_10 ?_
    refine g_lconst0 C dX6_signOf_11 ?_
    refine g_lcmp_le C 20 dX6_signOf_12 dX6_signOf_13 (by decide) (by omega) (by omega) (fun c_2 => ?_) (fun c_2 => ?_)
    · skip
      refine g_iconst C dX6_signOf_20 ?_
      exact g_iret C hr (ws' := []) hw [] (by decide) rfl ⟨(congrArg iI (by unfold sg; (repeat' split) <;> omega)), rfl⟩ dX6_signOf_21
    · skip
      refine g_iconst C dX6_signOf_16 ?_
      refine g_goto C 21 dX6_signOf_17 (by decide) ?_
      exact g_iret C hr (ws' := []) hw [] (by decide) rfl ⟨(congrArg iI (by unfold sg; (repeat' split) <;> omega)), rfl⟩ dX6_signOf_21
  · skip
    refine g_iconst C dX6_signOf_6 ?_
    refine g_goto C 21 dX6_signOf_7 (by decide) ?_
    exact g_iret C hr (ws' := []) hw [] (by decide) rfl ⟨(congrArg iI (by unfold sg; (repeat' split) <;> omega)), rfl⟩ dX6_signOf_21

set_option maxRecDepth 100000 in
set_option maxHeartbeats 8000000 in
theorem m_X6_signOfTwo (l : Launch) (D : va_G) (G : gT) (uu : Int) (vv : Int) (dd : Int) (hu : -10000000 ≤ uu ∧ uu ≤ 10000000) (hv : -10000000 ≤ vv ∧ vv ≤ 10000000) (hd : 0 ≤ dd ∧ dd ≤ 10000) : gMi l yX6_signOfTwo wsX6_signOfTwo ({ frames := 1, cells := 0, slots := 0, locals := 21 }) D G [.long (lI (uu)), .long (lI (vv)), .long (lI (dd))] [] 0 0 (fun (r : Int32) (w : va_W) => r = (iI (sg2 uu vv dd)) ∧ w = []) := by
  refine g_start_i (cc := cX6_signOfTwo) (nL := 10) (own := RX6) (ret := some .int) (by decide +kernel) rfl rfl (Nat.le_of_ble_eq_true rfl) ?_
  intro p e s m below meth c A ls C hr hnm hw hl
  have hl : lv_has ls 10 [(0, .long (lI (uu))), (2, .long (lI (vv))), (4, .long (lI (dd)))] := hl
  have hq := sg2_rg hu hv hd
  have hsu := sg_r uu
  have hsv := sg_r vv
  refine g_lload_n C hl 0 rfl rfl dX6_signOfTwo_0 ?_
  refine g_callSi C hw (wr := []) (As := [.long (lI (uu))]) (rest := []) (m_X6_signOf l D G (va := uu) (by first | assumption | omega)) (va_cwS 1 C.1.2.2.2.2 gX6_signOfTwo_X6_signOf rfl rfl rfl (by decide +kernel) ⟨Nat.le_of_ble_eq_true rfl, Nat.le_of_ble_eq_true rfl⟩) [] [] rfl rfl (by decide) (by decide) (by decide) rfl hl.1 _ rfl (Nat.le_of_ble_eq_true rfl) dX6_signOfTwo_1 ⟨Nat.le_of_ble_eq_true rfl, Nat.le_of_ble_eq_true rfl⟩ ?_
  clear hw
  rintro _ _ H locs ⟨rfl, rfl⟩ hw
  have hw : gW D A s.heap [] H locs := hw
  refine g_istore C [(6, .int (iI ((sg uu)))), (0, .long (lI (uu))), (2, .long (lI (vv))), (4, .long (lI (dd)))] dX6_signOfTwo_4 hl (by decide) rfl ?_
  clear hl
  intro ls hl
  refine g_lload C hl 3 rfl dX6_signOfTwo_6 ?_
  refine g_lconst0 C dX6_signOfTwo_8 ?_
  refine g_lcmp_ne C 17 dX6_signOfTwo_9 dX6_signOfTwo_10 (by decide) (by omega) (by omega) (fun c_1 => ?_) (fun c_1 => ?_)
  · skip
    refine g_lload_n C hl 2 rfl rfl dX6_signOfTwo_17 ?_
    refine g_callSi C hw (wr := []) (As := [.long (lI (vv))]) (rest := []) (m_X6_signOf l D G (va := vv) (by first | assumption | omega)) (va_cwS 1 C.1.2.2.2.2 gX6_signOfTwo_X6_signOf rfl rfl rfl (by decide +kernel) ⟨Nat.le_of_ble_eq_true rfl, Nat.le_of_ble_eq_true rfl⟩) [] [] rfl rfl (by decide) (by decide) (by decide) rfl hl.1 _ rfl (Nat.le_of_ble_eq_true rfl) dX6_signOfTwo_18 ⟨Nat.le_of_ble_eq_true rfl, Nat.le_of_ble_eq_true rfl⟩ ?_
    clear hw
    rintro _ _ H locs ⟨rfl, rfl⟩ hw
    have hw : gW D A s.heap [] H locs := hw
    refine g_istore C [(7, .int (iI ((sg vv)))), (6, .int (iI ((sg uu)))), (0, .long (lI (uu))), (2, .long (lI (vv))), (4, .long (lI (dd)))] dX6_signOfTwo_21 hl (by decide) rfl ?_
    clear hl
    intro ls hl
    refine g_iload C hl 1 rfl dX6_signOfTwo_23 ?_
    refine g_iload C hl 0 rfl dX6_signOfTwo_25 ?_
    refine g_icmp_eq C 35 dX6_signOfTwo_27 (by decide) (by omega) (by omega) (fun c_2 => ?_) (fun c_2 => ?_)
    · skip
      refine g_iload C hl 1 rfl dX6_signOfTwo_35 ?_
      exact g_iret C hr (ws' := []) hw [] (by decide) rfl ⟨(congrArg iI (by unfold sg2; (repeat' split) <;> omega)), rfl⟩ dX6_signOfTwo_37
    · skip
      refine g_iload C hl 0 rfl dX6_signOfTwo_30 ?_
      refine g_if_ne C 38 dX6_signOfTwo_32 (by decide) (by omega) (fun c_3 => ?_) (fun c_3 => ?_)
      · skip
        refine g_iload C hl 1 rfl dX6_signOfTwo_38 ?_
        refine g_if_ne C 46 dX6_signOfTwo_40 (by decide) (by omega) (fun c_4 => ?_) (fun c_4 => ?_)
        · skip
          refine g_lload_n C hl 2 rfl rfl dX6_signOfTwo_46 ?_
          refine g_lload_n C hl 2 rfl rfl dX6_signOfTwo_47 ?_
          refine g_lmul C dX6_signOfTwo_48 ?_
          refine g_lload_n C hl 3 rfl rfl dX6_signOfTwo_49 ?_
          refine g_lload_n C hl 3 rfl rfl dX6_signOfTwo_50 ?_
          refine g_lmul C dX6_signOfTwo_51 ?_
          refine g_lload C hl 4 rfl dX6_signOfTwo_52 ?_
          refine g_lmul C dX6_signOfTwo_54 ?_
          refine g_lsub C dX6_signOfTwo_55 ?_
          refine g_lstore C [(8, .long (lI ((uu * uu) - ((vv * vv) * dd)))), (7, .int (iI ((sg vv)))), (6, .int (iI ((sg uu)))), (0, .long (lI (uu))), (2, .long (lI (vv))), (4, .long (lI (dd)))] dX6_signOfTwo_56 hl (by decide) rfl ?_
          clear hl
          intro ls hl
          refine g_lload C hl 0 rfl dX6_signOfTwo_58 ?_
          refine g_lconst0 C dX6_signOfTwo_60 ?_
          refine g_lcmp_ne C 69 dX6_signOfTwo_61 dX6_signOfTwo_62 (by decide) (by omega) (by omega) (fun c_5 => ?_) (fun c_5 => ?_)
          · skip
            refine g_lload C hl 0 rfl dX6_signOfTwo_69 ?_
            refine g_lconst0 C dX6_signOfTwo_71 ?_
            refine g_lcmp_le C 81 dX6_signOfTwo_72 dX6_signOfTwo_73 (by decide) (by omega) (by omega) (fun c_6 => ?_) (fun c_6 => ?_)
            · skip
              refine g_iload C hl 1 rfl dX6_signOfTwo_81 ?_
              exact g_iret C hr (ws' := []) hw [] (by decide) rfl ⟨(congrArg iI (by unfold sg2; (repeat' split) <;> omega)), rfl⟩ dX6_signOfTwo_83
            · skip
              refine g_iload C hl 2 rfl dX6_signOfTwo_76 ?_
              refine g_goto C 83 dX6_signOfTwo_78 (by decide) ?_
              exact g_iret C hr (ws' := []) hw [] (by decide) rfl ⟨(congrArg iI (by unfold sg2; (repeat' split) <;> omega)), rfl⟩ dX6_signOfTwo_83
          · skip
            refine g_iconst C dX6_signOfTwo_65 ?_
            refine g_goto C 83 dX6_signOfTwo_66 (by decide) ?_
            exact g_iret C hr (ws' := []) hw [] (by decide) rfl ⟨(congrArg iI (by unfold sg2; (repeat' split) <;> omega)), rfl⟩ dX6_signOfTwo_83
        · skip
          refine g_iload C hl 0 rfl dX6_signOfTwo_43 ?_
          exact g_iret C hr (ws' := []) hw [] (by decide) rfl ⟨(congrArg iI (by unfold sg2; (repeat' split) <;> omega)), rfl⟩ dX6_signOfTwo_45
      · skip
        refine g_iload C hl 1 rfl dX6_signOfTwo_35 ?_
        exact g_iret C hr (ws' := []) hw [] (by decide) rfl ⟨(congrArg iI (by unfold sg2; (repeat' split) <;> omega)), rfl⟩ dX6_signOfTwo_37
  · skip
    refine g_iconst C dX6_signOfTwo_13 ?_
    refine g_goto C 21 dX6_signOfTwo_14 (by decide) ?_
    refine g_istore C [(7, .int (iI 0)), (6, .int (iI ((sg uu)))), (0, .long (lI (uu))), (2, .long (lI (vv))), (4, .long (lI (dd)))] dX6_signOfTwo_21 hl (by decide) rfl ?_
    clear hl
    intro ls hl
    refine g_iload C hl 1 rfl dX6_signOfTwo_23 ?_
    refine g_iload C hl 0 rfl dX6_signOfTwo_25 ?_
    refine g_icmp_eq C 35 dX6_signOfTwo_27 (by decide) (by omega) (by omega) (fun c_7 => ?_) (fun c_7 => ?_)
    · skip
      refine g_iload C hl 1 rfl dX6_signOfTwo_35 ?_
      exact g_iret C hr (ws' := []) hw [] (by decide) rfl ⟨(congrArg iI (by unfold sg2; (repeat' split) <;> omega)), rfl⟩ dX6_signOfTwo_37
    · skip
      refine g_iload C hl 0 rfl dX6_signOfTwo_30 ?_
      refine g_if_ne C 38 dX6_signOfTwo_32 (by decide) (by decide) (fun c_8 => absurd c_8 (by decide)) (fun c_8 => ?_)
      refine g_iload C hl 1 rfl dX6_signOfTwo_35 ?_
      exact g_iret C hr (ws' := []) hw [] (by decide) rfl ⟨(congrArg iI (by unfold sg2; (repeat' split) <;> omega)), rfl⟩ dX6_signOfTwo_37

set_option maxRecDepth 100000 in
set_option maxHeartbeats 8000000 in
theorem m_X6_isBeyond (l : Launch) (D : va_G) (G : gT) (ii : Int) (nn : Int) (ss : Int) (hi : -2147483648 ≤ ii ∧ ii ≤ 2147483647) (hn : -9000000000 ≤ nn ∧ nn ≤ 9000000000) (hs : -2147483648 ≤ ss ∧ ss ≤ 2147483647) : gMi l yX6_isBeyond wsX6_isBeyond ({ frames := 0, cells := 0, slots := 0, locals := 0 }) D G [.int (iI ii), .long (lI (nn)), .int (iI ss)] [] 0 0 (fun (r : Int32) (w : va_W) => r = (iI (bI (ii < 0 ∨ nn < 0 ∨ ss < ii + nn))) ∧ w = []) := by
  refine g_start_i (cc := cX6_isBeyond) (nL := 4) (own := RX6) (ret := some .boolean) (by decide +kernel) rfl rfl (Nat.le_of_ble_eq_true rfl) ?_
  intro p e s m below meth c A ls C hr hnm hw hl
  have hl : lv_has ls 4 [(0, .int (iI ii)), (1, .long (lI (nn))), (3, .int (iI ss))] := hl
  refine g_iload_n C hl 0 rfl rfl dX6_isBeyond_0 ?_
  refine g_if_lt C 20 dX6_isBeyond_1 (by decide) (by omega) (fun c_1 => ?_) (fun c_1 => ?_)
  · skip
    refine g_iconst C dX6_isBeyond_20 ?_
    refine g_goto C 25 dX6_isBeyond_21 (by decide) ?_
    exact g_zret C hr (ws' := []) hw [] (by decide) rfl (Or.inr rfl) ⟨(congrArg iI (by first | rfl | omega | (simp only [bI]; (repeat' split) <;> omega) | (simp_all [bI]; done) | (simp_all [bI]; omega))), rfl⟩ dX6_isBeyond_25
  · skip
    refine g_lload_n C hl 1 rfl rfl dX6_isBeyond_4 ?_
    refine g_lconst0 C dX6_isBeyond_5 ?_
    refine g_lcmp_lt C 20 dX6_isBeyond_6 dX6_isBeyond_7 (by decide) (by omega) (by omega) (fun c_2 => ?_) (fun c_2 => ?_)
    · skip
      refine g_iconst C dX6_isBeyond_20 ?_
      refine g_goto C 25 dX6_isBeyond_21 (by decide) ?_
      exact g_zret C hr (ws' := []) hw [] (by decide) rfl (Or.inr rfl) ⟨(congrArg iI (by first | rfl | omega | (simp only [bI]; (repeat' split) <;> omega) | (simp_all [bI]; done) | (simp_all [bI]; omega))), rfl⟩ dX6_isBeyond_25
    · skip
      refine g_iload_n C hl 0 rfl rfl dX6_isBeyond_10 ?_
      refine g_i2l C dX6_isBeyond_11 (by omega) ?_
      refine g_lload_n C hl 1 rfl rfl dX6_isBeyond_12 ?_
      refine g_ladd C dX6_isBeyond_13 ?_
      refine g_iload_n C hl 2 rfl rfl dX6_isBeyond_14 ?_
      refine g_i2l C dX6_isBeyond_15 (by omega) ?_
      refine g_lcmp_le C 24 dX6_isBeyond_16 dX6_isBeyond_17 (by decide) (by omega) (by omega) (fun c_3 => ?_) (fun c_3 => ?_)
      · skip
        refine g_iconst C dX6_isBeyond_24 ?_
        exact g_zret C hr (ws' := []) hw [] (by decide) rfl (Or.inl rfl) ⟨(congrArg iI (by first | rfl | omega | (simp only [bI]; (repeat' split) <;> omega) | (simp_all [bI]; done) | (simp_all [bI]; omega))), rfl⟩ dX6_isBeyond_25
      · skip
        refine g_iconst C dX6_isBeyond_20 ?_
        refine g_goto C 25 dX6_isBeyond_21 (by decide) ?_
        exact g_zret C hr (ws' := []) hw [] (by decide) rfl (Or.inr rfl) ⟨(congrArg iI (by first | rfl | omega | (simp only [bI]; (repeat' split) <;> omega) | (simp_all [bI]; done) | (simp_all [bI]; omega))), rfl⟩ dX6_isBeyond_25

set_option maxRecDepth 20000 in
theorem cn_X6_noSheet_235 : Jvm.Cond.constantLong RX6 235 (3) ∈ wsX6_noSheet := List.mem_cons_of_mem _ (List.mem_of_getElem? (i := 0) rfl)
set_option maxRecDepth 100000 in
set_option maxHeartbeats 8000000 in
theorem m_X6_noSheet (l : Launch) (D : va_G) (G : gT) (kk : Int) (hk : -2147483648 ≤ kk ∧ kk ≤ 2147483647) : gMi l yX6_noSheet wsX6_noSheet ({ frames := 1, cells := 0, slots := 0, locals := 25 }) D G [.int (iI kk)] [] 0 0 (fun (r : Int32) (w : va_W) => r = (iI (bI (¬ (0 ≤ kk ∧ kk ≤ 3)))) ∧ w = []) := by
  refine g_start_i (cc := cX6_noSheet) (nL := 1) (own := RX6) (ret := some .boolean) (by decide +kernel) rfl rfl (Nat.le_of_ble_eq_true rfl) ?_
  intro p e s m below meth c A ls C hr hnm hw hl
  have hl : lv_has ls 1 [(0, .int (iI kk))] := hl
  refine g_iload_n C hl 0 rfl rfl dX6_noSheet_0 ?_
  refine g_i2l C dX6_noSheet_1 (by omega) ?_
  refine g_lconst0 C dX6_noSheet_2 ?_
  refine g_ldc2 C (3) cn_X6_noSheet_235 (by decide +kernel) dX6_noSheet_3 ?_
  refine g_callSi C hw (wr := []) (As := [.long (lI (kk)), .long (lI (0)), .long (lI (3))]) (rest := []) (m_X6_in l D G (va := kk) (vb := 0) (vc := 3) (by first | assumption | omega) (by first | assumption | omega) (by first | assumption | omega)) (va_cwS 3 C.1.2.2.2.2 gX6_noSheet_X6_in rfl rfl rfl (by decide +kernel) ⟨Nat.le_of_ble_eq_true rfl, Nat.le_of_ble_eq_true rfl⟩) [] [] rfl rfl (by decide) (by decide) (by decide) rfl hl.1 _ rfl (Nat.le_of_ble_eq_true rfl) dX6_noSheet_6 ⟨Nat.le_of_ble_eq_true rfl, Nat.le_of_ble_eq_true rfl⟩ ?_
  clear hw
  rintro _ _ H locs ⟨rfl, rfl⟩ hw
  have hw : gW D A s.heap [] H locs := hw
  refine g_ifb_ne C 16 dX6_noSheet_9 (by decide) (fun c_1 => ?_) (fun c_1 => ?_)
  · skip
    refine g_iconst C dX6_noSheet_16 ?_
    exact g_zret C hr (ws' := []) hw [] (by decide) rfl (Or.inl rfl) ⟨(congrArg iI (by first | rfl | omega | (simp only [bI]; (repeat' split) <;> omega) | (simp_all [bI]; done) | (simp_all [bI]; omega))), rfl⟩ dX6_noSheet_17
  · skip
    refine g_iconst C dX6_noSheet_12 ?_
    refine g_goto C 17 dX6_noSheet_13 (by decide) ?_
    exact g_zret C hr (ws' := []) hw [] (by decide) rfl (Or.inr rfl) ⟨(congrArg iI (by first | rfl | omega | (simp only [bI]; (repeat' split) <;> omega) | (simp_all [bI]; done) | (simp_all [bI]; omega))), rfl⟩ dX6_noSheet_17

set_option maxRecDepth 20000 in
theorem cn_X6_isCoefficient_208 : Jvm.Cond.constantLong RX6 208 (-9) ∈ wsX6_isCoefficient := List.mem_cons_of_mem _ (List.mem_of_getElem? (i := 0) rfl)
set_option maxRecDepth 20000 in
theorem cn_X6_isCoefficient_89 : Jvm.Cond.constantLong RX6 89 (9) ∈ wsX6_isCoefficient := List.mem_cons_of_mem _ (List.mem_of_getElem? (i := 1) rfl)
set_option maxRecDepth 100000 in
set_option maxHeartbeats 8000000 in
theorem m_X6_isCoefficient (l : Launch) (D : va_G) (G : gT) (vv : Int) (hv : -2147483648 ≤ vv ∧ vv ≤ 2147483647) : gMi l yX6_isCoefficient wsX6_isCoefficient ({ frames := 1, cells := 0, slots := 0, locals := 25 }) D G [.int (iI vv)] [] 0 0 (fun (r : Int32) (w : va_W) => r = (iI (bI (-9 ≤ vv ∧ vv ≤ 9))) ∧ w = []) := by
  refine g_start_i (cc := cX6_isCoefficient) (nL := 1) (own := RX6) (ret := some .boolean) (by decide +kernel) rfl rfl (Nat.le_of_ble_eq_true rfl) ?_
  intro p e s m below meth c A ls C hr hnm hw hl
  have hl : lv_has ls 1 [(0, .int (iI vv))] := hl
  refine g_iload_n C hl 0 rfl rfl dX6_isCoefficient_0 ?_
  refine g_i2l C dX6_isCoefficient_1 (by omega) ?_
  refine g_ldc2 C (-9) cn_X6_isCoefficient_208 (by decide +kernel) dX6_isCoefficient_2 ?_
  refine g_ldc2 C (9) cn_X6_isCoefficient_89 (by decide +kernel) dX6_isCoefficient_5 ?_
  refine g_callSi C hw (wr := []) (As := [.long (lI (vv)), .long (lI ((-9))), .long (lI (9))]) (rest := []) (m_X6_in l D G (va := vv) (vb := (-9)) (vc := 9) (by first | assumption | omega) (by first | assumption | omega) (by first | assumption | omega)) (va_cwS 3 C.1.2.2.2.2 gX6_isCoefficient_X6_in rfl rfl rfl (by decide +kernel) ⟨Nat.le_of_ble_eq_true rfl, Nat.le_of_ble_eq_true rfl⟩) [] [] rfl rfl (by decide) (by decide) (by decide) rfl hl.1 _ rfl (Nat.le_of_ble_eq_true rfl) dX6_isCoefficient_8 ⟨Nat.le_of_ble_eq_true rfl, Nat.le_of_ble_eq_true rfl⟩ ?_
  clear hw
  rintro _ _ H locs ⟨rfl, rfl⟩ hw
  have hw : gW D A s.heap [] H locs := hw
  exact g_zret C hr (ws' := []) hw [] (by decide) rfl (bI_z _) ⟨(congrArg iI (by first | rfl | omega | (simp only [bI]; (repeat' split) <;> omega) | (simp_all [bI]; done) | (simp_all [bI]; omega))), rfl⟩ dX6_isCoefficient_11

set_option maxRecDepth 100000 in
set_option maxHeartbeats 8000000 in
theorem m_X5_isBelow (l : Launch) (D : va_G) (G : gT) (na : Int) (nb : Int) (ha : -2147483648 ≤ na ∧ na ≤ 2147483647) (hb : -2147483648 ≤ nb ∧ nb ≤ 2147483647) : gMi l yX5_isBelow wsX5_isBelow ({ frames := 0, cells := 0, slots := 0, locals := 0 }) D G [.int (iI na), .int (iI nb)] [] 0 0 (fun (r : Int32) (w : va_W) => r = (iI (bI (0 ≤ na ∧ na < nb))) ∧ w = []) := by
  refine g_start_i (cc := cX5_isBelow) (nL := 2) (own := RX5) (ret := some .boolean) (by decide +kernel) rfl rfl (Nat.le_of_ble_eq_true rfl) ?_
  intro p e s m below meth c A ls C hr hnm hw hl
  have hl : lv_has ls 2 [(0, .int (iI na)), (1, .int (iI nb))] := hl
  refine g_iload_n C hl 0 rfl rfl dX5_isBelow_0 ?_
  refine g_if_lt C 13 dX5_isBelow_1 (by decide) (by omega) (fun c_1 => ?_) (fun c_1 => ?_)
  · skip
    refine g_iconst C dX5_isBelow_13 ?_
    exact g_zret C hr (ws' := []) hw [] (by decide) rfl (Or.inl rfl) ⟨(congrArg iI (by first | rfl | omega | (simp only [bI]; (repeat' split) <;> omega) | (simp_all [bI]; done) | (simp_all [bI]; omega))), rfl⟩ dX5_isBelow_14
  · skip
    refine g_iload_n C hl 0 rfl rfl dX5_isBelow_4 ?_
    refine g_iload_n C hl 1 rfl rfl dX5_isBelow_5 ?_
    refine g_icmp_ge C 13 dX5_isBelow_6 (by decide) (by omega) (by omega) (fun c_2 => ?_) (fun c_2 => ?_)
    · skip
      refine g_iconst C dX5_isBelow_13 ?_
      exact g_zret C hr (ws' := []) hw [] (by decide) rfl (Or.inl rfl) ⟨(congrArg iI (by first | rfl | omega | (simp only [bI]; (repeat' split) <;> omega) | (simp_all [bI]; done) | (simp_all [bI]; omega))), rfl⟩ dX5_isBelow_14
    · skip
      refine g_iconst C dX5_isBelow_9 ?_
      refine g_goto C 14 dX5_isBelow_10 (by decide) ?_
      exact g_zret C hr (ws' := []) hw [] (by decide) rfl (Or.inr rfl) ⟨(congrArg iI (by first | rfl | omega | (simp only [bI]; (repeat' split) <;> omega) | (simp_all [bI]; done) | (simp_all [bI]; omega))), rfl⟩ dX5_isBelow_14

set_option maxRecDepth 100000 in
set_option maxHeartbeats 8000000 in
theorem m_X5_isSheet (l : Launch) (D : va_G) (G : gT) (kk : Int) (hk : -2147483648 ≤ kk ∧ kk ≤ 2147483647) : gMi l yX5_isSheet wsX5_isSheet ({ frames := 1, cells := 0, slots := 0, locals := 21 }) D G [.int (iI kk)] [] 0 0 (fun (r : Int32) (w : va_W) => r = (iI (bI (0 ≤ kk ∧ kk < 4))) ∧ w = []) := by
  refine g_start_i (cc := cX5_isSheet) (nL := 1) (own := RX5) (ret := some .boolean) (by decide +kernel) rfl rfl (Nat.le_of_ble_eq_true rfl) ?_
  intro p e s m below meth c A ls C hr hnm hw hl
  have hl : lv_has ls 1 [(0, .int (iI kk))] := hl
  refine g_iload_n C hl 0 rfl rfl dX5_isSheet_0 ?_
  refine g_iconst C dX5_isSheet_1 ?_
  refine g_callSi C hw (wr := []) (As := [.int (iI kk), .int (iI 4)]) (rest := []) (m_X5_isBelow l D G (na := kk) (nb := 4) (by first | assumption | omega) (by first | assumption | omega)) (va_cwS 2 C.1.2.2.2.2 gX5_isSheet_X5_isBelow rfl rfl rfl (by decide +kernel) ⟨Nat.le_of_ble_eq_true rfl, Nat.le_of_ble_eq_true rfl⟩) [] [] rfl rfl (by decide) (by decide) (by decide) rfl hl.1 _ rfl (Nat.le_of_ble_eq_true rfl) dX5_isSheet_2 ⟨Nat.le_of_ble_eq_true rfl, Nat.le_of_ble_eq_true rfl⟩ ?_
  clear hw
  rintro _ _ H locs ⟨rfl, rfl⟩ hw
  have hw : gW D A s.heap [] H locs := hw
  exact g_zret C hr (ws' := []) hw [] (by decide) rfl (bI_z _) ⟨rfl, rfl⟩ dX5_isSheet_5

set_option maxRecDepth 100000 in
set_option maxHeartbeats 8000000 in
theorem m_X5_isNumber (l : Launch) (D : va_G) (G : gT) (vv : Int) (hv : -2147483648 ≤ vv ∧ vv ≤ 2147483647) : gMi l yX5_isNumber wsX5_isNumber ({ frames := 0, cells := 0, slots := 0, locals := 0 }) D G [.int (iI vv)] [] 0 0 (fun (r : Int32) (w : va_W) => r = (iI (bI (-9 ≤ vv ∧ vv ≤ 9))) ∧ w = []) := by
  refine g_start_i (cc := cX5_isNumber) (nL := 1) (own := RX5) (ret := some .boolean) (by decide +kernel) rfl rfl (Nat.le_of_ble_eq_true rfl) ?_
  intro p e s m below meth c A ls C hr hnm hw hl
  have hl : lv_has ls 1 [(0, .int (iI vv))] := hl
  refine g_iload_n C hl 0 rfl rfl dX5_isNumber_0 ?_
  refine g_bipush C dX5_isNumber_1 (by decide) ?_
  refine g_icmp_lt C 16 dX5_isNumber_3 (by decide) (by omega) (by omega) (fun c_1 => ?_) (fun c_1 => ?_)
  · skip
    refine g_iconst C dX5_isNumber_16 ?_
    exact g_zret C hr (ws' := []) hw [] (by decide) rfl (Or.inl rfl) ⟨(congrArg iI (by first | rfl | omega | (simp only [bI]; (repeat' split) <;> omega) | (simp_all [bI]; done) | (simp_all [bI]; omega))), rfl⟩ dX5_isNumber_17
  · skip
    refine g_iload_n C hl 0 rfl rfl dX5_isNumber_6 ?_
    refine g_bipush C dX5_isNumber_7 (by decide) ?_
    refine g_icmp_gt C 16 dX5_isNumber_9 (by decide) (by omega) (by omega) (fun c_2 => ?_) (fun c_2 => ?_)
    · skip
      refine g_iconst C dX5_isNumber_16 ?_
      exact g_zret C hr (ws' := []) hw [] (by decide) rfl (Or.inl rfl) ⟨(congrArg iI (by first | rfl | omega | (simp only [bI]; (repeat' split) <;> omega) | (simp_all [bI]; done) | (simp_all [bI]; omega))), rfl⟩ dX5_isNumber_17
    · skip
      refine g_iconst C dX5_isNumber_12 ?_
      refine g_goto C 17 dX5_isNumber_13 (by decide) ?_
      exact g_zret C hr (ws' := []) hw [] (by decide) rfl (Or.inr rfl) ⟨(congrArg iI (by first | rfl | omega | (simp only [bI]; (repeat' split) <;> omega) | (simp_all [bI]; done) | (simp_all [bI]; omega))), rfl⟩ dX5_isNumber_17

set_option maxRecDepth 100000 in
set_option maxHeartbeats 8000000 in
theorem m_X5_isAskedOfDay (l : Launch) (D : va_G) (G : gT) (wh : Int) (hw1 : -2147483648 ≤ wh ∧ wh ≤ 2147483647) : gMi l yX5_isAskedOfDay wsX5_isAskedOfDay ({ frames := 0, cells := 0, slots := 0, locals := 0 }) D G [.int (iI wh)] [] 0 0 (fun (r : Int32) (w : va_W) => r = (iI (bI ((0 ≤ wh ∧ wh ≤ 4) ∨ (10 ≤ wh ∧ wh < 14)))) ∧ w = []) := by
  refine g_start_i (cc := cX5_isAskedOfDay) (nL := 1) (own := RX5) (ret := some .boolean) (by decide +kernel) rfl rfl (Nat.le_of_ble_eq_true rfl) ?_
  intro p e s m below meth c A ls C hr hnm hw hl
  have hl : lv_has ls 1 [(0, .int (iI wh))] := hl
  refine g_iload_n C hl 0 rfl rfl dX5_isAskedOfDay_0 ?_
  refine g_if_lt C 9 dX5_isAskedOfDay_1 (by decide) (by omega) (fun c_1 => ?_) (fun c_1 => ?_)
  · skip
    refine g_iload_n C hl 0 rfl rfl dX5_isAskedOfDay_9 ?_
    refine g_bipush C dX5_isAskedOfDay_10 (by decide) ?_
    refine g_icmp_lt C 25 dX5_isAskedOfDay_12 (by decide) (by omega) (by omega) (fun c_2 => ?_) (fun c_2 => ?_)
    · skip
      refine g_iconst C dX5_isAskedOfDay_25 ?_
      exact g_zret C hr (ws' := []) hw [] (by decide) rfl (Or.inl rfl) ⟨(congrArg iI (by first | rfl | omega | (simp only [bI]; (repeat' split) <;> omega) | (simp_all [bI]; done) | (simp_all [bI]; omega))), rfl⟩ dX5_isAskedOfDay_26
    · skip
      refine g_iload_n C hl 0 rfl rfl dX5_isAskedOfDay_15 ?_
      refine g_bipush C dX5_isAskedOfDay_16 (by decide) ?_
      refine g_icmp_ge C 25 dX5_isAskedOfDay_18 (by decide) (by omega) (by omega) (fun c_3 => ?_) (fun c_3 => ?_)
      · skip
        refine g_iconst C dX5_isAskedOfDay_25 ?_
        exact g_zret C hr (ws' := []) hw [] (by decide) rfl (Or.inl rfl) ⟨(congrArg iI (by first | rfl | omega | (simp only [bI]; (repeat' split) <;> omega) | (simp_all [bI]; done) | (simp_all [bI]; omega))), rfl⟩ dX5_isAskedOfDay_26
      · skip
        refine g_iconst C dX5_isAskedOfDay_21 ?_
        refine g_goto C 26 dX5_isAskedOfDay_22 (by decide) ?_
        exact g_zret C hr (ws' := []) hw [] (by decide) rfl (Or.inr rfl) ⟨(congrArg iI (by first | rfl | omega | (simp only [bI]; (repeat' split) <;> omega) | (simp_all [bI]; done) | (simp_all [bI]; omega))), rfl⟩ dX5_isAskedOfDay_26
  · skip
    refine g_iload_n C hl 0 rfl rfl dX5_isAskedOfDay_4 ?_
    refine g_iconst C dX5_isAskedOfDay_5 ?_
    refine g_icmp_le C 21 dX5_isAskedOfDay_6 (by decide) (by omega) (by omega) (fun c_4 => ?_) (fun c_4 => ?_)
    · skip
      refine g_iconst C dX5_isAskedOfDay_21 ?_
      refine g_goto C 26 dX5_isAskedOfDay_22 (by decide) ?_
      exact g_zret C hr (ws' := []) hw [] (by decide) rfl (Or.inr rfl) ⟨(congrArg iI (by first | rfl | omega | (simp only [bI]; (repeat' split) <;> omega) | (simp_all [bI]; done) | (simp_all [bI]; omega))), rfl⟩ dX5_isAskedOfDay_26
    · skip
      refine g_iload_n C hl 0 rfl rfl dX5_isAskedOfDay_9 ?_
      refine g_bipush C dX5_isAskedOfDay_10 (by decide) ?_
      refine g_icmp_lt C 25 dX5_isAskedOfDay_12 (by decide) (by omega) (by omega) (fun c_5 => ?_) (fun c_5 => ?_)
      · skip
        refine g_iconst C dX5_isAskedOfDay_25 ?_
        exact g_zret C hr (ws' := []) hw [] (by decide) rfl (Or.inl rfl) ⟨(congrArg iI (by first | rfl | omega | (simp only [bI]; (repeat' split) <;> omega) | (simp_all [bI]; done) | (simp_all [bI]; omega))), rfl⟩ dX5_isAskedOfDay_26
      · skip
        refine g_iload_n C hl 0 rfl rfl dX5_isAskedOfDay_15 ?_
        refine g_bipush C dX5_isAskedOfDay_16 (by decide) ?_
        refine g_icmp_ge C 25 dX5_isAskedOfDay_18 (by decide) (by omega) (by omega) (fun c_6 => ?_) (fun c_6 => ?_)
        · skip
          refine g_iconst C dX5_isAskedOfDay_25 ?_
          exact g_zret C hr (ws' := []) hw [] (by decide) rfl (Or.inl rfl) ⟨(congrArg iI (by first | rfl | omega | (simp only [bI]; (repeat' split) <;> omega) | (simp_all [bI]; done) | (simp_all [bI]; omega))), rfl⟩ dX5_isAskedOfDay_26
        · skip
          refine g_iconst C dX5_isAskedOfDay_21 ?_
          refine g_goto C 26 dX5_isAskedOfDay_22 (by decide) ?_
          exact g_zret C hr (ws' := []) hw [] (by decide) rfl (Or.inr rfl) ⟨(congrArg iI (by first | rfl | omega | (simp only [bI]; (repeat' split) <;> omega) | (simp_all [bI]; done) | (simp_all [bI]; omega))), rfl⟩ dX5_isAskedOfDay_26

set_option maxRecDepth 20000 in
theorem hin_X6_refused_X6 : ∀ w ∈ u_ws RX6 TX6 30, w ∈ wsX6_refused := by
  intro w h
  exact List.mem_cons_of_mem _ (List.mem_append_right _ (h))
set_option maxRecDepth 20000 in
theorem lk_X6_refused_67 : Cond.fieldLink RX6 67 (TX6 0).1 (TX6 0).2.1 (TX6 0).2.2.1 ∈ wsX6_refused := List.mem_cons_of_mem _ (List.mem_append_left _ (List.mem_of_getElem? (i := 0) rfl))
set_option maxRecDepth 100000 in
set_option maxHeartbeats 8000000 in
theorem m_X6_refused (l : Launch) (D : va_G) (G : gT) (h : Nat) (a : Nat → Nat) (ft : Int) (pn : Int) (ra : Int) (rm : Int) (rP : Int) (rS : Int) (rD : Int) (rQ : Int) (al : Int) (rw : Int) (rc : Int) (tr : Int) (cd : Int)  : gMi l yX6_refused wsX6_refused ({ frames := 0, cells := 0, slots := 0, locals := 0 }) D G [.ref h, .int (iI cd)] [oX6 h a ft pn ra rm rP rS rD rQ al rw rc tr] 0 0 (fun (r : Int32) (w : va_W) => r = (iI cd) ∧ w = [oX6 h a 0 pn ra rm rP rS rD rQ al rw rc tr]) := by
  refine g_start_i (cc := cX6_refused) (nL := 2) (own := RX6) (ret := some .int) (by decide +kernel) rfl rfl (Nat.le_of_ble_eq_true rfl) ?_
  intro p e s m below meth c A ls C hr hnm hw hl
  have hl : lv_has ls 2 [(0, .ref h), (1, .int (iI cd))] := hl
  refine g_aload_n C hl 0 rfl rfl dX6_refused_0 ?_
  refine g_iconst C dX6_refused_1 ?_
  refine g_put C hw [oX6 h a 0 pn ra rm rP rS rD rQ al rw rc tr] hin_X6_refused_X6 tyX6 tyX6_ok nmX6 0 rfl rfl 0 (by decide) lk_X6_refused_67 rfl rfl rfl rfl (Nat.le_of_ble_eq_true rfl) rfl dX6_refused_2 ?_
  clear hw
  intro H locs hw
  refine g_iload_n C hl 1 rfl rfl dX6_refused_5 ?_
  exact g_iret C hr (ws' := [oX6 h a 0 pn ra rm rP rS rD rQ al rw rc tr]) hw [0] (by decide) rfl ⟨rfl, rfl⟩ dX6_refused_6

set_option maxRecDepth 20000 in
theorem hin_X6_failed_X6 : ∀ w ∈ u_ws RX6 TX6 30, w ∈ wsX6_failed := by
  intro w h
  exact List.mem_cons_of_mem _ (List.mem_append_right _ (h))
set_option maxRecDepth 20000 in
theorem lk_X6_failed_67 : Cond.fieldLink RX6 67 (TX6 0).1 (TX6 0).2.1 (TX6 0).2.2.1 ∈ wsX6_failed := List.mem_cons_of_mem _ (List.mem_append_left _ (List.mem_of_getElem? (i := 0) rfl))
set_option maxRecDepth 100000 in
set_option maxHeartbeats 8000000 in
theorem m_X6_failed (l : Launch) (D : va_G) (G : gT) (h : Nat) (a : Nat → Nat) (ft : Int) (pn : Int) (ra : Int) (rm : Int) (rP : Int) (rS : Int) (rD : Int) (rQ : Int) (al : Int) (rw : Int) (rc : Int) (tr : Int) (fv : Int)  : gMi l yX6_failed wsX6_failed ({ frames := 0, cells := 0, slots := 0, locals := 0 }) D G [.ref h, .int (iI fv)] [oX6 h a ft pn ra rm rP rS rD rQ al rw rc tr] 0 0 (fun (r : Int32) (w : va_W) => r = (iI ((-10) - fv)) ∧ w = [oX6 h a fv pn ra rm rP rS rD rQ al rw rc tr]) := by
  refine g_start_i (cc := cX6_failed) (nL := 2) (own := RX6) (ret := some .int) (by decide +kernel) rfl rfl (Nat.le_of_ble_eq_true rfl) ?_
  intro p e s m below meth c A ls C hr hnm hw hl
  have hl : lv_has ls 2 [(0, .ref h), (1, .int (iI fv))] := hl
  refine g_aload_n C hl 0 rfl rfl dX6_failed_0 ?_
  refine g_iload_n C hl 1 rfl rfl dX6_failed_1 ?_
  refine g_put C hw [oX6 h a fv pn ra rm rP rS rD rQ al rw rc tr] hin_X6_failed_X6 tyX6 tyX6_ok nmX6 0 rfl rfl 0 (by decide) lk_X6_failed_67 rfl rfl rfl rfl (Nat.le_of_ble_eq_true rfl) rfl dX6_failed_2 ?_
  clear hw
  intro H locs hw
  refine g_bipush C dX6_failed_5 (by decide) ?_
  refine g_iload_n C hl 1 rfl rfl dX6_failed_7 ?_
  refine g_isub C dX6_failed_8 ?_
  exact g_iret C hr (ws' := [oX6 h a fv pn ra rm rP rS rD rQ al rw rc tr]) hw [0] (by decide) rfl ⟨rfl, rfl⟩ dX6_failed_9

set_option maxRecDepth 20000 in
theorem hin_X6_failedLong_X6 : ∀ w ∈ u_ws RX6 TX6 30, w ∈ wsX6_failedLong := by
  intro w h
  exact List.mem_cons_of_mem _ (List.mem_append_right _ (h))
set_option maxRecDepth 20000 in
theorem lk_X6_failedLong_67 : Cond.fieldLink RX6 67 (TX6 0).1 (TX6 0).2.1 (TX6 0).2.2.1 ∈ wsX6_failedLong := List.mem_cons_of_mem _ (List.mem_append_left _ (List.mem_of_getElem? (i := 0) rfl))
set_option maxRecDepth 100000 in
set_option maxHeartbeats 8000000 in
theorem m_X6_failedLong (l : Launch) (D : va_G) (G : gT) (h : Nat) (a : Nat → Nat) (ft : Int) (pn : Int) (ra : Int) (rm : Int) (rP : Int) (rS : Int) (rD : Int) (rQ : Int) (al : Int) (rw : Int) (rc : Int) (tr : Int) (fv : Int)  : gMl l yX6_failedLong wsX6_failedLong ({ frames := 1, cells := 0, slots := 0, locals := 19 }) D G [.ref h, .int (iI fv)] [oX6 h a ft pn ra rm rP rS rD rQ al rw rc tr] 0 0 (fun (r : Int64) (w : va_W) => r = (lI (-9223372036854775808)) ∧ w = [oX6 h a fv pn ra rm rP rS rD rQ al rw rc tr]) := by
  refine g_start_l (cc := cX6_failedLong) (nL := 2) (own := RX6) (ret := some .long) (by decide +kernel) rfl rfl (Nat.le_of_ble_eq_true rfl) ?_
  intro p e s m below meth c A ls C hr hnm hw hl
  have hl : lv_has ls 2 [(0, .ref h), (1, .int (iI fv))] := hl
  refine g_aload_n C hl 0 rfl rfl dX6_failedLong_0 ?_
  refine g_iload_n C hl 1 rfl rfl dX6_failedLong_1 ?_
  refine g_put C hw [oX6 h a fv pn ra rm rP rS rD rQ al rw rc tr] hin_X6_failedLong_X6 tyX6 tyX6_ok nmX6 0 rfl rfl 0 (by decide) lk_X6_failedLong_67 rfl rfl rfl rfl (Nat.le_of_ble_eq_true rfl) rfl dX6_failedLong_2 ?_
  clear hw
  intro H locs hw
  refine g_callSl C hw (wr := [oX6 h a fv pn ra rm rP rS rD rQ al rw rc tr]) (As := []) (rest := []) (m_X6_lost l D G  ) (va_cwS 0 C.1.2.2.2.2 gX6_failedLong_X6_lost rfl rfl rfl (by decide +kernel) ⟨Nat.le_of_ble_eq_true rfl, Nat.le_of_ble_eq_true rfl⟩) [] [0] rfl rfl (by decide) (by decide) (by decide) rfl hl.1 _ rfl (Nat.le_of_ble_eq_true rfl) dX6_failedLong_5 ⟨Nat.le_of_ble_eq_true rfl, Nat.le_of_ble_eq_true rfl⟩ ?_
  clear hw
  rintro _ _ H locs ⟨rfl, rfl⟩ hw
  have hw : gW D A s.heap [oX6 h a fv pn ra rm rP rS rD rQ al rw rc tr] H locs := hw
  exact g_lret C hr (ws' := [oX6 h a fv pn ra rm rP rS rD rQ al rw rc tr]) hw [0] (by decide) rfl ⟨(congrArg lI (by first | rfl | omega | (simp only [bI]; (repeat' split) <;> omega) | (simp_all [bI]; done) | (simp_all [bI]; omega))), rfl⟩ dX6_failedLong_8

set_option maxRecDepth 20000 in
theorem hin_X6_noPolynomial_X6 : ∀ w ∈ u_ws RX6 TX6 30, w ∈ wsX6_noPolynomial := by
  intro w h
  exact List.mem_cons_of_mem _ (List.mem_append_right _ (h))
set_option maxRecDepth 20000 in
theorem lk_X6_noPolynomial_75 : Cond.fieldLink RX6 75 (TX6 1).1 (TX6 1).2.1 (TX6 1).2.2.1 ∈ wsX6_noPolynomial := List.mem_cons_of_mem _ (List.mem_append_left _ (List.mem_of_getElem? (i := 0) rfl))
set_option maxRecDepth 100000 in
set_option maxHeartbeats 8000000 in
theorem m_X6_noPolynomial (l : Launch) (D : va_G) (G : gT) (h : Nat) (a : Nat → Nat) (ft : Int) (pn : Int) (ra : Int) (rm : Int) (rP : Int) (rS : Int) (rD : Int) (rQ : Int) (al : Int) (rw : Int) (rc : Int) (tr : Int) (pp : Int) (hp : -2147483648 ≤ pp ∧ pp ≤ 2147483647) (hn : 0 ≤ pn ∧ pn ≤ 4) : gMi l yX6_noPolynomial wsX6_noPolynomial ({ frames := 1, cells := 0, slots := 0, locals := 25 }) D G [.ref h, .int (iI pp)] [oX6 h a ft pn ra rm rP rS rD rQ al rw rc tr] 0 0 (fun (r : Int32) (w : va_W) => r = (iI (bI (¬ (0 ≤ pp ∧ pp < pn)))) ∧ w = [oX6 h a ft pn ra rm rP rS rD rQ al rw rc tr]) := by
  refine g_start_i (cc := cX6_noPolynomial) (nL := 2) (own := RX6) (ret := some .boolean) (by decide +kernel) rfl rfl (Nat.le_of_ble_eq_true rfl) ?_
  intro p e s m below meth c A ls C hr hnm hw hl
  have hl : lv_has ls 2 [(0, .ref h), (1, .int (iI pp))] := hl
  refine g_iload_n C hl 1 rfl rfl dX6_noPolynomial_0 ?_
  refine g_i2l C dX6_noPolynomial_1 (by omega) ?_
  refine g_lconst0 C dX6_noPolynomial_2 ?_
  refine g_aload_n C hl 0 rfl rfl dX6_noPolynomial_3 ?_
  refine g_get C hw hin_X6_noPolynomial_X6 0 rfl rfl 1 (by decide) lk_X6_noPolynomial_75 rfl dX6_noPolynomial_4 ?_
  refine g_i2l C dX6_noPolynomial_7 (by omega) ?_
  refine g_lconst1 C dX6_noPolynomial_8 ?_
  refine g_lsub C dX6_noPolynomial_9 ?_
  refine g_callSi C hw (wr := [oX6 h a ft pn ra rm rP rS rD rQ al rw rc tr]) (As := [.long (lI (pp)), .long (lI (0)), .long (lI (pn - 1))]) (rest := []) (m_X6_in l D G (va := pp) (vb := 0) (vc := (pn - 1)) (by first | assumption | omega) (by first | assumption | omega) (by first | assumption | omega)) (va_cwS 3 C.1.2.2.2.2 gX6_noPolynomial_X6_in rfl rfl rfl (by decide +kernel) ⟨Nat.le_of_ble_eq_true rfl, Nat.le_of_ble_eq_true rfl⟩) [] [0] rfl rfl (by decide) (by decide) (by decide) rfl hl.1 _ rfl (Nat.le_of_ble_eq_true rfl) dX6_noPolynomial_10 ⟨Nat.le_of_ble_eq_true rfl, Nat.le_of_ble_eq_true rfl⟩ ?_
  clear hw
  rintro _ _ H locs ⟨rfl, rfl⟩ hw
  have hw : gW D A s.heap [oX6 h a ft pn ra rm rP rS rD rQ al rw rc tr] H locs := hw
  refine g_ifb_ne C 20 dX6_noPolynomial_13 (by decide) (fun c_1 => ?_) (fun c_1 => ?_)
  · skip
    refine g_iconst C dX6_noPolynomial_20 ?_
    exact g_zret C hr (ws' := [oX6 h a ft pn ra rm rP rS rD rQ al rw rc tr]) hw [0] (by decide) rfl (Or.inl rfl) ⟨(congrArg iI (by first | rfl | omega | (simp only [bI]; (repeat' split) <;> omega) | (simp_all [bI]; done) | (simp_all [bI]; omega))), rfl⟩ dX6_noPolynomial_21
  · skip
    refine g_iconst C dX6_noPolynomial_16 ?_
    refine g_goto C 21 dX6_noPolynomial_17 (by decide) ?_
    exact g_zret C hr (ws' := [oX6 h a ft pn ra rm rP rS rD rQ al rw rc tr]) hw [0] (by decide) rfl (Or.inr rfl) ⟨(congrArg iI (by first | rfl | omega | (simp only [bI]; (repeat' split) <;> omega) | (simp_all [bI]; done) | (simp_all [bI]; omega))), rfl⟩ dX6_noPolynomial_21

set_option maxRecDepth 20000 in
theorem hin_X6_traced_X6 : ∀ w ∈ u_ws RX6 TX6 30, w ∈ wsX6_traced := by
  intro w h
  exact List.mem_cons_of_mem _ (List.mem_append_right _ (h))
set_option maxRecDepth 20000 in
theorem lk_X6_traced_274 : Cond.fieldLink RX6 274 (TX6 29).1 (TX6 29).2.1 (TX6 29).2.2.1 ∈ wsX6_traced := List.mem_cons_of_mem _ (List.mem_append_left _ (List.mem_of_getElem? (i := 0) rfl))
set_option maxRecDepth 100000 in
set_option maxHeartbeats 8000000 in
theorem m_X6_traced (l : Launch) (D : va_G) (G : gT) (h : Nat) (a : Nat → Nat) (ft : Int) (pn : Int) (ra : Int) (rm : Int) (rP : Int) (rS : Int) (rD : Int) (rQ : Int) (al : Int) (rw : Int) (rc : Int) (tr : Int) (nn : Int)  : gMv l yX6_traced wsX6_traced ({ frames := 0, cells := 0, slots := 0, locals := 0 }) D G [.ref h, .int (iI nn)] [oX6 h a ft pn ra rm rP rS rD rQ al rw rc tr] 0 0 (fun (w : va_W) => w = [oX6 h a ft pn ra rm rP rS rD rQ al rw rc (31 * tr + nn)]) := by
  refine g_start_v (cc := cX6_traced) (nL := 2) (own := RX6) (ret := none) (by decide +kernel) rfl rfl (Nat.le_of_ble_eq_true rfl) ?_
  intro p e s m below meth c A ls C hr hnm hw hl
  have hl : lv_has ls 2 [(0, .ref h), (1, .int (iI nn))] := hl
  refine g_aload_n C hl 0 rfl rfl dX6_traced_0 ?_
  refine g_bipush C dX6_traced_1 (by decide) ?_
  refine g_aload_n C hl 0 rfl rfl dX6_traced_3 ?_
  refine g_get C hw hin_X6_traced_X6 0 rfl rfl 29 (by decide) lk_X6_traced_274 rfl dX6_traced_4 ?_
  refine g_imul C dX6_traced_7 ?_
  refine g_iload_n C hl 1 rfl rfl dX6_traced_8 ?_
  refine g_iadd C dX6_traced_9 ?_
  refine g_put C hw [oX6 h a ft pn ra rm rP rS rD rQ al rw rc ((31 * tr) + nn)] hin_X6_traced_X6 tyX6 tyX6_ok nmX6 0 rfl rfl 29 (by decide) lk_X6_traced_274 rfl rfl rfl rfl (Nat.le_of_ble_eq_true rfl) rfl dX6_traced_10 ?_
  clear hw
  intro H locs hw
  exact g_vret C hr (ws' := [oX6 h a ft pn ra rm rP rS rD rQ al rw rc ((31 * tr) + nn)]) hw [0] (by decide) rfl (by rfl) dX6_traced_13

set_option maxRecDepth 20000 in
theorem hin_X6_trace_X6 : ∀ w ∈ u_ws RX6 TX6 30, w ∈ wsX6_trace := by
  intro w h
  exact List.mem_cons_of_mem _ (List.mem_append_right _ (h))
set_option maxRecDepth 20000 in
theorem lk_X6_trace_274 : Cond.fieldLink RX6 274 (TX6 29).1 (TX6 29).2.1 (TX6 29).2.2.1 ∈ wsX6_trace := List.mem_cons_of_mem _ (List.mem_append_left _ (List.mem_of_getElem? (i := 0) rfl))
set_option maxRecDepth 100000 in
set_option maxHeartbeats 8000000 in
theorem m_X6_trace (l : Launch) (D : va_G) (G : gT) (h : Nat) (a : Nat → Nat) (ft : Int) (pn : Int) (ra : Int) (rm : Int) (rP : Int) (rS : Int) (rD : Int) (rQ : Int) (al : Int) (rw : Int) (rc : Int) (tr : Int)  : gMi l yX6_trace wsX6_trace ({ frames := 0, cells := 0, slots := 0, locals := 0 }) D G [.ref h] [oX6 h a ft pn ra rm rP rS rD rQ al rw rc tr] 0 0 (fun (r : Int32) (w : va_W) => r = (iI tr) ∧ w = [oX6 h a ft pn ra rm rP rS rD rQ al rw rc tr]) := by
  refine g_start_i (cc := cX6_trace) (nL := 1) (own := RX6) (ret := some .int) (by decide +kernel) rfl rfl (Nat.le_of_ble_eq_true rfl) ?_
  intro p e s m below meth c A ls C hr hnm hw hl
  have hl : lv_has ls 1 [(0, .ref h)] := hl
  refine g_aload_n C hl 0 rfl rfl dX6_trace_0 ?_
  refine g_get C hw hin_X6_trace_X6 0 rfl rfl 29 (by decide) lk_X6_trace_274 rfl dX6_trace_1 ?_
  exact g_iret C hr (ws' := [oX6 h a ft pn ra rm rP rS rD rQ al rw rc tr]) hw [0] (by decide) rfl ⟨rfl, rfl⟩ dX6_trace_4

set_option maxRecDepth 20000 in
theorem hin_X6_fault_X6 : ∀ w ∈ u_ws RX6 TX6 30, w ∈ wsX6_fault := by
  intro w h
  exact List.mem_cons_of_mem _ (List.mem_append_right _ (h))
set_option maxRecDepth 20000 in
theorem lk_X6_fault_67 : Cond.fieldLink RX6 67 (TX6 0).1 (TX6 0).2.1 (TX6 0).2.2.1 ∈ wsX6_fault := List.mem_cons_of_mem _ (List.mem_append_left _ (List.mem_of_getElem? (i := 0) rfl))
set_option maxRecDepth 100000 in
set_option maxHeartbeats 8000000 in
theorem m_X6_fault (l : Launch) (D : va_G) (G : gT) (h : Nat) (a : Nat → Nat) (ft : Int) (pn : Int) (ra : Int) (rm : Int) (rP : Int) (rS : Int) (rD : Int) (rQ : Int) (al : Int) (rw : Int) (rc : Int) (tr : Int)  : gMi l yX6_fault wsX6_fault ({ frames := 0, cells := 0, slots := 0, locals := 0 }) D G [.ref h] [oX6 h a ft pn ra rm rP rS rD rQ al rw rc tr] 0 0 (fun (r : Int32) (w : va_W) => r = (iI ft) ∧ w = [oX6 h a ft pn ra rm rP rS rD rQ al rw rc tr]) := by
  refine g_start_i (cc := cX6_fault) (nL := 1) (own := RX6) (ret := some .int) (by decide +kernel) rfl rfl (Nat.le_of_ble_eq_true rfl) ?_
  intro p e s m below meth c A ls C hr hnm hw hl
  have hl : lv_has ls 1 [(0, .ref h)] := hl
  refine g_aload_n C hl 0 rfl rfl dX6_fault_0 ?_
  refine g_get C hw hin_X6_fault_X6 0 rfl rfl 0 (by decide) lk_X6_fault_67 rfl dX6_fault_1 ?_
  exact g_iret C hr (ws' := [oX6 h a ft pn ra rm rP rS rD rQ al rw rc tr]) hw [0] (by decide) rfl ⟨rfl, rfl⟩ dX6_fault_4
