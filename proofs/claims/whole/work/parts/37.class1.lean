set_option maxRecDepth 100000 in
set_option maxHeartbeats 8000000 in
theorem m_J6_signum_0f7a4 (l : Launch) (D : va_G) (G : gT) (va : Int) (ha : -2147483648 ≤ va ∧ va ≤ 2147483647) : gMi l yJ6_signum_0f7a4 wsJ6_signum_0f7a4 ({ frames := 0, cells := 0, slots := 0, locals := 0 }) D G [.int (iI va)] [] 0 0 (fun (r : Int32) (w : va_W) => r = (iI (sg va)) ∧ w = []) := by
  refine g_start_i (cc := cJ6_signum_0f7a4) (nL := 1) (own := RJ6) (ret := some .int) (by decide +kernel) rfl rfl (Nat.le_of_ble_eq_true rfl) ?_
  intro p e s m below meth c A ls C hr hnm hw hl
  have hl : lv_has ls 1 [(0, .int (iI va))] := hl
  refine g_iload_n C hl 0 rfl rfl dJ6_signum_0f7a4_0 ?_
  refine g_bipush C dJ6_signum_0f7a4_1 (by decide) ?_
  refine g_ishr C dJ6_signum_0f7a4_3 ?_
  refine g_iload_n C hl 0 rfl rfl dJ6_signum_0f7a4_4 ?_
  refine g_ineg C dJ6_signum_0f7a4_5 ?_
  refine g_bipush C dJ6_signum_0f7a4_6 (by decide) ?_
  refine g_iushr C dJ6_signum_0f7a4_8 ?_
  refine g_ior C dJ6_signum_0f7a4_9 ?_
  exact g_iret C hr (ws' := []) hw [] (by decide) rfl ⟨(by exact sgn_i ha), rfl⟩ dJ6_signum_0f7a4_10

set_option maxRecDepth 100000 in
set_option maxHeartbeats 8000000 in
theorem m_J13_signum_95d88 (l : Launch) (D : va_G) (G : gT) (va : Int) (ha : -9223372036854775808 ≤ va ∧ va ≤ 9223372036854775807) : gMi l yJ13_signum_95d88 wsJ13_signum_95d88 ({ frames := 0, cells := 0, slots := 0, locals := 0 }) D G [.long (lI (va))] [] 0 0 (fun (r : Int32) (w : va_W) => r = (iI (sg va)) ∧ w = []) := by
  refine g_start_i (cc := cJ13_signum_95d88) (nL := 2) (own := RJ13) (ret := some .int) (by decide +kernel) rfl rfl (Nat.le_of_ble_eq_true rfl) ?_
  intro p e s m below meth c A ls C hr hnm hw hl
  have hl : lv_has ls 2 [(0, .long (lI (va)))] := hl
  refine g_lload_n C hl 0 rfl rfl dJ13_signum_95d88_0 ?_
  refine g_bipush C dJ13_signum_95d88_1 (by decide) ?_
  refine g_lshr C dJ13_signum_95d88_3 ?_
  refine g_lload_n C hl 0 rfl rfl dJ13_signum_95d88_4 ?_
  refine g_lneg C dJ13_signum_95d88_5 ?_
  refine g_bipush C dJ13_signum_95d88_6 (by decide) ?_
  refine g_lushr C dJ13_signum_95d88_8 ?_
  refine g_lor C dJ13_signum_95d88_9 ?_
  refine g_l2iR C dJ13_signum_95d88_10 ?_
  exact g_iret C hr (ws' := []) hw [] (by decide) rfl ⟨(by exact sgn_l ha), rfl⟩ dJ13_signum_95d88_11

set_option maxRecDepth 20000 in
theorem hin_X4_exact_X4 : ∀ w ∈ u_ws RX4 TX4 3, w ∈ wsX4_exact := by
  intro w h
  exact List.mem_cons_of_mem _ (List.mem_append_right _ (h))
set_option maxRecDepth 20000 in
theorem lk_X4_exact_15 : Cond.fieldLink RX4 15 (TX4 2).1 (TX4 2).2.1 (TX4 2).2.2.1 ∈ wsX4_exact := List.mem_cons_of_mem _ (List.mem_append_left _ (List.mem_of_getElem? (i := 0) rfl))
set_option maxRecDepth 20000 in
theorem lk_X4_exact_9 : Cond.fieldLink RX4 9 (TX4 1).1 (TX4 1).2.1 (TX4 1).2.2.1 ∈ wsX4_exact := List.mem_cons_of_mem _ (List.mem_append_left _ (List.mem_of_getElem? (i := 1) rfl))
set_option maxRecDepth 100000 in
set_option maxHeartbeats 8000000 in
theorem m_X4_exact (l : Launch) (D : va_G) (G : gT) (h : Nat) (a : Nat → Nat) (cn : Int) (kd : Int → Int) (nu : Int → Int) (pp : Int) (kk : Int) (hkd : kdOK kd) (hnu : nuOK nu) (hp : 0 ≤ pp ∧ pp < 4) (hk : 0 ≤ kk ∧ kk ≤ 2) : gMi l yX4_exact wsX4_exact ({ frames := 0, cells := 0, slots := 0, locals := 0 }) D G [.ref h, .int (iI pp), .int (iI kk)] [oX4 h a cn, cA G (a 1) 4 kd, cA G (a 2) 12 nu] 0 0 (fun (r : Int32) (w : va_W) => r = (iI (exF kd nu pp kk)) ∧ w = [oX4 h a cn, cA G (a 1) 4 kd, cA G (a 2) 12 nu]) := by
  refine g_start_i (cc := cX4_exact) (nL := 6) (own := RX4) (ret := some .int) (by decide +kernel) rfl rfl (Nat.le_of_ble_eq_true rfl) ?_
  intro p e s m below meth c A ls C hr hnm hw hl
  have hl : lv_has ls 6 [(0, .ref h), (1, .int (iI pp)), (2, .int (iI kk))] := hl
  have k0 := hkd pp
  refine g_aload_n C hl 0 rfl rfl dX4_exact_0 ?_
  refine g_get C hw hin_X4_exact_X4 0 rfl rfl 2 (by decide) lk_X4_exact_15 rfl dX4_exact_1 ?_
  refine g_iload_n C hl 1 rfl rfl dX4_exact_4 ?_
  refine g_iconst C dX4_exact_5 ?_
  refine g_imul C dX4_exact_6 ?_
  refine g_iald C hw 2 rfl (by omega) (Nat.le_of_ble_eq_true rfl) dX4_exact_7 ?_
  refine g_istore_n C [(3, .int (iI (nu (pp * 3)))), (0, .ref h), (1, .int (iI pp)), (2, .int (iI kk))] dX4_exact_8 rfl hl (by decide) rfl ?_
  clear hl
  intro ls hl
  refine g_aload_n C hl 1 rfl rfl dX4_exact_9 ?_
  refine g_get C hw hin_X4_exact_X4 0 rfl rfl 2 (by decide) lk_X4_exact_15 rfl dX4_exact_10 ?_
  refine g_iload_n C hl 2 rfl rfl dX4_exact_13 ?_
  refine g_iconst C dX4_exact_14 ?_
  refine g_imul C dX4_exact_15 ?_
  refine g_iconst C dX4_exact_16 ?_
  refine g_iadd C dX4_exact_17 ?_
  refine g_iald C hw 2 rfl (by omega) (Nat.le_of_ble_eq_true rfl) dX4_exact_18 ?_
  refine g_istore C [(4, .int (iI (nu ((pp * 3) + 1)))), (3, .int (iI (nu (pp * 3)))), (0, .ref h), (1, .int (iI pp)), (2, .int (iI kk))] dX4_exact_19 hl (by decide) rfl ?_
  clear hl
  intro ls hl
  refine g_aload_n C hl 2 rfl rfl dX4_exact_21 ?_
  refine g_get C hw hin_X4_exact_X4 0 rfl rfl 2 (by decide) lk_X4_exact_15 rfl dX4_exact_22 ?_
  refine g_iload_n C hl 3 rfl rfl dX4_exact_25 ?_
  refine g_iconst C dX4_exact_26 ?_
  refine g_imul C dX4_exact_27 ?_
  refine g_iconst C dX4_exact_28 ?_
  refine g_iadd C dX4_exact_29 ?_
  refine g_iald C hw 2 rfl (by omega) (Nat.le_of_ble_eq_true rfl) dX4_exact_30 ?_
  refine g_istore C [(5, .int (iI (nu ((pp * 3) + 2)))), (4, .int (iI (nu ((pp * 3) + 1)))), (3, .int (iI (nu (pp * 3)))), (0, .ref h), (1, .int (iI pp)), (2, .int (iI kk))] dX4_exact_31 hl (by decide) rfl ?_
  clear hl
  intro ls hl
  refine g_aload_n C hl 3 rfl rfl dX4_exact_33 ?_
  refine g_get C hw hin_X4_exact_X4 0 rfl rfl 1 (by decide) lk_X4_exact_9 rfl dX4_exact_34 ?_
  refine g_iload_n C hl 4 rfl rfl dX4_exact_37 ?_
  refine g_iald C hw 1 rfl (by omega) (Nat.le_of_ble_eq_true rfl) dX4_exact_38 ?_
  refine g_if_eq C 47 dX4_exact_39 (by decide) (by omega) (fun c_1 => ?_) (fun c_1 => ?_)
  · skip
    refine g_aload_n C hl 3 rfl rfl dX4_exact_47 ?_
    refine g_get C hw hin_X4_exact_X4 0 rfl rfl 1 (by decide) lk_X4_exact_9 rfl dX4_exact_48 ?_
    refine g_iload_n C hl 4 rfl rfl dX4_exact_51 ?_
    refine g_iald C hw 1 rfl (by omega) (Nat.le_of_ble_eq_true rfl) dX4_exact_52 ?_
    refine g_iconst C dX4_exact_53 ?_
    refine g_icmp_ne C 74 dX4_exact_54 (by decide) (by omega) (by omega) (fun c_2 => ?_) (fun c_2 => ?_)
    · skip
      refine g_iload_n C hl 5 rfl rfl dX4_exact_74 ?_
      refine g_if_ne C 80 dX4_exact_75 (by decide) (by omega) (fun c_3 => ?_) (fun c_3 => ?_)
      · skip
        refine g_iload_n C hl 5 rfl rfl dX4_exact_80 ?_
        refine g_iconst C dX4_exact_81 ?_
        refine g_icmp_ne C 90 dX4_exact_82 (by decide) (by omega) (by omega) (fun c_4 => ?_) (fun c_4 => ?_)
        · skip
          refine g_iload C hl 0 rfl dX4_exact_90 ?_
          exact g_iret C hr (ws' := [oX4 h a cn, cA G (a 1) 4 kd, cA G (a 2) 12 nu]) hw [0, 1, 2] (by decide) rfl ⟨(congrArg iI (by unfold exF; simp only [Int.mul_comm pp 3]; (repeat' split) <;> omega)), rfl⟩ dX4_exact_92
        · skip
          refine g_iload C hl 1 rfl dX4_exact_85 ?_
          refine g_goto C 92 dX4_exact_87 (by decide) ?_
          exact g_iret C hr (ws' := [oX4 h a cn, cA G (a 1) 4 kd, cA G (a 2) 12 nu]) hw [0, 1, 2] (by decide) rfl ⟨(congrArg iI (by unfold exF; simp only [Int.mul_comm pp 3]; (repeat' split) <;> omega)), rfl⟩ dX4_exact_92
      · skip
        refine g_iload_n C hl 2 rfl rfl dX4_exact_78 ?_
        exact g_iret C hr (ws' := [oX4 h a cn, cA G (a 1) 4 kd, cA G (a 2) 12 nu]) hw [0, 1, 2] (by decide) rfl ⟨(congrArg iI (by unfold exF; simp only [Int.mul_comm pp 3]; (repeat' split) <;> omega)), rfl⟩ dX4_exact_79
    · skip
      refine g_iload_n C hl 2 rfl rfl dX4_exact_57 ?_
      refine g_iload C hl 1 rfl dX4_exact_58 ?_
      refine g_iadd C dX4_exact_60 ?_
      refine g_iload C hl 0 rfl dX4_exact_61 ?_
      refine g_iadd C dX4_exact_63 ?_
      refine g_istore_n C [(3, .int (iI (((nu (pp * 3)) + (nu ((pp * 3) + 1))) + (nu ((pp * 3) + 2))))), (5, .int (iI (nu ((pp * 3) + 2)))), (4, .int (iI (nu ((pp * 3) + 1)))), (0, .ref h), (1, .int (iI pp)), (2, .int (iI kk))] dX4_exact_64 rfl hl (by decide) rfl ?_
      clear hl
      intro ls hl
      refine g_iload C hl 2 rfl dX4_exact_65 ?_
      refine g_iconst C dX4_exact_67 ?_
      refine g_iload C hl 1 rfl dX4_exact_68 ?_
      refine g_imul C dX4_exact_70 ?_
      refine g_iadd C dX4_exact_71 ?_
      refine g_istore C [(4, .int (iI ((nu ((pp * 3) + 1)) + (2 * (nu ((pp * 3) + 2)))))), (3, .int (iI (((nu (pp * 3)) + (nu ((pp * 3) + 1))) + (nu ((pp * 3) + 2))))), (5, .int (iI (nu ((pp * 3) + 2)))), (0, .ref h), (1, .int (iI pp)), (2, .int (iI kk))] dX4_exact_72 hl (by decide) rfl ?_
      clear hl
      intro ls hl
      refine g_iload_n C hl 5 rfl rfl dX4_exact_74 ?_
      refine g_if_ne C 80 dX4_exact_75 (by decide) (by omega) (fun c_5 => ?_) (fun c_5 => ?_)
      · skip
        refine g_iload_n C hl 5 rfl rfl dX4_exact_80 ?_
        refine g_iconst C dX4_exact_81 ?_
        refine g_icmp_ne C 90 dX4_exact_82 (by decide) (by omega) (by omega) (fun c_6 => ?_) (fun c_6 => ?_)
        · skip
          refine g_iload C hl 2 rfl dX4_exact_90 ?_
          exact g_iret C hr (ws' := [oX4 h a cn, cA G (a 1) 4 kd, cA G (a 2) 12 nu]) hw [0, 1, 2] (by decide) rfl ⟨(congrArg iI (by unfold exF; simp only [Int.mul_comm pp 3]; (repeat' split) <;> omega)), rfl⟩ dX4_exact_92
        · skip
          refine g_iload C hl 0 rfl dX4_exact_85 ?_
          refine g_goto C 92 dX4_exact_87 (by decide) ?_
          exact g_iret C hr (ws' := [oX4 h a cn, cA G (a 1) 4 kd, cA G (a 2) 12 nu]) hw [0, 1, 2] (by decide) rfl ⟨(congrArg iI (by unfold exF; simp only [Int.mul_comm pp 3]; (repeat' split) <;> omega)), rfl⟩ dX4_exact_92
      · skip
        refine g_iload_n C hl 1 rfl rfl dX4_exact_78 ?_
        exact g_iret C hr (ws' := [oX4 h a cn, cA G (a 1) 4 kd, cA G (a 2) 12 nu]) hw [0, 1, 2] (by decide) rfl ⟨(congrArg iI (by unfold exF; simp only [Int.mul_comm pp 3]; (repeat' split) <;> omega)), rfl⟩ dX4_exact_79
  · skip
    refine g_iload C hl 1 rfl dX4_exact_42 ?_
    refine g_ineg C dX4_exact_44 ?_
    refine g_istore C [(4, .int (iI (-(nu ((pp * 3) + 1))))), (5, .int (iI (nu ((pp * 3) + 2)))), (3, .int (iI (nu (pp * 3)))), (0, .ref h), (1, .int (iI pp)), (2, .int (iI kk))] dX4_exact_45 hl (by decide) rfl ?_
    clear hl
    intro ls hl
    refine g_aload_n C hl 3 rfl rfl dX4_exact_47 ?_
    refine g_get C hw hin_X4_exact_X4 0 rfl rfl 1 (by decide) lk_X4_exact_9 rfl dX4_exact_48 ?_
    refine g_iload_n C hl 4 rfl rfl dX4_exact_51 ?_
    refine g_iald C hw 1 rfl (by omega) (Nat.le_of_ble_eq_true rfl) dX4_exact_52 ?_
    refine g_iconst C dX4_exact_53 ?_
    refine g_icmp_ne C 74 dX4_exact_54 (by decide) (by omega) (by omega) (fun c_7 => ?_) (fun c_7 => ?_)
    · skip
      refine g_iload_n C hl 5 rfl rfl dX4_exact_74 ?_
      refine g_if_ne C 80 dX4_exact_75 (by decide) (by omega) (fun c_8 => ?_) (fun c_8 => ?_)
      · skip
        refine g_iload_n C hl 5 rfl rfl dX4_exact_80 ?_
        refine g_iconst C dX4_exact_81 ?_
        refine g_icmp_ne C 90 dX4_exact_82 (by decide) (by omega) (by omega) (fun c_9 => ?_) (fun c_9 => ?_)
        · skip
          refine g_iload C hl 1 rfl dX4_exact_90 ?_
          exact g_iret C hr (ws' := [oX4 h a cn, cA G (a 1) 4 kd, cA G (a 2) 12 nu]) hw [0, 1, 2] (by decide) rfl ⟨(congrArg iI (by unfold exF; simp only [Int.mul_comm pp 3]; (repeat' split) <;> omega)), rfl⟩ dX4_exact_92
        · skip
          refine g_iload C hl 0 rfl dX4_exact_85 ?_
          refine g_goto C 92 dX4_exact_87 (by decide) ?_
          exact g_iret C hr (ws' := [oX4 h a cn, cA G (a 1) 4 kd, cA G (a 2) 12 nu]) hw [0, 1, 2] (by decide) rfl ⟨(congrArg iI (by unfold exF; simp only [Int.mul_comm pp 3]; (repeat' split) <;> omega)), rfl⟩ dX4_exact_92
      · skip
        refine g_iload_n C hl 2 rfl rfl dX4_exact_78 ?_
        exact g_iret C hr (ws' := [oX4 h a cn, cA G (a 1) 4 kd, cA G (a 2) 12 nu]) hw [0, 1, 2] (by decide) rfl ⟨(congrArg iI (by unfold exF; simp only [Int.mul_comm pp 3]; (repeat' split) <;> omega)), rfl⟩ dX4_exact_79
    · skip
      refine g_iload_n C hl 2 rfl rfl dX4_exact_57 ?_
      refine g_iload C hl 0 rfl dX4_exact_58 ?_
      refine g_iadd C dX4_exact_60 ?_
      refine g_iload C hl 1 rfl dX4_exact_61 ?_
      refine g_iadd C dX4_exact_63 ?_
      refine g_istore_n C [(3, .int (iI (((nu (pp * 3)) + (-(nu ((pp * 3) + 1)))) + (nu ((pp * 3) + 2))))), (4, .int (iI (-(nu ((pp * 3) + 1))))), (5, .int (iI (nu ((pp * 3) + 2)))), (0, .ref h), (1, .int (iI pp)), (2, .int (iI kk))] dX4_exact_64 rfl hl (by decide) rfl ?_
      clear hl
      intro ls hl
      refine g_iload C hl 1 rfl dX4_exact_65 ?_
      refine g_iconst C dX4_exact_67 ?_
      refine g_iload C hl 2 rfl dX4_exact_68 ?_
      refine g_imul C dX4_exact_70 ?_
      refine g_iadd C dX4_exact_71 ?_
      refine g_istore C [(4, .int (iI ((-(nu ((pp * 3) + 1))) + (2 * (nu ((pp * 3) + 2)))))), (3, .int (iI (((nu (pp * 3)) + (-(nu ((pp * 3) + 1)))) + (nu ((pp * 3) + 2))))), (5, .int (iI (nu ((pp * 3) + 2)))), (0, .ref h), (1, .int (iI pp)), (2, .int (iI kk))] dX4_exact_72 hl (by decide) rfl ?_
      clear hl
      intro ls hl
      refine g_iload_n C hl 5 rfl rfl dX4_exact_74 ?_
      refine g_if_ne C 80 dX4_exact_75 (by decide) (by omega) (fun c_10 => ?_) (fun c_10 => ?_)
      · skip
        refine g_iload_n C hl 5 rfl rfl dX4_exact_80 ?_
        refine g_iconst C dX4_exact_81 ?_
        refine g_icmp_ne C 90 dX4_exact_82 (by decide) (by omega) (by omega) (fun c_11 => ?_) (fun c_11 => ?_)
        · skip
          refine g_iload C hl 2 rfl dX4_exact_90 ?_
          exact g_iret C hr (ws' := [oX4 h a cn, cA G (a 1) 4 kd, cA G (a 2) 12 nu]) hw [0, 1, 2] (by decide) rfl ⟨(congrArg iI (by unfold exF; simp only [Int.mul_comm pp 3]; (repeat' split) <;> omega)), rfl⟩ dX4_exact_92
        · skip
          refine g_iload C hl 0 rfl dX4_exact_85 ?_
          refine g_goto C 92 dX4_exact_87 (by decide) ?_
          exact g_iret C hr (ws' := [oX4 h a cn, cA G (a 1) 4 kd, cA G (a 2) 12 nu]) hw [0, 1, 2] (by decide) rfl ⟨(congrArg iI (by unfold exF; simp only [Int.mul_comm pp 3]; (repeat' split) <;> omega)), rfl⟩ dX4_exact_92
      · skip
        refine g_iload_n C hl 1 rfl rfl dX4_exact_78 ?_
        exact g_iret C hr (ws' := [oX4 h a cn, cA G (a 1) 4 kd, cA G (a 2) 12 nu]) hw [0, 1, 2] (by decide) rfl ⟨(congrArg iI (by unfold exF; simp only [Int.mul_comm pp 3]; (repeat' split) <;> omega)), rfl⟩ dX4_exact_79

set_option maxRecDepth 20000 in
theorem hin_X4_become_X4 : ∀ w ∈ u_ws RX4 TX4 3, w ∈ wsX4_become := by
  intro w h
  exact List.mem_cons_of_mem _ (List.mem_append_right _ (h))
set_option maxRecDepth 20000 in
theorem lk_X4_become_18 : Cond.fieldLink RX4 18 (TX4 0).1 (TX4 0).2.1 (TX4 0).2.2.1 ∈ wsX4_become := List.mem_cons_of_mem _ (List.mem_append_left _ (List.mem_of_getElem? (i := 0) rfl))
set_option maxRecDepth 20000 in
theorem lk_X4_become_9 : Cond.fieldLink RX4 9 (TX4 1).1 (TX4 1).2.1 (TX4 1).2.2.1 ∈ wsX4_become := List.mem_cons_of_mem _ (List.mem_append_left _ (List.mem_of_getElem? (i := 1) rfl))
set_option maxRecDepth 20000 in
theorem lk_X4_become_15 : Cond.fieldLink RX4 15 (TX4 2).1 (TX4 2).2.1 (TX4 2).2.2.1 ∈ wsX4_become := List.mem_cons_of_mem _ (List.mem_append_left _ (List.mem_of_getElem? (i := 6) rfl))
set_option maxRecDepth 100000 in
set_option maxHeartbeats 8000000 in
theorem m_X4_become (l : Launch) (D : va_G) (G : gT) (h : Nat) (a : Nat → Nat) (cn : Int) (kd : Int → Int) (nu : Int → Int) (o : Nat) (b : Nat → Nat) (cn2 : Int) (kd2 : Int → Int) (nu2 : Int → Int) (hkd : kdOK kd) (hnu : nuOK nu) (hkd2 : kdOK kd2) (hnu2 : nuOK nu2) : gMv l yX4_become wsX4_become ({ frames := 1, cells := 0, slots := 0, locals := 40 }) D G [.ref h, .ref o] [oX4 h a cn, cA G (a 1) 4 kd, cA G (a 2) 12 nu, oX4 o b cn2, cA G (b 1) 4 kd2, cA G (b 2) 12 nu2] 0 0 (fun (w : va_W) => ∃ (kd3 : Int → Int) (nu3 : Int → Int), w = [oX4 h a cn2, cA G (a 1) 4 kd3, cA G (a 2) 12 nu3, oX4 o b cn2, cA G (b 1) 4 kd2, cA G (b 2) 12 nu2] ∧ ((∀ j, 0 ≤ j → j < 4 → kd3 j = kd2 j) ∧ (∀ j, 0 ≤ j → j < 12 → nu3 j = nu2 j)) ∧ (kdOK kd3 ∧ nuOK nu3)) := by
  refine g_start_v (cc := cX4_become) (nL := 2) (own := RX4) (ret := none) (by decide +kernel) rfl rfl (Nat.le_of_ble_eq_true rfl) ?_
  intro p e s m below meth c A ls C hr hnm hw hl
  have hl : lv_has ls 2 [(0, .ref h), (1, .ref o)] := hl
  refine g_aload_n C hl 0 rfl rfl dX4_become_0 ?_
  refine g_aload_n C hl 1 rfl rfl dX4_become_1 ?_
  refine g_get C hw hin_X4_become_X4 3 rfl rfl 0 (by decide) lk_X4_become_18 rfl dX4_become_2 ?_
  refine g_put C hw [oX4 h a cn2, cA G (a 1) 4 kd, cA G (a 2) 12 nu, oX4 o b cn2, cA G (b 1) 4 kd2, cA G (b 2) 12 nu2] hin_X4_become_X4 tyX4 tyX4_ok nmX4 0 rfl rfl 0 (by decide) lk_X4_become_18 rfl rfl rfl rfl (Nat.le_of_ble_eq_true rfl) rfl dX4_become_5 ?_
  clear hw
  intro H locs hw
  refine g_aload_n C hl 1 rfl rfl dX4_become_8 ?_
  refine g_get C hw hin_X4_become_X4 3 rfl rfl 1 (by decide) lk_X4_become_9 rfl dX4_become_9 ?_
  refine g_iconst C dX4_become_12 ?_
  refine g_aload_n C hl 0 rfl rfl dX4_become_13 ?_
  refine g_get C hw hin_X4_become_X4 0 rfl rfl 1 (by decide) lk_X4_become_9 rfl dX4_become_14 ?_
  refine g_iconst C dX4_become_17 ?_
  refine g_aload_n C hl 0 rfl rfl dX4_become_18 ?_
  refine g_get C hw hin_X4_become_X4 0 rfl rfl 1 (by decide) lk_X4_become_9 rfl dX4_become_19 ?_
  refine g_alen C hw 1 rfl dX4_become_22 ?_
  refine g_acopy C hw [oX4 h a cn2, cA G (a 1) 4 (cpI kd2 kd 0 0 (4 : Int)), cA G (a 2) 12 nu, oX4 o b cn2, cA G (b 1) 4 kd2, cA G (b 2) 12 nu2] hl.1 (List.mem_cons_of_mem _ (List.mem_append_left _ (List.mem_of_getElem? (i := 2) rfl))) (List.mem_cons_of_mem _ (List.mem_append_left _ (List.mem_of_getElem? (i := 3) rfl))) (List.mem_cons_of_mem _ (List.mem_append_left _ (List.mem_of_getElem? (i := 4) rfl))) (List.mem_cons_of_mem _ (List.mem_append_left _ (List.mem_of_getElem? (i := 5) rfl))) 4 1 rfl rfl (by omega) (by omega) (Nat.le_of_ble_eq_true rfl) (Nat.le_of_ble_eq_true rfl) rfl dX4_become_23 ?_
  clear hw
  intro H locs hw
  refine g_aload_n C hl 1 rfl rfl dX4_become_26 ?_
  refine g_get C hw hin_X4_become_X4 3 rfl rfl 2 (by decide) lk_X4_become_15 rfl dX4_become_27 ?_
  refine g_iconst C dX4_become_30 ?_
  refine g_aload_n C hl 0 rfl rfl dX4_become_31 ?_
  refine g_get C hw hin_X4_become_X4 0 rfl rfl 2 (by decide) lk_X4_become_15 rfl dX4_become_32 ?_
  refine g_iconst C dX4_become_35 ?_
  refine g_aload_n C hl 0 rfl rfl dX4_become_36 ?_
  refine g_get C hw hin_X4_become_X4 0 rfl rfl 2 (by decide) lk_X4_become_15 rfl dX4_become_37 ?_
  refine g_alen C hw 2 rfl dX4_become_40 ?_
  refine g_acopy C hw [oX4 h a cn2, cA G (a 1) 4 (cpI kd2 kd 0 0 (4 : Int)), cA G (a 2) 12 (cpI nu2 nu 0 0 (12 : Int)), oX4 o b cn2, cA G (b 1) 4 kd2, cA G (b 2) 12 nu2] hl.1 (List.mem_cons_of_mem _ (List.mem_append_left _ (List.mem_of_getElem? (i := 2) rfl))) (List.mem_cons_of_mem _ (List.mem_append_left _ (List.mem_of_getElem? (i := 3) rfl))) (List.mem_cons_of_mem _ (List.mem_append_left _ (List.mem_of_getElem? (i := 4) rfl))) (List.mem_cons_of_mem _ (List.mem_append_left _ (List.mem_of_getElem? (i := 5) rfl))) 5 2 rfl rfl (by omega) (by omega) (Nat.le_of_ble_eq_true rfl) (Nat.le_of_ble_eq_true rfl) rfl dX4_become_41 ?_
  clear hw
  intro H locs hw
  exact g_vret C hr (ws' := [oX4 h a cn2, cA G (a 1) 4 (cpI kd2 kd 0 0 (4 : Int)), cA G (a 2) 12 (cpI nu2 nu 0 0 (12 : Int)), oX4 o b cn2, cA G (b 1) 4 kd2, cA G (b 2) 12 nu2]) hw [0, 1, 2, 3, 4, 5] (by decide) rfl ⟨(cpI kd2 kd 0 0 (4 : Int)), (cpI nu2 nu 0 0 (12 : Int)), rfl, (by exact ⟨fun j h1 h2 => by (unfold cpI; rw [if_pos (by omega)]; congr 1; omega), fun j h1 h2 => by (unfold cpI; rw [if_pos (by omega)]; congr 1; omega)⟩), (by exact ⟨fun j => by (unfold cpI; split; exact hkd2 _; exact hkd _), fun j => by (unfold cpI; split; exact hnu2 _; exact hnu _)⟩)⟩ dX4_become_44

set_option maxRecDepth 100000 in
set_option maxHeartbeats 8000000 in
theorem m_X0_signOfSum (l : Launch) (D : va_G) (G : gT) (uu : Int) (vv : Int) (dd : Int) (hu : -10000000 ≤ uu ∧ uu ≤ 10000000) (hv : -10000000 ≤ vv ∧ vv ≤ 10000000) (hd : 0 ≤ dd ∧ dd ≤ 10000) : gMi l yX0_signOfSum wsX0_signOfSum ({ frames := 1, cells := 0, slots := 0, locals := 21 }) D G [.long (lI (uu)), .long (lI (vv)), .long (lI (dd))] [] 0 0 (fun (r : Int32) (w : va_W) => r = (iI (sg2 uu vv dd)) ∧ w = []) := by
  refine g_start_i (cc := cX0_signOfSum) (nL := 10) (own := RX0) (ret := some .int) (by decide +kernel) rfl rfl (Nat.le_of_ble_eq_true rfl) ?_
  intro p e s m below meth c A ls C hr hnm hw hl
  have hl : lv_has ls 10 [(0, .long (lI (uu))), (2, .long (lI (vv))), (4, .long (lI (dd)))] := hl
  have hq := sg2_rg hu hv hd
  have hsu := sg_r uu
  have hsv := sg_r vv
  have hsm := mul_rg (x := sg uu) (y := sg vv) (A := 1) (B := 1) (by omega) (by omega)
  have hsm0 := mul_rg (x := sg uu) (y := 0) (A := 1) (B := 1) (by omega) (by omega)
  have hmz : sg uu * sg vv < 0 ↔ (sg uu = 1 ∧ sg vv = -1) ∨ (sg uu = -1 ∧ sg vv = 1) := by
    rcases (by omega : sg uu = -1 ∨ sg uu = 0 ∨ sg uu = 1) with q | q | q <;> rcases (by omega : sg vv = -1 ∨ sg vv = 0 ∨ sg vv = 1) with q2 | q2 | q2 <;> rw [q, q2] <;> omega
  refine g_lload_n C hl 0 rfl rfl dX0_signOfSum_0 ?_
  refine g_callSi C hw (wr := []) (As := [.long (lI (uu))]) (rest := []) (m_J13_signum_95d88 l D G (va := uu) (by first | assumption | omega)) (va_cwS 1 C.1.2.2.2.2 gX0_signOfSum_J13_signum_95d88 rfl rfl rfl (by decide +kernel) ⟨Nat.le_of_ble_eq_true rfl, Nat.le_of_ble_eq_true rfl⟩) [] [] rfl rfl (by decide) (by decide) (by decide) rfl hl.1 _ rfl (Nat.le_of_ble_eq_true rfl) dX0_signOfSum_1 ⟨Nat.le_of_ble_eq_true rfl, Nat.le_of_ble_eq_true rfl⟩ ?_
  clear hw
  rintro _ _ H locs ⟨rfl, rfl⟩ hw
  have hw : gW D A s.heap [] H locs := hw
  refine g_istore C [(6, .int (iI ((sg uu)))), (0, .long (lI (uu))), (2, .long (lI (vv))), (4, .long (lI (dd)))] dX0_signOfSum_4 hl (by decide) rfl ?_
  clear hl
  intro ls hl
  refine g_lload C hl 3 rfl dX0_signOfSum_6 ?_
  refine g_lconst0 C dX0_signOfSum_8 ?_
  refine g_lcmp_ne C 17 dX0_signOfSum_9 dX0_signOfSum_10 (by decide) (by omega) (by omega) (fun c_1 => ?_) (fun c_1 => ?_)
  · skip
    refine g_lload_n C hl 2 rfl rfl dX0_signOfSum_17 ?_
    refine g_callSi C hw (wr := []) (As := [.long (lI (vv))]) (rest := []) (m_J13_signum_95d88 l D G (va := vv) (by first | assumption | omega)) (va_cwS 1 C.1.2.2.2.2 gX0_signOfSum_J13_signum_95d88 rfl rfl rfl (by decide +kernel) ⟨Nat.le_of_ble_eq_true rfl, Nat.le_of_ble_eq_true rfl⟩) [] [] rfl rfl (by decide) (by decide) (by decide) rfl hl.1 _ rfl (Nat.le_of_ble_eq_true rfl) dX0_signOfSum_18 ⟨Nat.le_of_ble_eq_true rfl, Nat.le_of_ble_eq_true rfl⟩ ?_
    clear hw
    rintro _ _ H locs ⟨rfl, rfl⟩ hw
    have hw : gW D A s.heap [] H locs := hw
    refine g_istore C [(7, .int (iI ((sg vv)))), (6, .int (iI ((sg uu)))), (0, .long (lI (uu))), (2, .long (lI (vv))), (4, .long (lI (dd)))] dX0_signOfSum_21 hl (by decide) rfl ?_
    clear hl
    intro ls hl
    refine g_iload C hl 1 rfl dX0_signOfSum_23 ?_
    refine g_iload C hl 0 rfl dX0_signOfSum_25 ?_
    refine g_imul C dX0_signOfSum_27 ?_
    refine g_if_lt C 44 dX0_signOfSum_28 (by decide) (by omega) (fun c_2 => ?_) (fun c_2 => ?_)
    · skip
      refine g_lload_n C hl 2 rfl rfl dX0_signOfSum_44 ?_
      refine g_lload_n C hl 2 rfl rfl dX0_signOfSum_45 ?_
      refine g_lmul C dX0_signOfSum_46 ?_
      refine g_lload_n C hl 3 rfl rfl dX0_signOfSum_47 ?_
      refine g_lload_n C hl 3 rfl rfl dX0_signOfSum_48 ?_
      refine g_lmul C dX0_signOfSum_49 ?_
      refine g_lload C hl 4 rfl dX0_signOfSum_50 ?_
      refine g_lmul C dX0_signOfSum_52 ?_
      refine g_lsub C dX0_signOfSum_53 ?_
      refine g_lstore C [(8, .long (lI ((uu * uu) - ((vv * vv) * dd)))), (7, .int (iI ((sg vv)))), (6, .int (iI ((sg uu)))), (0, .long (lI (uu))), (2, .long (lI (vv))), (4, .long (lI (dd)))] dX0_signOfSum_54 hl (by decide) rfl ?_
      clear hl
      intro ls hl
      refine g_lload C hl 0 rfl dX0_signOfSum_56 ?_
      refine g_lconst0 C dX0_signOfSum_58 ?_
      refine g_lcmp_ne C 65 dX0_signOfSum_59 dX0_signOfSum_60 (by decide) (by omega) (by omega) (fun c_3 => ?_) (fun c_3 => ?_)
      · skip
        refine g_lload C hl 0 rfl dX0_signOfSum_65 ?_
        refine g_lconst0 C dX0_signOfSum_67 ?_
        refine g_lcmp_le C 77 dX0_signOfSum_68 dX0_signOfSum_69 (by decide) (by omega) (by omega) (fun c_4 => ?_) (fun c_4 => ?_)
        · skip
          refine g_iload C hl 1 rfl dX0_signOfSum_77 ?_
          exact g_iret C hr (ws' := []) hw [] (by decide) rfl ⟨(congrArg iI (by unfold sg2; (repeat' split) <;> omega)), rfl⟩ dX0_signOfSum_79
        · skip
          refine g_iload C hl 2 rfl dX0_signOfSum_72 ?_
          refine g_goto C 79 dX0_signOfSum_74 (by decide) ?_
          exact g_iret C hr (ws' := []) hw [] (by decide) rfl ⟨(congrArg iI (by unfold sg2; (repeat' split) <;> omega)), rfl⟩ dX0_signOfSum_79
      · skip
        refine g_iconst C dX0_signOfSum_63 ?_
        exact g_iret C hr (ws' := []) hw [] (by decide) rfl ⟨(congrArg iI (by unfold sg2; (repeat' split) <;> omega)), rfl⟩ dX0_signOfSum_64
    · skip
      refine g_iload C hl 1 rfl dX0_signOfSum_31 ?_
      refine g_if_ne C 41 dX0_signOfSum_33 (by decide) (by omega) (fun c_5 => ?_) (fun c_5 => ?_)
      · skip
        refine g_iload C hl 1 rfl dX0_signOfSum_41 ?_
        exact g_iret C hr (ws' := []) hw [] (by decide) rfl ⟨(congrArg iI (by unfold sg2; (repeat' split) <;> omega)), rfl⟩ dX0_signOfSum_43
      · skip
        refine g_iload C hl 0 rfl dX0_signOfSum_36 ?_
        refine g_goto C 43 dX0_signOfSum_38 (by decide) ?_
        exact g_iret C hr (ws' := []) hw [] (by decide) rfl ⟨(congrArg iI (by unfold sg2; (repeat' split) <;> omega)), rfl⟩ dX0_signOfSum_43
  · skip
    refine g_iconst C dX0_signOfSum_13 ?_
    refine g_goto C 21 dX0_signOfSum_14 (by decide) ?_
    refine g_istore C [(7, .int (iI 0)), (6, .int (iI ((sg uu)))), (0, .long (lI (uu))), (2, .long (lI (vv))), (4, .long (lI (dd)))] dX0_signOfSum_21 hl (by decide) rfl ?_
    clear hl
    intro ls hl
    refine g_iload C hl 1 rfl dX0_signOfSum_23 ?_
    refine g_iload C hl 0 rfl dX0_signOfSum_25 ?_
    refine g_imul C dX0_signOfSum_27 ?_
    refine g_if_lt C 44 dX0_signOfSum_28 (by decide) (by omega) (fun c_6 => ?_) (fun c_6 => ?_)
    · skip
      refine g_lload_n C hl 2 rfl rfl dX0_signOfSum_44 ?_
      refine g_lload_n C hl 2 rfl rfl dX0_signOfSum_45 ?_
      refine g_lmul C dX0_signOfSum_46 ?_
      refine g_lload_n C hl 3 rfl rfl dX0_signOfSum_47 ?_
      refine g_lload_n C hl 3 rfl rfl dX0_signOfSum_48 ?_
      refine g_lmul C dX0_signOfSum_49 ?_
      refine g_lload C hl 4 rfl dX0_signOfSum_50 ?_
      refine g_lmul C dX0_signOfSum_52 ?_
      refine g_lsub C dX0_signOfSum_53 ?_
      refine g_lstore C [(8, .long (lI ((uu * uu) - ((vv * vv) * dd)))), (7, .int (iI 0)), (6, .int (iI ((sg uu)))), (0, .long (lI (uu))), (2, .long (lI (vv))), (4, .long (lI (dd)))] dX0_signOfSum_54 hl (by decide) rfl ?_
      clear hl
      intro ls hl
      refine g_lload C hl 0 rfl dX0_signOfSum_56 ?_
      refine g_lconst0 C dX0_signOfSum_58 ?_
      refine g_lcmp_ne C 65 dX0_signOfSum_59 dX0_signOfSum_60 (by decide) (by omega) (by omega) (fun c_7 => ?_) (fun c_7 => ?_)
      · skip
        refine g_lload C hl 0 rfl dX0_signOfSum_65 ?_
        refine g_lconst0 C dX0_signOfSum_67 ?_
        refine g_lcmp_le C 77 dX0_signOfSum_68 dX0_signOfSum_69 (by decide) (by omega) (by omega) (fun c_8 => ?_) (fun c_8 => ?_)
        · skip
          refine g_iload C hl 1 rfl dX0_signOfSum_77 ?_
          exact g_iret C hr (ws' := []) hw [] (by decide) rfl ⟨(congrArg iI (by unfold sg2; (repeat' split) <;> omega)), rfl⟩ dX0_signOfSum_79
        · skip
          refine g_iload C hl 2 rfl dX0_signOfSum_72 ?_
          refine g_goto C 79 dX0_signOfSum_74 (by decide) ?_
          exact g_iret C hr (ws' := []) hw [] (by decide) rfl ⟨(congrArg iI (by unfold sg2; (repeat' split) <;> omega)), rfl⟩ dX0_signOfSum_79
      · skip
        refine g_iconst C dX0_signOfSum_63 ?_
        exact g_iret C hr (ws' := []) hw [] (by decide) rfl ⟨(congrArg iI (by unfold sg2; (repeat' split) <;> omega)), rfl⟩ dX0_signOfSum_64
    · skip
      refine g_iload C hl 1 rfl dX0_signOfSum_31 ?_
      refine g_if_ne C 41 dX0_signOfSum_33 (by decide) (by omega) (fun c_9 => ?_) (fun c_9 => ?_)
      · skip
        refine g_iload C hl 1 rfl dX0_signOfSum_41 ?_
        exact g_iret C hr (ws' := []) hw [] (by decide) rfl ⟨(congrArg iI (by unfold sg2; (repeat' split) <;> omega)), rfl⟩ dX0_signOfSum_43
      · skip
        refine g_iload C hl 0 rfl dX0_signOfSum_36 ?_
        refine g_goto C 43 dX0_signOfSum_38 (by decide) ?_
        exact g_iret C hr (ws' := []) hw [] (by decide) rfl ⟨(congrArg iI (by unfold sg2; (repeat' split) <;> omega)), rfl⟩ dX0_signOfSum_43

set_option maxRecDepth 20000 in
theorem hin_X0_signAtRoot_X0 : ∀ w ∈ u_ws RX0 TX0 14, w ∈ wsX0_signAtRoot := by
  intro w h
  exact List.mem_cons_of_mem _ (List.mem_append_right _ (h))
set_option maxRecDepth 20000 in
theorem lk_X0_signAtRoot_9 : Cond.fieldLink RX0 9 (TX0 1).1 (TX0 1).2.1 (TX0 1).2.2.1 ∈ wsX0_signAtRoot := List.mem_cons_of_mem _ (List.mem_append_left _ (List.mem_of_getElem? (i := 0) rfl))
set_option maxRecDepth 20000 in
theorem lk_X0_signAtRoot_18 : Cond.fieldLink RX0 18 (TX0 3).1 (TX0 3).2.1 (TX0 3).2.2.1 ∈ wsX0_signAtRoot := List.mem_cons_of_mem _ (List.mem_append_left _ (List.mem_of_getElem? (i := 1) rfl))
set_option maxRecDepth 20000 in
theorem lk_X0_signAtRoot_24 : Cond.fieldLink RX0 24 (TX0 5).1 (TX0 5).2.1 (TX0 5).2.2.1 ∈ wsX0_signAtRoot := List.mem_cons_of_mem _ (List.mem_append_left _ (List.mem_of_getElem? (i := 2) rfl))
set_option maxRecDepth 20000 in
theorem lk_X0_signAtRoot_27 : Cond.fieldLink RX0 27 (TX0 6).1 (TX0 6).2.1 (TX0 6).2.2.1 ∈ wsX0_signAtRoot := List.mem_cons_of_mem _ (List.mem_append_left _ (List.mem_of_getElem? (i := 3) rfl))
set_option maxRecDepth 20000 in
theorem lk_X0_signAtRoot_21 : Cond.fieldLink RX0 21 (TX0 4).1 (TX0 4).2.1 (TX0 4).2.2.1 ∈ wsX0_signAtRoot := List.mem_cons_of_mem _ (List.mem_append_left _ (List.mem_of_getElem? (i := 4) rfl))
set_option maxRecDepth 20000 in
theorem cn_X0_signAtRoot_83 : Jvm.Cond.constantLong RX0 83 (2) ∈ wsX0_signAtRoot := List.mem_cons_of_mem _ (List.mem_append_left _ (List.mem_of_getElem? (i := 5) rfl))
set_option maxRecDepth 100000 in
set_option maxHeartbeats 8000000 in
theorem m_X0_signAtRoot (l : Launch) (D : va_G) (G : gT) (h : Nat) (a : Nat → Nat) (cn : Int) (ul : Int) (rw : Int) (ex : Int → Int) (mi : Int → Int) (si : Int → Int) (un : Int → Int) (be : Int → Int) (qq : Int) (od : Int) (tt : Int) (hq : 0 ≤ qq ∧ qq < 4) (hod : 0 ≤ od ∧ od ≤ 2) (ht : 0 ≤ tt ∧ tt < 8) (hx0 : -27 ≤ ex (qq * 3) ∧ ex (qq * 3) ≤ 27) (hx1 : -27 ≤ ex (qq * 3 + 1) ∧ ex (qq * 3 + 1) ≤ 27) (hx2 : -9 ≤ ex (qq * 3 + 2) ∧ ex (qq * 3 + 2) ≤ 9) (hrt : od = 2 ∨ rtOK (mi tt) (si tt) (un tt) (be tt)) : gMi l yX0_signAtRoot wsX0_signAtRoot ({ frames := 2, cells := 0, slots := 0, locals := 50 }) D G [.ref h, .int (iI qq), .int (iI od), .int (iI tt)] [oX0 h a cn ul rw, cA G (a 1) 12 ex, cA G (a 3) 8 mi, cA G (a 4) 8 si, cA G (a 5) 8 un, cA G (a 6) 8 be] 0 0 (fun (r : Int32) (w : va_W) => r = (iI (if od = 2 then sg (ex (qq * 3 + 2)) else if od = 0 then sAt (ex (qq * 3)) (ex (qq * 3 + 1)) (ex (qq * 3 + 2)) (mi tt) (si tt) (un tt) (be tt) else sAt (ex (qq * 3 + 1)) (2 * ex (qq * 3 + 2)) 0 (mi tt) (si tt) (un tt) (be tt))) ∧ w = [oX0 h a cn ul rw, cA G (a 1) 12 ex, cA G (a 3) 8 mi, cA G (a 4) 8 si, cA G (a 5) 8 un, cA G (a 6) 8 be]) := by
  refine g_start_i (cc := cX0_signAtRoot) (nL := 23) (own := RX0) (ret := some .int) (by decide +kernel) rfl rfl (Nat.le_of_ble_eq_true rfl) ?_
  intro p e s m below meth c A ls C hr hnm hw hl
  have hl : lv_has ls 23 [(0, .ref h), (1, .int (iI qq)), (2, .int (iI od)), (3, .int (iI tt))] := hl
  refine g_aload_n C hl 0 rfl rfl dX0_signAtRoot_0 ?_
  refine g_get C hw hin_X0_signAtRoot_X0 0 rfl rfl 1 (by decide) lk_X0_signAtRoot_9 rfl dX0_signAtRoot_1 ?_
  refine g_iload_n C hl 1 rfl rfl dX0_signAtRoot_4 ?_
  refine g_iconst C dX0_signAtRoot_5 ?_
  refine g_imul C dX0_signAtRoot_6 ?_
  refine g_iald C hw 1 rfl (by omega) (Nat.le_of_ble_eq_true rfl) dX0_signAtRoot_7 ?_
  refine g_istore C [(4, .int (iI (ex (qq * 3)))), (0, .ref h), (1, .int (iI qq)), (2, .int (iI od)), (3, .int (iI tt))] dX0_signAtRoot_8 hl (by decide) rfl ?_
  clear hl
  intro ls hl
  refine g_aload_n C hl 1 rfl rfl dX0_signAtRoot_10 ?_
  refine g_get C hw hin_X0_signAtRoot_X0 0 rfl rfl 1 (by decide) lk_X0_signAtRoot_9 rfl dX0_signAtRoot_11 ?_
  refine g_iload_n C hl 2 rfl rfl dX0_signAtRoot_14 ?_
  refine g_iconst C dX0_signAtRoot_15 ?_
  refine g_imul C dX0_signAtRoot_16 ?_
  refine g_iconst C dX0_signAtRoot_17 ?_
  refine g_iadd C dX0_signAtRoot_18 ?_
  refine g_iald C hw 1 rfl (by omega) (Nat.le_of_ble_eq_true rfl) dX0_signAtRoot_19 ?_
  refine g_istore C [(5, .int (iI (ex ((qq * 3) + 1)))), (4, .int (iI (ex (qq * 3)))), (0, .ref h), (1, .int (iI qq)), (2, .int (iI od)), (3, .int (iI tt))] dX0_signAtRoot_20 hl (by decide) rfl ?_
  clear hl
  intro ls hl
  refine g_aload_n C hl 2 rfl rfl dX0_signAtRoot_22 ?_
  refine g_get C hw hin_X0_signAtRoot_X0 0 rfl rfl 1 (by decide) lk_X0_signAtRoot_9 rfl dX0_signAtRoot_23 ?_
  refine g_iload_n C hl 3 rfl rfl dX0_signAtRoot_26 ?_
  refine g_iconst C dX0_signAtRoot_27 ?_
  refine g_imul C dX0_signAtRoot_28 ?_
  refine g_iconst C dX0_signAtRoot_29 ?_
  refine g_iadd C dX0_signAtRoot_30 ?_
  refine g_iald C hw 1 rfl (by omega) (Nat.le_of_ble_eq_true rfl) dX0_signAtRoot_31 ?_
  refine g_istore C [(6, .int (iI (ex ((qq * 3) + 2)))), (5, .int (iI (ex ((qq * 3) + 1)))), (4, .int (iI (ex (qq * 3)))), (0, .ref h), (1, .int (iI qq)), (2, .int (iI od)), (3, .int (iI tt))] dX0_signAtRoot_32 hl (by decide) rfl ?_
  clear hl
  intro ls hl
  refine g_iload_n C hl 5 rfl rfl dX0_signAtRoot_34 ?_
  refine g_iconst C dX0_signAtRoot_35 ?_
  refine g_icmp_ne C 45 dX0_signAtRoot_36 (by decide) (by omega) (by omega) (fun c_1 => ?_) (fun c_1 => ?_)
  · skip
    have hr9 : rtOK (mi tt) (si tt) (un tt) (be tt) := by rcases hrt with q | q; exact absurd q (by assumption); exact q
    obtain ⟨gP, gS, gD, gQ, gz⟩ := id hr9
    obtain ⟨g1, g2⟩ := sAt_rg hr9 (c := ex (qq * 3)) (b := ex (qq * 3 + 1)) (a := ex (qq * 3 + 2)) (by omega) (by omega) (by omega)
    obtain ⟨g3, g4⟩ := sAt_rg hr9 (c := ex (qq * 3 + 1)) (b := 2 * ex (qq * 3 + 2)) (a := 0) (by omega) (by omega) (by omega)
    refine g_iload_n C hl 5 rfl rfl dX0_signAtRoot_45 ?_
    refine g_if_ne C 55 dX0_signAtRoot_46 (by decide) (by omega) (fun c_2 => ?_) (fun c_2 => ?_)
    · skip
      refine g_iload C hl 1 rfl dX0_signAtRoot_55 ?_
      refine g_i2l C dX0_signAtRoot_57 (by omega) ?_
      refine g_lstore C [(7, .long (lI (ex ((qq * 3) + 1)))), (6, .int (iI (ex ((qq * 3) + 2)))), (5, .int (iI (ex ((qq * 3) + 1)))), (4, .int (iI (ex (qq * 3)))), (0, .ref h), (1, .int (iI qq)), (2, .int (iI od)), (3, .int (iI tt))] dX0_signAtRoot_58 hl (by decide) rfl ?_
      clear hl
      intro ls hl
      refine g_iload_n C hl 6 rfl rfl dX0_signAtRoot_60 ?_
      refine g_if_ne C 70 dX0_signAtRoot_61 (by decide) (by omega) (fun c_3 => ?_) (fun c_3 => ?_)
      · skip
        refine g_iconst C dX0_signAtRoot_70 ?_
        refine g_iload C hl 1 rfl dX0_signAtRoot_71 ?_
        refine g_imul C dX0_signAtRoot_73 ?_
        refine g_i2l C dX0_signAtRoot_74 (by omega) ?_
        refine g_lstore C [(9, .long (lI (2 * (ex ((qq * 3) + 2))))), (7, .long (lI (ex ((qq * 3) + 1)))), (6, .int (iI (ex ((qq * 3) + 2)))), (5, .int (iI (ex ((qq * 3) + 1)))), (4, .int (iI (ex (qq * 3)))), (0, .ref h), (1, .int (iI qq)), (2, .int (iI od)), (3, .int (iI tt))] dX0_signAtRoot_75 hl (by decide) rfl ?_
        clear hl
        intro ls hl
        refine g_iload_n C hl 7 rfl rfl dX0_signAtRoot_77 ?_
        refine g_if_ne C 87 dX0_signAtRoot_78 (by decide) (by omega) (fun c_4 => ?_) (fun c_4 => ?_)
        · skip
          refine g_lconst0 C dX0_signAtRoot_87 ?_
          refine g_lstore C [(11, .long (lI (0))), (9, .long (lI (2 * (ex ((qq * 3) + 2))))), (7, .long (lI (ex ((qq * 3) + 1)))), (6, .int (iI (ex ((qq * 3) + 2)))), (5, .int (iI (ex ((qq * 3) + 1)))), (4, .int (iI (ex (qq * 3)))), (0, .ref h), (1, .int (iI qq)), (2, .int (iI od)), (3, .int (iI tt))] dX0_signAtRoot_88 hl (by decide) rfl ?_
          clear hl
          intro ls hl
          refine g_aload_n C hl 6 rfl rfl dX0_signAtRoot_90 ?_
          refine g_get C hw hin_X0_signAtRoot_X0 0 rfl rfl 3 (by decide) lk_X0_signAtRoot_18 rfl dX0_signAtRoot_91 ?_
          refine g_iload_n C hl 9 rfl rfl dX0_signAtRoot_94 ?_
          refine g_iald C hw 2 rfl (by omega) (Nat.le_of_ble_eq_true rfl) dX0_signAtRoot_95 ?_
          refine g_i2l C dX0_signAtRoot_96 (by omega) ?_
          refine g_lstore C [(13, .long (lI (mi tt))), (11, .long (lI (0))), (9, .long (lI (2 * (ex ((qq * 3) + 2))))), (7, .long (lI (ex ((qq * 3) + 1)))), (6, .int (iI (ex ((qq * 3) + 2)))), (5, .int (iI (ex ((qq * 3) + 1)))), (4, .int (iI (ex (qq * 3)))), (0, .ref h), (1, .int (iI qq)), (2, .int (iI od)), (3, .int (iI tt))] dX0_signAtRoot_97 hl (by decide) rfl ?_
          clear hl
          intro ls hl
          refine g_aload_n C hl 7 rfl rfl dX0_signAtRoot_99 ?_
          refine g_get C hw hin_X0_signAtRoot_X0 0 rfl rfl 5 (by decide) lk_X0_signAtRoot_24 rfl dX0_signAtRoot_100 ?_
          refine g_iload_n C hl 10 rfl rfl dX0_signAtRoot_103 ?_
          refine g_iald C hw 4 rfl (by omega) (Nat.le_of_ble_eq_true rfl) dX0_signAtRoot_104 ?_
          refine g_i2l C dX0_signAtRoot_105 (by omega) ?_
          refine g_lstore C [(15, .long (lI (un tt))), (13, .long (lI (mi tt))), (11, .long (lI (0))), (9, .long (lI (2 * (ex ((qq * 3) + 2))))), (7, .long (lI (ex ((qq * 3) + 1)))), (6, .int (iI (ex ((qq * 3) + 2)))), (5, .int (iI (ex ((qq * 3) + 1)))), (4, .int (iI (ex (qq * 3)))), (0, .ref h), (1, .int (iI qq)), (2, .int (iI od)), (3, .int (iI tt))] dX0_signAtRoot_106 hl (by decide) rfl ?_
          clear hl
          intro ls hl
          refine g_aload_n C hl 8 rfl rfl dX0_signAtRoot_108 ?_
          refine g_get C hw hin_X0_signAtRoot_X0 0 rfl rfl 6 (by decide) lk_X0_signAtRoot_27 rfl dX0_signAtRoot_109 ?_
          refine g_iload_n C hl 11 rfl rfl dX0_signAtRoot_112 ?_
          refine g_iald C hw 5 rfl (by omega) (Nat.le_of_ble_eq_true rfl) dX0_signAtRoot_113 ?_
          refine g_i2l C dX0_signAtRoot_114 (by omega) ?_
          refine g_lstore C [(17, .long (lI (be tt))), (15, .long (lI (un tt))), (13, .long (lI (mi tt))), (11, .long (lI (0))), (9, .long (lI (2 * (ex ((qq * 3) + 2))))), (7, .long (lI (ex ((qq * 3) + 1)))), (6, .int (iI (ex ((qq * 3) + 2)))), (5, .int (iI (ex ((qq * 3) + 1)))), (4, .int (iI (ex (qq * 3)))), (0, .ref h), (1, .int (iI qq)), (2, .int (iI od)), (3, .int (iI tt))] dX0_signAtRoot_115 hl (by decide) rfl ?_
          clear hl
          intro ls hl
          refine g_lload C hl 5 rfl dX0_signAtRoot_117 ?_
          refine g_lload C hl 0 rfl dX0_signAtRoot_119 ?_
          refine g_lmul C dX0_signAtRoot_121 ?_
          refine g_lload C hl 0 rfl dX0_signAtRoot_122 ?_
          refine g_lmul C dX0_signAtRoot_124 ?_
          refine g_lload C hl 4 rfl dX0_signAtRoot_125 ?_
          refine g_lload C hl 0 rfl dX0_signAtRoot_127 ?_
          refine g_lmul C dX0_signAtRoot_129 ?_
          refine g_lload C hl 2 rfl dX0_signAtRoot_130 ?_
          refine g_lmul C dX0_signAtRoot_132 ?_
          refine g_ladd C dX0_signAtRoot_133 ?_
          refine g_lload C hl 3 rfl dX0_signAtRoot_134 ?_
          refine g_lload C hl 2 rfl dX0_signAtRoot_136 ?_
          refine g_lload C hl 2 rfl dX0_signAtRoot_138 ?_
          refine g_lmul C dX0_signAtRoot_140 ?_
          refine g_lload C hl 1 rfl dX0_signAtRoot_141 ?_
          refine g_ladd C dX0_signAtRoot_143 ?_
          refine g_lmul C dX0_signAtRoot_144 ?_
          refine g_ladd C dX0_signAtRoot_145 ?_
          refine g_lstore C [(19, .long (lI (((((ex ((qq * 3) + 1)) * (be tt)) * (be tt)) + (((2 * (ex ((qq * 3) + 2))) * (be tt)) * (mi tt))) + (0 * (((mi tt) * (mi tt)) + (un tt)))))), (17, .long (lI (be tt))), (15, .long (lI (un tt))), (13, .long (lI (mi tt))), (11, .long (lI (0))), (9, .long (lI (2 * (ex ((qq * 3) + 2))))), (7, .long (lI (ex ((qq * 3) + 1)))), (6, .int (iI (ex ((qq * 3) + 2)))), (5, .int (iI (ex ((qq * 3) + 1)))), (4, .int (iI (ex (qq * 3)))), (0, .ref h), (1, .int (iI qq)), (2, .int (iI od)), (3, .int (iI tt))] dX0_signAtRoot_146 hl (by decide) rfl ?_
          clear hl
          intro ls hl
          refine g_aload_n C hl 10 rfl rfl dX0_signAtRoot_148 ?_
          refine g_get C hw hin_X0_signAtRoot_X0 0 rfl rfl 4 (by decide) lk_X0_signAtRoot_21 rfl dX0_signAtRoot_149 ?_
          refine g_iload_n C hl 13 rfl rfl dX0_signAtRoot_152 ?_
          refine g_iald C hw 3 rfl (by omega) (Nat.le_of_ble_eq_true rfl) dX0_signAtRoot_153 ?_
          refine g_i2l C dX0_signAtRoot_154 (by omega) ?_
          refine g_lload C hl 5 rfl dX0_signAtRoot_155 ?_
          refine g_lload C hl 1 rfl dX0_signAtRoot_157 ?_
          refine g_lmul C dX0_signAtRoot_159 ?_
          refine g_ldc2 C (2) cn_X0_signAtRoot_83 (by decide +kernel) dX0_signAtRoot_160 ?_
          refine g_lload C hl 4 rfl dX0_signAtRoot_163 ?_
          refine g_lmul C dX0_signAtRoot_165 ?_
          refine g_nL (show (2 * 0 : Int) = 0 by decide) ?_
          refine g_lload C hl 3 rfl dX0_signAtRoot_166 ?_
          refine g_lmul C dX0_signAtRoot_168 ?_
          refine g_ladd C dX0_signAtRoot_169 ?_
          refine g_lmul C dX0_signAtRoot_170 ?_
          refine g_lstore C [(21, .long (lI ((si tt) * (((2 * (ex ((qq * 3) + 2))) * (be tt)) + (0 * (mi tt)))))), (19, .long (lI (((((ex ((qq * 3) + 1)) * (be tt)) * (be tt)) + (((2 * (ex ((qq * 3) + 2))) * (be tt)) * (mi tt))) + (0 * (((mi tt) * (mi tt)) + (un tt)))))), (17, .long (lI (be tt))), (15, .long (lI (un tt))), (13, .long (lI (mi tt))), (11, .long (lI (0))), (9, .long (lI (2 * (ex ((qq * 3) + 2))))), (7, .long (lI (ex ((qq * 3) + 1)))), (6, .int (iI (ex ((qq * 3) + 2)))), (5, .int (iI (ex ((qq * 3) + 1)))), (4, .int (iI (ex (qq * 3)))), (0, .ref h), (1, .int (iI qq)), (2, .int (iI od)), (3, .int (iI tt))] dX0_signAtRoot_171 hl (by decide) rfl ?_
          clear hl
          intro ls hl
          refine g_lload C hl 1 rfl dX0_signAtRoot_173 ?_
          refine g_lload C hl 0 rfl dX0_signAtRoot_175 ?_
          refine g_lload C hl 3 rfl dX0_signAtRoot_177 ?_
          refine g_callSi C hw (wr := [oX0 h a cn ul rw, cA G (a 1) 12 ex, cA G (a 3) 8 mi, cA G (a 4) 8 si, cA G (a 5) 8 un, cA G (a 6) 8 be]) (As := [.long (lI (((((ex ((qq * 3) + 1)) * (be tt)) * (be tt)) + (((2 * (ex ((qq * 3) + 2))) * (be tt)) * (mi tt))) + (0 * (((mi tt) * (mi tt)) + (un tt))))), .long (lI ((si tt) * (((2 * (ex ((qq * 3) + 2))) * (be tt)) + (0 * (mi tt))))), .long (lI (un tt))]) (rest := []) (m_X0_signOfSum l D G (uu := (((((ex ((qq * 3) + 1)) * (be tt)) * (be tt)) + (((2 * (ex ((qq * 3) + 2))) * (be tt)) * (mi tt))) + (0 * (((mi tt) * (mi tt)) + (un tt))))) (vv := ((si tt) * (((2 * (ex ((qq * 3) + 2))) * (be tt)) + (0 * (mi tt))))) (dd := (un tt)) (by first | exact g1 | exact g3 | (exfalso; omega)) (by first | exact g2 | exact g4 | (exfalso; omega)) (by first | assumption | omega)) (va_cwS 3 C.1.2.2.2.2 gX0_signAtRoot_X0_signOfSum rfl rfl rfl (by decide +kernel) ⟨Nat.le_of_ble_eq_true rfl, Nat.le_of_ble_eq_true rfl⟩) [] [0, 1, 2, 3, 4, 5] rfl rfl (by decide) (by decide) (by decide) rfl hl.1 _ rfl (Nat.le_of_ble_eq_true rfl) dX0_signAtRoot_179 ⟨Nat.le_of_ble_eq_true rfl, Nat.le_of_ble_eq_true rfl⟩ ?_
          clear hw
          rintro _ _ H locs ⟨rfl, rfl⟩ hw
          have hw : gW D A s.heap [oX0 h a cn ul rw, cA G (a 1) 12 ex, cA G (a 3) 8 mi, cA G (a 4) 8 si, cA G (a 5) 8 un, cA G (a 6) 8 be] H locs := hw
          exact g_iret C hr (ws' := [oX0 h a cn ul rw, cA G (a 1) 12 ex, cA G (a 3) 8 mi, cA G (a 4) 8 si, cA G (a 5) 8 un, cA G (a 6) 8 be]) hw [0, 1, 2, 3, 4, 5] (by decide) rfl ⟨(congrArg iI (by first | (rw [if_pos (by omega)]; done) | (rw [if_neg (by omega), if_pos (by omega)]; rfl) | (rw [if_neg (by omega), if_neg (by omega)]; rfl) | (exfalso; omega))), rfl⟩ dX0_signAtRoot_182
        · skip
          refine g_iload C hl 2 rfl dX0_signAtRoot_81 ?_
          refine g_i2l C dX0_signAtRoot_83 (by omega) ?_
          refine g_goto C 88 dX0_signAtRoot_84 (by decide) ?_
          refine g_lstore C [(11, .long (lI (ex ((qq * 3) + 2)))), (9, .long (lI (2 * (ex ((qq * 3) + 2))))), (7, .long (lI (ex ((qq * 3) + 1)))), (6, .int (iI (ex ((qq * 3) + 2)))), (5, .int (iI (ex ((qq * 3) + 1)))), (4, .int (iI (ex (qq * 3)))), (0, .ref h), (1, .int (iI qq)), (2, .int (iI od)), (3, .int (iI tt))] dX0_signAtRoot_88 hl (by decide) rfl ?_
          clear hl
          intro ls hl
          refine g_aload_n C hl 6 rfl rfl dX0_signAtRoot_90 ?_
          refine g_get C hw hin_X0_signAtRoot_X0 0 rfl rfl 3 (by decide) lk_X0_signAtRoot_18 rfl dX0_signAtRoot_91 ?_
          refine g_iload_n C hl 9 rfl rfl dX0_signAtRoot_94 ?_
          refine g_iald C hw 2 rfl (by omega) (Nat.le_of_ble_eq_true rfl) dX0_signAtRoot_95 ?_
          refine g_i2l C dX0_signAtRoot_96 (by omega) ?_
          refine g_lstore C [(13, .long (lI (mi tt))), (11, .long (lI (ex ((qq * 3) + 2)))), (9, .long (lI (2 * (ex ((qq * 3) + 2))))), (7, .long (lI (ex ((qq * 3) + 1)))), (6, .int (iI (ex ((qq * 3) + 2)))), (5, .int (iI (ex ((qq * 3) + 1)))), (4, .int (iI (ex (qq * 3)))), (0, .ref h), (1, .int (iI qq)), (2, .int (iI od)), (3, .int (iI tt))] dX0_signAtRoot_97 hl (by decide) rfl ?_
          clear hl
          intro ls hl
          refine g_aload_n C hl 7 rfl rfl dX0_signAtRoot_99 ?_
          refine g_get C hw hin_X0_signAtRoot_X0 0 rfl rfl 5 (by decide) lk_X0_signAtRoot_24 rfl dX0_signAtRoot_100 ?_
          refine g_iload_n C hl 10 rfl rfl dX0_signAtRoot_103 ?_
          refine g_iald C hw 4 rfl (by omega) (Nat.le_of_ble_eq_true rfl) dX0_signAtRoot_104 ?_
          refine g_i2l C dX0_signAtRoot_105 (by omega) ?_
          refine g_lstore C [(15, .long (lI (un tt))), (13, .long (lI (mi tt))), (11, .long (lI (ex ((qq * 3) + 2)))), (9, .long (lI (2 * (ex ((qq * 3) + 2))))), (7, .long (lI (ex ((qq * 3) + 1)))), (6, .int (iI (ex ((qq * 3) + 2)))), (5, .int (iI (ex ((qq * 3) + 1)))), (4, .int (iI (ex (qq * 3)))), (0, .ref h), (1, .int (iI qq)), (2, .int (iI od)), (3, .int (iI tt))] dX0_signAtRoot_106 hl (by decide) rfl ?_
          clear hl
          intro ls hl
          refine g_aload_n C hl 8 rfl rfl dX0_signAtRoot_108 ?_
          refine g_get C hw hin_X0_signAtRoot_X0 0 rfl rfl 6 (by decide) lk_X0_signAtRoot_27 rfl dX0_signAtRoot_109 ?_
          refine g_iload_n C hl 11 rfl rfl dX0_signAtRoot_112 ?_
          refine g_iald C hw 5 rfl (by omega) (Nat.le_of_ble_eq_true rfl) dX0_signAtRoot_113 ?_
          refine g_i2l C dX0_signAtRoot_114 (by omega) ?_
          refine g_lstore C [(17, .long (lI (be tt))), (15, .long (lI (un tt))), (13, .long (lI (mi tt))), (11, .long (lI (ex ((qq * 3) + 2)))), (9, .long (lI (2 * (ex ((qq * 3) + 2))))), (7, .long (lI (ex ((qq * 3) + 1)))), (6, .int (iI (ex ((qq * 3) + 2)))), (5, .int (iI (ex ((qq * 3) + 1)))), (4, .int (iI (ex (qq * 3)))), (0, .ref h), (1, .int (iI qq)), (2, .int (iI od)), (3, .int (iI tt))] dX0_signAtRoot_115 hl (by decide) rfl ?_
          clear hl
          intro ls hl
          refine g_lload C hl 5 rfl dX0_signAtRoot_117 ?_
          refine g_lload C hl 0 rfl dX0_signAtRoot_119 ?_
          refine g_lmul C dX0_signAtRoot_121 ?_
          refine g_lload C hl 0 rfl dX0_signAtRoot_122 ?_
          refine g_lmul C dX0_signAtRoot_124 ?_
          refine g_lload C hl 4 rfl dX0_signAtRoot_125 ?_
          refine g_lload C hl 0 rfl dX0_signAtRoot_127 ?_
          refine g_lmul C dX0_signAtRoot_129 ?_
          refine g_lload C hl 2 rfl dX0_signAtRoot_130 ?_
          refine g_lmul C dX0_signAtRoot_132 ?_
          refine g_ladd C dX0_signAtRoot_133 ?_
          refine g_lload C hl 3 rfl dX0_signAtRoot_134 ?_
          refine g_lload C hl 2 rfl dX0_signAtRoot_136 ?_
          refine g_lload C hl 2 rfl dX0_signAtRoot_138 ?_
          refine g_lmul C dX0_signAtRoot_140 ?_
          refine g_lload C hl 1 rfl dX0_signAtRoot_141 ?_
          refine g_ladd C dX0_signAtRoot_143 ?_
          refine g_lmul C dX0_signAtRoot_144 ?_
          refine g_ladd C dX0_signAtRoot_145 ?_
          refine g_lstore C [(19, .long (lI (((((ex ((qq * 3) + 1)) * (be tt)) * (be tt)) + (((2 * (ex ((qq * 3) + 2))) * (be tt)) * (mi tt))) + ((ex ((qq * 3) + 2)) * (((mi tt) * (mi tt)) + (un tt)))))), (17, .long (lI (be tt))), (15, .long (lI (un tt))), (13, .long (lI (mi tt))), (11, .long (lI (ex ((qq * 3) + 2)))), (9, .long (lI (2 * (ex ((qq * 3) + 2))))), (7, .long (lI (ex ((qq * 3) + 1)))), (6, .int (iI (ex ((qq * 3) + 2)))), (5, .int (iI (ex ((qq * 3) + 1)))), (4, .int (iI (ex (qq * 3)))), (0, .ref h), (1, .int (iI qq)), (2, .int (iI od)), (3, .int (iI tt))] dX0_signAtRoot_146 hl (by decide) rfl ?_
          clear hl
          intro ls hl
          refine g_aload_n C hl 10 rfl rfl dX0_signAtRoot_148 ?_
          refine g_get C hw hin_X0_signAtRoot_X0 0 rfl rfl 4 (by decide) lk_X0_signAtRoot_21 rfl dX0_signAtRoot_149 ?_
          refine g_iload_n C hl 13 rfl rfl dX0_signAtRoot_152 ?_
          refine g_iald C hw 3 rfl (by omega) (Nat.le_of_ble_eq_true rfl) dX0_signAtRoot_153 ?_
          refine g_i2l C dX0_signAtRoot_154 (by omega) ?_
          refine g_lload C hl 5 rfl dX0_signAtRoot_155 ?_
          refine g_lload C hl 1 rfl dX0_signAtRoot_157 ?_
          refine g_lmul C dX0_signAtRoot_159 ?_
          refine g_ldc2 C (2) cn_X0_signAtRoot_83 (by decide +kernel) dX0_signAtRoot_160 ?_
          refine g_lload C hl 4 rfl dX0_signAtRoot_163 ?_
          refine g_lmul C dX0_signAtRoot_165 ?_
          refine g_lload C hl 3 rfl dX0_signAtRoot_166 ?_
          refine g_lmul C dX0_signAtRoot_168 ?_
          refine g_ladd C dX0_signAtRoot_169 ?_
          refine g_lmul C dX0_signAtRoot_170 ?_
          refine g_lstore C [(21, .long (lI ((si tt) * (((2 * (ex ((qq * 3) + 2))) * (be tt)) + ((2 * (ex ((qq * 3) + 2))) * (mi tt)))))), (19, .long (lI (((((ex ((qq * 3) + 1)) * (be tt)) * (be tt)) + (((2 * (ex ((qq * 3) + 2))) * (be tt)) * (mi tt))) + ((ex ((qq * 3) + 2)) * (((mi tt) * (mi tt)) + (un tt)))))), (17, .long (lI (be tt))), (15, .long (lI (un tt))), (13, .long (lI (mi tt))), (11, .long (lI (ex ((qq * 3) + 2)))), (9, .long (lI (2 * (ex ((qq * 3) + 2))))), (7, .long (lI (ex ((qq * 3) + 1)))), (6, .int (iI (ex ((qq * 3) + 2)))), (5, .int (iI (ex ((qq * 3) + 1)))), (4, .int (iI (ex (qq * 3)))), (0, .ref h), (1, .int (iI qq)), (2, .int (iI od)), (3, .int (iI tt))] dX0_signAtRoot_171 hl (by decide) rfl ?_
          clear hl
          intro ls hl
          refine g_lload C hl 1 rfl dX0_signAtRoot_173 ?_
          refine g_lload C hl 0 rfl dX0_signAtRoot_175 ?_
          refine g_lload C hl 3 rfl dX0_signAtRoot_177 ?_
          refine g_callSi C hw (wr := [oX0 h a cn ul rw, cA G (a 1) 12 ex, cA G (a 3) 8 mi, cA G (a 4) 8 si, cA G (a 5) 8 un, cA G (a 6) 8 be]) (As := [.long (lI (((((ex ((qq * 3) + 1)) * (be tt)) * (be tt)) + (((2 * (ex ((qq * 3) + 2))) * (be tt)) * (mi tt))) + ((ex ((qq * 3) + 2)) * (((mi tt) * (mi tt)) + (un tt))))), .long (lI ((si tt) * (((2 * (ex ((qq * 3) + 2))) * (be tt)) + ((2 * (ex ((qq * 3) + 2))) * (mi tt))))), .long (lI (un tt))]) (rest := []) (m_X0_signOfSum l D G (uu := (((((ex ((qq * 3) + 1)) * (be tt)) * (be tt)) + (((2 * (ex ((qq * 3) + 2))) * (be tt)) * (mi tt))) + ((ex ((qq * 3) + 2)) * (((mi tt) * (mi tt)) + (un tt))))) (vv := ((si tt) * (((2 * (ex ((qq * 3) + 2))) * (be tt)) + ((2 * (ex ((qq * 3) + 2))) * (mi tt))))) (dd := (un tt)) (by first | exact g1 | exact g3 | (exfalso; omega)) (by first | exact g2 | exact g4 | (exfalso; omega)) (by first | assumption | omega)) (va_cwS 3 C.1.2.2.2.2 gX0_signAtRoot_X0_signOfSum rfl rfl rfl (by decide +kernel) ⟨Nat.le_of_ble_eq_true rfl, Nat.le_of_ble_eq_true rfl⟩) [] [0, 1, 2, 3, 4, 5] rfl rfl (by decide) (by decide) (by decide) rfl hl.1 _ rfl (Nat.le_of_ble_eq_true rfl) dX0_signAtRoot_179 ⟨Nat.le_of_ble_eq_true rfl, Nat.le_of_ble_eq_true rfl⟩ ?_
          clear hw
          rintro _ _ H locs ⟨rfl, rfl⟩ hw
          have hw : gW D A s.heap [oX0 h a cn ul rw, cA G (a 1) 12 ex, cA G (a 3) 8 mi, cA G (a 4) 8 si, cA G (a 5) 8 un, cA G (a 6) 8 be] H locs := hw
          exact g_iret C hr (ws' := [oX0 h a cn ul rw, cA G (a 1) 12 ex, cA G (a 3) 8 mi, cA G (a 4) 8 si, cA G (a 5) 8 un, cA G (a 6) 8 be]) hw [0, 1, 2, 3, 4, 5] (by decide) rfl ⟨(congrArg iI (by first | (rw [if_pos (by omega)]; done) | (rw [if_neg (by omega), if_pos (by omega)]; rfl) | (rw [if_neg (by omega), if_neg (by omega)]; rfl) | (exfalso; omega))), rfl⟩ dX0_signAtRoot_182
      · skip
        refine g_iload C hl 2 rfl dX0_signAtRoot_64 ?_
        refine g_i2l C dX0_signAtRoot_66 (by omega) ?_
        refine g_goto C 75 dX0_signAtRoot_67 (by decide) ?_
        refine g_lstore C [(9, .long (lI (ex ((qq * 3) + 1)))), (7, .long (lI (ex ((qq * 3) + 1)))), (6, .int (iI (ex ((qq * 3) + 2)))), (5, .int (iI (ex ((qq * 3) + 1)))), (4, .int (iI (ex (qq * 3)))), (0, .ref h), (1, .int (iI qq)), (2, .int (iI od)), (3, .int (iI tt))] dX0_signAtRoot_75 hl (by decide) rfl ?_
        clear hl
        intro ls hl
        refine g_iload_n C hl 7 rfl rfl dX0_signAtRoot_77 ?_
        refine g_if_ne C 87 dX0_signAtRoot_78 (by decide) (by omega) (fun c_5 => ?_) (fun c_5 => ?_)
        · skip
          refine g_lconst0 C dX0_signAtRoot_87 ?_
          refine g_lstore C [(11, .long (lI (0))), (9, .long (lI (ex ((qq * 3) + 1)))), (7, .long (lI (ex ((qq * 3) + 1)))), (6, .int (iI (ex ((qq * 3) + 2)))), (5, .int (iI (ex ((qq * 3) + 1)))), (4, .int (iI (ex (qq * 3)))), (0, .ref h), (1, .int (iI qq)), (2, .int (iI od)), (3, .int (iI tt))] dX0_signAtRoot_88 hl (by decide) rfl ?_
          clear hl
          intro ls hl
          refine g_aload_n C hl 6 rfl rfl dX0_signAtRoot_90 ?_
          refine g_get C hw hin_X0_signAtRoot_X0 0 rfl rfl 3 (by decide) lk_X0_signAtRoot_18 rfl dX0_signAtRoot_91 ?_
          refine g_iload_n C hl 9 rfl rfl dX0_signAtRoot_94 ?_
          refine g_iald C hw 2 rfl (by omega) (Nat.le_of_ble_eq_true rfl) dX0_signAtRoot_95 ?_
          refine g_i2l C dX0_signAtRoot_96 (by omega) ?_
          refine g_lstore C [(13, .long (lI (mi tt))), (11, .long (lI (0))), (9, .long (lI (ex ((qq * 3) + 1)))), (7, .long (lI (ex ((qq * 3) + 1)))), (6, .int (iI (ex ((qq * 3) + 2)))), (5, .int (iI (ex ((qq * 3) + 1)))), (4, .int (iI (ex (qq * 3)))), (0, .ref h), (1, .int (iI qq)), (2, .int (iI od)), (3, .int (iI tt))] dX0_signAtRoot_97 hl (by decide) rfl ?_
          clear hl
          intro ls hl
          refine g_aload_n C hl 7 rfl rfl dX0_signAtRoot_99 ?_
          refine g_get C hw hin_X0_signAtRoot_X0 0 rfl rfl 5 (by decide) lk_X0_signAtRoot_24 rfl dX0_signAtRoot_100 ?_
          refine g_iload_n C hl 10 rfl rfl dX0_signAtRoot_103 ?_
          refine g_iald C hw 4 rfl (by omega) (Nat.le_of_ble_eq_true rfl) dX0_signAtRoot_104 ?_
          refine g_i2l C dX0_signAtRoot_105 (by omega) ?_
          refine g_lstore C [(15, .long (lI (un tt))), (13, .long (lI (mi tt))), (11, .long (lI (0))), (9, .long (lI (ex ((qq * 3) + 1)))), (7, .long (lI (ex ((qq * 3) + 1)))), (6, .int (iI (ex ((qq * 3) + 2)))), (5, .int (iI (ex ((qq * 3) + 1)))), (4, .int (iI (ex (qq * 3)))), (0, .ref h), (1, .int (iI qq)), (2, .int (iI od)), (3, .int (iI tt))] dX0_signAtRoot_106 hl (by decide) rfl ?_
          clear hl
          intro ls hl
          refine g_aload_n C hl 8 rfl rfl dX0_signAtRoot_108 ?_
          refine g_get C hw hin_X0_signAtRoot_X0 0 rfl rfl 6 (by decide) lk_X0_signAtRoot_27 rfl dX0_signAtRoot_109 ?_
          refine g_iload_n C hl 11 rfl rfl dX0_signAtRoot_112 ?_
          refine g_iald C hw 5 rfl (by omega) (Nat.le_of_ble_eq_true rfl) dX0_signAtRoot_113 ?_
          refine g_i2l C dX0_signAtRoot_114 (by omega) ?_
          refine g_lstore C [(17, .long (lI (be tt))), (15, .long (lI (un tt))), (13, .long (lI (mi tt))), (11, .long (lI (0))), (9, .long (lI (ex ((qq * 3) + 1)))), (7, .long (lI (ex ((qq * 3) + 1)))), (6, .int (iI (ex ((qq * 3) + 2)))), (5, .int (iI (ex ((qq * 3) + 1)))), (4, .int (iI (ex (qq * 3)))), (0, .ref h), (1, .int (iI qq)), (2, .int (iI od)), (3, .int (iI tt))] dX0_signAtRoot_115 hl (by decide) rfl ?_
          clear hl
          intro ls hl
          refine g_lload C hl 5 rfl dX0_signAtRoot_117 ?_
          refine g_lload C hl 0 rfl dX0_signAtRoot_119 ?_
          refine g_lmul C dX0_signAtRoot_121 ?_
          refine g_lload C hl 0 rfl dX0_signAtRoot_122 ?_
          refine g_lmul C dX0_signAtRoot_124 ?_
          refine g_lload C hl 4 rfl dX0_signAtRoot_125 ?_
          refine g_lload C hl 0 rfl dX0_signAtRoot_127 ?_
          refine g_lmul C dX0_signAtRoot_129 ?_
          refine g_lload C hl 2 rfl dX0_signAtRoot_130 ?_
          refine g_lmul C dX0_signAtRoot_132 ?_
          refine g_ladd C dX0_signAtRoot_133 ?_
          refine g_lload C hl 3 rfl dX0_signAtRoot_134 ?_
          refine g_lload C hl 2 rfl dX0_signAtRoot_136 ?_
          refine g_lload C hl 2 rfl dX0_signAtRoot_138 ?_
          refine g_lmul C dX0_signAtRoot_140 ?_
          refine g_lload C hl 1 rfl dX0_signAtRoot_141 ?_
          refine g_ladd C dX0_signAtRoot_143 ?_
          refine g_lmul C dX0_signAtRoot_144 ?_
          refine g_ladd C dX0_signAtRoot_145 ?_
          refine g_lstore C [(19, .long (lI (((((ex ((qq * 3) + 1)) * (be tt)) * (be tt)) + (((ex ((qq * 3) + 1)) * (be tt)) * (mi tt))) + (0 * (((mi tt) * (mi tt)) + (un tt)))))), (17, .long (lI (be tt))), (15, .long (lI (un tt))), (13, .long (lI (mi tt))), (11, .long (lI (0))), (9, .long (lI (ex ((qq * 3) + 1)))), (7, .long (lI (ex ((qq * 3) + 1)))), (6, .int (iI (ex ((qq * 3) + 2)))), (5, .int (iI (ex ((qq * 3) + 1)))), (4, .int (iI (ex (qq * 3)))), (0, .ref h), (1, .int (iI qq)), (2, .int (iI od)), (3, .int (iI tt))] dX0_signAtRoot_146 hl (by decide) rfl ?_
          clear hl
          intro ls hl
          refine g_aload_n C hl 10 rfl rfl dX0_signAtRoot_148 ?_
          refine g_get C hw hin_X0_signAtRoot_X0 0 rfl rfl 4 (by decide) lk_X0_signAtRoot_21 rfl dX0_signAtRoot_149 ?_
          refine g_iload_n C hl 13 rfl rfl dX0_signAtRoot_152 ?_
          refine g_iald C hw 3 rfl (by omega) (Nat.le_of_ble_eq_true rfl) dX0_signAtRoot_153 ?_
          refine g_i2l C dX0_signAtRoot_154 (by omega) ?_
          refine g_lload C hl 5 rfl dX0_signAtRoot_155 ?_
          refine g_lload C hl 1 rfl dX0_signAtRoot_157 ?_
          refine g_lmul C dX0_signAtRoot_159 ?_
          refine g_ldc2 C (2) cn_X0_signAtRoot_83 (by decide +kernel) dX0_signAtRoot_160 ?_
          refine g_lload C hl 4 rfl dX0_signAtRoot_163 ?_
          refine g_lmul C dX0_signAtRoot_165 ?_
          refine g_nL (show (2 * 0 : Int) = 0 by decide) ?_
          refine g_lload C hl 3 rfl dX0_signAtRoot_166 ?_
          refine g_lmul C dX0_signAtRoot_168 ?_
          refine g_ladd C dX0_signAtRoot_169 ?_
          refine g_lmul C dX0_signAtRoot_170 ?_
          refine g_lstore C [(21, .long (lI ((si tt) * (((ex ((qq * 3) + 1)) * (be tt)) + (0 * (mi tt)))))), (19, .long (lI (((((ex ((qq * 3) + 1)) * (be tt)) * (be tt)) + (((ex ((qq * 3) + 1)) * (be tt)) * (mi tt))) + (0 * (((mi tt) * (mi tt)) + (un tt)))))), (17, .long (lI (be tt))), (15, .long (lI (un tt))), (13, .long (lI (mi tt))), (11, .long (lI (0))), (9, .long (lI (ex ((qq * 3) + 1)))), (7, .long (lI (ex ((qq * 3) + 1)))), (6, .int (iI (ex ((qq * 3) + 2)))), (5, .int (iI (ex ((qq * 3) + 1)))), (4, .int (iI (ex (qq * 3)))), (0, .ref h), (1, .int (iI qq)), (2, .int (iI od)), (3, .int (iI tt))] dX0_signAtRoot_171 hl (by decide) rfl ?_
          clear hl
          intro ls hl
          refine g_lload C hl 1 rfl dX0_signAtRoot_173 ?_
          refine g_lload C hl 0 rfl dX0_signAtRoot_175 ?_
          refine g_lload C hl 3 rfl dX0_signAtRoot_177 ?_
          refine g_callSi C hw (wr := [oX0 h a cn ul rw, cA G (a 1) 12 ex, cA G (a 3) 8 mi, cA G (a 4) 8 si, cA G (a 5) 8 un, cA G (a 6) 8 be]) (As := [.long (lI (((((ex ((qq * 3) + 1)) * (be tt)) * (be tt)) + (((ex ((qq * 3) + 1)) * (be tt)) * (mi tt))) + (0 * (((mi tt) * (mi tt)) + (un tt))))), .long (lI ((si tt) * (((ex ((qq * 3) + 1)) * (be tt)) + (0 * (mi tt))))), .long (lI (un tt))]) (rest := []) (m_X0_signOfSum l D G (uu := (((((ex ((qq * 3) + 1)) * (be tt)) * (be tt)) + (((ex ((qq * 3) + 1)) * (be tt)) * (mi tt))) + (0 * (((mi tt) * (mi tt)) + (un tt))))) (vv := ((si tt) * (((ex ((qq * 3) + 1)) * (be tt)) + (0 * (mi tt))))) (dd := (un tt)) (by first | exact g1 | exact g3 | (exfalso; omega)) (by first | exact g2 | exact g4 | (exfalso; omega)) (by first | assumption | omega)) (va_cwS 3 C.1.2.2.2.2 gX0_signAtRoot_X0_signOfSum rfl rfl rfl (by decide +kernel) ⟨Nat.le_of_ble_eq_true rfl, Nat.le_of_ble_eq_true rfl⟩) [] [0, 1, 2, 3, 4, 5] rfl rfl (by decide) (by decide) (by decide) rfl hl.1 _ rfl (Nat.le_of_ble_eq_true rfl) dX0_signAtRoot_179 ⟨Nat.le_of_ble_eq_true rfl, Nat.le_of_ble_eq_true rfl⟩ ?_
          clear hw
          rintro _ _ H locs ⟨rfl, rfl⟩ hw
          have hw : gW D A s.heap [oX0 h a cn ul rw, cA G (a 1) 12 ex, cA G (a 3) 8 mi, cA G (a 4) 8 si, cA G (a 5) 8 un, cA G (a 6) 8 be] H locs := hw
          exact g_iret C hr (ws' := [oX0 h a cn ul rw, cA G (a 1) 12 ex, cA G (a 3) 8 mi, cA G (a 4) 8 si, cA G (a 5) 8 un, cA G (a 6) 8 be]) hw [0, 1, 2, 3, 4, 5] (by decide) rfl ⟨(congrArg iI (by first | (rw [if_pos (by omega)]; done) | (rw [if_neg (by omega), if_pos (by omega)]; rfl) | (rw [if_neg (by omega), if_neg (by omega)]; rfl) | (exfalso; omega))), rfl⟩ dX0_signAtRoot_182
        · skip
          refine g_iload C hl 2 rfl dX0_signAtRoot_81 ?_
          refine g_i2l C dX0_signAtRoot_83 (by omega) ?_
          refine g_goto C 88 dX0_signAtRoot_84 (by decide) ?_
          refine g_lstore C [(11, .long (lI (ex ((qq * 3) + 2)))), (9, .long (lI (ex ((qq * 3) + 1)))), (7, .long (lI (ex ((qq * 3) + 1)))), (6, .int (iI (ex ((qq * 3) + 2)))), (5, .int (iI (ex ((qq * 3) + 1)))), (4, .int (iI (ex (qq * 3)))), (0, .ref h), (1, .int (iI qq)), (2, .int (iI od)), (3, .int (iI tt))] dX0_signAtRoot_88 hl (by decide) rfl ?_
          clear hl
          intro ls hl
          refine g_aload_n C hl 6 rfl rfl dX0_signAtRoot_90 ?_
          refine g_get C hw hin_X0_signAtRoot_X0 0 rfl rfl 3 (by decide) lk_X0_signAtRoot_18 rfl dX0_signAtRoot_91 ?_
          refine g_iload_n C hl 9 rfl rfl dX0_signAtRoot_94 ?_
          refine g_iald C hw 2 rfl (by omega) (Nat.le_of_ble_eq_true rfl) dX0_signAtRoot_95 ?_
          refine g_i2l C dX0_signAtRoot_96 (by omega) ?_
          refine g_lstore C [(13, .long (lI (mi tt))), (11, .long (lI (ex ((qq * 3) + 2)))), (9, .long (lI (ex ((qq * 3) + 1)))), (7, .long (lI (ex ((qq * 3) + 1)))), (6, .int (iI (ex ((qq * 3) + 2)))), (5, .int (iI (ex ((qq * 3) + 1)))), (4, .int (iI (ex (qq * 3)))), (0, .ref h), (1, .int (iI qq)), (2, .int (iI od)), (3, .int (iI tt))] dX0_signAtRoot_97 hl (by decide) rfl ?_
          clear hl
          intro ls hl
          refine g_aload_n C hl 7 rfl rfl dX0_signAtRoot_99 ?_
          refine g_get C hw hin_X0_signAtRoot_X0 0 rfl rfl 5 (by decide) lk_X0_signAtRoot_24 rfl dX0_signAtRoot_100 ?_
          refine g_iload_n C hl 10 rfl rfl dX0_signAtRoot_103 ?_
          refine g_iald C hw 4 rfl (by omega) (Nat.le_of_ble_eq_true rfl) dX0_signAtRoot_104 ?_
          refine g_i2l C dX0_signAtRoot_105 (by omega) ?_
          refine g_lstore C [(15, .long (lI (un tt))), (13, .long (lI (mi tt))), (11, .long (lI (ex ((qq * 3) + 2)))), (9, .long (lI (ex ((qq * 3) + 1)))), (7, .long (lI (ex ((qq * 3) + 1)))), (6, .int (iI (ex ((qq * 3) + 2)))), (5, .int (iI (ex ((qq * 3) + 1)))), (4, .int (iI (ex (qq * 3)))), (0, .ref h), (1, .int (iI qq)), (2, .int (iI od)), (3, .int (iI tt))] dX0_signAtRoot_106 hl (by decide) rfl ?_
          clear hl
          intro ls hl
          refine g_aload_n C hl 8 rfl rfl dX0_signAtRoot_108 ?_
          refine g_get C hw hin_X0_signAtRoot_X0 0 rfl rfl 6 (by decide) lk_X0_signAtRoot_27 rfl dX0_signAtRoot_109 ?_
          refine g_iload_n C hl 11 rfl rfl dX0_signAtRoot_112 ?_
          refine g_iald C hw 5 rfl (by omega) (Nat.le_of_ble_eq_true rfl) dX0_signAtRoot_113 ?_
          refine g_i2l C dX0_signAtRoot_114 (by omega) ?_
          refine g_lstore C [(17, .long (lI (be tt))), (15, .long (lI (un tt))), (13, .long (lI (mi tt))), (11, .long (lI (ex ((qq * 3) + 2)))), (9, .long (lI (ex ((qq * 3) + 1)))), (7, .long (lI (ex ((qq * 3) + 1)))), (6, .int (iI (ex ((qq * 3) + 2)))), (5, .int (iI (ex ((qq * 3) + 1)))), (4, .int (iI (ex (qq * 3)))), (0, .ref h), (1, .int (iI qq)), (2, .int (iI od)), (3, .int (iI tt))] dX0_signAtRoot_115 hl (by decide) rfl ?_
          clear hl
          intro ls hl
          refine g_lload C hl 5 rfl dX0_signAtRoot_117 ?_
          refine g_lload C hl 0 rfl dX0_signAtRoot_119 ?_
          refine g_lmul C dX0_signAtRoot_121 ?_
          refine g_lload C hl 0 rfl dX0_signAtRoot_122 ?_
          refine g_lmul C dX0_signAtRoot_124 ?_
          refine g_lload C hl 4 rfl dX0_signAtRoot_125 ?_
          refine g_lload C hl 0 rfl dX0_signAtRoot_127 ?_
          refine g_lmul C dX0_signAtRoot_129 ?_
          refine g_lload C hl 2 rfl dX0_signAtRoot_130 ?_
          refine g_lmul C dX0_signAtRoot_132 ?_
          refine g_ladd C dX0_signAtRoot_133 ?_
          refine g_lload C hl 3 rfl dX0_signAtRoot_134 ?_
          refine g_lload C hl 2 rfl dX0_signAtRoot_136 ?_
          refine g_lload C hl 2 rfl dX0_signAtRoot_138 ?_
          refine g_lmul C dX0_signAtRoot_140 ?_
          refine g_lload C hl 1 rfl dX0_signAtRoot_141 ?_
          refine g_ladd C dX0_signAtRoot_143 ?_
          refine g_lmul C dX0_signAtRoot_144 ?_
          refine g_ladd C dX0_signAtRoot_145 ?_
          refine g_lstore C [(19, .long (lI (((((ex ((qq * 3) + 1)) * (be tt)) * (be tt)) + (((ex ((qq * 3) + 1)) * (be tt)) * (mi tt))) + ((ex ((qq * 3) + 2)) * (((mi tt) * (mi tt)) + (un tt)))))), (17, .long (lI (be tt))), (15, .long (lI (un tt))), (13, .long (lI (mi tt))), (11, .long (lI (ex ((qq * 3) + 2)))), (9, .long (lI (ex ((qq * 3) + 1)))), (7, .long (lI (ex ((qq * 3) + 1)))), (6, .int (iI (ex ((qq * 3) + 2)))), (5, .int (iI (ex ((qq * 3) + 1)))), (4, .int (iI (ex (qq * 3)))), (0, .ref h), (1, .int (iI qq)), (2, .int (iI od)), (3, .int (iI tt))] dX0_signAtRoot_146 hl (by decide) rfl ?_
          clear hl
          intro ls hl
          refine g_aload_n C hl 10 rfl rfl dX0_signAtRoot_148 ?_
          refine g_get C hw hin_X0_signAtRoot_X0 0 rfl rfl 4 (by decide) lk_X0_signAtRoot_21 rfl dX0_signAtRoot_149 ?_
          refine g_iload_n C hl 13 rfl rfl dX0_signAtRoot_152 ?_
          refine g_iald C hw 3 rfl (by omega) (Nat.le_of_ble_eq_true rfl) dX0_signAtRoot_153 ?_
          refine g_i2l C dX0_signAtRoot_154 (by omega) ?_
          refine g_lload C hl 5 rfl dX0_signAtRoot_155 ?_
          refine g_lload C hl 1 rfl dX0_signAtRoot_157 ?_
          refine g_lmul C dX0_signAtRoot_159 ?_
          refine g_ldc2 C (2) cn_X0_signAtRoot_83 (by decide +kernel) dX0_signAtRoot_160 ?_
          refine g_lload C hl 4 rfl dX0_signAtRoot_163 ?_
          refine g_lmul C dX0_signAtRoot_165 ?_
          refine g_lload C hl 3 rfl dX0_signAtRoot_166 ?_
          refine g_lmul C dX0_signAtRoot_168 ?_
          refine g_ladd C dX0_signAtRoot_169 ?_
          refine g_lmul C dX0_signAtRoot_170 ?_
          refine g_lstore C [(21, .long (lI ((si tt) * (((ex ((qq * 3) + 1)) * (be tt)) + ((2 * (ex ((qq * 3) + 2))) * (mi tt)))))), (19, .long (lI (((((ex ((qq * 3) + 1)) * (be tt)) * (be tt)) + (((ex ((qq * 3) + 1)) * (be tt)) * (mi tt))) + ((ex ((qq * 3) + 2)) * (((mi tt) * (mi tt)) + (un tt)))))), (17, .long (lI (be tt))), (15, .long (lI (un tt))), (13, .long (lI (mi tt))), (11, .long (lI (ex ((qq * 3) + 2)))), (9, .long (lI (ex ((qq * 3) + 1)))), (7, .long (lI (ex ((qq * 3) + 1)))), (6, .int (iI (ex ((qq * 3) + 2)))), (5, .int (iI (ex ((qq * 3) + 1)))), (4, .int (iI (ex (qq * 3)))), (0, .ref h), (1, .int (iI qq)), (2, .int (iI od)), (3, .int (iI tt))] dX0_signAtRoot_171 hl (by decide) rfl ?_
          clear hl
          intro ls hl
          refine g_lload C hl 1 rfl dX0_signAtRoot_173 ?_
          refine g_lload C hl 0 rfl dX0_signAtRoot_175 ?_
          refine g_lload C hl 3 rfl dX0_signAtRoot_177 ?_
          refine g_callSi C hw (wr := [oX0 h a cn ul rw, cA G (a 1) 12 ex, cA G (a 3) 8 mi, cA G (a 4) 8 si, cA G (a 5) 8 un, cA G (a 6) 8 be]) (As := [.long (lI (((((ex ((qq * 3) + 1)) * (be tt)) * (be tt)) + (((ex ((qq * 3) + 1)) * (be tt)) * (mi tt))) + ((ex ((qq * 3) + 2)) * (((mi tt) * (mi tt)) + (un tt))))), .long (lI ((si tt) * (((ex ((qq * 3) + 1)) * (be tt)) + ((2 * (ex ((qq * 3) + 2))) * (mi tt))))), .long (lI (un tt))]) (rest := []) (m_X0_signOfSum l D G (uu := (((((ex ((qq * 3) + 1)) * (be tt)) * (be tt)) + (((ex ((qq * 3) + 1)) * (be tt)) * (mi tt))) + ((ex ((qq * 3) + 2)) * (((mi tt) * (mi tt)) + (un tt))))) (vv := ((si tt) * (((ex ((qq * 3) + 1)) * (be tt)) + ((2 * (ex ((qq * 3) + 2))) * (mi tt))))) (dd := (un tt)) (by first | exact g1 | exact g3 | (exfalso; omega)) (by first | exact g2 | exact g4 | (exfalso; omega)) (by first | assumption | omega)) (va_cwS 3 C.1.2.2.2.2 gX0_signAtRoot_X0_signOfSum rfl rfl rfl (by decide +kernel) ⟨Nat.le_of_ble_eq_true rfl, Nat.le_of_ble_eq_true rfl⟩) [] [0, 1, 2, 3, 4, 5] rfl rfl (by decide) (by decide) (by decide) rfl hl.1 _ rfl (Nat.le_of_ble_eq_true rfl) dX0_signAtRoot_179 ⟨Nat.le_of_ble_eq_true rfl, Nat.le_of_ble_eq_true rfl⟩ ?_
          clear hw
          rintro _ _ H locs ⟨rfl, rfl⟩ hw
          have hw : gW D A s.heap [oX0 h a cn ul rw, cA G (a 1) 12 ex, cA G (a 3) 8 mi, cA G (a 4) 8 si, cA G (a 5) 8 un, cA G (a 6) 8 be] H locs := hw
          exact g_iret C hr (ws' := [oX0 h a cn ul rw, cA G (a 1) 12 ex, cA G (a 3) 8 mi, cA G (a 4) 8 si, cA G (a 5) 8 un, cA G (a 6) 8 be]) hw [0, 1, 2, 3, 4, 5] (by decide) rfl ⟨(congrArg iI (by first | (rw [if_pos (by omega)]; done) | (rw [if_neg (by omega), if_pos (by omega)]; rfl) | (rw [if_neg (by omega), if_neg (by omega)]; rfl) | (exfalso; omega))), rfl⟩ dX0_signAtRoot_182
    · skip
      refine g_iload C hl 2 rfl dX0_signAtRoot_49 ?_
      refine g_i2l C dX0_signAtRoot_51 (by omega) ?_
      refine g_goto C 58 dX0_signAtRoot_52 (by decide) ?_
      refine g_lstore C [(7, .long (lI (ex (qq * 3)))), (6, .int (iI (ex ((qq * 3) + 2)))), (5, .int (iI (ex ((qq * 3) + 1)))), (4, .int (iI (ex (qq * 3)))), (0, .ref h), (1, .int (iI qq)), (2, .int (iI od)), (3, .int (iI tt))] dX0_signAtRoot_58 hl (by decide) rfl ?_
      clear hl
      intro ls hl
      refine g_iload_n C hl 6 rfl rfl dX0_signAtRoot_60 ?_
      refine g_if_ne C 70 dX0_signAtRoot_61 (by decide) (by omega) (fun c_6 => ?_) (fun c_6 => ?_)
      · skip
        refine g_iconst C dX0_signAtRoot_70 ?_
        refine g_iload C hl 1 rfl dX0_signAtRoot_71 ?_
        refine g_imul C dX0_signAtRoot_73 ?_
        refine g_i2l C dX0_signAtRoot_74 (by omega) ?_
        refine g_lstore C [(9, .long (lI (2 * (ex ((qq * 3) + 2))))), (7, .long (lI (ex (qq * 3)))), (6, .int (iI (ex ((qq * 3) + 2)))), (5, .int (iI (ex ((qq * 3) + 1)))), (4, .int (iI (ex (qq * 3)))), (0, .ref h), (1, .int (iI qq)), (2, .int (iI od)), (3, .int (iI tt))] dX0_signAtRoot_75 hl (by decide) rfl ?_
        clear hl
        intro ls hl
        refine g_iload_n C hl 7 rfl rfl dX0_signAtRoot_77 ?_
        refine g_if_ne C 87 dX0_signAtRoot_78 (by decide) (by omega) (fun c_7 => ?_) (fun c_7 => ?_)
        · skip
          refine g_lconst0 C dX0_signAtRoot_87 ?_
          refine g_lstore C [(11, .long (lI (0))), (9, .long (lI (2 * (ex ((qq * 3) + 2))))), (7, .long (lI (ex (qq * 3)))), (6, .int (iI (ex ((qq * 3) + 2)))), (5, .int (iI (ex ((qq * 3) + 1)))), (4, .int (iI (ex (qq * 3)))), (0, .ref h), (1, .int (iI qq)), (2, .int (iI od)), (3, .int (iI tt))] dX0_signAtRoot_88 hl (by decide) rfl ?_
          clear hl
          intro ls hl
          refine g_aload_n C hl 6 rfl rfl dX0_signAtRoot_90 ?_
          refine g_get C hw hin_X0_signAtRoot_X0 0 rfl rfl 3 (by decide) lk_X0_signAtRoot_18 rfl dX0_signAtRoot_91 ?_
          refine g_iload_n C hl 9 rfl rfl dX0_signAtRoot_94 ?_
          refine g_iald C hw 2 rfl (by omega) (Nat.le_of_ble_eq_true rfl) dX0_signAtRoot_95 ?_
          refine g_i2l C dX0_signAtRoot_96 (by omega) ?_
          refine g_lstore C [(13, .long (lI (mi tt))), (11, .long (lI (0))), (9, .long (lI (2 * (ex ((qq * 3) + 2))))), (7, .long (lI (ex (qq * 3)))), (6, .int (iI (ex ((qq * 3) + 2)))), (5, .int (iI (ex ((qq * 3) + 1)))), (4, .int (iI (ex (qq * 3)))), (0, .ref h), (1, .int (iI qq)), (2, .int (iI od)), (3, .int (iI tt))] dX0_signAtRoot_97 hl (by decide) rfl ?_
          clear hl
          intro ls hl
          refine g_aload_n C hl 7 rfl rfl dX0_signAtRoot_99 ?_
          refine g_get C hw hin_X0_signAtRoot_X0 0 rfl rfl 5 (by decide) lk_X0_signAtRoot_24 rfl dX0_signAtRoot_100 ?_
          refine g_iload_n C hl 10 rfl rfl dX0_signAtRoot_103 ?_
          refine g_iald C hw 4 rfl (by omega) (Nat.le_of_ble_eq_true rfl) dX0_signAtRoot_104 ?_
          refine g_i2l C dX0_signAtRoot_105 (by omega) ?_
          refine g_lstore C [(15, .long (lI (un tt))), (13, .long (lI (mi tt))), (11, .long (lI (0))), (9, .long (lI (2 * (ex ((qq * 3) + 2))))), (7, .long (lI (ex (qq * 3)))), (6, .int (iI (ex ((qq * 3) + 2)))), (5, .int (iI (ex ((qq * 3) + 1)))), (4, .int (iI (ex (qq * 3)))), (0, .ref h), (1, .int (iI qq)), (2, .int (iI od)), (3, .int (iI tt))] dX0_signAtRoot_106 hl (by decide) rfl ?_
          clear hl
          intro ls hl
          refine g_aload_n C hl 8 rfl rfl dX0_signAtRoot_108 ?_
          refine g_get C hw hin_X0_signAtRoot_X0 0 rfl rfl 6 (by decide) lk_X0_signAtRoot_27 rfl dX0_signAtRoot_109 ?_
          refine g_iload_n C hl 11 rfl rfl dX0_signAtRoot_112 ?_
          refine g_iald C hw 5 rfl (by omega) (Nat.le_of_ble_eq_true rfl) dX0_signAtRoot_113 ?_
          refine g_i2l C dX0_signAtRoot_114 (by omega) ?_
          refine g_lstore C [(17, .long (lI (be tt))), (15, .long (lI (un tt))), (13, .long (lI (mi tt))), (11, .long (lI (0))), (9, .long (lI (2 * (ex ((qq * 3) + 2))))), (7, .long (lI (ex (qq * 3)))), (6, .int (iI (ex ((qq * 3) + 2)))), (5, .int (iI (ex ((qq * 3) + 1)))), (4, .int (iI (ex (qq * 3)))), (0, .ref h), (1, .int (iI qq)), (2, .int (iI od)), (3, .int (iI tt))] dX0_signAtRoot_115 hl (by decide) rfl ?_
          clear hl
          intro ls hl
          refine g_lload C hl 5 rfl dX0_signAtRoot_117 ?_
          refine g_lload C hl 0 rfl dX0_signAtRoot_119 ?_
          refine g_lmul C dX0_signAtRoot_121 ?_
          refine g_lload C hl 0 rfl dX0_signAtRoot_122 ?_
          refine g_lmul C dX0_signAtRoot_124 ?_
          refine g_lload C hl 4 rfl dX0_signAtRoot_125 ?_
          refine g_lload C hl 0 rfl dX0_signAtRoot_127 ?_
          refine g_lmul C dX0_signAtRoot_129 ?_
          refine g_lload C hl 2 rfl dX0_signAtRoot_130 ?_
          refine g_lmul C dX0_signAtRoot_132 ?_
          refine g_ladd C dX0_signAtRoot_133 ?_
          refine g_lload C hl 3 rfl dX0_signAtRoot_134 ?_
          refine g_lload C hl 2 rfl dX0_signAtRoot_136 ?_
          refine g_lload C hl 2 rfl dX0_signAtRoot_138 ?_
          refine g_lmul C dX0_signAtRoot_140 ?_
          refine g_lload C hl 1 rfl dX0_signAtRoot_141 ?_
          refine g_ladd C dX0_signAtRoot_143 ?_
          refine g_lmul C dX0_signAtRoot_144 ?_
          refine g_ladd C dX0_signAtRoot_145 ?_
          refine g_lstore C [(19, .long (lI (((((ex (qq * 3)) * (be tt)) * (be tt)) + (((2 * (ex ((qq * 3) + 2))) * (be tt)) * (mi tt))) + (0 * (((mi tt) * (mi tt)) + (un tt)))))), (17, .long (lI (be tt))), (15, .long (lI (un tt))), (13, .long (lI (mi tt))), (11, .long (lI (0))), (9, .long (lI (2 * (ex ((qq * 3) + 2))))), (7, .long (lI (ex (qq * 3)))), (6, .int (iI (ex ((qq * 3) + 2)))), (5, .int (iI (ex ((qq * 3) + 1)))), (4, .int (iI (ex (qq * 3)))), (0, .ref h), (1, .int (iI qq)), (2, .int (iI od)), (3, .int (iI tt))] dX0_signAtRoot_146 hl (by decide) rfl ?_
          clear hl
          intro ls hl
          refine g_aload_n C hl 10 rfl rfl dX0_signAtRoot_148 ?_
          refine g_get C hw hin_X0_signAtRoot_X0 0 rfl rfl 4 (by decide) lk_X0_signAtRoot_21 rfl dX0_signAtRoot_149 ?_
          refine g_iload_n C hl 13 rfl rfl dX0_signAtRoot_152 ?_
          refine g_iald C hw 3 rfl (by omega) (Nat.le_of_ble_eq_true rfl) dX0_signAtRoot_153 ?_
          refine g_i2l C dX0_signAtRoot_154 (by omega) ?_
          refine g_lload C hl 5 rfl dX0_signAtRoot_155 ?_
          refine g_lload C hl 1 rfl dX0_signAtRoot_157 ?_
          refine g_lmul C dX0_signAtRoot_159 ?_
          refine g_ldc2 C (2) cn_X0_signAtRoot_83 (by decide +kernel) dX0_signAtRoot_160 ?_
          refine g_lload C hl 4 rfl dX0_signAtRoot_163 ?_
          refine g_lmul C dX0_signAtRoot_165 ?_
          refine g_nL (show (2 * 0 : Int) = 0 by decide) ?_
          refine g_lload C hl 3 rfl dX0_signAtRoot_166 ?_
          refine g_lmul C dX0_signAtRoot_168 ?_
          refine g_ladd C dX0_signAtRoot_169 ?_
          refine g_lmul C dX0_signAtRoot_170 ?_
          refine g_lstore C [(21, .long (lI ((si tt) * (((2 * (ex ((qq * 3) + 2))) * (be tt)) + (0 * (mi tt)))))), (19, .long (lI (((((ex (qq * 3)) * (be tt)) * (be tt)) + (((2 * (ex ((qq * 3) + 2))) * (be tt)) * (mi tt))) + (0 * (((mi tt) * (mi tt)) + (un tt)))))), (17, .long (lI (be tt))), (15, .long (lI (un tt))), (13, .long (lI (mi tt))), (11, .long (lI (0))), (9, .long (lI (2 * (ex ((qq * 3) + 2))))), (7, .long (lI (ex (qq * 3)))), (6, .int (iI (ex ((qq * 3) + 2)))), (5, .int (iI (ex ((qq * 3) + 1)))), (4, .int (iI (ex (qq * 3)))), (0, .ref h), (1, .int (iI qq)), (2, .int (iI od)), (3, .int (iI tt))] dX0_signAtRoot_171 hl (by decide) rfl ?_
          clear hl
          intro ls hl
          refine g_lload C hl 1 rfl dX0_signAtRoot_173 ?_
          refine g_lload C hl 0 rfl dX0_signAtRoot_175 ?_
          refine g_lload C hl 3 rfl dX0_signAtRoot_177 ?_
          refine g_callSi C hw (wr := [oX0 h a cn ul rw, cA G (a 1) 12 ex, cA G (a 3) 8 mi, cA G (a 4) 8 si, cA G (a 5) 8 un, cA G (a 6) 8 be]) (As := [.long (lI (((((ex (qq * 3)) * (be tt)) * (be tt)) + (((2 * (ex ((qq * 3) + 2))) * (be tt)) * (mi tt))) + (0 * (((mi tt) * (mi tt)) + (un tt))))), .long (lI ((si tt) * (((2 * (ex ((qq * 3) + 2))) * (be tt)) + (0 * (mi tt))))), .long (lI (un tt))]) (rest := []) (m_X0_signOfSum l D G (uu := (((((ex (qq * 3)) * (be tt)) * (be tt)) + (((2 * (ex ((qq * 3) + 2))) * (be tt)) * (mi tt))) + (0 * (((mi tt) * (mi tt)) + (un tt))))) (vv := ((si tt) * (((2 * (ex ((qq * 3) + 2))) * (be tt)) + (0 * (mi tt))))) (dd := (un tt)) (by first | exact g1 | exact g3 | (exfalso; omega)) (by first | exact g2 | exact g4 | (exfalso; omega)) (by first | assumption | omega)) (va_cwS 3 C.1.2.2.2.2 gX0_signAtRoot_X0_signOfSum rfl rfl rfl (by decide +kernel) ⟨Nat.le_of_ble_eq_true rfl, Nat.le_of_ble_eq_true rfl⟩) [] [0, 1, 2, 3, 4, 5] rfl rfl (by decide) (by decide) (by decide) rfl hl.1 _ rfl (Nat.le_of_ble_eq_true rfl) dX0_signAtRoot_179 ⟨Nat.le_of_ble_eq_true rfl, Nat.le_of_ble_eq_true rfl⟩ ?_
          clear hw
          rintro _ _ H locs ⟨rfl, rfl⟩ hw
          have hw : gW D A s.heap [oX0 h a cn ul rw, cA G (a 1) 12 ex, cA G (a 3) 8 mi, cA G (a 4) 8 si, cA G (a 5) 8 un, cA G (a 6) 8 be] H locs := hw
          exact g_iret C hr (ws' := [oX0 h a cn ul rw, cA G (a 1) 12 ex, cA G (a 3) 8 mi, cA G (a 4) 8 si, cA G (a 5) 8 un, cA G (a 6) 8 be]) hw [0, 1, 2, 3, 4, 5] (by decide) rfl ⟨(congrArg iI (by first | (rw [if_pos (by omega)]; done) | (rw [if_neg (by omega), if_pos (by omega)]; rfl) | (rw [if_neg (by omega), if_neg (by omega)]; rfl) | (exfalso; omega))), rfl⟩ dX0_signAtRoot_182
        · skip
          refine g_iload C hl 2 rfl dX0_signAtRoot_81 ?_
          refine g_i2l C dX0_signAtRoot_83 (by omega) ?_
          refine g_goto C 88 dX0_signAtRoot_84 (by decide) ?_
          refine g_lstore C [(11, .long (lI (ex ((qq * 3) + 2)))), (9, .long (lI (2 * (ex ((qq * 3) + 2))))), (7, .long (lI (ex (qq * 3)))), (6, .int (iI (ex ((qq * 3) + 2)))), (5, .int (iI (ex ((qq * 3) + 1)))), (4, .int (iI (ex (qq * 3)))), (0, .ref h), (1, .int (iI qq)), (2, .int (iI od)), (3, .int (iI tt))] dX0_signAtRoot_88 hl (by decide) rfl ?_
          clear hl
          intro ls hl
          refine g_aload_n C hl 6 rfl rfl dX0_signAtRoot_90 ?_
          refine g_get C hw hin_X0_signAtRoot_X0 0 rfl rfl 3 (by decide) lk_X0_signAtRoot_18 rfl dX0_signAtRoot_91 ?_
          refine g_iload_n C hl 9 rfl rfl dX0_signAtRoot_94 ?_
          refine g_iald C hw 2 rfl (by omega) (Nat.le_of_ble_eq_true rfl) dX0_signAtRoot_95 ?_
          refine g_i2l C dX0_signAtRoot_96 (by omega) ?_
          refine g_lstore C [(13, .long (lI (mi tt))), (11, .long (lI (ex ((qq * 3) + 2)))), (9, .long (lI (2 * (ex ((qq * 3) + 2))))), (7, .long (lI (ex (qq * 3)))), (6, .int (iI (ex ((qq * 3) + 2)))), (5, .int (iI (ex ((qq * 3) + 1)))), (4, .int (iI (ex (qq * 3)))), (0, .ref h), (1, .int (iI qq)), (2, .int (iI od)), (3, .int (iI tt))] dX0_signAtRoot_97 hl (by decide) rfl ?_
          clear hl
          intro ls hl
          refine g_aload_n C hl 7 rfl rfl dX0_signAtRoot_99 ?_
          refine g_get C hw hin_X0_signAtRoot_X0 0 rfl rfl 5 (by decide) lk_X0_signAtRoot_24 rfl dX0_signAtRoot_100 ?_
          refine g_iload_n C hl 10 rfl rfl dX0_signAtRoot_103 ?_
          refine g_iald C hw 4 rfl (by omega) (Nat.le_of_ble_eq_true rfl) dX0_signAtRoot_104 ?_
          refine g_i2l C dX0_signAtRoot_105 (by omega) ?_
          refine g_lstore C [(15, .long (lI (un tt))), (13, .long (lI (mi tt))), (11, .long (lI (ex ((qq * 3) + 2)))), (9, .long (lI (2 * (ex ((qq * 3) + 2))))), (7, .long (lI (ex (qq * 3)))), (6, .int (iI (ex ((qq * 3) + 2)))), (5, .int (iI (ex ((qq * 3) + 1)))), (4, .int (iI (ex (qq * 3)))), (0, .ref h), (1, .int (iI qq)), (2, .int (iI od)), (3, .int (iI tt))] dX0_signAtRoot_106 hl (by decide) rfl ?_
          clear hl
          intro ls hl
          refine g_aload_n C hl 8 rfl rfl dX0_signAtRoot_108 ?_
          refine g_get C hw hin_X0_signAtRoot_X0 0 rfl rfl 6 (by decide) lk_X0_signAtRoot_27 rfl dX0_signAtRoot_109 ?_
          refine g_iload_n C hl 11 rfl rfl dX0_signAtRoot_112 ?_
          refine g_iald C hw 5 rfl (by omega) (Nat.le_of_ble_eq_true rfl) dX0_signAtRoot_113 ?_
          refine g_i2l C dX0_signAtRoot_114 (by omega) ?_
          refine g_lstore C [(17, .long (lI (be tt))), (15, .long (lI (un tt))), (13, .long (lI (mi tt))), (11, .long (lI (ex ((qq * 3) + 2)))), (9, .long (lI (2 * (ex ((qq * 3) + 2))))), (7, .long (lI (ex (qq * 3)))), (6, .int (iI (ex ((qq * 3) + 2)))), (5, .int (iI (ex ((qq * 3) + 1)))), (4, .int (iI (ex (qq * 3)))), (0, .ref h), (1, .int (iI qq)), (2, .int (iI od)), (3, .int (iI tt))] dX0_signAtRoot_115 hl (by decide) rfl ?_
          clear hl
          intro ls hl
          refine g_lload C hl 5 rfl dX0_signAtRoot_117 ?_
          refine g_lload C hl 0 rfl dX0_signAtRoot_119 ?_
          refine g_lmul C dX0_signAtRoot_121 ?_
          refine g_lload C hl 0 rfl dX0_signAtRoot_122 ?_
          refine g_lmul C dX0_signAtRoot_124 ?_
          refine g_lload C hl 4 rfl dX0_signAtRoot_125 ?_
          refine g_lload C hl 0 rfl dX0_signAtRoot_127 ?_
          refine g_lmul C dX0_signAtRoot_129 ?_
          refine g_lload C hl 2 rfl dX0_signAtRoot_130 ?_
          refine g_lmul C dX0_signAtRoot_132 ?_
          refine g_ladd C dX0_signAtRoot_133 ?_
          refine g_lload C hl 3 rfl dX0_signAtRoot_134 ?_
          refine g_lload C hl 2 rfl dX0_signAtRoot_136 ?_
          refine g_lload C hl 2 rfl dX0_signAtRoot_138 ?_
          refine g_lmul C dX0_signAtRoot_140 ?_
          refine g_lload C hl 1 rfl dX0_signAtRoot_141 ?_
          refine g_ladd C dX0_signAtRoot_143 ?_
          refine g_lmul C dX0_signAtRoot_144 ?_
          refine g_ladd C dX0_signAtRoot_145 ?_
          refine g_lstore C [(19, .long (lI (((((ex (qq * 3)) * (be tt)) * (be tt)) + (((2 * (ex ((qq * 3) + 2))) * (be tt)) * (mi tt))) + ((ex ((qq * 3) + 2)) * (((mi tt) * (mi tt)) + (un tt)))))), (17, .long (lI (be tt))), (15, .long (lI (un tt))), (13, .long (lI (mi tt))), (11, .long (lI (ex ((qq * 3) + 2)))), (9, .long (lI (2 * (ex ((qq * 3) + 2))))), (7, .long (lI (ex (qq * 3)))), (6, .int (iI (ex ((qq * 3) + 2)))), (5, .int (iI (ex ((qq * 3) + 1)))), (4, .int (iI (ex (qq * 3)))), (0, .ref h), (1, .int (iI qq)), (2, .int (iI od)), (3, .int (iI tt))] dX0_signAtRoot_146 hl (by decide) rfl ?_
          clear hl
          intro ls hl
          refine g_aload_n C hl 10 rfl rfl dX0_signAtRoot_148 ?_
          refine g_get C hw hin_X0_signAtRoot_X0 0 rfl rfl 4 (by decide) lk_X0_signAtRoot_21 rfl dX0_signAtRoot_149 ?_
          refine g_iload_n C hl 13 rfl rfl dX0_signAtRoot_152 ?_
          refine g_iald C hw 3 rfl (by omega) (Nat.le_of_ble_eq_true rfl) dX0_signAtRoot_153 ?_
          refine g_i2l C dX0_signAtRoot_154 (by omega) ?_
          refine g_lload C hl 5 rfl dX0_signAtRoot_155 ?_
          refine g_lload C hl 1 rfl dX0_signAtRoot_157 ?_
          refine g_lmul C dX0_signAtRoot_159 ?_
          refine g_ldc2 C (2) cn_X0_signAtRoot_83 (by decide +kernel) dX0_signAtRoot_160 ?_
          refine g_lload C hl 4 rfl dX0_signAtRoot_163 ?_
          refine g_lmul C dX0_signAtRoot_165 ?_
          refine g_lload C hl 3 rfl dX0_signAtRoot_166 ?_
          refine g_lmul C dX0_signAtRoot_168 ?_
          refine g_ladd C dX0_signAtRoot_169 ?_
          refine g_lmul C dX0_signAtRoot_170 ?_
          refine g_lstore C [(21, .long (lI ((si tt) * (((2 * (ex ((qq * 3) + 2))) * (be tt)) + ((2 * (ex ((qq * 3) + 2))) * (mi tt)))))), (19, .long (lI (((((ex (qq * 3)) * (be tt)) * (be tt)) + (((2 * (ex ((qq * 3) + 2))) * (be tt)) * (mi tt))) + ((ex ((qq * 3) + 2)) * (((mi tt) * (mi tt)) + (un tt)))))), (17, .long (lI (be tt))), (15, .long (lI (un tt))), (13, .long (lI (mi tt))), (11, .long (lI (ex ((qq * 3) + 2)))), (9, .long (lI (2 * (ex ((qq * 3) + 2))))), (7, .long (lI (ex (qq * 3)))), (6, .int (iI (ex ((qq * 3) + 2)))), (5, .int (iI (ex ((qq * 3) + 1)))), (4, .int (iI (ex (qq * 3)))), (0, .ref h), (1, .int (iI qq)), (2, .int (iI od)), (3, .int (iI tt))] dX0_signAtRoot_171 hl (by decide) rfl ?_
          clear hl
          intro ls hl
          refine g_lload C hl 1 rfl dX0_signAtRoot_173 ?_
          refine g_lload C hl 0 rfl dX0_signAtRoot_175 ?_
          refine g_lload C hl 3 rfl dX0_signAtRoot_177 ?_
          refine g_callSi C hw (wr := [oX0 h a cn ul rw, cA G (a 1) 12 ex, cA G (a 3) 8 mi, cA G (a 4) 8 si, cA G (a 5) 8 un, cA G (a 6) 8 be]) (As := [.long (lI (((((ex (qq * 3)) * (be tt)) * (be tt)) + (((2 * (ex ((qq * 3) + 2))) * (be tt)) * (mi tt))) + ((ex ((qq * 3) + 2)) * (((mi tt) * (mi tt)) + (un tt))))), .long (lI ((si tt) * (((2 * (ex ((qq * 3) + 2))) * (be tt)) + ((2 * (ex ((qq * 3) + 2))) * (mi tt))))), .long (lI (un tt))]) (rest := []) (m_X0_signOfSum l D G (uu := (((((ex (qq * 3)) * (be tt)) * (be tt)) + (((2 * (ex ((qq * 3) + 2))) * (be tt)) * (mi tt))) + ((ex ((qq * 3) + 2)) * (((mi tt) * (mi tt)) + (un tt))))) (vv := ((si tt) * (((2 * (ex ((qq * 3) + 2))) * (be tt)) + ((2 * (ex ((qq * 3) + 2))) * (mi tt))))) (dd := (un tt)) (by first | exact g1 | exact g3 | (exfalso; omega)) (by first | exact g2 | exact g4 | (exfalso; omega)) (by first | assumption | omega)) (va_cwS 3 C.1.2.2.2.2 gX0_signAtRoot_X0_signOfSum rfl rfl rfl (by decide +kernel) ⟨Nat.le_of_ble_eq_true rfl, Nat.le_of_ble_eq_true rfl⟩) [] [0, 1, 2, 3, 4, 5] rfl rfl (by decide) (by decide) (by decide) rfl hl.1 _ rfl (Nat.le_of_ble_eq_true rfl) dX0_signAtRoot_179 ⟨Nat.le_of_ble_eq_true rfl, Nat.le_of_ble_eq_true rfl⟩ ?_
          clear hw
          rintro _ _ H locs ⟨rfl, rfl⟩ hw
          have hw : gW D A s.heap [oX0 h a cn ul rw, cA G (a 1) 12 ex, cA G (a 3) 8 mi, cA G (a 4) 8 si, cA G (a 5) 8 un, cA G (a 6) 8 be] H locs := hw
          exact g_iret C hr (ws' := [oX0 h a cn ul rw, cA G (a 1) 12 ex, cA G (a 3) 8 mi, cA G (a 4) 8 si, cA G (a 5) 8 un, cA G (a 6) 8 be]) hw [0, 1, 2, 3, 4, 5] (by decide) rfl ⟨(congrArg iI (by first | (rw [if_pos (by omega)]; done) | (rw [if_neg (by omega), if_pos (by omega)]; rfl) | (rw [if_neg (by omega), if_neg (by omega)]; rfl) | (exfalso; omega))), rfl⟩ dX0_signAtRoot_182
      · skip
        refine g_iload C hl 2 rfl dX0_signAtRoot_64 ?_
        refine g_i2l C dX0_signAtRoot_66 (by omega) ?_
        refine g_goto C 75 dX0_signAtRoot_67 (by decide) ?_
        refine g_lstore C [(9, .long (lI (ex ((qq * 3) + 1)))), (7, .long (lI (ex (qq * 3)))), (6, .int (iI (ex ((qq * 3) + 2)))), (5, .int (iI (ex ((qq * 3) + 1)))), (4, .int (iI (ex (qq * 3)))), (0, .ref h), (1, .int (iI qq)), (2, .int (iI od)), (3, .int (iI tt))] dX0_signAtRoot_75 hl (by decide) rfl ?_
        clear hl
        intro ls hl
        refine g_iload_n C hl 7 rfl rfl dX0_signAtRoot_77 ?_
        refine g_if_ne C 87 dX0_signAtRoot_78 (by decide) (by omega) (fun c_8 => ?_) (fun c_8 => ?_)
        · skip
          refine g_lconst0 C dX0_signAtRoot_87 ?_
          refine g_lstore C [(11, .long (lI (0))), (9, .long (lI (ex ((qq * 3) + 1)))), (7, .long (lI (ex (qq * 3)))), (6, .int (iI (ex ((qq * 3) + 2)))), (5, .int (iI (ex ((qq * 3) + 1)))), (4, .int (iI (ex (qq * 3)))), (0, .ref h), (1, .int (iI qq)), (2, .int (iI od)), (3, .int (iI tt))] dX0_signAtRoot_88 hl (by decide) rfl ?_
          clear hl
          intro ls hl
          refine g_aload_n C hl 6 rfl rfl dX0_signAtRoot_90 ?_
          refine g_get C hw hin_X0_signAtRoot_X0 0 rfl rfl 3 (by decide) lk_X0_signAtRoot_18 rfl dX0_signAtRoot_91 ?_
          refine g_iload_n C hl 9 rfl rfl dX0_signAtRoot_94 ?_
          refine g_iald C hw 2 rfl (by omega) (Nat.le_of_ble_eq_true rfl) dX0_signAtRoot_95 ?_
          refine g_i2l C dX0_signAtRoot_96 (by omega) ?_
          refine g_lstore C [(13, .long (lI (mi tt))), (11, .long (lI (0))), (9, .long (lI (ex ((qq * 3) + 1)))), (7, .long (lI (ex (qq * 3)))), (6, .int (iI (ex ((qq * 3) + 2)))), (5, .int (iI (ex ((qq * 3) + 1)))), (4, .int (iI (ex (qq * 3)))), (0, .ref h), (1, .int (iI qq)), (2, .int (iI od)), (3, .int (iI tt))] dX0_signAtRoot_97 hl (by decide) rfl ?_
          clear hl
          intro ls hl
          refine g_aload_n C hl 7 rfl rfl dX0_signAtRoot_99 ?_
          refine g_get C hw hin_X0_signAtRoot_X0 0 rfl rfl 5 (by decide) lk_X0_signAtRoot_24 rfl dX0_signAtRoot_100 ?_
          refine g_iload_n C hl 10 rfl rfl dX0_signAtRoot_103 ?_
          refine g_iald C hw 4 rfl (by omega) (Nat.le_of_ble_eq_true rfl) dX0_signAtRoot_104 ?_
          refine g_i2l C dX0_signAtRoot_105 (by omega) ?_
          refine g_lstore C [(15, .long (lI (un tt))), (13, .long (lI (mi tt))), (11, .long (lI (0))), (9, .long (lI (ex ((qq * 3) + 1)))), (7, .long (lI (ex (qq * 3)))), (6, .int (iI (ex ((qq * 3) + 2)))), (5, .int (iI (ex ((qq * 3) + 1)))), (4, .int (iI (ex (qq * 3)))), (0, .ref h), (1, .int (iI qq)), (2, .int (iI od)), (3, .int (iI tt))] dX0_signAtRoot_106 hl (by decide) rfl ?_
          clear hl
          intro ls hl
          refine g_aload_n C hl 8 rfl rfl dX0_signAtRoot_108 ?_
          refine g_get C hw hin_X0_signAtRoot_X0 0 rfl rfl 6 (by decide) lk_X0_signAtRoot_27 rfl dX0_signAtRoot_109 ?_
          refine g_iload_n C hl 11 rfl rfl dX0_signAtRoot_112 ?_
          refine g_iald C hw 5 rfl (by omega) (Nat.le_of_ble_eq_true rfl) dX0_signAtRoot_113 ?_
          refine g_i2l C dX0_signAtRoot_114 (by omega) ?_
          refine g_lstore C [(17, .long (lI (be tt))), (15, .long (lI (un tt))), (13, .long (lI (mi tt))), (11, .long (lI (0))), (9, .long (lI (ex ((qq * 3) + 1)))), (7, .long (lI (ex (qq * 3)))), (6, .int (iI (ex ((qq * 3) + 2)))), (5, .int (iI (ex ((qq * 3) + 1)))), (4, .int (iI (ex (qq * 3)))), (0, .ref h), (1, .int (iI qq)), (2, .int (iI od)), (3, .int (iI tt))] dX0_signAtRoot_115 hl (by decide) rfl ?_
          clear hl
          intro ls hl
          refine g_lload C hl 5 rfl dX0_signAtRoot_117 ?_
          refine g_lload C hl 0 rfl dX0_signAtRoot_119 ?_
          refine g_lmul C dX0_signAtRoot_121 ?_
          refine g_lload C hl 0 rfl dX0_signAtRoot_122 ?_
          refine g_lmul C dX0_signAtRoot_124 ?_
          refine g_lload C hl 4 rfl dX0_signAtRoot_125 ?_
          refine g_lload C hl 0 rfl dX0_signAtRoot_127 ?_
          refine g_lmul C dX0_signAtRoot_129 ?_
          refine g_lload C hl 2 rfl dX0_signAtRoot_130 ?_
          refine g_lmul C dX0_signAtRoot_132 ?_
          refine g_ladd C dX0_signAtRoot_133 ?_
          refine g_lload C hl 3 rfl dX0_signAtRoot_134 ?_
          refine g_lload C hl 2 rfl dX0_signAtRoot_136 ?_
          refine g_lload C hl 2 rfl dX0_signAtRoot_138 ?_
          refine g_lmul C dX0_signAtRoot_140 ?_
          refine g_lload C hl 1 rfl dX0_signAtRoot_141 ?_
          refine g_ladd C dX0_signAtRoot_143 ?_
          refine g_lmul C dX0_signAtRoot_144 ?_
          refine g_ladd C dX0_signAtRoot_145 ?_
          refine g_lstore C [(19, .long (lI (((((ex (qq * 3)) * (be tt)) * (be tt)) + (((ex ((qq * 3) + 1)) * (be tt)) * (mi tt))) + (0 * (((mi tt) * (mi tt)) + (un tt)))))), (17, .long (lI (be tt))), (15, .long (lI (un tt))), (13, .long (lI (mi tt))), (11, .long (lI (0))), (9, .long (lI (ex ((qq * 3) + 1)))), (7, .long (lI (ex (qq * 3)))), (6, .int (iI (ex ((qq * 3) + 2)))), (5, .int (iI (ex ((qq * 3) + 1)))), (4, .int (iI (ex (qq * 3)))), (0, .ref h), (1, .int (iI qq)), (2, .int (iI od)), (3, .int (iI tt))] dX0_signAtRoot_146 hl (by decide) rfl ?_
          clear hl
          intro ls hl
          refine g_aload_n C hl 10 rfl rfl dX0_signAtRoot_148 ?_
          refine g_get C hw hin_X0_signAtRoot_X0 0 rfl rfl 4 (by decide) lk_X0_signAtRoot_21 rfl dX0_signAtRoot_149 ?_
          refine g_iload_n C hl 13 rfl rfl dX0_signAtRoot_152 ?_
          refine g_iald C hw 3 rfl (by omega) (Nat.le_of_ble_eq_true rfl) dX0_signAtRoot_153 ?_
          refine g_i2l C dX0_signAtRoot_154 (by omega) ?_
          refine g_lload C hl 5 rfl dX0_signAtRoot_155 ?_
          refine g_lload C hl 1 rfl dX0_signAtRoot_157 ?_
          refine g_lmul C dX0_signAtRoot_159 ?_
          refine g_ldc2 C (2) cn_X0_signAtRoot_83 (by decide +kernel) dX0_signAtRoot_160 ?_
          refine g_lload C hl 4 rfl dX0_signAtRoot_163 ?_
          refine g_lmul C dX0_signAtRoot_165 ?_
          refine g_nL (show (2 * 0 : Int) = 0 by decide) ?_
          refine g_lload C hl 3 rfl dX0_signAtRoot_166 ?_
          refine g_lmul C dX0_signAtRoot_168 ?_
          refine g_ladd C dX0_signAtRoot_169 ?_
          refine g_lmul C dX0_signAtRoot_170 ?_
          refine g_lstore C [(21, .long (lI ((si tt) * (((ex ((qq * 3) + 1)) * (be tt)) + (0 * (mi tt)))))), (19, .long (lI (((((ex (qq * 3)) * (be tt)) * (be tt)) + (((ex ((qq * 3) + 1)) * (be tt)) * (mi tt))) + (0 * (((mi tt) * (mi tt)) + (un tt)))))), (17, .long (lI (be tt))), (15, .long (lI (un tt))), (13, .long (lI (mi tt))), (11, .long (lI (0))), (9, .long (lI (ex ((qq * 3) + 1)))), (7, .long (lI (ex (qq * 3)))), (6, .int (iI (ex ((qq * 3) + 2)))), (5, .int (iI (ex ((qq * 3) + 1)))), (4, .int (iI (ex (qq * 3)))), (0, .ref h), (1, .int (iI qq)), (2, .int (iI od)), (3, .int (iI tt))] dX0_signAtRoot_171 hl (by decide) rfl ?_
          clear hl
          intro ls hl
          refine g_lload C hl 1 rfl dX0_signAtRoot_173 ?_
          refine g_lload C hl 0 rfl dX0_signAtRoot_175 ?_
          refine g_lload C hl 3 rfl dX0_signAtRoot_177 ?_
          refine g_callSi C hw (wr := [oX0 h a cn ul rw, cA G (a 1) 12 ex, cA G (a 3) 8 mi, cA G (a 4) 8 si, cA G (a 5) 8 un, cA G (a 6) 8 be]) (As := [.long (lI (((((ex (qq * 3)) * (be tt)) * (be tt)) + (((ex ((qq * 3) + 1)) * (be tt)) * (mi tt))) + (0 * (((mi tt) * (mi tt)) + (un tt))))), .long (lI ((si tt) * (((ex ((qq * 3) + 1)) * (be tt)) + (0 * (mi tt))))), .long (lI (un tt))]) (rest := []) (m_X0_signOfSum l D G (uu := (((((ex (qq * 3)) * (be tt)) * (be tt)) + (((ex ((qq * 3) + 1)) * (be tt)) * (mi tt))) + (0 * (((mi tt) * (mi tt)) + (un tt))))) (vv := ((si tt) * (((ex ((qq * 3) + 1)) * (be tt)) + (0 * (mi tt))))) (dd := (un tt)) (by first | exact g1 | exact g3 | (exfalso; omega)) (by first | exact g2 | exact g4 | (exfalso; omega)) (by first | assumption | omega)) (va_cwS 3 C.1.2.2.2.2 gX0_signAtRoot_X0_signOfSum rfl rfl rfl (by decide +kernel) ⟨Nat.le_of_ble_eq_true rfl, Nat.le_of_ble_eq_true rfl⟩) [] [0, 1, 2, 3, 4, 5] rfl rfl (by decide) (by decide) (by decide) rfl hl.1 _ rfl (Nat.le_of_ble_eq_true rfl) dX0_signAtRoot_179 ⟨Nat.le_of_ble_eq_true rfl, Nat.le_of_ble_eq_true rfl⟩ ?_
          clear hw
          rintro _ _ H locs ⟨rfl, rfl⟩ hw
          have hw : gW D A s.heap [oX0 h a cn ul rw, cA G (a 1) 12 ex, cA G (a 3) 8 mi, cA G (a 4) 8 si, cA G (a 5) 8 un, cA G (a 6) 8 be] H locs := hw
          exact g_iret C hr (ws' := [oX0 h a cn ul rw, cA G (a 1) 12 ex, cA G (a 3) 8 mi, cA G (a 4) 8 si, cA G (a 5) 8 un, cA G (a 6) 8 be]) hw [0, 1, 2, 3, 4, 5] (by decide) rfl ⟨(congrArg iI (by first | (rw [if_pos (by omega)]; done) | (rw [if_neg (by omega), if_pos (by omega)]; rfl) | (rw [if_neg (by omega), if_neg (by omega)]; rfl) | (exfalso; omega))), rfl⟩ dX0_signAtRoot_182
        · skip
          refine g_iload C hl 2 rfl dX0_signAtRoot_81 ?_
          refine g_i2l C dX0_signAtRoot_83 (by omega) ?_
          refine g_goto C 88 dX0_signAtRoot_84 (by decide) ?_
          refine g_lstore C [(11, .long (lI (ex ((qq * 3) + 2)))), (9, .long (lI (ex ((qq * 3) + 1)))), (7, .long (lI (ex (qq * 3)))), (6, .int (iI (ex ((qq * 3) + 2)))), (5, .int (iI (ex ((qq * 3) + 1)))), (4, .int (iI (ex (qq * 3)))), (0, .ref h), (1, .int (iI qq)), (2, .int (iI od)), (3, .int (iI tt))] dX0_signAtRoot_88 hl (by decide) rfl ?_
          clear hl
          intro ls hl
          refine g_aload_n C hl 6 rfl rfl dX0_signAtRoot_90 ?_
          refine g_get C hw hin_X0_signAtRoot_X0 0 rfl rfl 3 (by decide) lk_X0_signAtRoot_18 rfl dX0_signAtRoot_91 ?_
          refine g_iload_n C hl 9 rfl rfl dX0_signAtRoot_94 ?_
          refine g_iald C hw 2 rfl (by omega) (Nat.le_of_ble_eq_true rfl) dX0_signAtRoot_95 ?_
          refine g_i2l C dX0_signAtRoot_96 (by omega) ?_
          refine g_lstore C [(13, .long (lI (mi tt))), (11, .long (lI (ex ((qq * 3) + 2)))), (9, .long (lI (ex ((qq * 3) + 1)))), (7, .long (lI (ex (qq * 3)))), (6, .int (iI (ex ((qq * 3) + 2)))), (5, .int (iI (ex ((qq * 3) + 1)))), (4, .int (iI (ex (qq * 3)))), (0, .ref h), (1, .int (iI qq)), (2, .int (iI od)), (3, .int (iI tt))] dX0_signAtRoot_97 hl (by decide) rfl ?_
          clear hl
          intro ls hl
          refine g_aload_n C hl 7 rfl rfl dX0_signAtRoot_99 ?_
          refine g_get C hw hin_X0_signAtRoot_X0 0 rfl rfl 5 (by decide) lk_X0_signAtRoot_24 rfl dX0_signAtRoot_100 ?_
          refine g_iload_n C hl 10 rfl rfl dX0_signAtRoot_103 ?_
          refine g_iald C hw 4 rfl (by omega) (Nat.le_of_ble_eq_true rfl) dX0_signAtRoot_104 ?_
          refine g_i2l C dX0_signAtRoot_105 (by omega) ?_
          refine g_lstore C [(15, .long (lI (un tt))), (13, .long (lI (mi tt))), (11, .long (lI (ex ((qq * 3) + 2)))), (9, .long (lI (ex ((qq * 3) + 1)))), (7, .long (lI (ex (qq * 3)))), (6, .int (iI (ex ((qq * 3) + 2)))), (5, .int (iI (ex ((qq * 3) + 1)))), (4, .int (iI (ex (qq * 3)))), (0, .ref h), (1, .int (iI qq)), (2, .int (iI od)), (3, .int (iI tt))] dX0_signAtRoot_106 hl (by decide) rfl ?_
          clear hl
          intro ls hl
          refine g_aload_n C hl 8 rfl rfl dX0_signAtRoot_108 ?_
          refine g_get C hw hin_X0_signAtRoot_X0 0 rfl rfl 6 (by decide) lk_X0_signAtRoot_27 rfl dX0_signAtRoot_109 ?_
          refine g_iload_n C hl 11 rfl rfl dX0_signAtRoot_112 ?_
          refine g_iald C hw 5 rfl (by omega) (Nat.le_of_ble_eq_true rfl) dX0_signAtRoot_113 ?_
          refine g_i2l C dX0_signAtRoot_114 (by omega) ?_
          refine g_lstore C [(17, .long (lI (be tt))), (15, .long (lI (un tt))), (13, .long (lI (mi tt))), (11, .long (lI (ex ((qq * 3) + 2)))), (9, .long (lI (ex ((qq * 3) + 1)))), (7, .long (lI (ex (qq * 3)))), (6, .int (iI (ex ((qq * 3) + 2)))), (5, .int (iI (ex ((qq * 3) + 1)))), (4, .int (iI (ex (qq * 3)))), (0, .ref h), (1, .int (iI qq)), (2, .int (iI od)), (3, .int (iI tt))] dX0_signAtRoot_115 hl (by decide) rfl ?_
          clear hl
          intro ls hl
          refine g_lload C hl 5 rfl dX0_signAtRoot_117 ?_
          refine g_lload C hl 0 rfl dX0_signAtRoot_119 ?_
          refine g_lmul C dX0_signAtRoot_121 ?_
          refine g_lload C hl 0 rfl dX0_signAtRoot_122 ?_
          refine g_lmul C dX0_signAtRoot_124 ?_
          refine g_lload C hl 4 rfl dX0_signAtRoot_125 ?_
          refine g_lload C hl 0 rfl dX0_signAtRoot_127 ?_
          refine g_lmul C dX0_signAtRoot_129 ?_
          refine g_lload C hl 2 rfl dX0_signAtRoot_130 ?_
          refine g_lmul C dX0_signAtRoot_132 ?_
          refine g_ladd C dX0_signAtRoot_133 ?_
          refine g_lload C hl 3 rfl dX0_signAtRoot_134 ?_
          refine g_lload C hl 2 rfl dX0_signAtRoot_136 ?_
          refine g_lload C hl 2 rfl dX0_signAtRoot_138 ?_
          refine g_lmul C dX0_signAtRoot_140 ?_
          refine g_lload C hl 1 rfl dX0_signAtRoot_141 ?_
          refine g_ladd C dX0_signAtRoot_143 ?_
          refine g_lmul C dX0_signAtRoot_144 ?_
          refine g_ladd C dX0_signAtRoot_145 ?_
          refine g_lstore C [(19, .long (lI (((((ex (qq * 3)) * (be tt)) * (be tt)) + (((ex ((qq * 3) + 1)) * (be tt)) * (mi tt))) + ((ex ((qq * 3) + 2)) * (((mi tt) * (mi tt)) + (un tt)))))), (17, .long (lI (be tt))), (15, .long (lI (un tt))), (13, .long (lI (mi tt))), (11, .long (lI (ex ((qq * 3) + 2)))), (9, .long (lI (ex ((qq * 3) + 1)))), (7, .long (lI (ex (qq * 3)))), (6, .int (iI (ex ((qq * 3) + 2)))), (5, .int (iI (ex ((qq * 3) + 1)))), (4, .int (iI (ex (qq * 3)))), (0, .ref h), (1, .int (iI qq)), (2, .int (iI od)), (3, .int (iI tt))] dX0_signAtRoot_146 hl (by decide) rfl ?_
          clear hl
          intro ls hl
          refine g_aload_n C hl 10 rfl rfl dX0_signAtRoot_148 ?_
          refine g_get C hw hin_X0_signAtRoot_X0 0 rfl rfl 4 (by decide) lk_X0_signAtRoot_21 rfl dX0_signAtRoot_149 ?_
          refine g_iload_n C hl 13 rfl rfl dX0_signAtRoot_152 ?_
          refine g_iald C hw 3 rfl (by omega) (Nat.le_of_ble_eq_true rfl) dX0_signAtRoot_153 ?_
          refine g_i2l C dX0_signAtRoot_154 (by omega) ?_
          refine g_lload C hl 5 rfl dX0_signAtRoot_155 ?_
          refine g_lload C hl 1 rfl dX0_signAtRoot_157 ?_
          refine g_lmul C dX0_signAtRoot_159 ?_
          refine g_ldc2 C (2) cn_X0_signAtRoot_83 (by decide +kernel) dX0_signAtRoot_160 ?_
          refine g_lload C hl 4 rfl dX0_signAtRoot_163 ?_
          refine g_lmul C dX0_signAtRoot_165 ?_
          refine g_lload C hl 3 rfl dX0_signAtRoot_166 ?_
          refine g_lmul C dX0_signAtRoot_168 ?_
          refine g_ladd C dX0_signAtRoot_169 ?_
          refine g_lmul C dX0_signAtRoot_170 ?_
          refine g_lstore C [(21, .long (lI ((si tt) * (((ex ((qq * 3) + 1)) * (be tt)) + ((2 * (ex ((qq * 3) + 2))) * (mi tt)))))), (19, .long (lI (((((ex (qq * 3)) * (be tt)) * (be tt)) + (((ex ((qq * 3) + 1)) * (be tt)) * (mi tt))) + ((ex ((qq * 3) + 2)) * (((mi tt) * (mi tt)) + (un tt)))))), (17, .long (lI (be tt))), (15, .long (lI (un tt))), (13, .long (lI (mi tt))), (11, .long (lI (ex ((qq * 3) + 2)))), (9, .long (lI (ex ((qq * 3) + 1)))), (7, .long (lI (ex (qq * 3)))), (6, .int (iI (ex ((qq * 3) + 2)))), (5, .int (iI (ex ((qq * 3) + 1)))), (4, .int (iI (ex (qq * 3)))), (0, .ref h), (1, .int (iI qq)), (2, .int (iI od)), (3, .int (iI tt))] dX0_signAtRoot_171 hl (by decide) rfl ?_
          clear hl
          intro ls hl
          refine g_lload C hl 1 rfl dX0_signAtRoot_173 ?_
          refine g_lload C hl 0 rfl dX0_signAtRoot_175 ?_
          refine g_lload C hl 3 rfl dX0_signAtRoot_177 ?_
          refine g_callSi C hw (wr := [oX0 h a cn ul rw, cA G (a 1) 12 ex, cA G (a 3) 8 mi, cA G (a 4) 8 si, cA G (a 5) 8 un, cA G (a 6) 8 be]) (As := [.long (lI (((((ex (qq * 3)) * (be tt)) * (be tt)) + (((ex ((qq * 3) + 1)) * (be tt)) * (mi tt))) + ((ex ((qq * 3) + 2)) * (((mi tt) * (mi tt)) + (un tt))))), .long (lI ((si tt) * (((ex ((qq * 3) + 1)) * (be tt)) + ((2 * (ex ((qq * 3) + 2))) * (mi tt))))), .long (lI (un tt))]) (rest := []) (m_X0_signOfSum l D G (uu := (((((ex (qq * 3)) * (be tt)) * (be tt)) + (((ex ((qq * 3) + 1)) * (be tt)) * (mi tt))) + ((ex ((qq * 3) + 2)) * (((mi tt) * (mi tt)) + (un tt))))) (vv := ((si tt) * (((ex ((qq * 3) + 1)) * (be tt)) + ((2 * (ex ((qq * 3) + 2))) * (mi tt))))) (dd := (un tt)) (by first | exact g1 | exact g3 | (exfalso; omega)) (by first | exact g2 | exact g4 | (exfalso; omega)) (by first | assumption | omega)) (va_cwS 3 C.1.2.2.2.2 gX0_signAtRoot_X0_signOfSum rfl rfl rfl (by decide +kernel) ⟨Nat.le_of_ble_eq_true rfl, Nat.le_of_ble_eq_true rfl⟩) [] [0, 1, 2, 3, 4, 5] rfl rfl (by decide) (by decide) (by decide) rfl hl.1 _ rfl (Nat.le_of_ble_eq_true rfl) dX0_signAtRoot_179 ⟨Nat.le_of_ble_eq_true rfl, Nat.le_of_ble_eq_true rfl⟩ ?_
          clear hw
          rintro _ _ H locs ⟨rfl, rfl⟩ hw
          have hw : gW D A s.heap [oX0 h a cn ul rw, cA G (a 1) 12 ex, cA G (a 3) 8 mi, cA G (a 4) 8 si, cA G (a 5) 8 un, cA G (a 6) 8 be] H locs := hw
          exact g_iret C hr (ws' := [oX0 h a cn ul rw, cA G (a 1) 12 ex, cA G (a 3) 8 mi, cA G (a 4) 8 si, cA G (a 5) 8 un, cA G (a 6) 8 be]) hw [0, 1, 2, 3, 4, 5] (by decide) rfl ⟨(congrArg iI (by first | (rw [if_pos (by omega)]; done) | (rw [if_neg (by omega), if_pos (by omega)]; rfl) | (rw [if_neg (by omega), if_neg (by omega)]; rfl) | (exfalso; omega))), rfl⟩ dX0_signAtRoot_182
  · skip
    refine g_iload C hl 0 rfl dX0_signAtRoot_39 ?_
    refine g_callSi C hw (wr := [oX0 h a cn ul rw, cA G (a 1) 12 ex, cA G (a 3) 8 mi, cA G (a 4) 8 si, cA G (a 5) 8 un, cA G (a 6) 8 be]) (As := [.int (iI (ex ((qq * 3) + 2)))]) (rest := []) (m_J6_signum_0f7a4 l D G (va := (ex ((qq * 3) + 2))) (by first | assumption | omega)) (va_cwS 1 C.1.2.2.2.2 gX0_signAtRoot_J6_signum_0f7a4 rfl rfl rfl (by decide +kernel) ⟨Nat.le_of_ble_eq_true rfl, Nat.le_of_ble_eq_true rfl⟩) [] [0, 1, 2, 3, 4, 5] rfl rfl (by decide) (by decide) (by decide) rfl hl.1 _ rfl (Nat.le_of_ble_eq_true rfl) dX0_signAtRoot_41 ⟨Nat.le_of_ble_eq_true rfl, Nat.le_of_ble_eq_true rfl⟩ ?_
    clear hw
    rintro _ _ H locs ⟨rfl, rfl⟩ hw
    have hw : gW D A s.heap [oX0 h a cn ul rw, cA G (a 1) 12 ex, cA G (a 3) 8 mi, cA G (a 4) 8 si, cA G (a 5) 8 un, cA G (a 6) 8 be] H locs := hw
    exact g_iret C hr (ws' := [oX0 h a cn ul rw, cA G (a 1) 12 ex, cA G (a 3) 8 mi, cA G (a 4) 8 si, cA G (a 5) 8 un, cA G (a 6) 8 be]) hw [0, 1, 2, 3, 4, 5] (by decide) rfl ⟨(congrArg iI (by first | (rw [if_pos (by omega)]; done) | (rw [if_neg (by omega), if_pos (by omega)]; rfl) | (rw [if_neg (by omega), if_neg (by omega)]; rfl) | (exfalso; omega))), rfl⟩ dX0_signAtRoot_44
