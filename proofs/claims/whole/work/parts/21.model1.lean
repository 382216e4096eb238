set_option maxRecDepth 20000 in
theorem hin_X6_is_X6 : ∀ w ∈ u_ws RX6 TX6 30, w ∈ wsX6_is := by
  intro w h
  exact List.mem_cons_of_mem _ (List.mem_append_right _ (h))
set_option maxRecDepth 20000 in
theorem lk_X6_is_13 : Cond.fieldLink RX6 13 (TX6 3).1 (TX6 3).2.1 (TX6 3).2.2.1 ∈ wsX6_is := List.mem_cons_of_mem _ (List.mem_append_left _ (List.mem_of_getElem? (i := 0) rfl))
set_option maxRecDepth 20000 in
theorem lk_X6_is_7 : Cond.fieldLink RX6 7 (TX6 2).1 (TX6 2).2.1 (TX6 2).2.2.1 ∈ wsX6_is := List.mem_cons_of_mem _ (List.mem_append_left _ (List.mem_of_getElem? (i := 1) rfl))
set_option maxRecDepth 20000 in
theorem cn_X6_is_117 : Jvm.Cond.constantLong RX6 117 (2) ∈ wsX6_is := List.mem_cons_of_mem _ (List.mem_append_left _ (List.mem_of_getElem? (i := 2) rfl))
set_option maxRecDepth 100000 in
set_option maxHeartbeats 8000000 in
theorem m_X6_is (l : Launch) (D : va_G) (G : gT) (h : Nat) (a : Nat → Nat) (ft : Int) (pn : Int) (ra : Int) (rm : Int) (rP : Int) (rS : Int) (rD : Int) (rQ : Int) (al : Int) (rw : Int) (rc : Int) (tr : Int) (kd : Int → Int) (nu : Int → Int) (pp : Int) (kk : Int) (hkd : kdOK kd) (hnu : nuOK nu) (hn : 0 ≤ pn ∧ pn ≤ 4) (hp : 0 ≤ pp ∧ pp < pn) (hk : 0 ≤ kk ∧ kk ≤ 2) : gMl l yX6_is wsX6_is ({ frames := 0, cells := 0, slots := 0, locals := 0 }) D G [.ref h, .int (iI pp), .int (iI kk)] [oX6 h a ft pn ra rm rP rS rD rQ al rw rc tr, cA G (a 2) 4 kd, cA G (a 3) 12 nu] 0 0 (fun (r : Int64) (w : va_W) => r = (lI (exT pn kd nu pp kk)) ∧ w = [oX6 h a ft pn ra rm rP rS rD rQ al rw rc tr, cA G (a 2) 4 kd, cA G (a 3) 12 nu]) := by
  refine g_start_l (cc := cX6_is) (nL := 10) (own := RX6) (ret := some .long) (by decide +kernel) rfl rfl (Nat.le_of_ble_eq_true rfl) ?_
  intro p e s m below meth c A ls C hr hnm hw hl
  have hl : lv_has ls 10 [(0, .ref h), (1, .int (iI pp)), (2, .int (iI kk))] := hl
  have k0 := hkd pp
  have n0 := hnu (3 * pp)
  have n1 := hnu (3 * pp + 1)
  have n2 := hnu (3 * pp + 2)
  refine g_aload_n C hl 0 rfl rfl dX6_is_0 ?_
  refine g_get C hw hin_X6_is_X6 0 rfl rfl 3 (by decide) lk_X6_is_13 rfl dX6_is_1 ?_
  refine g_iconst C dX6_is_4 ?_
  refine g_iload_n C hl 1 rfl rfl dX6_is_5 ?_
  refine g_imul C dX6_is_6 ?_
  refine g_iald C hw 2 rfl (by omega) (Nat.le_of_ble_eq_true rfl) dX6_is_7 ?_
  refine g_i2l C dX6_is_8 (by omega) ?_
  refine g_lstore_n C [(3, .long (lI (nu (3 * pp)))), (0, .ref h), (1, .int (iI pp)), (2, .int (iI kk))] dX6_is_9 rfl hl (by decide) rfl ?_
  clear hl
  intro ls hl
  refine g_aload_n C hl 1 rfl rfl dX6_is_10 ?_
  refine g_get C hw hin_X6_is_X6 0 rfl rfl 2 (by decide) lk_X6_is_7 rfl dX6_is_11 ?_
  refine g_iload_n C hl 2 rfl rfl dX6_is_14 ?_
  refine g_iald C hw 1 rfl (by omega) (Nat.le_of_ble_eq_true rfl) dX6_is_15 ?_
  refine g_if_ne C 33 dX6_is_16 (by decide) (by omega) (fun c_1 => ?_) (fun c_1 => ?_)
  · skip
    refine g_aload_n C hl 1 rfl rfl dX6_is_33 ?_
    refine g_get C hw hin_X6_is_X6 0 rfl rfl 3 (by decide) lk_X6_is_13 rfl dX6_is_34 ?_
    refine g_iconst C dX6_is_37 ?_
    refine g_iload_n C hl 2 rfl rfl dX6_is_38 ?_
    refine g_imul C dX6_is_39 ?_
    refine g_iconst C dX6_is_40 ?_
    refine g_iadd C dX6_is_41 ?_
    refine g_iald C hw 2 rfl (by omega) (Nat.le_of_ble_eq_true rfl) dX6_is_42 ?_
    refine g_ineg C dX6_is_43 ?_
    refine g_i2l C dX6_is_44 (by omega) ?_
    refine g_lstore C [(5, .long (lI (-(nu ((3 * pp) + 1))))), (3, .long (lI (nu (3 * pp)))), (0, .ref h), (1, .int (iI pp)), (2, .int (iI kk))] dX6_is_45 hl (by decide) rfl ?_
    clear hl
    intro ls hl
    refine g_aload_n C hl 2 rfl rfl dX6_is_47 ?_
    refine g_get C hw hin_X6_is_X6 0 rfl rfl 3 (by decide) lk_X6_is_13 rfl dX6_is_48 ?_
    refine g_iconst C dX6_is_51 ?_
    refine g_iload_n C hl 3 rfl rfl dX6_is_52 ?_
    refine g_imul C dX6_is_53 ?_
    refine g_iconst C dX6_is_54 ?_
    refine g_iadd C dX6_is_55 ?_
    refine g_iald C hw 2 rfl (by omega) (Nat.le_of_ble_eq_true rfl) dX6_is_56 ?_
    refine g_i2l C dX6_is_57 (by omega) ?_
    refine g_lstore C [(7, .long (lI (nu ((3 * pp) + 2)))), (5, .long (lI (-(nu ((3 * pp) + 1))))), (3, .long (lI (nu (3 * pp)))), (0, .ref h), (1, .int (iI pp)), (2, .int (iI kk))] dX6_is_58 hl (by decide) rfl ?_
    clear hl
    intro ls hl
    refine g_aload_n C hl 3 rfl rfl dX6_is_60 ?_
    refine g_get C hw hin_X6_is_X6 0 rfl rfl 2 (by decide) lk_X6_is_7 rfl dX6_is_61 ?_
    refine g_iload_n C hl 4 rfl rfl dX6_is_64 ?_
    refine g_iald C hw 1 rfl (by omega) (Nat.le_of_ble_eq_true rfl) dX6_is_65 ?_
    refine g_iconst C dX6_is_66 ?_
    refine g_icmp_ne C 74 dX6_is_67 (by decide) (by omega) (by omega) (fun c_2 => ?_) (fun c_2 => ?_)
    · skip
      refine g_iconst C dX6_is_74 ?_
      refine g_istore C [(9, .int (iI 0)), (7, .long (lI (nu ((3 * pp) + 2)))), (5, .long (lI (-(nu ((3 * pp) + 1))))), (3, .long (lI (nu (3 * pp)))), (0, .ref h), (1, .int (iI pp)), (2, .int (iI kk))] dX6_is_75 hl (by decide) rfl ?_
      clear hl
      intro ls hl
      refine g_iload_n C hl 6 rfl rfl dX6_is_77 ?_
      refine g_iconst C dX6_is_78 ?_
      refine g_icmp_ne C 87 dX6_is_79 (by decide) (by omega) (by omega) (fun c_3 => ?_) (fun c_3 => ?_)
      · skip
        refine g_iload_n C hl 6 rfl rfl dX6_is_87 ?_
        refine g_iconst C dX6_is_88 ?_
        refine g_icmp_ne C 114 dX6_is_89 (by decide) (by omega) (by omega) (fun c_4 => ?_) (fun c_4 => ?_)
        · skip
          refine g_iload C hl 0 rfl dX6_is_114 ?_
          refine g_if_eq C 129 dX6_is_116 (by decide) (by decide) (fun c_5 => ?_) (fun c_5 => absurd c_5 (by decide))
          refine g_lload_n C hl 3 rfl rfl dX6_is_129 ?_
          exact g_lret C hr (ws' := [oX6 h a ft pn ra rm rP rS rD rQ al rw rc tr, cA G (a 2) 4 kd, cA G (a 3) 12 nu]) hw [0, 1, 2] (by decide) rfl ⟨(congrArg lI (by rw [exT_in hp]; unfold exF; (repeat' split) <;> omega)), rfl⟩ dX6_is_130
        · skip
          refine g_iload C hl 0 rfl dX6_is_92 ?_
          refine g_if_eq C 109 dX6_is_94 (by decide) (by decide) (fun c_6 => ?_) (fun c_6 => absurd c_6 (by decide))
          refine g_lload C hl 2 rfl dX6_is_109 ?_
          refine g_goto C 130 dX6_is_111 (by decide) ?_
          exact g_lret C hr (ws' := [oX6 h a ft pn ra rm rP rS rD rQ al rw rc tr, cA G (a 2) 4 kd, cA G (a 3) 12 nu]) hw [0, 1, 2] (by decide) rfl ⟨(congrArg lI (by rw [exT_in hp]; unfold exF; (repeat' split) <;> omega)), rfl⟩ dX6_is_130
      · skip
        refine g_lload C hl 1 rfl dX6_is_82 ?_
        refine g_goto C 130 dX6_is_84 (by decide) ?_
        exact g_lret C hr (ws' := [oX6 h a ft pn ra rm rP rS rD rQ al rw rc tr, cA G (a 2) 4 kd, cA G (a 3) 12 nu]) hw [0, 1, 2] (by decide) rfl ⟨(congrArg lI (by rw [exT_in hp]; unfold exF; (repeat' split) <;> omega)), rfl⟩ dX6_is_130
    · skip
      refine g_iconst C dX6_is_70 ?_
      refine g_goto C 75 dX6_is_71 (by decide) ?_
      refine g_istore C [(9, .int (iI 1)), (7, .long (lI (nu ((3 * pp) + 2)))), (5, .long (lI (-(nu ((3 * pp) + 1))))), (3, .long (lI (nu (3 * pp)))), (0, .ref h), (1, .int (iI pp)), (2, .int (iI kk))] dX6_is_75 hl (by decide) rfl ?_
      clear hl
      intro ls hl
      refine g_iload_n C hl 6 rfl rfl dX6_is_77 ?_
      refine g_iconst C dX6_is_78 ?_
      refine g_icmp_ne C 87 dX6_is_79 (by decide) (by omega) (by omega) (fun c_7 => ?_) (fun c_7 => ?_)
      · skip
        refine g_iload_n C hl 6 rfl rfl dX6_is_87 ?_
        refine g_iconst C dX6_is_88 ?_
        refine g_icmp_ne C 114 dX6_is_89 (by decide) (by omega) (by omega) (fun c_8 => ?_) (fun c_8 => ?_)
        · skip
          refine g_iload C hl 0 rfl dX6_is_114 ?_
          refine g_if_eq C 129 dX6_is_116 (by decide) (by decide) (fun c_9 => absurd c_9 (by decide)) (fun c_9 => ?_)
          refine g_lload_n C hl 3 rfl rfl dX6_is_119 ?_
          refine g_lload C hl 2 rfl dX6_is_120 ?_
          refine g_ladd C dX6_is_122 ?_
          refine g_lload C hl 1 rfl dX6_is_123 ?_
          refine g_ladd C dX6_is_125 ?_
          refine g_goto C 130 dX6_is_126 (by decide) ?_
          exact g_lret C hr (ws' := [oX6 h a ft pn ra rm rP rS rD rQ al rw rc tr, cA G (a 2) 4 kd, cA G (a 3) 12 nu]) hw [0, 1, 2] (by decide) rfl ⟨(congrArg lI (by rw [exT_in hp]; unfold exF; (repeat' split) <;> omega)), rfl⟩ dX6_is_130
        · skip
          refine g_iload C hl 0 rfl dX6_is_92 ?_
          refine g_if_eq C 109 dX6_is_94 (by decide) (by decide) (fun c_10 => absurd c_10 (by decide)) (fun c_10 => ?_)
          refine g_lload C hl 2 rfl dX6_is_97 ?_
          refine g_ldc2 C (2) cn_X6_is_117 (by decide +kernel) dX6_is_99 ?_
          refine g_lload C hl 1 rfl dX6_is_102 ?_
          refine g_lmul C dX6_is_104 ?_
          refine g_ladd C dX6_is_105 ?_
          refine g_goto C 130 dX6_is_106 (by decide) ?_
          exact g_lret C hr (ws' := [oX6 h a ft pn ra rm rP rS rD rQ al rw rc tr, cA G (a 2) 4 kd, cA G (a 3) 12 nu]) hw [0, 1, 2] (by decide) rfl ⟨(congrArg lI (by rw [exT_in hp]; unfold exF; (repeat' split) <;> omega)), rfl⟩ dX6_is_130
      · skip
        refine g_lload C hl 1 rfl dX6_is_82 ?_
        refine g_goto C 130 dX6_is_84 (by decide) ?_
        exact g_lret C hr (ws' := [oX6 h a ft pn ra rm rP rS rD rQ al rw rc tr, cA G (a 2) 4 kd, cA G (a 3) 12 nu]) hw [0, 1, 2] (by decide) rfl ⟨(congrArg lI (by rw [exT_in hp]; unfold exF; (repeat' split) <;> omega)), rfl⟩ dX6_is_130
  · skip
    refine g_aload_n C hl 1 rfl rfl dX6_is_19 ?_
    refine g_get C hw hin_X6_is_X6 0 rfl rfl 3 (by decide) lk_X6_is_13 rfl dX6_is_20 ?_
    refine g_iconst C dX6_is_23 ?_
    refine g_iload_n C hl 2 rfl rfl dX6_is_24 ?_
    refine g_imul C dX6_is_25 ?_
    refine g_iconst C dX6_is_26 ?_
    refine g_iadd C dX6_is_27 ?_
    refine g_iald C hw 2 rfl (by omega) (Nat.le_of_ble_eq_true rfl) dX6_is_28 ?_
    refine g_i2l C dX6_is_29 (by omega) ?_
    refine g_goto C 45 dX6_is_30 (by decide) ?_
    refine g_lstore C [(5, .long (lI (nu ((3 * pp) + 1)))), (3, .long (lI (nu (3 * pp)))), (0, .ref h), (1, .int (iI pp)), (2, .int (iI kk))] dX6_is_45 hl (by decide) rfl ?_
    clear hl
    intro ls hl
    refine g_aload_n C hl 2 rfl rfl dX6_is_47 ?_
    refine g_get C hw hin_X6_is_X6 0 rfl rfl 3 (by decide) lk_X6_is_13 rfl dX6_is_48 ?_
    refine g_iconst C dX6_is_51 ?_
    refine g_iload_n C hl 3 rfl rfl dX6_is_52 ?_
    refine g_imul C dX6_is_53 ?_
    refine g_iconst C dX6_is_54 ?_
    refine g_iadd C dX6_is_55 ?_
    refine g_iald C hw 2 rfl (by omega) (Nat.le_of_ble_eq_true rfl) dX6_is_56 ?_
    refine g_i2l C dX6_is_57 (by omega) ?_
    refine g_lstore C [(7, .long (lI (nu ((3 * pp) + 2)))), (5, .long (lI (nu ((3 * pp) + 1)))), (3, .long (lI (nu (3 * pp)))), (0, .ref h), (1, .int (iI pp)), (2, .int (iI kk))] dX6_is_58 hl (by decide) rfl ?_
    clear hl
    intro ls hl
    refine g_aload_n C hl 3 rfl rfl dX6_is_60 ?_
    refine g_get C hw hin_X6_is_X6 0 rfl rfl 2 (by decide) lk_X6_is_7 rfl dX6_is_61 ?_
    refine g_iload_n C hl 4 rfl rfl dX6_is_64 ?_
    refine g_iald C hw 1 rfl (by omega) (Nat.le_of_ble_eq_true rfl) dX6_is_65 ?_
    refine g_iconst C dX6_is_66 ?_
    refine g_icmp_ne C 74 dX6_is_67 (by decide) (by omega) (by omega) (fun c_11 => ?_) (fun c_11 => ?_)
    · skip
      refine g_iconst C dX6_is_74 ?_
      refine g_istore C [(9, .int (iI 0)), (7, .long (lI (nu ((3 * pp) + 2)))), (5, .long (lI (nu ((3 * pp) + 1)))), (3, .long (lI (nu (3 * pp)))), (0, .ref h), (1, .int (iI pp)), (2, .int (iI kk))] dX6_is_75 hl (by decide) rfl ?_
      clear hl
      intro ls hl
      refine g_iload_n C hl 6 rfl rfl dX6_is_77 ?_
      refine g_iconst C dX6_is_78 ?_
      refine g_icmp_ne C 87 dX6_is_79 (by decide) (by omega) (by omega) (fun c_12 => ?_) (fun c_12 => ?_)
      · skip
        refine g_iload_n C hl 6 rfl rfl dX6_is_87 ?_
        refine g_iconst C dX6_is_88 ?_
        refine g_icmp_ne C 114 dX6_is_89 (by decide) (by omega) (by omega) (fun c_13 => ?_) (fun c_13 => ?_)
        · skip
          refine g_iload C hl 0 rfl dX6_is_114 ?_
          refine g_if_eq C 129 dX6_is_116 (by decide) (by decide) (fun c_14 => ?_) (fun c_14 => absurd c_14 (by decide))
          refine g_lload_n C hl 3 rfl rfl dX6_is_129 ?_
          exact g_lret C hr (ws' := [oX6 h a ft pn ra rm rP rS rD rQ al rw rc tr, cA G (a 2) 4 kd, cA G (a 3) 12 nu]) hw [0, 1, 2] (by decide) rfl ⟨(congrArg lI (by rw [exT_in hp]; unfold exF; (repeat' split) <;> omega)), rfl⟩ dX6_is_130
        · skip
          refine g_iload C hl 0 rfl dX6_is_92 ?_
          refine g_if_eq C 109 dX6_is_94 (by decide) (by decide) (fun c_15 => ?_) (fun c_15 => absurd c_15 (by decide))
          refine g_lload C hl 2 rfl dX6_is_109 ?_
          refine g_goto C 130 dX6_is_111 (by decide) ?_
          exact g_lret C hr (ws' := [oX6 h a ft pn ra rm rP rS rD rQ al rw rc tr, cA G (a 2) 4 kd, cA G (a 3) 12 nu]) hw [0, 1, 2] (by decide) rfl ⟨(congrArg lI (by rw [exT_in hp]; unfold exF; (repeat' split) <;> omega)), rfl⟩ dX6_is_130
      · skip
        refine g_lload C hl 1 rfl dX6_is_82 ?_
        refine g_goto C 130 dX6_is_84 (by decide) ?_
        exact g_lret C hr (ws' := [oX6 h a ft pn ra rm rP rS rD rQ al rw rc tr, cA G (a 2) 4 kd, cA G (a 3) 12 nu]) hw [0, 1, 2] (by decide) rfl ⟨(congrArg lI (by rw [exT_in hp]; unfold exF; (repeat' split) <;> omega)), rfl⟩ dX6_is_130
    · skip
      refine g_iconst C dX6_is_70 ?_
      refine g_goto C 75 dX6_is_71 (by decide) ?_
      refine g_istore C [(9, .int (iI 1)), (7, .long (lI (nu ((3 * pp) + 2)))), (5, .long (lI (nu ((3 * pp) + 1)))), (3, .long (lI (nu (3 * pp)))), (0, .ref h), (1, .int (iI pp)), (2, .int (iI kk))] dX6_is_75 hl (by decide) rfl ?_
      clear hl
      intro ls hl
      refine g_iload_n C hl 6 rfl rfl dX6_is_77 ?_
      refine g_iconst C dX6_is_78 ?_
      refine g_icmp_ne C 87 dX6_is_79 (by decide) (by omega) (by omega) (fun c_16 => ?_) (fun c_16 => ?_)
      · skip
        refine g_iload_n C hl 6 rfl rfl dX6_is_87 ?_
        refine g_iconst C dX6_is_88 ?_
        refine g_icmp_ne C 114 dX6_is_89 (by decide) (by omega) (by omega) (fun c_17 => ?_) (fun c_17 => ?_)
        · skip
          refine g_iload C hl 0 rfl dX6_is_114 ?_
          refine g_if_eq C 129 dX6_is_116 (by decide) (by decide) (fun c_18 => absurd c_18 (by decide)) (fun c_18 => ?_)
          refine g_lload_n C hl 3 rfl rfl dX6_is_119 ?_
          refine g_lload C hl 2 rfl dX6_is_120 ?_
          refine g_ladd C dX6_is_122 ?_
          refine g_lload C hl 1 rfl dX6_is_123 ?_
          refine g_ladd C dX6_is_125 ?_
          refine g_goto C 130 dX6_is_126 (by decide) ?_
          exact g_lret C hr (ws' := [oX6 h a ft pn ra rm rP rS rD rQ al rw rc tr, cA G (a 2) 4 kd, cA G (a 3) 12 nu]) hw [0, 1, 2] (by decide) rfl ⟨(congrArg lI (by rw [exT_in hp]; unfold exF; (repeat' split) <;> omega)), rfl⟩ dX6_is_130
        · skip
          refine g_iload C hl 0 rfl dX6_is_92 ?_
          refine g_if_eq C 109 dX6_is_94 (by decide) (by decide) (fun c_19 => absurd c_19 (by decide)) (fun c_19 => ?_)
          refine g_lload C hl 2 rfl dX6_is_97 ?_
          refine g_ldc2 C (2) cn_X6_is_117 (by decide +kernel) dX6_is_99 ?_
          refine g_lload C hl 1 rfl dX6_is_102 ?_
          refine g_lmul C dX6_is_104 ?_
          refine g_ladd C dX6_is_105 ?_
          refine g_goto C 130 dX6_is_106 (by decide) ?_
          exact g_lret C hr (ws' := [oX6 h a ft pn ra rm rP rS rD rQ al rw rc tr, cA G (a 2) 4 kd, cA G (a 3) 12 nu]) hw [0, 1, 2] (by decide) rfl ⟨(congrArg lI (by rw [exT_in hp]; unfold exF; (repeat' split) <;> omega)), rfl⟩ dX6_is_130
      · skip
        refine g_lload C hl 1 rfl dX6_is_82 ?_
        refine g_goto C 130 dX6_is_84 (by decide) ?_
        exact g_lret C hr (ws' := [oX6 h a ft pn ra rm rP rS rD rQ al rw rc tr, cA G (a 2) 4 kd, cA G (a 3) 12 nu]) hw [0, 1, 2] (by decide) rfl ⟨(congrArg lI (by rw [exT_in hp]; unfold exF; (repeat' split) <;> omega)), rfl⟩ dX6_is_130

set_option maxRecDepth 20000 in
theorem cn_X6_discriminant_137 : Jvm.Cond.constantLong RX6 137 (4) ∈ wsX6_discriminant := List.mem_cons_of_mem _ (List.mem_append_left _ (List.mem_of_getElem? (i := 0) rfl))
set_option maxRecDepth 100000 in
set_option maxHeartbeats 8000000 in
theorem m_X6_discriminant (l : Launch) (D : va_G) (G : gT) (h : Nat) (a : Nat → Nat) (ft : Int) (pn : Int) (ra : Int) (rm : Int) (rP : Int) (rS : Int) (rD : Int) (rQ : Int) (al : Int) (rw : Int) (rc : Int) (tr : Int) (kd : Int → Int) (nu : Int → Int) (pp : Int) (hkd : kdOK kd) (hnu : nuOK nu) (hn : 0 ≤ pn ∧ pn ≤ 4) (hp : 0 ≤ pp ∧ pp < pn) : gMl l yX6_discriminant wsX6_discriminant ({ frames := 1, cells := 0, slots := 0, locals := 29 }) D G [.ref h, .int (iI pp)] [oX6 h a ft pn ra rm rP rS rD rQ al rw rc tr, cA G (a 2) 4 kd, cA G (a 3) 12 nu] 0 0 (fun (r : Int64) (w : va_W) => r = (lI (dsc (exT pn kd nu) pp)) ∧ w = [oX6 h a ft pn ra rm rP rS rD rQ al rw rc tr, cA G (a 2) 4 kd, cA G (a 3) 12 nu]) := by
  refine g_start_l (cc := cX6_discriminant) (nL := 2) (own := RX6) (ret := some .long) (by decide +kernel) rfl rfl (Nat.le_of_ble_eq_true rfl) ?_
  intro p e s m below meth c A ls C hr hnm hw hl
  have hl : lv_has ls 2 [(0, .ref h), (1, .int (iI pp))] := hl
  refine g_aload_n C hl 0 rfl rfl dX6_discriminant_0 ?_
  refine g_iload_n C hl 1 rfl rfl dX6_discriminant_1 ?_
  refine g_iconst C dX6_discriminant_2 ?_
  refine g_callVl C hw (wr := []) (As := [.int (iI pp), .int (iI 1)]) (rest := []) (m_X6_is l D G (h := h) (a := a) (ft := ft) (pn := pn) (ra := ra) (rm := rm) (rP := rP) (rS := rS) (rD := rD) (rQ := rQ) (al := al) (rw := rw) (rc := rc) (tr := tr) (kd := kd) (nu := nu) (pp := pp) (kk := 1) (by first | assumption | omega) (by first | assumption | omega) (by first | assumption | omega) (by first | assumption | omega) (by first | assumption | omega)) (cwV 2 C.1.2.2.2.2 gX6_discriminant_X6_is rfl rfl rfl (by decide +kernel) ⟨Nat.le_of_ble_eq_true rfl, Nat.le_of_ble_eq_true rfl⟩) [0, 1, 2] [] rfl rfl (by decide) (by decide) (by decide) 0 rfl rfl rfl hl.1 _ rfl (Nat.le_of_ble_eq_true rfl) dX6_discriminant_3 ⟨Nat.le_of_ble_eq_true rfl, Nat.le_of_ble_eq_true rfl⟩ ?_
  clear hw
  rintro _ _ H locs ⟨rfl, rfl⟩ hw
  have hw : gW D A s.heap [oX6 h a ft pn ra rm rP rS rD rQ al rw rc tr, cA G (a 2) 4 kd, cA G (a 3) 12 nu] H locs := hw
  refine g_aload_n C hl 0 rfl rfl dX6_discriminant_6 ?_
  refine g_iload_n C hl 1 rfl rfl dX6_discriminant_7 ?_
  refine g_iconst C dX6_discriminant_8 ?_
  refine g_callVl C hw (wr := []) (As := [.int (iI pp), .int (iI 1)]) (rest := [.long (lI ((exT pn kd nu pp 1)))]) (m_X6_is l D G (h := h) (a := a) (ft := ft) (pn := pn) (ra := ra) (rm := rm) (rP := rP) (rS := rS) (rD := rD) (rQ := rQ) (al := al) (rw := rw) (rc := rc) (tr := tr) (kd := kd) (nu := nu) (pp := pp) (kk := 1) (by first | assumption | omega) (by first | assumption | omega) (by first | assumption | omega) (by first | assumption | omega) (by first | assumption | omega)) (cwV 2 C.1.2.2.2.2 gX6_discriminant_X6_is rfl rfl rfl (by decide +kernel) ⟨Nat.le_of_ble_eq_true rfl, Nat.le_of_ble_eq_true rfl⟩) [0, 1, 2] [] rfl rfl (by decide) (by decide) (by decide) 0 rfl rfl rfl hl.1 _ rfl (Nat.le_of_ble_eq_true rfl) dX6_discriminant_9 ⟨Nat.le_of_ble_eq_true rfl, Nat.le_of_ble_eq_true rfl⟩ ?_
  clear hw
  rintro _ _ H locs ⟨rfl, rfl⟩ hw
  have hw : gW D A s.heap [oX6 h a ft pn ra rm rP rS rD rQ al rw rc tr, cA G (a 2) 4 kd, cA G (a 3) 12 nu] H locs := hw
  refine g_lmul C dX6_discriminant_12 ?_
  refine g_ldc2 C (4) cn_X6_discriminant_137 (by decide +kernel) dX6_discriminant_13 ?_
  refine g_aload_n C hl 0 rfl rfl dX6_discriminant_16 ?_
  refine g_iload_n C hl 1 rfl rfl dX6_discriminant_17 ?_
  refine g_iconst C dX6_discriminant_18 ?_
  refine g_callVl C hw (wr := []) (As := [.int (iI pp), .int (iI 2)]) (rest := [.long (lI (4)), .long (lI ((exT pn kd nu pp 1) * (exT pn kd nu pp 1)))]) (m_X6_is l D G (h := h) (a := a) (ft := ft) (pn := pn) (ra := ra) (rm := rm) (rP := rP) (rS := rS) (rD := rD) (rQ := rQ) (al := al) (rw := rw) (rc := rc) (tr := tr) (kd := kd) (nu := nu) (pp := pp) (kk := 2) (by first | assumption | omega) (by first | assumption | omega) (by first | assumption | omega) (by first | assumption | omega) (by first | assumption | omega)) (cwV 2 C.1.2.2.2.2 gX6_discriminant_X6_is rfl rfl rfl (by decide +kernel) ⟨Nat.le_of_ble_eq_true rfl, Nat.le_of_ble_eq_true rfl⟩) [0, 1, 2] [] rfl rfl (by decide) (by decide) (by decide) 0 rfl rfl rfl hl.1 _ rfl (Nat.le_of_ble_eq_true rfl) dX6_discriminant_19 ⟨Nat.le_of_ble_eq_true rfl, Nat.le_of_ble_eq_true rfl⟩ ?_
  clear hw
  rintro _ _ H locs ⟨rfl, rfl⟩ hw
  have hw : gW D A s.heap [oX6 h a ft pn ra rm rP rS rD rQ al rw rc tr, cA G (a 2) 4 kd, cA G (a 3) 12 nu] H locs := hw
  refine g_lmul C dX6_discriminant_22 ?_
  refine g_aload_n C hl 0 rfl rfl dX6_discriminant_23 ?_
  refine g_iload_n C hl 1 rfl rfl dX6_discriminant_24 ?_
  refine g_iconst C dX6_discriminant_25 ?_
  refine g_callVl C hw (wr := []) (As := [.int (iI pp), .int (iI 0)]) (rest := [.long (lI (4 * (exT pn kd nu pp 2))), .long (lI ((exT pn kd nu pp 1) * (exT pn kd nu pp 1)))]) (m_X6_is l D G (h := h) (a := a) (ft := ft) (pn := pn) (ra := ra) (rm := rm) (rP := rP) (rS := rS) (rD := rD) (rQ := rQ) (al := al) (rw := rw) (rc := rc) (tr := tr) (kd := kd) (nu := nu) (pp := pp) (kk := 0) (by first | assumption | omega) (by first | assumption | omega) (by first | assumption | omega) (by first | assumption | omega) (by first | assumption | omega)) (cwV 2 C.1.2.2.2.2 gX6_discriminant_X6_is rfl rfl rfl (by decide +kernel) ⟨Nat.le_of_ble_eq_true rfl, Nat.le_of_ble_eq_true rfl⟩) [0, 1, 2] [] rfl rfl (by decide) (by decide) (by decide) 0 rfl rfl rfl hl.1 _ rfl (Nat.le_of_ble_eq_true rfl) dX6_discriminant_26 ⟨Nat.le_of_ble_eq_true rfl, Nat.le_of_ble_eq_true rfl⟩ ?_
  clear hw
  rintro _ _ H locs ⟨rfl, rfl⟩ hw
  have hw : gW D A s.heap [oX6 h a ft pn ra rm rP rS rD rQ al rw rc tr, cA G (a 2) 4 kd, cA G (a 3) 12 nu] H locs := hw
  refine g_lmul C dX6_discriminant_29 ?_
  refine g_lsub C dX6_discriminant_30 ?_
  exact g_lret C hr (ws' := [oX6 h a ft pn ra rm rP rS rD rQ al rw rc tr, cA G (a 2) 4 kd, cA G (a 3) 12 nu]) hw [0, 1, 2] (by decide) rfl ⟨(congrArg lI (by first | rfl | omega | (simp only [bI]; (repeat' split) <;> omega) | (simp_all [bI]; done) | (simp_all [bI]; omega))), rfl⟩ dX6_discriminant_31

set_option maxRecDepth 100000 in
set_option maxHeartbeats 8000000 in
theorem m_X6_rootsOf (l : Launch) (D : va_G) (G : gT) (h : Nat) (a : Nat → Nat) (ft : Int) (pn : Int) (ra : Int) (rm : Int) (rP : Int) (rS : Int) (rD : Int) (rQ : Int) (al : Int) (rw : Int) (rc : Int) (tr : Int) (kd : Int → Int) (nu : Int → Int) (pp : Int) (hkd : kdOK kd) (hnu : nuOK nu) (hn : 0 ≤ pn ∧ pn ≤ 4) (hp : 0 ≤ pp ∧ pp < pn) : gMi l yX6_rootsOf wsX6_rootsOf ({ frames := 2, cells := 0, slots := 0, locals := 50 }) D G [.ref h, .int (iI pp)] [oX6 h a ft pn ra rm rP rS rD rQ al rw rc tr, cA G (a 2) 4 kd, cA G (a 3) 12 nu] 0 0 (fun (r : Int32) (w : va_W) => r = (iI (nR (exT pn kd nu) pp)) ∧ w = [oX6 h a ft pn ra rm rP rS rD rQ al rw rc tr, cA G (a 2) 4 kd, cA G (a 3) 12 nu]) := by
  refine g_start_i (cc := cX6_rootsOf) (nL := 4) (own := RX6) (ret := some .int) (by decide +kernel) rfl rfl (Nat.le_of_ble_eq_true rfl) ?_
  intro p e s m below meth c A ls C hr hnm hw hl
  have hl : lv_has ls 4 [(0, .ref h), (1, .int (iI pp))] := hl
  have hE := exT_B pn kd hnu
  obtain ⟨e0, e1, e2⟩ := hE pp
  have hdb := dsc_b hE pp
  refine g_aload_n C hl 0 rfl rfl dX6_rootsOf_0 ?_
  refine g_iload_n C hl 1 rfl rfl dX6_rootsOf_1 ?_
  refine g_iconst C dX6_rootsOf_2 ?_
  refine g_callVl C hw (wr := []) (As := [.int (iI pp), .int (iI 2)]) (rest := []) (m_X6_is l D G (h := h) (a := a) (ft := ft) (pn := pn) (ra := ra) (rm := rm) (rP := rP) (rS := rS) (rD := rD) (rQ := rQ) (al := al) (rw := rw) (rc := rc) (tr := tr) (kd := kd) (nu := nu) (pp := pp) (kk := 2) (by first | assumption | omega) (by first | assumption | omega) (by first | assumption | omega) (by first | assumption | omega) (by first | assumption | omega)) (cwV 2 C.1.2.2.2.2 gX6_rootsOf_X6_is rfl rfl rfl (by decide +kernel) ⟨Nat.le_of_ble_eq_true rfl, Nat.le_of_ble_eq_true rfl⟩) [0, 1, 2] [] rfl rfl (by decide) (by decide) (by decide) 0 rfl rfl rfl hl.1 _ rfl (Nat.le_of_ble_eq_true rfl) dX6_rootsOf_3 ⟨Nat.le_of_ble_eq_true rfl, Nat.le_of_ble_eq_true rfl⟩ ?_
  clear hw
  rintro _ _ H locs ⟨rfl, rfl⟩ hw
  have hw : gW D A s.heap [oX6 h a ft pn ra rm rP rS rD rQ al rw rc tr, cA G (a 2) 4 kd, cA G (a 3) 12 nu] H locs := hw
  refine g_lconst0 C dX6_rootsOf_6 ?_
  refine g_lcmp_eq C 39 dX6_rootsOf_7 dX6_rootsOf_8 (by decide) (by omega) (by omega) (fun c_1 => ?_) (fun c_1 => ?_)
  · skip
    refine g_aload_n C hl 0 rfl rfl dX6_rootsOf_39 ?_
    refine g_iload_n C hl 1 rfl rfl dX6_rootsOf_40 ?_
    refine g_iconst C dX6_rootsOf_41 ?_
    refine g_callVl C hw (wr := []) (As := [.int (iI pp), .int (iI 1)]) (rest := []) (m_X6_is l D G (h := h) (a := a) (ft := ft) (pn := pn) (ra := ra) (rm := rm) (rP := rP) (rS := rS) (rD := rD) (rQ := rQ) (al := al) (rw := rw) (rc := rc) (tr := tr) (kd := kd) (nu := nu) (pp := pp) (kk := 1) (by first | assumption | omega) (by first | assumption | omega) (by first | assumption | omega) (by first | assumption | omega) (by first | assumption | omega)) (cwV 2 C.1.2.2.2.2 gX6_rootsOf_X6_is rfl rfl rfl (by decide +kernel) ⟨Nat.le_of_ble_eq_true rfl, Nat.le_of_ble_eq_true rfl⟩) [0, 1, 2] [] rfl rfl (by decide) (by decide) (by decide) 0 rfl rfl rfl hl.1 _ rfl (Nat.le_of_ble_eq_true rfl) dX6_rootsOf_42 ⟨Nat.le_of_ble_eq_true rfl, Nat.le_of_ble_eq_true rfl⟩ ?_
    clear hw
    rintro _ _ H locs ⟨rfl, rfl⟩ hw
    have hw : gW D A s.heap [oX6 h a ft pn ra rm rP rS rD rQ al rw rc tr, cA G (a 2) 4 kd, cA G (a 3) 12 nu] H locs := hw
    refine g_lconst0 C dX6_rootsOf_45 ?_
    refine g_lcmp_eq C 54 dX6_rootsOf_46 dX6_rootsOf_47 (by decide) (by omega) (by omega) (fun c_2 => ?_) (fun c_2 => ?_)
    · skip
      refine g_iconst C dX6_rootsOf_54 ?_
      exact g_iret C hr (ws' := [oX6 h a ft pn ra rm rP rS rD rQ al rw rc tr, cA G (a 2) 4 kd, cA G (a 3) 12 nu]) hw [0, 1, 2] (by decide) rfl ⟨(congrArg iI (by unfold nR; (repeat' split) <;> omega)), rfl⟩ dX6_rootsOf_55
    · skip
      refine g_iconst C dX6_rootsOf_50 ?_
      refine g_goto C 55 dX6_rootsOf_51 (by decide) ?_
      exact g_iret C hr (ws' := [oX6 h a ft pn ra rm rP rS rD rQ al rw rc tr, cA G (a 2) 4 kd, cA G (a 3) 12 nu]) hw [0, 1, 2] (by decide) rfl ⟨(congrArg iI (by unfold nR; (repeat' split) <;> omega)), rfl⟩ dX6_rootsOf_55
  · skip
    refine g_aload_n C hl 0 rfl rfl dX6_rootsOf_11 ?_
    refine g_iload_n C hl 1 rfl rfl dX6_rootsOf_12 ?_
    refine g_callVl C hw (wr := []) (As := [.int (iI pp)]) (rest := []) (m_X6_discriminant l D G (h := h) (a := a) (ft := ft) (pn := pn) (ra := ra) (rm := rm) (rP := rP) (rS := rS) (rD := rD) (rQ := rQ) (al := al) (rw := rw) (rc := rc) (tr := tr) (kd := kd) (nu := nu) (pp := pp) (by first | assumption | omega) (by first | assumption | omega) (by first | assumption | omega) (by first | assumption | omega)) (cwV 1 C.1.2.2.2.2 gX6_rootsOf_X6_discriminant rfl rfl rfl (by decide +kernel) ⟨Nat.le_of_ble_eq_true rfl, Nat.le_of_ble_eq_true rfl⟩) [0, 1, 2] [] rfl rfl (by decide) (by decide) (by decide) 0 rfl rfl rfl hl.1 _ rfl (Nat.le_of_ble_eq_true rfl) dX6_rootsOf_13 ⟨Nat.le_of_ble_eq_true rfl, Nat.le_of_ble_eq_true rfl⟩ ?_
    clear hw
    rintro _ _ H locs ⟨rfl, rfl⟩ hw
    have hw : gW D A s.heap [oX6 h a ft pn ra rm rP rS rD rQ al rw rc tr, cA G (a 2) 4 kd, cA G (a 3) 12 nu] H locs := hw
    refine g_lstore_n C [(2, .long (lI ((dsc (exT pn kd nu) pp)))), (0, .ref h), (1, .int (iI pp))] dX6_rootsOf_16 rfl hl (by decide) rfl ?_
    clear hl
    intro ls hl
    refine g_lload_n C hl 0 rfl rfl dX6_rootsOf_17 ?_
    refine g_lconst0 C dX6_rootsOf_18 ?_
    refine g_lcmp_le C 27 dX6_rootsOf_19 dX6_rootsOf_20 (by decide) (by omega) (by omega) (fun c_3 => ?_) (fun c_3 => ?_)
    · skip
      refine g_lload_n C hl 0 rfl rfl dX6_rootsOf_27 ?_
      refine g_lconst0 C dX6_rootsOf_28 ?_
      refine g_lcmp_ne C 37 dX6_rootsOf_29 dX6_rootsOf_30 (by decide) (by omega) (by omega) (fun c_4 => ?_) (fun c_4 => ?_)
      · skip
        refine g_iconst C dX6_rootsOf_37 ?_
        exact g_iret C hr (ws' := [oX6 h a ft pn ra rm rP rS rD rQ al rw rc tr, cA G (a 2) 4 kd, cA G (a 3) 12 nu]) hw [0, 1, 2] (by decide) rfl ⟨(congrArg iI (by unfold nR; (repeat' split) <;> omega)), rfl⟩ dX6_rootsOf_38
      · skip
        refine g_iconst C dX6_rootsOf_33 ?_
        refine g_goto C 38 dX6_rootsOf_34 (by decide) ?_
        exact g_iret C hr (ws' := [oX6 h a ft pn ra rm rP rS rD rQ al rw rc tr, cA G (a 2) 4 kd, cA G (a 3) 12 nu]) hw [0, 1, 2] (by decide) rfl ⟨(congrArg iI (by unfold nR; (repeat' split) <;> omega)), rfl⟩ dX6_rootsOf_38
    · skip
      refine g_iconst C dX6_rootsOf_23 ?_
      refine g_goto C 38 dX6_rootsOf_24 (by decide) ?_
      exact g_iret C hr (ws' := [oX6 h a ft pn ra rm rP rS rD rQ al rw rc tr, cA G (a 2) 4 kd, cA G (a 3) 12 nu]) hw [0, 1, 2] (by decide) rfl ⟨(congrArg iI (by unfold nR; (repeat' split) <;> omega)), rfl⟩ dX6_rootsOf_38

set_option maxRecDepth 20000 in
theorem hin_X6_takesRoot_X6 : ∀ w ∈ u_ws RX6 TX6 30, w ∈ wsX6_takesRoot := by
  intro w h
  exact List.mem_cons_of_mem _ (List.mem_append_right _ (h))
set_option maxRecDepth 20000 in
theorem lk_X6_takesRoot_143 : Cond.fieldLink RX6 143 (TX6 8).1 (TX6 8).2.1 (TX6 8).2.2.1 ∈ wsX6_takesRoot := List.mem_cons_of_mem _ (List.mem_append_left _ (List.mem_of_getElem? (i := 0) rfl))
set_option maxRecDepth 20000 in
theorem cn_X6_takesRoot_156 : Jvm.Cond.constantLong RX6 156 (-2) ∈ wsX6_takesRoot := List.mem_cons_of_mem _ (List.mem_append_left _ (List.mem_of_getElem? (i := 5) rfl))
set_option maxRecDepth 20000 in
theorem lk_X6_takesRoot_147 : Cond.fieldLink RX6 147 (TX6 11).1 (TX6 11).2.1 (TX6 11).2.2.1 ∈ wsX6_takesRoot := List.mem_cons_of_mem _ (List.mem_append_left _ (List.mem_of_getElem? (i := 1) rfl))
set_option maxRecDepth 20000 in
theorem lk_X6_takesRoot_153 : Cond.fieldLink RX6 153 (TX6 10).1 (TX6 10).2.1 (TX6 10).2.2.1 ∈ wsX6_takesRoot := List.mem_cons_of_mem _ (List.mem_append_left _ (List.mem_of_getElem? (i := 3) rfl))
set_option maxRecDepth 20000 in
theorem lk_X6_takesRoot_150 : Cond.fieldLink RX6 150 (TX6 9).1 (TX6 9).2.1 (TX6 9).2.2.1 ∈ wsX6_takesRoot := List.mem_cons_of_mem _ (List.mem_append_left _ (List.mem_of_getElem? (i := 2) rfl))
set_option maxRecDepth 20000 in
theorem cn_X6_takesRoot_158 : Jvm.Cond.constantLong RX6 158 (-1) ∈ wsX6_takesRoot := List.mem_cons_of_mem _ (List.mem_append_left _ (List.mem_of_getElem? (i := 6) rfl))
set_option maxRecDepth 20000 in
theorem cn_X6_takesRoot_117 : Jvm.Cond.constantLong RX6 117 (2) ∈ wsX6_takesRoot := List.mem_cons_of_mem _ (List.mem_append_left _ (List.mem_of_getElem? (i := 4) rfl))
set_option maxRecDepth 100000 in
set_option maxHeartbeats 8000000 in
theorem m_X6_takesRoot (l : Launch) (D : va_G) (G : gT) (h : Nat) (a : Nat → Nat) (ft : Int) (pn : Int) (ra : Int) (rm : Int) (rP : Int) (rS : Int) (rD : Int) (rQ : Int) (al : Int) (rw : Int) (rc : Int) (tr : Int) (kd : Int → Int) (nu : Int → Int) (pp : Int) (ii : Int) (hkd : kdOK kd) (hnu : nuOK nu) (hn : 0 ≤ pn ∧ pn ≤ 4) (hp : 0 ≤ pp ∧ pp < pn) (hi : 0 ≤ ii ∧ ii ≤ 2) : gMv l yX6_takesRoot wsX6_takesRoot ({ frames := 2, cells := 0, slots := 0, locals := 50 }) D G [.ref h, .int (iI pp), .int (iI ii)] [oX6 h a ft pn ra rm rP rS rD rQ al rw rc tr, cA G (a 2) 4 kd, cA G (a 3) 12 nu] 0 0 (fun (w : va_W) => w = [oX6 h a ft pn ra rm (zP (exT pn kd nu) pp) (zS (exT pn kd nu) pp ii) (zD (exT pn kd nu) pp) (zQ (exT pn kd nu) pp) al rw rc tr, cA G (a 2) 4 kd, cA G (a 3) 12 nu]) := by
  refine g_start_v (cc := cX6_takesRoot) (nL := 4) (own := RX6) (ret := none) (by decide +kernel) rfl rfl (Nat.le_of_ble_eq_true rfl) ?_
  intro p e s m below meth c A ls C hr hnm hw hl
  have hl : lv_has ls 4 [(0, .ref h), (1, .int (iI pp)), (2, .int (iI ii))] := hl
  have hE := exT_B pn kd hnu
  obtain ⟨e0, e1, e2⟩ := hE pp
  have hdb := dsc_b hE pp
  refine g_aload_n C hl 0 rfl rfl dX6_takesRoot_0 ?_
  refine g_iload_n C hl 1 rfl rfl dX6_takesRoot_1 ?_
  refine g_iconst C dX6_takesRoot_2 ?_
  refine g_callVl C hw (wr := []) (As := [.int (iI pp), .int (iI 2)]) (rest := []) (m_X6_is l D G (h := h) (a := a) (ft := ft) (pn := pn) (ra := ra) (rm := rm) (rP := rP) (rS := rS) (rD := rD) (rQ := rQ) (al := al) (rw := rw) (rc := rc) (tr := tr) (kd := kd) (nu := nu) (pp := pp) (kk := 2) (by first | assumption | omega) (by first | assumption | omega) (by first | assumption | omega) (by first | assumption | omega) (by first | assumption | omega)) (cwV 2 C.1.2.2.2.2 gX6_takesRoot_X6_is rfl rfl rfl (by decide +kernel) ⟨Nat.le_of_ble_eq_true rfl, Nat.le_of_ble_eq_true rfl⟩) [0, 1, 2] [] rfl rfl (by decide) (by decide) (by decide) 0 rfl rfl rfl hl.1 _ rfl (Nat.le_of_ble_eq_true rfl) dX6_takesRoot_3 ⟨Nat.le_of_ble_eq_true rfl, Nat.le_of_ble_eq_true rfl⟩ ?_
  clear hw
  rintro _ _ H locs ⟨rfl, rfl⟩ hw
  have hw : gW D A s.heap [oX6 h a ft pn ra rm rP rS rD rQ al rw rc tr, cA G (a 2) 4 kd, cA G (a 3) 12 nu] H locs := hw
  refine g_lconst0 C dX6_takesRoot_6 ?_
  refine g_lcmp_ne C 89 dX6_takesRoot_7 dX6_takesRoot_8 (by decide) (by omega) (by omega) (fun c_1 => ?_) (fun c_1 => ?_)
  · skip
    refine g_aload_n C hl 0 rfl rfl dX6_takesRoot_89 ?_
    refine g_iload_n C hl 1 rfl rfl dX6_takesRoot_90 ?_
    refine g_iconst C dX6_takesRoot_91 ?_
    refine g_callVl C hw (wr := []) (As := [.int (iI pp), .int (iI 2)]) (rest := []) (m_X6_is l D G (h := h) (a := a) (ft := ft) (pn := pn) (ra := ra) (rm := rm) (rP := rP) (rS := rS) (rD := rD) (rQ := rQ) (al := al) (rw := rw) (rc := rc) (tr := tr) (kd := kd) (nu := nu) (pp := pp) (kk := 2) (by first | assumption | omega) (by first | assumption | omega) (by first | assumption | omega) (by first | assumption | omega) (by first | assumption | omega)) (cwV 2 C.1.2.2.2.2 gX6_takesRoot_X6_is rfl rfl rfl (by decide +kernel) ⟨Nat.le_of_ble_eq_true rfl, Nat.le_of_ble_eq_true rfl⟩) [0, 1, 2] [] rfl rfl (by decide) (by decide) (by decide) 0 rfl rfl rfl hl.1 _ rfl (Nat.le_of_ble_eq_true rfl) dX6_takesRoot_92 ⟨Nat.le_of_ble_eq_true rfl, Nat.le_of_ble_eq_true rfl⟩ ?_
    clear hw
    rintro _ _ H locs ⟨rfl, rfl⟩ hw
    have hw : gW D A s.heap [oX6 h a ft pn ra rm rP rS rD rQ al rw rc tr, cA G (a 2) 4 kd, cA G (a 3) 12 nu] H locs := hw
    refine g_lconst0 C dX6_takesRoot_95 ?_
    refine g_lcmp_le C 104 dX6_takesRoot_96 dX6_takesRoot_97 (by decide) (by omega) (by omega) (fun c_2 => ?_) (fun c_2 => ?_)
    · skip
      refine g_iconst C dX6_takesRoot_104 ?_
      refine g_istore_n C [(3, .int (iI 0)), (0, .ref h), (1, .int (iI pp)), (2, .int (iI ii))] dX6_takesRoot_105 rfl hl (by decide) rfl ?_
      clear hl
      intro ls hl
      refine g_aload_n C hl 1 rfl rfl dX6_takesRoot_106 ?_
      refine g_iload_n C hl 0 rfl rfl dX6_takesRoot_107 ?_
      refine g_if_eq C 121 dX6_takesRoot_108 (by decide) (by decide) (fun c_3 => ?_) (fun c_3 => absurd c_3 (by decide))
      refine g_aload_n C hl 1 rfl rfl dX6_takesRoot_121 ?_
      refine g_iload_n C hl 2 rfl rfl dX6_takesRoot_122 ?_
      refine g_iconst C dX6_takesRoot_123 ?_
      refine g_callVl C hw (wr := []) (As := [.int (iI pp), .int (iI 1)]) (rest := [.ref h]) (m_X6_is l D G (h := h) (a := a) (ft := ft) (pn := pn) (ra := ra) (rm := rm) (rP := rP) (rS := rS) (rD := rD) (rQ := rQ) (al := al) (rw := rw) (rc := rc) (tr := tr) (kd := kd) (nu := nu) (pp := pp) (kk := 1) (by first | assumption | omega) (by first | assumption | omega) (by first | assumption | omega) (by first | assumption | omega) (by first | assumption | omega)) (cwV 2 C.1.2.2.2.2 gX6_takesRoot_X6_is rfl rfl rfl (by decide +kernel) ⟨Nat.le_of_ble_eq_true rfl, Nat.le_of_ble_eq_true rfl⟩) [0, 1, 2] [] rfl rfl (by decide) (by decide) (by decide) 0 rfl rfl rfl hl.1 _ rfl (Nat.le_of_ble_eq_true rfl) dX6_takesRoot_124 ⟨Nat.le_of_ble_eq_true rfl, Nat.le_of_ble_eq_true rfl⟩ ?_
      clear hw
      rintro _ _ H locs ⟨rfl, rfl⟩ hw
      have hw : gW D A s.heap [oX6 h a ft pn ra rm rP rS rD rQ al rw rc tr, cA G (a 2) 4 kd, cA G (a 3) 12 nu] H locs := hw
      refine g_put C hw [oX6 h a ft pn ra rm (exT pn kd nu pp 1) rS rD rQ al rw rc tr, cA G (a 2) 4 kd, cA G (a 3) 12 nu] hin_X6_takesRoot_X6 tyX6 tyX6_ok nmX6 0 rfl rfl 8 (by decide) lk_X6_takesRoot_143 rfl rfl rfl rfl (Nat.le_of_ble_eq_true rfl) rfl dX6_takesRoot_127 ?_
      clear hw
      intro H locs hw
      refine g_aload_n C hl 1 rfl rfl dX6_takesRoot_130 ?_
      refine g_iload_n C hl 0 rfl rfl dX6_takesRoot_131 ?_
      refine g_if_eq C 148 dX6_takesRoot_132 (by decide) (by decide) (fun c_4 => ?_) (fun c_4 => absurd c_4 (by decide))
      refine g_ldc2 C (-2) cn_X6_takesRoot_156 (by decide +kernel) dX6_takesRoot_148 ?_
      refine g_aload_n C hl 1 rfl rfl dX6_takesRoot_151 ?_
      refine g_iload_n C hl 2 rfl rfl dX6_takesRoot_152 ?_
      refine g_iconst C dX6_takesRoot_153 ?_
      refine g_callVl C hw (wr := []) (As := [.int (iI pp), .int (iI 2)]) (rest := [.long (lI ((-2))), .ref h]) (m_X6_is l D G (h := h) (a := a) (ft := ft) (pn := pn) (ra := ra) (rm := rm) (rP := (exT pn kd nu pp 1)) (rS := rS) (rD := rD) (rQ := rQ) (al := al) (rw := rw) (rc := rc) (tr := tr) (kd := kd) (nu := nu) (pp := pp) (kk := 2) (by first | assumption | omega) (by first | assumption | omega) (by first | assumption | omega) (by first | assumption | omega) (by first | assumption | omega)) (cwV 2 C.1.2.2.2.2 gX6_takesRoot_X6_is rfl rfl rfl (by decide +kernel) ⟨Nat.le_of_ble_eq_true rfl, Nat.le_of_ble_eq_true rfl⟩) [0, 1, 2] [] rfl rfl (by decide) (by decide) (by decide) 0 rfl rfl rfl hl.1 _ rfl (Nat.le_of_ble_eq_true rfl) dX6_takesRoot_154 ⟨Nat.le_of_ble_eq_true rfl, Nat.le_of_ble_eq_true rfl⟩ ?_
      clear hw
      rintro _ _ H locs ⟨rfl, rfl⟩ hw
      have hw : gW D A s.heap [oX6 h a ft pn ra rm (exT pn kd nu pp 1) rS rD rQ al rw rc tr, cA G (a 2) 4 kd, cA G (a 3) 12 nu] H locs := hw
      refine g_lmul C dX6_takesRoot_157 ?_
      refine g_put C hw [oX6 h a ft pn ra rm (exT pn kd nu pp 1) rS rD ((-2) * (exT pn kd nu pp 2)) al rw rc tr, cA G (a 2) 4 kd, cA G (a 3) 12 nu] hin_X6_takesRoot_X6 tyX6 tyX6_ok nmX6 0 rfl rfl 11 (by decide) lk_X6_takesRoot_147 rfl rfl rfl rfl (Nat.le_of_ble_eq_true rfl) rfl dX6_takesRoot_158 ?_
      clear hw
      intro H locs hw
      refine g_aload_n C hl 1 rfl rfl dX6_takesRoot_161 ?_
      refine g_aload_n C hl 1 rfl rfl dX6_takesRoot_162 ?_
      refine g_iload_n C hl 2 rfl rfl dX6_takesRoot_163 ?_
      refine g_callVl C hw (wr := []) (As := [.int (iI pp)]) (rest := [.ref h]) (m_X6_discriminant l D G (h := h) (a := a) (ft := ft) (pn := pn) (ra := ra) (rm := rm) (rP := (exT pn kd nu pp 1)) (rS := rS) (rD := rD) (rQ := ((-2) * (exT pn kd nu pp 2))) (al := al) (rw := rw) (rc := rc) (tr := tr) (kd := kd) (nu := nu) (pp := pp) (by first | assumption | omega) (by first | assumption | omega) (by first | assumption | omega) (by first | assumption | omega)) (cwV 1 C.1.2.2.2.2 gX6_takesRoot_X6_discriminant rfl rfl rfl (by decide +kernel) ⟨Nat.le_of_ble_eq_true rfl, Nat.le_of_ble_eq_true rfl⟩) [0, 1, 2] [] rfl rfl (by decide) (by decide) (by decide) 0 rfl rfl rfl hl.1 _ rfl (Nat.le_of_ble_eq_true rfl) dX6_takesRoot_164 ⟨Nat.le_of_ble_eq_true rfl, Nat.le_of_ble_eq_true rfl⟩ ?_
      clear hw
      rintro _ _ H locs ⟨rfl, rfl⟩ hw
      have hw : gW D A s.heap [oX6 h a ft pn ra rm (exT pn kd nu pp 1) rS rD ((-2) * (exT pn kd nu pp 2)) al rw rc tr, cA G (a 2) 4 kd, cA G (a 3) 12 nu] H locs := hw
      refine g_put C hw [oX6 h a ft pn ra rm (exT pn kd nu pp 1) rS (dsc (exT pn kd nu) pp) ((-2) * (exT pn kd nu pp 2)) al rw rc tr, cA G (a 2) 4 kd, cA G (a 3) 12 nu] hin_X6_takesRoot_X6 tyX6 tyX6_ok nmX6 0 rfl rfl 10 (by decide) lk_X6_takesRoot_153 rfl rfl rfl rfl (Nat.le_of_ble_eq_true rfl) rfl dX6_takesRoot_167 ?_
      clear hw
      intro H locs hw
      refine g_aload_n C hl 1 rfl rfl dX6_takesRoot_170 ?_
      refine g_aload_n C hl 1 rfl rfl dX6_takesRoot_171 ?_
      refine g_get C hw hin_X6_takesRoot_X6 0 rfl rfl 10 (by decide) lk_X6_takesRoot_153 rfl dX6_takesRoot_172 ?_
      refine g_lconst0 C dX6_takesRoot_175 ?_
      refine g_lcmp_ne C 184 dX6_takesRoot_176 dX6_takesRoot_177 (by decide) (by omega) (by omega) (fun c_5 => ?_) (fun c_5 => ?_)
      · skip
        refine g_iload_n C hl 3 rfl rfl dX6_takesRoot_184 ?_
        refine g_if_ne C 194 dX6_takesRoot_185 (by decide) (by omega) (fun c_6 => ?_) (fun c_6 => ?_)
        · skip
          refine g_lconst1 C dX6_takesRoot_194 ?_
          refine g_put C hw [oX6 h a ft pn ra rm (exT pn kd nu pp 1) 1 (dsc (exT pn kd nu) pp) ((-2) * (exT pn kd nu pp 2)) al rw rc tr, cA G (a 2) 4 kd, cA G (a 3) 12 nu] hin_X6_takesRoot_X6 tyX6 tyX6_ok nmX6 0 rfl rfl 9 (by decide) lk_X6_takesRoot_150 rfl rfl rfl rfl (Nat.le_of_ble_eq_true rfl) rfl dX6_takesRoot_195 ?_
          clear hw
          intro H locs hw
          exact g_vret C hr (ws' := [oX6 h a ft pn ra rm (exT pn kd nu pp 1) 1 (dsc (exT pn kd nu) pp) ((-2) * (exT pn kd nu pp 2)) al rw rc tr, cA G (a 2) 4 kd, cA G (a 3) 12 nu]) hw [0, 1, 2] (by decide) rfl (by unfold zP zS zD zQ; (repeat' (split <;> try (exfalso; omega))) <;> first | rfl | (exfalso; omega)) dX6_takesRoot_198
        · skip
          refine g_ldc2 C (-1) cn_X6_takesRoot_158 (by decide +kernel) dX6_takesRoot_188 ?_
          refine g_goto C 195 dX6_takesRoot_191 (by decide) ?_
          refine g_put C hw [oX6 h a ft pn ra rm (exT pn kd nu pp 1) (-1) (dsc (exT pn kd nu) pp) ((-2) * (exT pn kd nu pp 2)) al rw rc tr, cA G (a 2) 4 kd, cA G (a 3) 12 nu] hin_X6_takesRoot_X6 tyX6 tyX6_ok nmX6 0 rfl rfl 9 (by decide) lk_X6_takesRoot_150 rfl rfl rfl rfl (Nat.le_of_ble_eq_true rfl) rfl dX6_takesRoot_195 ?_
          clear hw
          intro H locs hw
          exact g_vret C hr (ws' := [oX6 h a ft pn ra rm (exT pn kd nu pp 1) (-1) (dsc (exT pn kd nu) pp) ((-2) * (exT pn kd nu pp 2)) al rw rc tr, cA G (a 2) 4 kd, cA G (a 3) 12 nu]) hw [0, 1, 2] (by decide) rfl (by unfold zP zS zD zQ; (repeat' (split <;> try (exfalso; omega))) <;> first | rfl | (exfalso; omega)) dX6_takesRoot_198
      · skip
        refine g_lconst0 C dX6_takesRoot_180 ?_
        refine g_goto C 195 dX6_takesRoot_181 (by decide) ?_
        refine g_put C hw [oX6 h a ft pn ra rm (exT pn kd nu pp 1) 0 (dsc (exT pn kd nu) pp) ((-2) * (exT pn kd nu pp 2)) al rw rc tr, cA G (a 2) 4 kd, cA G (a 3) 12 nu] hin_X6_takesRoot_X6 tyX6 tyX6_ok nmX6 0 rfl rfl 9 (by decide) lk_X6_takesRoot_150 rfl rfl rfl rfl (Nat.le_of_ble_eq_true rfl) rfl dX6_takesRoot_195 ?_
        clear hw
        intro H locs hw
        exact g_vret C hr (ws' := [oX6 h a ft pn ra rm (exT pn kd nu pp 1) 0 (dsc (exT pn kd nu) pp) ((-2) * (exT pn kd nu pp 2)) al rw rc tr, cA G (a 2) 4 kd, cA G (a 3) 12 nu]) hw [0, 1, 2] (by decide) rfl (by unfold zP zS zD zQ; (repeat' (split <;> try (exfalso; omega))) <;> first | rfl | (exfalso; omega)) dX6_takesRoot_198
    · skip
      refine g_iconst C dX6_takesRoot_100 ?_
      refine g_goto C 105 dX6_takesRoot_101 (by decide) ?_
      refine g_istore_n C [(3, .int (iI 1)), (0, .ref h), (1, .int (iI pp)), (2, .int (iI ii))] dX6_takesRoot_105 rfl hl (by decide) rfl ?_
      clear hl
      intro ls hl
      refine g_aload_n C hl 1 rfl rfl dX6_takesRoot_106 ?_
      refine g_iload_n C hl 0 rfl rfl dX6_takesRoot_107 ?_
      refine g_if_eq C 121 dX6_takesRoot_108 (by decide) (by decide) (fun c_7 => absurd c_7 (by decide)) (fun c_7 => ?_)
      refine g_aload_n C hl 1 rfl rfl dX6_takesRoot_111 ?_
      refine g_iload_n C hl 2 rfl rfl dX6_takesRoot_112 ?_
      refine g_iconst C dX6_takesRoot_113 ?_
      refine g_callVl C hw (wr := []) (As := [.int (iI pp), .int (iI 1)]) (rest := [.ref h]) (m_X6_is l D G (h := h) (a := a) (ft := ft) (pn := pn) (ra := ra) (rm := rm) (rP := rP) (rS := rS) (rD := rD) (rQ := rQ) (al := al) (rw := rw) (rc := rc) (tr := tr) (kd := kd) (nu := nu) (pp := pp) (kk := 1) (by first | assumption | omega) (by first | assumption | omega) (by first | assumption | omega) (by first | assumption | omega) (by first | assumption | omega)) (cwV 2 C.1.2.2.2.2 gX6_takesRoot_X6_is rfl rfl rfl (by decide +kernel) ⟨Nat.le_of_ble_eq_true rfl, Nat.le_of_ble_eq_true rfl⟩) [0, 1, 2] [] rfl rfl (by decide) (by decide) (by decide) 0 rfl rfl rfl hl.1 _ rfl (Nat.le_of_ble_eq_true rfl) dX6_takesRoot_114 ⟨Nat.le_of_ble_eq_true rfl, Nat.le_of_ble_eq_true rfl⟩ ?_
      clear hw
      rintro _ _ H locs ⟨rfl, rfl⟩ hw
      have hw : gW D A s.heap [oX6 h a ft pn ra rm rP rS rD rQ al rw rc tr, cA G (a 2) 4 kd, cA G (a 3) 12 nu] H locs := hw
      refine g_lneg C dX6_takesRoot_117 ?_
      refine g_goto C 127 dX6_takesRoot_118 (by decide) ?_
      refine g_put C hw [oX6 h a ft pn ra rm (-(exT pn kd nu pp 1)) rS rD rQ al rw rc tr, cA G (a 2) 4 kd, cA G (a 3) 12 nu] hin_X6_takesRoot_X6 tyX6 tyX6_ok nmX6 0 rfl rfl 8 (by decide) lk_X6_takesRoot_143 rfl rfl rfl rfl (Nat.le_of_ble_eq_true rfl) rfl dX6_takesRoot_127 ?_
      clear hw
      intro H locs hw
      refine g_aload_n C hl 1 rfl rfl dX6_takesRoot_130 ?_
      refine g_iload_n C hl 0 rfl rfl dX6_takesRoot_131 ?_
      refine g_if_eq C 148 dX6_takesRoot_132 (by decide) (by decide) (fun c_8 => absurd c_8 (by decide)) (fun c_8 => ?_)
      refine g_ldc2 C (2) cn_X6_takesRoot_117 (by decide +kernel) dX6_takesRoot_135 ?_
      refine g_aload_n C hl 1 rfl rfl dX6_takesRoot_138 ?_
      refine g_iload_n C hl 2 rfl rfl dX6_takesRoot_139 ?_
      refine g_iconst C dX6_takesRoot_140 ?_
      refine g_callVl C hw (wr := []) (As := [.int (iI pp), .int (iI 2)]) (rest := [.long (lI (2)), .ref h]) (m_X6_is l D G (h := h) (a := a) (ft := ft) (pn := pn) (ra := ra) (rm := rm) (rP := (-(exT pn kd nu pp 1))) (rS := rS) (rD := rD) (rQ := rQ) (al := al) (rw := rw) (rc := rc) (tr := tr) (kd := kd) (nu := nu) (pp := pp) (kk := 2) (by first | assumption | omega) (by first | assumption | omega) (by first | assumption | omega) (by first | assumption | omega) (by first | assumption | omega)) (cwV 2 C.1.2.2.2.2 gX6_takesRoot_X6_is rfl rfl rfl (by decide +kernel) ⟨Nat.le_of_ble_eq_true rfl, Nat.le_of_ble_eq_true rfl⟩) [0, 1, 2] [] rfl rfl (by decide) (by decide) (by decide) 0 rfl rfl rfl hl.1 _ rfl (Nat.le_of_ble_eq_true rfl) dX6_takesRoot_141 ⟨Nat.le_of_ble_eq_true rfl, Nat.le_of_ble_eq_true rfl⟩ ?_
      clear hw
      rintro _ _ H locs ⟨rfl, rfl⟩ hw
      have hw : gW D A s.heap [oX6 h a ft pn ra rm (-(exT pn kd nu pp 1)) rS rD rQ al rw rc tr, cA G (a 2) 4 kd, cA G (a 3) 12 nu] H locs := hw
      refine g_lmul C dX6_takesRoot_144 ?_
      refine g_goto C 158 dX6_takesRoot_145 (by decide) ?_
      refine g_put C hw [oX6 h a ft pn ra rm (-(exT pn kd nu pp 1)) rS rD (2 * (exT pn kd nu pp 2)) al rw rc tr, cA G (a 2) 4 kd, cA G (a 3) 12 nu] hin_X6_takesRoot_X6 tyX6 tyX6_ok nmX6 0 rfl rfl 11 (by decide) lk_X6_takesRoot_147 rfl rfl rfl rfl (Nat.le_of_ble_eq_true rfl) rfl dX6_takesRoot_158 ?_
      clear hw
      intro H locs hw
      refine g_aload_n C hl 1 rfl rfl dX6_takesRoot_161 ?_
      refine g_aload_n C hl 1 rfl rfl dX6_takesRoot_162 ?_
      refine g_iload_n C hl 2 rfl rfl dX6_takesRoot_163 ?_
      refine g_callVl C hw (wr := []) (As := [.int (iI pp)]) (rest := [.ref h]) (m_X6_discriminant l D G (h := h) (a := a) (ft := ft) (pn := pn) (ra := ra) (rm := rm) (rP := (-(exT pn kd nu pp 1))) (rS := rS) (rD := rD) (rQ := (2 * (exT pn kd nu pp 2))) (al := al) (rw := rw) (rc := rc) (tr := tr) (kd := kd) (nu := nu) (pp := pp) (by first | assumption | omega) (by first | assumption | omega) (by first | assumption | omega) (by first | assumption | omega)) (cwV 1 C.1.2.2.2.2 gX6_takesRoot_X6_discriminant rfl rfl rfl (by decide +kernel) ⟨Nat.le_of_ble_eq_true rfl, Nat.le_of_ble_eq_true rfl⟩) [0, 1, 2] [] rfl rfl (by decide) (by decide) (by decide) 0 rfl rfl rfl hl.1 _ rfl (Nat.le_of_ble_eq_true rfl) dX6_takesRoot_164 ⟨Nat.le_of_ble_eq_true rfl, Nat.le_of_ble_eq_true rfl⟩ ?_
      clear hw
      rintro _ _ H locs ⟨rfl, rfl⟩ hw
      have hw : gW D A s.heap [oX6 h a ft pn ra rm (-(exT pn kd nu pp 1)) rS rD (2 * (exT pn kd nu pp 2)) al rw rc tr, cA G (a 2) 4 kd, cA G (a 3) 12 nu] H locs := hw
      refine g_put C hw [oX6 h a ft pn ra rm (-(exT pn kd nu pp 1)) rS (dsc (exT pn kd nu) pp) (2 * (exT pn kd nu pp 2)) al rw rc tr, cA G (a 2) 4 kd, cA G (a 3) 12 nu] hin_X6_takesRoot_X6 tyX6 tyX6_ok nmX6 0 rfl rfl 10 (by decide) lk_X6_takesRoot_153 rfl rfl rfl rfl (Nat.le_of_ble_eq_true rfl) rfl dX6_takesRoot_167 ?_
      clear hw
      intro H locs hw
      refine g_aload_n C hl 1 rfl rfl dX6_takesRoot_170 ?_
      refine g_aload_n C hl 1 rfl rfl dX6_takesRoot_171 ?_
      refine g_get C hw hin_X6_takesRoot_X6 0 rfl rfl 10 (by decide) lk_X6_takesRoot_153 rfl dX6_takesRoot_172 ?_
      refine g_lconst0 C dX6_takesRoot_175 ?_
      refine g_lcmp_ne C 184 dX6_takesRoot_176 dX6_takesRoot_177 (by decide) (by omega) (by omega) (fun c_9 => ?_) (fun c_9 => ?_)
      · skip
        refine g_iload_n C hl 3 rfl rfl dX6_takesRoot_184 ?_
        refine g_if_ne C 194 dX6_takesRoot_185 (by decide) (by omega) (fun c_10 => ?_) (fun c_10 => ?_)
        · skip
          refine g_lconst1 C dX6_takesRoot_194 ?_
          refine g_put C hw [oX6 h a ft pn ra rm (-(exT pn kd nu pp 1)) 1 (dsc (exT pn kd nu) pp) (2 * (exT pn kd nu pp 2)) al rw rc tr, cA G (a 2) 4 kd, cA G (a 3) 12 nu] hin_X6_takesRoot_X6 tyX6 tyX6_ok nmX6 0 rfl rfl 9 (by decide) lk_X6_takesRoot_150 rfl rfl rfl rfl (Nat.le_of_ble_eq_true rfl) rfl dX6_takesRoot_195 ?_
          clear hw
          intro H locs hw
          exact g_vret C hr (ws' := [oX6 h a ft pn ra rm (-(exT pn kd nu pp 1)) 1 (dsc (exT pn kd nu) pp) (2 * (exT pn kd nu pp 2)) al rw rc tr, cA G (a 2) 4 kd, cA G (a 3) 12 nu]) hw [0, 1, 2] (by decide) rfl (by unfold zP zS zD zQ; (repeat' (split <;> try (exfalso; omega))) <;> first | rfl | (exfalso; omega)) dX6_takesRoot_198
        · skip
          refine g_ldc2 C (-1) cn_X6_takesRoot_158 (by decide +kernel) dX6_takesRoot_188 ?_
          refine g_goto C 195 dX6_takesRoot_191 (by decide) ?_
          refine g_put C hw [oX6 h a ft pn ra rm (-(exT pn kd nu pp 1)) (-1) (dsc (exT pn kd nu) pp) (2 * (exT pn kd nu pp 2)) al rw rc tr, cA G (a 2) 4 kd, cA G (a 3) 12 nu] hin_X6_takesRoot_X6 tyX6 tyX6_ok nmX6 0 rfl rfl 9 (by decide) lk_X6_takesRoot_150 rfl rfl rfl rfl (Nat.le_of_ble_eq_true rfl) rfl dX6_takesRoot_195 ?_
          clear hw
          intro H locs hw
          exact g_vret C hr (ws' := [oX6 h a ft pn ra rm (-(exT pn kd nu pp 1)) (-1) (dsc (exT pn kd nu) pp) (2 * (exT pn kd nu pp 2)) al rw rc tr, cA G (a 2) 4 kd, cA G (a 3) 12 nu]) hw [0, 1, 2] (by decide) rfl (by unfold zP zS zD zQ; (repeat' (split <;> try (exfalso; omega))) <;> first | rfl | (exfalso; omega)) dX6_takesRoot_198
      · skip
        refine g_lconst0 C dX6_takesRoot_180 ?_
        refine g_goto C 195 dX6_takesRoot_181 (by decide) ?_
        refine g_put C hw [oX6 h a ft pn ra rm (-(exT pn kd nu pp 1)) 0 (dsc (exT pn kd nu) pp) (2 * (exT pn kd nu pp 2)) al rw rc tr, cA G (a 2) 4 kd, cA G (a 3) 12 nu] hin_X6_takesRoot_X6 tyX6 tyX6_ok nmX6 0 rfl rfl 9 (by decide) lk_X6_takesRoot_150 rfl rfl rfl rfl (Nat.le_of_ble_eq_true rfl) rfl dX6_takesRoot_195 ?_
        clear hw
        intro H locs hw
        exact g_vret C hr (ws' := [oX6 h a ft pn ra rm (-(exT pn kd nu pp 1)) 0 (dsc (exT pn kd nu) pp) (2 * (exT pn kd nu pp 2)) al rw rc tr, cA G (a 2) 4 kd, cA G (a 3) 12 nu]) hw [0, 1, 2] (by decide) rfl (by unfold zP zS zD zQ; (repeat' (split <;> try (exfalso; omega))) <;> first | rfl | (exfalso; omega)) dX6_takesRoot_198
  · skip
    refine g_aload_n C hl 0 rfl rfl dX6_takesRoot_11 ?_
    refine g_iload_n C hl 1 rfl rfl dX6_takesRoot_12 ?_
    refine g_iconst C dX6_takesRoot_13 ?_
    refine g_callVl C hw (wr := []) (As := [.int (iI pp), .int (iI 1)]) (rest := []) (m_X6_is l D G (h := h) (a := a) (ft := ft) (pn := pn) (ra := ra) (rm := rm) (rP := rP) (rS := rS) (rD := rD) (rQ := rQ) (al := al) (rw := rw) (rc := rc) (tr := tr) (kd := kd) (nu := nu) (pp := pp) (kk := 1) (by first | assumption | omega) (by first | assumption | omega) (by first | assumption | omega) (by first | assumption | omega) (by first | assumption | omega)) (cwV 2 C.1.2.2.2.2 gX6_takesRoot_X6_is rfl rfl rfl (by decide +kernel) ⟨Nat.le_of_ble_eq_true rfl, Nat.le_of_ble_eq_true rfl⟩) [0, 1, 2] [] rfl rfl (by decide) (by decide) (by decide) 0 rfl rfl rfl hl.1 _ rfl (Nat.le_of_ble_eq_true rfl) dX6_takesRoot_14 ⟨Nat.le_of_ble_eq_true rfl, Nat.le_of_ble_eq_true rfl⟩ ?_
    clear hw
    rintro _ _ H locs ⟨rfl, rfl⟩ hw
    have hw : gW D A s.heap [oX6 h a ft pn ra rm rP rS rD rQ al rw rc tr, cA G (a 2) 4 kd, cA G (a 3) 12 nu] H locs := hw
    refine g_lconst0 C dX6_takesRoot_17 ?_
    refine g_lcmp_le C 26 dX6_takesRoot_18 dX6_takesRoot_19 (by decide) (by omega) (by omega) (fun c_11 => ?_) (fun c_11 => ?_)
    · skip
      refine g_iconst C dX6_takesRoot_26 ?_
      refine g_istore_n C [(3, .int (iI 0)), (0, .ref h), (1, .int (iI pp)), (2, .int (iI ii))] dX6_takesRoot_27 rfl hl (by decide) rfl ?_
      clear hl
      intro ls hl
      refine g_aload_n C hl 1 rfl rfl dX6_takesRoot_28 ?_
      refine g_iload_n C hl 0 rfl rfl dX6_takesRoot_29 ?_
      refine g_if_eq C 43 dX6_takesRoot_30 (by decide) (by decide) (fun c_12 => ?_) (fun c_12 => absurd c_12 (by decide))
      refine g_aload_n C hl 1 rfl rfl dX6_takesRoot_43 ?_
      refine g_iload_n C hl 2 rfl rfl dX6_takesRoot_44 ?_
      refine g_iconst C dX6_takesRoot_45 ?_
      refine g_callVl C hw (wr := []) (As := [.int (iI pp), .int (iI 0)]) (rest := [.ref h]) (m_X6_is l D G (h := h) (a := a) (ft := ft) (pn := pn) (ra := ra) (rm := rm) (rP := rP) (rS := rS) (rD := rD) (rQ := rQ) (al := al) (rw := rw) (rc := rc) (tr := tr) (kd := kd) (nu := nu) (pp := pp) (kk := 0) (by first | assumption | omega) (by first | assumption | omega) (by first | assumption | omega) (by first | assumption | omega) (by first | assumption | omega)) (cwV 2 C.1.2.2.2.2 gX6_takesRoot_X6_is rfl rfl rfl (by decide +kernel) ⟨Nat.le_of_ble_eq_true rfl, Nat.le_of_ble_eq_true rfl⟩) [0, 1, 2] [] rfl rfl (by decide) (by decide) (by decide) 0 rfl rfl rfl hl.1 _ rfl (Nat.le_of_ble_eq_true rfl) dX6_takesRoot_46 ⟨Nat.le_of_ble_eq_true rfl, Nat.le_of_ble_eq_true rfl⟩ ?_
      clear hw
      rintro _ _ H locs ⟨rfl, rfl⟩ hw
      have hw : gW D A s.heap [oX6 h a ft pn ra rm rP rS rD rQ al rw rc tr, cA G (a 2) 4 kd, cA G (a 3) 12 nu] H locs := hw
      refine g_put C hw [oX6 h a ft pn ra rm (exT pn kd nu pp 0) rS rD rQ al rw rc tr, cA G (a 2) 4 kd, cA G (a 3) 12 nu] hin_X6_takesRoot_X6 tyX6 tyX6_ok nmX6 0 rfl rfl 8 (by decide) lk_X6_takesRoot_143 rfl rfl rfl rfl (Nat.le_of_ble_eq_true rfl) rfl dX6_takesRoot_49 ?_
      clear hw
      intro H locs hw
      refine g_aload_n C hl 1 rfl rfl dX6_takesRoot_52 ?_
      refine g_iload_n C hl 0 rfl rfl dX6_takesRoot_53 ?_
      refine g_if_eq C 66 dX6_takesRoot_54 (by decide) (by decide) (fun c_13 => ?_) (fun c_13 => absurd c_13 (by decide))
      refine g_aload_n C hl 1 rfl rfl dX6_takesRoot_66 ?_
      refine g_iload_n C hl 2 rfl rfl dX6_takesRoot_67 ?_
      refine g_iconst C dX6_takesRoot_68 ?_
      refine g_callVl C hw (wr := []) (As := [.int (iI pp), .int (iI 1)]) (rest := [.ref h]) (m_X6_is l D G (h := h) (a := a) (ft := ft) (pn := pn) (ra := ra) (rm := rm) (rP := (exT pn kd nu pp 0)) (rS := rS) (rD := rD) (rQ := rQ) (al := al) (rw := rw) (rc := rc) (tr := tr) (kd := kd) (nu := nu) (pp := pp) (kk := 1) (by first | assumption | omega) (by first | assumption | omega) (by first | assumption | omega) (by first | assumption | omega) (by first | assumption | omega)) (cwV 2 C.1.2.2.2.2 gX6_takesRoot_X6_is rfl rfl rfl (by decide +kernel) ⟨Nat.le_of_ble_eq_true rfl, Nat.le_of_ble_eq_true rfl⟩) [0, 1, 2] [] rfl rfl (by decide) (by decide) (by decide) 0 rfl rfl rfl hl.1 _ rfl (Nat.le_of_ble_eq_true rfl) dX6_takesRoot_69 ⟨Nat.le_of_ble_eq_true rfl, Nat.le_of_ble_eq_true rfl⟩ ?_
      clear hw
      rintro _ _ H locs ⟨rfl, rfl⟩ hw
      have hw : gW D A s.heap [oX6 h a ft pn ra rm (exT pn kd nu pp 0) rS rD rQ al rw rc tr, cA G (a 2) 4 kd, cA G (a 3) 12 nu] H locs := hw
      refine g_lneg C dX6_takesRoot_72 ?_
      refine g_put C hw [oX6 h a ft pn ra rm (exT pn kd nu pp 0) rS rD (-(exT pn kd nu pp 1)) al rw rc tr, cA G (a 2) 4 kd, cA G (a 3) 12 nu] hin_X6_takesRoot_X6 tyX6 tyX6_ok nmX6 0 rfl rfl 11 (by decide) lk_X6_takesRoot_147 rfl rfl rfl rfl (Nat.le_of_ble_eq_true rfl) rfl dX6_takesRoot_73 ?_
      clear hw
      intro H locs hw
      refine g_aload_n C hl 1 rfl rfl dX6_takesRoot_76 ?_
      refine g_lconst0 C dX6_takesRoot_77 ?_
      refine g_put C hw [oX6 h a ft pn ra rm (exT pn kd nu pp 0) 0 rD (-(exT pn kd nu pp 1)) al rw rc tr, cA G (a 2) 4 kd, cA G (a 3) 12 nu] hin_X6_takesRoot_X6 tyX6 tyX6_ok nmX6 0 rfl rfl 9 (by decide) lk_X6_takesRoot_150 rfl rfl rfl rfl (Nat.le_of_ble_eq_true rfl) rfl dX6_takesRoot_78 ?_
      clear hw
      intro H locs hw
      refine g_aload_n C hl 1 rfl rfl dX6_takesRoot_81 ?_
      refine g_lconst0 C dX6_takesRoot_82 ?_
      refine g_put C hw [oX6 h a ft pn ra rm (exT pn kd nu pp 0) 0 0 (-(exT pn kd nu pp 1)) al rw rc tr, cA G (a 2) 4 kd, cA G (a 3) 12 nu] hin_X6_takesRoot_X6 tyX6 tyX6_ok nmX6 0 rfl rfl 10 (by decide) lk_X6_takesRoot_153 rfl rfl rfl rfl (Nat.le_of_ble_eq_true rfl) rfl dX6_takesRoot_83 ?_
      clear hw
      intro H locs hw
      refine g_goto C 198 dX6_takesRoot_86 (by decide) ?_
      exact g_vret C hr (ws' := [oX6 h a ft pn ra rm (exT pn kd nu pp 0) 0 0 (-(exT pn kd nu pp 1)) al rw rc tr, cA G (a 2) 4 kd, cA G (a 3) 12 nu]) hw [0, 1, 2] (by decide) rfl (by unfold zP zS zD zQ; (repeat' (split <;> try (exfalso; omega))) <;> first | rfl | (exfalso; omega)) dX6_takesRoot_198
    · skip
      refine g_iconst C dX6_takesRoot_22 ?_
      refine g_goto C 27 dX6_takesRoot_23 (by decide) ?_
      refine g_istore_n C [(3, .int (iI 1)), (0, .ref h), (1, .int (iI pp)), (2, .int (iI ii))] dX6_takesRoot_27 rfl hl (by decide) rfl ?_
      clear hl
      intro ls hl
      refine g_aload_n C hl 1 rfl rfl dX6_takesRoot_28 ?_
      refine g_iload_n C hl 0 rfl rfl dX6_takesRoot_29 ?_
      refine g_if_eq C 43 dX6_takesRoot_30 (by decide) (by decide) (fun c_14 => absurd c_14 (by decide)) (fun c_14 => ?_)
      refine g_aload_n C hl 1 rfl rfl dX6_takesRoot_33 ?_
      refine g_iload_n C hl 2 rfl rfl dX6_takesRoot_34 ?_
      refine g_iconst C dX6_takesRoot_35 ?_
      refine g_callVl C hw (wr := []) (As := [.int (iI pp), .int (iI 0)]) (rest := [.ref h]) (m_X6_is l D G (h := h) (a := a) (ft := ft) (pn := pn) (ra := ra) (rm := rm) (rP := rP) (rS := rS) (rD := rD) (rQ := rQ) (al := al) (rw := rw) (rc := rc) (tr := tr) (kd := kd) (nu := nu) (pp := pp) (kk := 0) (by first | assumption | omega) (by first | assumption | omega) (by first | assumption | omega) (by first | assumption | omega) (by first | assumption | omega)) (cwV 2 C.1.2.2.2.2 gX6_takesRoot_X6_is rfl rfl rfl (by decide +kernel) ⟨Nat.le_of_ble_eq_true rfl, Nat.le_of_ble_eq_true rfl⟩) [0, 1, 2] [] rfl rfl (by decide) (by decide) (by decide) 0 rfl rfl rfl hl.1 _ rfl (Nat.le_of_ble_eq_true rfl) dX6_takesRoot_36 ⟨Nat.le_of_ble_eq_true rfl, Nat.le_of_ble_eq_true rfl⟩ ?_
      clear hw
      rintro _ _ H locs ⟨rfl, rfl⟩ hw
      have hw : gW D A s.heap [oX6 h a ft pn ra rm rP rS rD rQ al rw rc tr, cA G (a 2) 4 kd, cA G (a 3) 12 nu] H locs := hw
      refine g_lneg C dX6_takesRoot_39 ?_
      refine g_goto C 49 dX6_takesRoot_40 (by decide) ?_
      refine g_put C hw [oX6 h a ft pn ra rm (-(exT pn kd nu pp 0)) rS rD rQ al rw rc tr, cA G (a 2) 4 kd, cA G (a 3) 12 nu] hin_X6_takesRoot_X6 tyX6 tyX6_ok nmX6 0 rfl rfl 8 (by decide) lk_X6_takesRoot_143 rfl rfl rfl rfl (Nat.le_of_ble_eq_true rfl) rfl dX6_takesRoot_49 ?_
      clear hw
      intro H locs hw
      refine g_aload_n C hl 1 rfl rfl dX6_takesRoot_52 ?_
      refine g_iload_n C hl 0 rfl rfl dX6_takesRoot_53 ?_
      refine g_if_eq C 66 dX6_takesRoot_54 (by decide) (by decide) (fun c_15 => absurd c_15 (by decide)) (fun c_15 => ?_)
      refine g_aload_n C hl 1 rfl rfl dX6_takesRoot_57 ?_
      refine g_iload_n C hl 2 rfl rfl dX6_takesRoot_58 ?_
      refine g_iconst C dX6_takesRoot_59 ?_
      refine g_callVl C hw (wr := []) (As := [.int (iI pp), .int (iI 1)]) (rest := [.ref h]) (m_X6_is l D G (h := h) (a := a) (ft := ft) (pn := pn) (ra := ra) (rm := rm) (rP := (-(exT pn kd nu pp 0))) (rS := rS) (rD := rD) (rQ := rQ) (al := al) (rw := rw) (rc := rc) (tr := tr) (kd := kd) (nu := nu) (pp := pp) (kk := 1) (by first | assumption | omega) (by first | assumption | omega) (by first | assumption | omega) (by first | assumption | omega) (by first | assumption | omega)) (cwV 2 C.1.2.2.2.2 gX6_takesRoot_X6_is rfl rfl rfl (by decide +kernel) ⟨Nat.le_of_ble_eq_true rfl, Nat.le_of_ble_eq_true rfl⟩) [0, 1, 2] [] rfl rfl (by decide) (by decide) (by decide) 0 rfl rfl rfl hl.1 _ rfl (Nat.le_of_ble_eq_true rfl) dX6_takesRoot_60 ⟨Nat.le_of_ble_eq_true rfl, Nat.le_of_ble_eq_true rfl⟩ ?_
      clear hw
      rintro _ _ H locs ⟨rfl, rfl⟩ hw
      have hw : gW D A s.heap [oX6 h a ft pn ra rm (-(exT pn kd nu pp 0)) rS rD rQ al rw rc tr, cA G (a 2) 4 kd, cA G (a 3) 12 nu] H locs := hw
      refine g_goto C 73 dX6_takesRoot_63 (by decide) ?_
      refine g_put C hw [oX6 h a ft pn ra rm (-(exT pn kd nu pp 0)) rS rD (exT pn kd nu pp 1) al rw rc tr, cA G (a 2) 4 kd, cA G (a 3) 12 nu] hin_X6_takesRoot_X6 tyX6 tyX6_ok nmX6 0 rfl rfl 11 (by decide) lk_X6_takesRoot_147 rfl rfl rfl rfl (Nat.le_of_ble_eq_true rfl) rfl dX6_takesRoot_73 ?_
      clear hw
      intro H locs hw
      refine g_aload_n C hl 1 rfl rfl dX6_takesRoot_76 ?_
      refine g_lconst0 C dX6_takesRoot_77 ?_
      refine g_put C hw [oX6 h a ft pn ra rm (-(exT pn kd nu pp 0)) 0 rD (exT pn kd nu pp 1) al rw rc tr, cA G (a 2) 4 kd, cA G (a 3) 12 nu] hin_X6_takesRoot_X6 tyX6 tyX6_ok nmX6 0 rfl rfl 9 (by decide) lk_X6_takesRoot_150 rfl rfl rfl rfl (Nat.le_of_ble_eq_true rfl) rfl dX6_takesRoot_78 ?_
      clear hw
      intro H locs hw
      refine g_aload_n C hl 1 rfl rfl dX6_takesRoot_81 ?_
      refine g_lconst0 C dX6_takesRoot_82 ?_
      refine g_put C hw [oX6 h a ft pn ra rm (-(exT pn kd nu pp 0)) 0 0 (exT pn kd nu pp 1) al rw rc tr, cA G (a 2) 4 kd, cA G (a 3) 12 nu] hin_X6_takesRoot_X6 tyX6 tyX6_ok nmX6 0 rfl rfl 10 (by decide) lk_X6_takesRoot_153 rfl rfl rfl rfl (Nat.le_of_ble_eq_true rfl) rfl dX6_takesRoot_83 ?_
      clear hw
      intro H locs hw
      refine g_goto C 198 dX6_takesRoot_86 (by decide) ?_
      exact g_vret C hr (ws' := [oX6 h a ft pn ra rm (-(exT pn kd nu pp 0)) 0 0 (exT pn kd nu pp 1) al rw rc tr, cA G (a 2) 4 kd, cA G (a 3) 12 nu]) hw [0, 1, 2] (by decide) rfl (by unfold zP zS zD zQ; (repeat' (split <;> try (exfalso; omega))) <;> first | rfl | (exfalso; omega)) dX6_takesRoot_198

set_option maxRecDepth 20000 in
theorem hin_X6_signHere_X6 : ∀ w ∈ u_ws RX6 TX6 30, w ∈ wsX6_signHere := by
  intro w h
  exact List.mem_cons_of_mem _ (List.mem_append_right _ (h))
set_option maxRecDepth 20000 in
theorem lk_X6_signHere_143 : Cond.fieldLink RX6 143 (TX6 8).1 (TX6 8).2.1 (TX6 8).2.2.1 ∈ wsX6_signHere := List.mem_cons_of_mem _ (List.mem_append_left _ (List.mem_of_getElem? (i := 0) rfl))
set_option maxRecDepth 20000 in
theorem lk_X6_signHere_150 : Cond.fieldLink RX6 150 (TX6 9).1 (TX6 9).2.1 (TX6 9).2.2.1 ∈ wsX6_signHere := List.mem_cons_of_mem _ (List.mem_append_left _ (List.mem_of_getElem? (i := 1) rfl))
set_option maxRecDepth 20000 in
theorem lk_X6_signHere_153 : Cond.fieldLink RX6 153 (TX6 10).1 (TX6 10).2.1 (TX6 10).2.2.1 ∈ wsX6_signHere := List.mem_cons_of_mem _ (List.mem_append_left _ (List.mem_of_getElem? (i := 2) rfl))
set_option maxRecDepth 20000 in
theorem lk_X6_signHere_147 : Cond.fieldLink RX6 147 (TX6 11).1 (TX6 11).2.1 (TX6 11).2.2.1 ∈ wsX6_signHere := List.mem_cons_of_mem _ (List.mem_append_left _ (List.mem_of_getElem? (i := 3) rfl))
set_option maxRecDepth 20000 in
theorem cn_X6_signHere_117 : Jvm.Cond.constantLong RX6 117 (2) ∈ wsX6_signHere := List.mem_cons_of_mem _ (List.mem_append_left _ (List.mem_of_getElem? (i := 4) rfl))
set_option maxRecDepth 100000 in
set_option maxHeartbeats 8000000 in
theorem m_X6_signHere (l : Launch) (D : va_G) (G : gT) (h : Nat) (a : Nat → Nat) (ft : Int) (pn : Int) (ra : Int) (rm : Int) (rP : Int) (rS : Int) (rD : Int) (rQ : Int) (al : Int) (rw : Int) (rc : Int) (tr : Int) (cc0 : Int) (bb : Int) (aa : Int) (hrt : rtOK rP rS rD rQ) (hc0 : -60 ≤ cc0 ∧ cc0 ≤ 60) (hbb : -60 ≤ bb ∧ bb ≤ 60) (haa : -60 ≤ aa ∧ aa ≤ 60) : gMi l yX6_signHere wsX6_signHere ({ frames := 2, cells := 0, slots := 0, locals := 50 }) D G [.ref h, .long (lI (cc0)), .long (lI (bb)), .long (lI (aa))] [oX6 h a ft pn ra rm rP rS rD rQ al rw rc tr] 0 0 (fun (r : Int32) (w : va_W) => r = (iI (sAt cc0 bb aa rP rS rD rQ)) ∧ w = [oX6 h a ft pn ra rm rP rS rD rQ al rw rc tr]) := by
  refine g_start_i (cc := cX6_signHere) (nL := 11) (own := RX6) (ret := some .int) (by decide +kernel) rfl rfl (Nat.le_of_ble_eq_true rfl) ?_
  intro p e s m below meth c A ls C hr hnm hw hl
  have hl : lv_has ls 11 [(0, .ref h), (1, .long (lI (cc0))), (3, .long (lI (bb))), (5, .long (lI (aa)))] := hl
  obtain ⟨g1, g2⟩ := sAt_rg hrt hc0 hbb haa
  obtain ⟨gP, gS, gD, gQ, gz⟩ := id hrt
  have hss := ssd hrt
  refine g_lload C hl 3 rfl dX6_signHere_0 ?_
  refine g_aload_n C hl 0 rfl rfl dX6_signHere_2 ?_
  refine g_get C hw hin_X6_signHere_X6 0 rfl rfl 8 (by decide) lk_X6_signHere_143 rfl dX6_signHere_3 ?_
  refine g_aload_n C hl 0 rfl rfl dX6_signHere_6 ?_
  refine g_get C hw hin_X6_signHere_X6 0 rfl rfl 8 (by decide) lk_X6_signHere_143 rfl dX6_signHere_7 ?_
  refine g_lmul C dX6_signHere_10 ?_
  refine g_aload_n C hl 0 rfl rfl dX6_signHere_11 ?_
  refine g_get C hw hin_X6_signHere_X6 0 rfl rfl 9 (by decide) lk_X6_signHere_150 rfl dX6_signHere_12 ?_
  refine g_aload_n C hl 0 rfl rfl dX6_signHere_15 ?_
  refine g_get C hw hin_X6_signHere_X6 0 rfl rfl 9 (by decide) lk_X6_signHere_150 rfl dX6_signHere_16 ?_
  refine g_lmul C dX6_signHere_19 ?_
  refine g_aload_n C hl 0 rfl rfl dX6_signHere_20 ?_
  refine g_get C hw hin_X6_signHere_X6 0 rfl rfl 10 (by decide) lk_X6_signHere_153 rfl dX6_signHere_21 ?_
  refine g_lmul C dX6_signHere_24 ?_
  refine g_ladd C dX6_signHere_25 ?_
  refine g_lmul C dX6_signHere_26 ?_
  refine g_lload_n C hl 2 rfl rfl dX6_signHere_27 ?_
  refine g_aload_n C hl 0 rfl rfl dX6_signHere_28 ?_
  refine g_get C hw hin_X6_signHere_X6 0 rfl rfl 11 (by decide) lk_X6_signHere_147 rfl dX6_signHere_29 ?_
  refine g_lmul C dX6_signHere_32 ?_
  refine g_aload_n C hl 0 rfl rfl dX6_signHere_33 ?_
  refine g_get C hw hin_X6_signHere_X6 0 rfl rfl 8 (by decide) lk_X6_signHere_143 rfl dX6_signHere_34 ?_
  refine g_lmul C dX6_signHere_37 ?_
  refine g_ladd C dX6_signHere_38 ?_
  refine g_lload_n C hl 1 rfl rfl dX6_signHere_39 ?_
  refine g_aload_n C hl 0 rfl rfl dX6_signHere_40 ?_
  refine g_get C hw hin_X6_signHere_X6 0 rfl rfl 11 (by decide) lk_X6_signHere_147 rfl dX6_signHere_41 ?_
  refine g_lmul C dX6_signHere_44 ?_
  refine g_aload_n C hl 0 rfl rfl dX6_signHere_45 ?_
  refine g_get C hw hin_X6_signHere_X6 0 rfl rfl 11 (by decide) lk_X6_signHere_147 rfl dX6_signHere_46 ?_
  refine g_lmul C dX6_signHere_49 ?_
  refine g_ladd C dX6_signHere_50 ?_
  refine g_nL (show (((aa * ((rP * rP) + ((rS * rS) * rD))) + ((bb * rQ) * rP)) + ((cc0 * rQ) * rQ) : Int) = cc0 * rQ * rQ + bb * rQ * rP + aa * (rP * rP + rD) by rw [hss]; omega) ?_
  refine g_lstore C [(7, .long (lI (cc0 * rQ * rQ + bb * rQ * rP + aa * (rP * rP + rD)))), (0, .ref h), (1, .long (lI (cc0))), (3, .long (lI (bb))), (5, .long (lI (aa)))] dX6_signHere_51 hl (by decide) rfl ?_
  clear hl
  intro ls hl
  refine g_aload_n C hl 1 rfl rfl dX6_signHere_53 ?_
  refine g_get C hw hin_X6_signHere_X6 0 rfl rfl 9 (by decide) lk_X6_signHere_150 rfl dX6_signHere_54 ?_
  refine g_ldc2 C (2) cn_X6_signHere_117 (by decide +kernel) dX6_signHere_57 ?_
  refine g_lload C hl 4 rfl dX6_signHere_60 ?_
  refine g_lmul C dX6_signHere_62 ?_
  refine g_aload_n C hl 1 rfl rfl dX6_signHere_63 ?_
  refine g_get C hw hin_X6_signHere_X6 0 rfl rfl 8 (by decide) lk_X6_signHere_143 rfl dX6_signHere_64 ?_
  refine g_lmul C dX6_signHere_67 ?_
  refine g_lload_n C hl 3 rfl rfl dX6_signHere_68 ?_
  refine g_aload_n C hl 1 rfl rfl dX6_signHere_69 ?_
  refine g_get C hw hin_X6_signHere_X6 0 rfl rfl 11 (by decide) lk_X6_signHere_147 rfl dX6_signHere_70 ?_
  refine g_lmul C dX6_signHere_73 ?_
  refine g_ladd C dX6_signHere_74 ?_
  refine g_lmul C dX6_signHere_75 ?_
  refine g_nL (show (rS * (((2 * aa) * rP) + (bb * rQ)) : Int) = rS * (bb * rQ + 2 * aa * rP) by rw [Int.add_comm (2 * aa * rP)]) ?_
  refine g_lstore C [(9, .long (lI (rS * (bb * rQ + 2 * aa * rP)))), (7, .long (lI (cc0 * rQ * rQ + bb * rQ * rP + aa * (rP * rP + rD)))), (0, .ref h), (1, .long (lI (cc0))), (3, .long (lI (bb))), (5, .long (lI (aa)))] dX6_signHere_76 hl (by decide) rfl ?_
  clear hl
  intro ls hl
  refine g_lload C hl 1 rfl dX6_signHere_78 ?_
  refine g_lload C hl 0 rfl dX6_signHere_80 ?_
  refine g_aload_n C hl 2 rfl rfl dX6_signHere_82 ?_
  refine g_get C hw hin_X6_signHere_X6 0 rfl rfl 10 (by decide) lk_X6_signHere_153 rfl dX6_signHere_83 ?_
  refine g_callSi C hw (wr := [oX6 h a ft pn ra rm rP rS rD rQ al rw rc tr]) (As := [.long (lI (cc0 * rQ * rQ + bb * rQ * rP + aa * (rP * rP + rD))), .long (lI (rS * (bb * rQ + 2 * aa * rP))), .long (lI (rD))]) (rest := []) (m_X6_signOfTwo l D G (uu := (cc0 * rQ * rQ + bb * rQ * rP + aa * (rP * rP + rD))) (vv := (rS * (bb * rQ + 2 * aa * rP))) (dd := rD) (by first | assumption | omega) (by first | assumption | omega) (by first | assumption | omega)) (va_cwS 3 C.1.2.2.2.2 gX6_signHere_X6_signOfTwo rfl rfl rfl (by decide +kernel) ⟨Nat.le_of_ble_eq_true rfl, Nat.le_of_ble_eq_true rfl⟩) [] [0] rfl rfl (by decide) (by decide) (by decide) rfl hl.1 _ rfl (Nat.le_of_ble_eq_true rfl) dX6_signHere_86 ⟨Nat.le_of_ble_eq_true rfl, Nat.le_of_ble_eq_true rfl⟩ ?_
  clear hw
  rintro _ _ H locs ⟨rfl, rfl⟩ hw
  have hw : gW D A s.heap [oX6 h a ft pn ra rm rP rS rD rQ al rw rc tr] H locs := hw
  exact g_iret C hr (ws' := [oX6 h a ft pn ra rm rP rS rD rQ al rw rc tr]) hw [0] (by decide) rfl ⟨(congrArg iI (by first | rfl | omega | (simp only [bI]; (repeat' split) <;> omega) | (simp_all [bI]; done) | (simp_all [bI]; omega))), rfl⟩ dX6_signHere_89

set_option maxRecDepth 100000 in
set_option maxHeartbeats 8000000 in
theorem m_X6_signOfAt (l : Launch) (D : va_G) (G : gT) (h : Nat) (a : Nat → Nat) (ft : Int) (pn : Int) (ra : Int) (rm : Int) (rP : Int) (rS : Int) (rD : Int) (rQ : Int) (al : Int) (rw : Int) (rc : Int) (tr : Int) (kd : Int → Int) (nu : Int → Int) (pp : Int) (hkd : kdOK kd) (hnu : nuOK nu) (hn : 0 ≤ pn ∧ pn ≤ 4) (hp : 0 ≤ pp ∧ pp < pn) (hrt : rtOK rP rS rD rQ) : gMi l yX6_signOfAt wsX6_signOfAt ({ frames := 3, cells := 0, slots := 0, locals := 80 }) D G [.ref h, .int (iI pp)] [oX6 h a ft pn ra rm rP rS rD rQ al rw rc tr, cA G (a 2) 4 kd, cA G (a 3) 12 nu] 0 0 (fun (r : Int32) (w : va_W) => r = (iI (sAt (exT pn kd nu pp 0) (exT pn kd nu pp 1) (exT pn kd nu pp 2) rP rS rD rQ)) ∧ w = [oX6 h a ft pn ra rm rP rS rD rQ al rw rc tr, cA G (a 2) 4 kd, cA G (a 3) 12 nu]) := by
  refine g_start_i (cc := cX6_signOfAt) (nL := 2) (own := RX6) (ret := some .int) (by decide +kernel) rfl rfl (Nat.le_of_ble_eq_true rfl) ?_
  intro p e s m below meth c A ls C hr hnm hw hl
  have hl : lv_has ls 2 [(0, .ref h), (1, .int (iI pp))] := hl
  have hE := exT_B pn kd hnu
  obtain ⟨e0, e1, e2⟩ := hE pp
  have hdb := dsc_b hE pp
  refine g_aload_n C hl 0 rfl rfl dX6_signOfAt_0 ?_
  refine g_aload_n C hl 0 rfl rfl dX6_signOfAt_1 ?_
  refine g_iload_n C hl 1 rfl rfl dX6_signOfAt_2 ?_
  refine g_iconst C dX6_signOfAt_3 ?_
  refine g_callVl C hw (wr := []) (As := [.int (iI pp), .int (iI 0)]) (rest := [.ref h]) (m_X6_is l D G (h := h) (a := a) (ft := ft) (pn := pn) (ra := ra) (rm := rm) (rP := rP) (rS := rS) (rD := rD) (rQ := rQ) (al := al) (rw := rw) (rc := rc) (tr := tr) (kd := kd) (nu := nu) (pp := pp) (kk := 0) (by first | assumption | omega) (by first | assumption | omega) (by first | assumption | omega) (by first | assumption | omega) (by first | assumption | omega)) (cwV 2 C.1.2.2.2.2 gX6_signOfAt_X6_is rfl rfl rfl (by decide +kernel) ⟨Nat.le_of_ble_eq_true rfl, Nat.le_of_ble_eq_true rfl⟩) [0, 1, 2] [] rfl rfl (by decide) (by decide) (by decide) 0 rfl rfl rfl hl.1 _ rfl (Nat.le_of_ble_eq_true rfl) dX6_signOfAt_4 ⟨Nat.le_of_ble_eq_true rfl, Nat.le_of_ble_eq_true rfl⟩ ?_
  clear hw
  rintro _ _ H locs ⟨rfl, rfl⟩ hw
  have hw : gW D A s.heap [oX6 h a ft pn ra rm rP rS rD rQ al rw rc tr, cA G (a 2) 4 kd, cA G (a 3) 12 nu] H locs := hw
  refine g_aload_n C hl 0 rfl rfl dX6_signOfAt_7 ?_
  refine g_iload_n C hl 1 rfl rfl dX6_signOfAt_8 ?_
  refine g_iconst C dX6_signOfAt_9 ?_
  refine g_callVl C hw (wr := []) (As := [.int (iI pp), .int (iI 1)]) (rest := [.long (lI ((exT pn kd nu pp 0))), .ref h]) (m_X6_is l D G (h := h) (a := a) (ft := ft) (pn := pn) (ra := ra) (rm := rm) (rP := rP) (rS := rS) (rD := rD) (rQ := rQ) (al := al) (rw := rw) (rc := rc) (tr := tr) (kd := kd) (nu := nu) (pp := pp) (kk := 1) (by first | assumption | omega) (by first | assumption | omega) (by first | assumption | omega) (by first | assumption | omega) (by first | assumption | omega)) (cwV 2 C.1.2.2.2.2 gX6_signOfAt_X6_is rfl rfl rfl (by decide +kernel) ⟨Nat.le_of_ble_eq_true rfl, Nat.le_of_ble_eq_true rfl⟩) [0, 1, 2] [] rfl rfl (by decide) (by decide) (by decide) 0 rfl rfl rfl hl.1 _ rfl (Nat.le_of_ble_eq_true rfl) dX6_signOfAt_10 ⟨Nat.le_of_ble_eq_true rfl, Nat.le_of_ble_eq_true rfl⟩ ?_
  clear hw
  rintro _ _ H locs ⟨rfl, rfl⟩ hw
  have hw : gW D A s.heap [oX6 h a ft pn ra rm rP rS rD rQ al rw rc tr, cA G (a 2) 4 kd, cA G (a 3) 12 nu] H locs := hw
  refine g_aload_n C hl 0 rfl rfl dX6_signOfAt_13 ?_
  refine g_iload_n C hl 1 rfl rfl dX6_signOfAt_14 ?_
  refine g_iconst C dX6_signOfAt_15 ?_
  refine g_callVl C hw (wr := []) (As := [.int (iI pp), .int (iI 2)]) (rest := [.long (lI ((exT pn kd nu pp 1))), .long (lI ((exT pn kd nu pp 0))), .ref h]) (m_X6_is l D G (h := h) (a := a) (ft := ft) (pn := pn) (ra := ra) (rm := rm) (rP := rP) (rS := rS) (rD := rD) (rQ := rQ) (al := al) (rw := rw) (rc := rc) (tr := tr) (kd := kd) (nu := nu) (pp := pp) (kk := 2) (by first | assumption | omega) (by first | assumption | omega) (by first | assumption | omega) (by first | assumption | omega) (by first | assumption | omega)) (cwV 2 C.1.2.2.2.2 gX6_signOfAt_X6_is rfl rfl rfl (by decide +kernel) ⟨Nat.le_of_ble_eq_true rfl, Nat.le_of_ble_eq_true rfl⟩) [0, 1, 2] [] rfl rfl (by decide) (by decide) (by decide) 0 rfl rfl rfl hl.1 _ rfl (Nat.le_of_ble_eq_true rfl) dX6_signOfAt_16 ⟨Nat.le_of_ble_eq_true rfl, Nat.le_of_ble_eq_true rfl⟩ ?_
  clear hw
  rintro _ _ H locs ⟨rfl, rfl⟩ hw
  have hw : gW D A s.heap [oX6 h a ft pn ra rm rP rS rD rQ al rw rc tr, cA G (a 2) 4 kd, cA G (a 3) 12 nu] H locs := hw
  refine g_callVi C hw (wr := [cA G (a 2) 4 kd, cA G (a 3) 12 nu]) (As := [.long (lI ((exT pn kd nu pp 0))), .long (lI ((exT pn kd nu pp 1))), .long (lI ((exT pn kd nu pp 2)))]) (rest := []) (m_X6_signHere l D G (h := h) (a := a) (ft := ft) (pn := pn) (ra := ra) (rm := rm) (rP := rP) (rS := rS) (rD := rD) (rQ := rQ) (al := al) (rw := rw) (rc := rc) (tr := tr) (cc0 := (exT pn kd nu pp 0)) (bb := (exT pn kd nu pp 1)) (aa := (exT pn kd nu pp 2)) (by first | assumption | omega) (by first | assumption | omega) (by first | assumption | omega) (by first | assumption | omega)) (cwV 3 C.1.2.2.2.2 gX6_signOfAt_X6_signHere rfl rfl rfl (by decide +kernel) ⟨Nat.le_of_ble_eq_true rfl, Nat.le_of_ble_eq_true rfl⟩) [0] [1, 2] rfl rfl (by decide) (by decide) (by decide) 0 rfl rfl rfl hl.1 _ rfl (Nat.le_of_ble_eq_true rfl) dX6_signOfAt_19 ⟨Nat.le_of_ble_eq_true rfl, Nat.le_of_ble_eq_true rfl⟩ ?_
  clear hw
  rintro _ _ H locs ⟨rfl, rfl⟩ hw
  have hw : gW D A s.heap [cA G (a 2) 4 kd, cA G (a 3) 12 nu, oX6 h a ft pn ra rm rP rS rD rQ al rw rc tr] H locs := hw
  exact g_iret C hr (ws' := [oX6 h a ft pn ra rm rP rS rD rQ al rw rc tr, cA G (a 2) 4 kd, cA G (a 3) 12 nu]) hw [2, 0, 1] (by decide) rfl ⟨(congrArg iI (by first | rfl | omega | (simp only [bI]; (repeat' split) <;> omega) | (simp_all [bI]; done) | (simp_all [bI]; omega))), rfl⟩ dX6_signOfAt_22

set_option maxRecDepth 20000 in
theorem hin_X6_compares_X6 : ∀ w ∈ u_ws RX6 TX6 30, w ∈ wsX6_compares := by
  intro w h
  exact List.mem_cons_of_mem _ (List.mem_append_right _ (h))
set_option maxRecDepth 20000 in
theorem lk_X6_compares_143 : Cond.fieldLink RX6 143 (TX6 8).1 (TX6 8).2.1 (TX6 8).2.2.1 ∈ wsX6_compares := List.mem_cons_of_mem _ (List.mem_append_left _ (List.mem_of_getElem? (i := 0) rfl))
set_option maxRecDepth 20000 in
theorem lk_X6_compares_32 : Cond.fieldLink RX6 32 (TX6 16).1 (TX6 16).2.1 (TX6 16).2.2.1 ∈ wsX6_compares := List.mem_cons_of_mem _ (List.mem_append_left _ (List.mem_of_getElem? (i := 1) rfl))
set_option maxRecDepth 20000 in
theorem lk_X6_compares_22 : Cond.fieldLink RX6 22 (TX6 13).1 (TX6 13).2.1 (TX6 13).2.2.1 ∈ wsX6_compares := List.mem_cons_of_mem _ (List.mem_append_left _ (List.mem_of_getElem? (i := 2) rfl))
set_option maxRecDepth 20000 in
theorem lk_X6_compares_147 : Cond.fieldLink RX6 147 (TX6 11).1 (TX6 11).2.1 (TX6 11).2.2.1 ∈ wsX6_compares := List.mem_cons_of_mem _ (List.mem_append_left _ (List.mem_of_getElem? (i := 3) rfl))
set_option maxRecDepth 20000 in
theorem lk_X6_compares_150 : Cond.fieldLink RX6 150 (TX6 9).1 (TX6 9).2.1 (TX6 9).2.2.1 ∈ wsX6_compares := List.mem_cons_of_mem _ (List.mem_append_left _ (List.mem_of_getElem? (i := 4) rfl))
set_option maxRecDepth 20000 in
theorem lk_X6_compares_26 : Cond.fieldLink RX6 26 (TX6 14).1 (TX6 14).2.1 (TX6 14).2.2.1 ∈ wsX6_compares := List.mem_cons_of_mem _ (List.mem_append_left _ (List.mem_of_getElem? (i := 5) rfl))
set_option maxRecDepth 20000 in
theorem lk_X6_compares_153 : Cond.fieldLink RX6 153 (TX6 10).1 (TX6 10).2.1 (TX6 10).2.2.1 ∈ wsX6_compares := List.mem_cons_of_mem _ (List.mem_append_left _ (List.mem_of_getElem? (i := 6) rfl))
set_option maxRecDepth 20000 in
theorem lk_X6_compares_29 : Cond.fieldLink RX6 29 (TX6 15).1 (TX6 15).2.1 (TX6 15).2.2.1 ∈ wsX6_compares := List.mem_cons_of_mem _ (List.mem_append_left _ (List.mem_of_getElem? (i := 7) rfl))
set_option maxRecDepth 20000 in
theorem cn_X6_compares_117 : Jvm.Cond.constantLong RX6 117 (2) ∈ wsX6_compares := List.mem_cons_of_mem _ (List.mem_append_left _ (List.mem_of_getElem? (i := 8) rfl))
set_option maxRecDepth 100000 in
set_option maxHeartbeats 8000000 in
theorem m_X6_compares (l : Launch) (D : va_G) (G : gT) (h : Nat) (a : Nat → Nat) (ft : Int) (pn : Int) (ra : Int) (rm : Int) (rP : Int) (rS : Int) (rD : Int) (rQ : Int) (al : Int) (rw : Int) (rc : Int) (tr : Int) (vP : Int → Int) (vS : Int → Int) (vD : Int → Int) (vQ : Int → Int) (kk : Int) (hk : 0 ≤ kk ∧ kk < 8) (hr1 : rtOK rP rS rD rQ) (hr2 : rtOK (vP kk) (vS kk) (vD kk) (vQ kk)) : gMi l yX6_compares wsX6_compares ({ frames := 2, cells := 0, slots := 0, locals := 50 }) D G [.ref h, .int (iI kk)] [oX6 h a ft pn ra rm rP rS rD rQ al rw rc tr, cJ G (a 13) 8 vP, cJ G (a 14) 8 vS, cJ G (a 15) 8 vD, cJ G (a 16) 8 vQ] 0 0 (fun (r : Int32) (w : va_W) => r = (iI (cmF rP rS rD rQ (vP kk) (vS kk) (vD kk) (vQ kk))) ∧ w = [oX6 h a ft pn ra rm rP rS rD rQ al rw rc tr, cJ G (a 13) 8 vP, cJ G (a 14) 8 vS, cJ G (a 15) 8 vD, cJ G (a 16) 8 vQ]) := by
  refine g_start_i (cc := cX6_compares) (nL := 11) (own := RX6) (ret := some .int) (by decide +kernel) rfl rfl (Nat.le_of_ble_eq_true rfl) ?_
  intro p e s m below meth c A ls C hr hnm hw hl
  have hl : lv_has ls 11 [(0, .ref h), (1, .int (iI kk))] := hl
  obtain ⟨q1, q2, q3, q4, q5⟩ := cmF_rg hr1 hr2
  obtain ⟨gP, gS, gD, gQ, gz⟩ := id hr1
  obtain ⟨uP, uS, uD, uQ, uz⟩ := id hr2
  have s1 := sg2_r (rP * vQ kk - vP kk * rQ) (rS * vQ kk) rD
  have s2 := sg_r (vS kk * rQ)
  have s3 := sg2_r ((rP * vQ kk - vP kk * rQ) * (rP * vQ kk - vP kk * rQ) + rS * vQ kk * (rS * vQ kk) * rD - vS kk * rQ * (vS kk * rQ) * vD kk) (2 * (rP * vQ kk - vP kk * rQ) * (rS * vQ kk)) rD
  refine g_aload_n C hl 0 rfl rfl dX6_compares_0 ?_
  refine g_get C hw hin_X6_compares_X6 0 rfl rfl 8 (by decide) lk_X6_compares_143 rfl dX6_compares_1 ?_
  refine g_aload_n C hl 0 rfl rfl dX6_compares_4 ?_
  refine g_get C hw hin_X6_compares_X6 0 rfl rfl 16 (by decide) lk_X6_compares_32 rfl dX6_compares_5 ?_
  refine g_iload_n C hl 1 rfl rfl dX6_compares_8 ?_
  refine g_lald C hw 4 rfl (by omega) (Nat.le_of_ble_eq_true rfl) dX6_compares_9 ?_
  refine g_lmul C dX6_compares_10 ?_
  refine g_aload_n C hl 0 rfl rfl dX6_compares_11 ?_
  refine g_get C hw hin_X6_compares_X6 0 rfl rfl 13 (by decide) lk_X6_compares_22 rfl dX6_compares_12 ?_
  refine g_iload_n C hl 1 rfl rfl dX6_compares_15 ?_
  refine g_lald C hw 1 rfl (by omega) (Nat.le_of_ble_eq_true rfl) dX6_compares_16 ?_
  refine g_aload_n C hl 0 rfl rfl dX6_compares_17 ?_
  refine g_get C hw hin_X6_compares_X6 0 rfl rfl 11 (by decide) lk_X6_compares_147 rfl dX6_compares_18 ?_
  refine g_lmul C dX6_compares_21 ?_
  refine g_lsub C dX6_compares_22 ?_
  refine g_lstore_n C [(2, .long (lI ((rP * (vQ kk)) - ((vP kk) * rQ)))), (0, .ref h), (1, .int (iI kk))] dX6_compares_23 rfl hl (by decide) rfl ?_
  clear hl
  intro ls hl
  refine g_aload_n C hl 1 rfl rfl dX6_compares_24 ?_
  refine g_get C hw hin_X6_compares_X6 0 rfl rfl 9 (by decide) lk_X6_compares_150 rfl dX6_compares_25 ?_
  refine g_aload_n C hl 1 rfl rfl dX6_compares_28 ?_
  refine g_get C hw hin_X6_compares_X6 0 rfl rfl 16 (by decide) lk_X6_compares_32 rfl dX6_compares_29 ?_
  refine g_iload_n C hl 2 rfl rfl dX6_compares_32 ?_
  refine g_lald C hw 4 rfl (by omega) (Nat.le_of_ble_eq_true rfl) dX6_compares_33 ?_
  refine g_lmul C dX6_compares_34 ?_
  refine g_lstore C [(4, .long (lI (rS * (vQ kk)))), (2, .long (lI ((rP * (vQ kk)) - ((vP kk) * rQ)))), (0, .ref h), (1, .int (iI kk))] dX6_compares_35 hl (by decide) rfl ?_
  clear hl
  intro ls hl
  refine g_aload_n C hl 2 rfl rfl dX6_compares_37 ?_
  refine g_get C hw hin_X6_compares_X6 0 rfl rfl 14 (by decide) lk_X6_compares_26 rfl dX6_compares_38 ?_
  refine g_iload_n C hl 3 rfl rfl dX6_compares_41 ?_
  refine g_lald C hw 2 rfl (by omega) (Nat.le_of_ble_eq_true rfl) dX6_compares_42 ?_
  refine g_aload_n C hl 2 rfl rfl dX6_compares_43 ?_
  refine g_get C hw hin_X6_compares_X6 0 rfl rfl 11 (by decide) lk_X6_compares_147 rfl dX6_compares_44 ?_
  refine g_lmul C dX6_compares_47 ?_
  refine g_lstore C [(6, .long (lI ((vS kk) * rQ))), (4, .long (lI (rS * (vQ kk)))), (2, .long (lI ((rP * (vQ kk)) - ((vP kk) * rQ)))), (0, .ref h), (1, .int (iI kk))] dX6_compares_48 hl (by decide) rfl ?_
  clear hl
  intro ls hl
  refine g_lload_n C hl 2 rfl rfl dX6_compares_50 ?_
  refine g_lload C hl 1 rfl dX6_compares_51 ?_
  refine g_aload_n C hl 3 rfl rfl dX6_compares_53 ?_
  refine g_get C hw hin_X6_compares_X6 0 rfl rfl 10 (by decide) lk_X6_compares_153 rfl dX6_compares_54 ?_
  refine g_callSi C hw (wr := [oX6 h a ft pn ra rm rP rS rD rQ al rw rc tr, cJ G (a 13) 8 vP, cJ G (a 14) 8 vS, cJ G (a 15) 8 vD, cJ G (a 16) 8 vQ]) (As := [.long (lI ((rP * (vQ kk)) - ((vP kk) * rQ))), .long (lI (rS * (vQ kk))), .long (lI (rD))]) (rest := []) (m_X6_signOfTwo l D G (uu := ((rP * (vQ kk)) - ((vP kk) * rQ))) (vv := (rS * (vQ kk))) (dd := rD) (by first | assumption | omega) (by first | assumption | omega) (by first | assumption | omega)) (va_cwS 3 C.1.2.2.2.2 gX6_compares_X6_signOfTwo rfl rfl rfl (by decide +kernel) ⟨Nat.le_of_ble_eq_true rfl, Nat.le_of_ble_eq_true rfl⟩) [] [0, 1, 2, 3, 4] rfl rfl (by decide) (by decide) (by decide) rfl hl.1 _ rfl (Nat.le_of_ble_eq_true rfl) dX6_compares_57 ⟨Nat.le_of_ble_eq_true rfl, Nat.le_of_ble_eq_true rfl⟩ ?_
  clear hw
  rintro _ _ H locs ⟨rfl, rfl⟩ hw
  have hw : gW D A s.heap [oX6 h a ft pn ra rm rP rS rD rQ al rw rc tr, cJ G (a 13) 8 vP, cJ G (a 14) 8 vS, cJ G (a 15) 8 vD, cJ G (a 16) 8 vQ] H locs := hw
  refine g_istore C [(8, .int (iI ((sg2 ((rP * (vQ kk)) - ((vP kk) * rQ)) (rS * (vQ kk)) rD)))), (6, .long (lI ((vS kk) * rQ))), (4, .long (lI (rS * (vQ kk)))), (2, .long (lI ((rP * (vQ kk)) - ((vP kk) * rQ)))), (0, .ref h), (1, .int (iI kk))] dX6_compares_60 hl (by decide) rfl ?_
  clear hl
  intro ls hl
  refine g_aload_n C hl 4 rfl rfl dX6_compares_62 ?_
  refine g_get C hw hin_X6_compares_X6 0 rfl rfl 15 (by decide) lk_X6_compares_29 rfl dX6_compares_63 ?_
  refine g_iload_n C hl 5 rfl rfl dX6_compares_66 ?_
  refine g_lald C hw 3 rfl (by omega) (Nat.le_of_ble_eq_true rfl) dX6_compares_67 ?_
  refine g_lconst0 C dX6_compares_68 ?_
  refine g_lcmp_ne C 77 dX6_compares_69 dX6_compares_70 (by decide) (by omega) (by omega) (fun c_1 => ?_) (fun c_1 => ?_)
  · skip
    refine g_lload C hl 1 rfl dX6_compares_77 ?_
    refine g_callSi C hw (wr := [oX6 h a ft pn ra rm rP rS rD rQ al rw rc tr, cJ G (a 13) 8 vP, cJ G (a 14) 8 vS, cJ G (a 15) 8 vD, cJ G (a 16) 8 vQ]) (As := [.long (lI ((vS kk) * rQ))]) (rest := []) (m_X6_signOf l D G (va := ((vS kk) * rQ)) (by first | assumption | omega)) (va_cwS 1 C.1.2.2.2.2 gX6_compares_X6_signOf rfl rfl rfl (by decide +kernel) ⟨Nat.le_of_ble_eq_true rfl, Nat.le_of_ble_eq_true rfl⟩) [] [0, 1, 2, 3, 4] rfl rfl (by decide) (by decide) (by decide) rfl hl.1 _ rfl (Nat.le_of_ble_eq_true rfl) dX6_compares_79 ⟨Nat.le_of_ble_eq_true rfl, Nat.le_of_ble_eq_true rfl⟩ ?_
    clear hw
    rintro _ _ H locs ⟨rfl, rfl⟩ hw
    have hw : gW D A s.heap [oX6 h a ft pn ra rm rP rS rD rQ al rw rc tr, cJ G (a 13) 8 vP, cJ G (a 14) 8 vS, cJ G (a 15) 8 vD, cJ G (a 16) 8 vQ] H locs := hw
    refine g_istore C [(9, .int (iI ((sg ((vS kk) * rQ))))), (8, .int (iI ((sg2 ((rP * (vQ kk)) - ((vP kk) * rQ)) (rS * (vQ kk)) rD)))), (6, .long (lI ((vS kk) * rQ))), (4, .long (lI (rS * (vQ kk)))), (2, .long (lI ((rP * (vQ kk)) - ((vP kk) * rQ)))), (0, .ref h), (1, .int (iI kk))] dX6_compares_82 hl (by decide) rfl ?_
    clear hl
    intro ls hl
    refine g_iload C hl 1 rfl dX6_compares_84 ?_
    refine g_iload C hl 0 rfl dX6_compares_86 ?_
    refine g_icmp_eq C 104 dX6_compares_88 (by decide) (by omega) (by omega) (fun c_2 => ?_) (fun c_2 => ?_)
    · skip
      refine g_lload_n C hl 4 rfl rfl dX6_compares_104 ?_
      refine g_lload_n C hl 4 rfl rfl dX6_compares_105 ?_
      refine g_lmul C dX6_compares_106 ?_
      refine g_lload C hl 3 rfl dX6_compares_107 ?_
      refine g_lload C hl 3 rfl dX6_compares_109 ?_
      refine g_lmul C dX6_compares_111 ?_
      refine g_aload_n C hl 5 rfl rfl dX6_compares_112 ?_
      refine g_get C hw hin_X6_compares_X6 0 rfl rfl 10 (by decide) lk_X6_compares_153 rfl dX6_compares_113 ?_
      refine g_lmul C dX6_compares_116 ?_
      refine g_ladd C dX6_compares_117 ?_
      refine g_lload C hl 2 rfl dX6_compares_118 ?_
      refine g_lload C hl 2 rfl dX6_compares_120 ?_
      refine g_lmul C dX6_compares_122 ?_
      refine g_aload_n C hl 5 rfl rfl dX6_compares_123 ?_
      refine g_get C hw hin_X6_compares_X6 0 rfl rfl 15 (by decide) lk_X6_compares_29 rfl dX6_compares_124 ?_
      refine g_iload_n C hl 6 rfl rfl dX6_compares_127 ?_
      refine g_lald C hw 3 rfl (by omega) (Nat.le_of_ble_eq_true rfl) dX6_compares_128 ?_
      refine g_lmul C dX6_compares_129 ?_
      refine g_lsub C dX6_compares_130 ?_
      refine g_ldc2 C (2) cn_X6_compares_117 (by decide +kernel) dX6_compares_131 ?_
      refine g_lload_n C hl 4 rfl rfl dX6_compares_134 ?_
      refine g_lmul C dX6_compares_135 ?_
      refine g_lload C hl 3 rfl dX6_compares_136 ?_
      refine g_lmul C dX6_compares_138 ?_
      refine g_aload_n C hl 5 rfl rfl dX6_compares_139 ?_
      refine g_get C hw hin_X6_compares_X6 0 rfl rfl 10 (by decide) lk_X6_compares_153 rfl dX6_compares_140 ?_
      refine g_callSi C hw (wr := [oX6 h a ft pn ra rm rP rS rD rQ al rw rc tr, cJ G (a 13) 8 vP, cJ G (a 14) 8 vS, cJ G (a 15) 8 vD, cJ G (a 16) 8 vQ]) (As := [.long (lI (((((rP * (vQ kk)) - ((vP kk) * rQ)) * ((rP * (vQ kk)) - ((vP kk) * rQ))) + (((rS * (vQ kk)) * (rS * (vQ kk))) * rD)) - ((((vS kk) * rQ) * ((vS kk) * rQ)) * (vD kk)))), .long (lI ((2 * ((rP * (vQ kk)) - ((vP kk) * rQ))) * (rS * (vQ kk)))), .long (lI (rD))]) (rest := []) (m_X6_signOfTwo l D G (uu := (((((rP * (vQ kk)) - ((vP kk) * rQ)) * ((rP * (vQ kk)) - ((vP kk) * rQ))) + (((rS * (vQ kk)) * (rS * (vQ kk))) * rD)) - ((((vS kk) * rQ) * ((vS kk) * rQ)) * (vD kk)))) (vv := ((2 * ((rP * (vQ kk)) - ((vP kk) * rQ))) * (rS * (vQ kk)))) (dd := rD) (by first | assumption | omega) (by first | assumption | omega) (by first | assumption | omega)) (va_cwS 3 C.1.2.2.2.2 gX6_compares_X6_signOfTwo rfl rfl rfl (by decide +kernel) ⟨Nat.le_of_ble_eq_true rfl, Nat.le_of_ble_eq_true rfl⟩) [] [0, 1, 2, 3, 4] rfl rfl (by decide) (by decide) (by decide) rfl hl.1 _ rfl (Nat.le_of_ble_eq_true rfl) dX6_compares_143 ⟨Nat.le_of_ble_eq_true rfl, Nat.le_of_ble_eq_true rfl⟩ ?_
      clear hw
      rintro _ _ H locs ⟨rfl, rfl⟩ hw
      have hw : gW D A s.heap [oX6 h a ft pn ra rm rP rS rD rQ al rw rc tr, cJ G (a 13) 8 vP, cJ G (a 14) 8 vS, cJ G (a 15) 8 vD, cJ G (a 16) 8 vQ] H locs := hw
      refine g_istore C [(10, .int (iI ((sg2 (((((rP * (vQ kk)) - ((vP kk) * rQ)) * ((rP * (vQ kk)) - ((vP kk) * rQ))) + (((rS * (vQ kk)) * (rS * (vQ kk))) * rD)) - ((((vS kk) * rQ) * ((vS kk) * rQ)) * (vD kk))) ((2 * ((rP * (vQ kk)) - ((vP kk) * rQ))) * (rS * (vQ kk))) rD)))), (9, .int (iI ((sg ((vS kk) * rQ))))), (8, .int (iI ((sg2 ((rP * (vQ kk)) - ((vP kk) * rQ)) (rS * (vQ kk)) rD)))), (6, .long (lI ((vS kk) * rQ))), (4, .long (lI (rS * (vQ kk)))), (2, .long (lI ((rP * (vQ kk)) - ((vP kk) * rQ)))), (0, .ref h), (1, .int (iI kk))] dX6_compares_146 hl (by decide) rfl ?_
      clear hl
      intro ls hl
      refine g_iload C hl 2 rfl dX6_compares_148 ?_
      refine g_if_ge C 159 dX6_compares_150 (by decide) (by omega) (fun c_3 => ?_) (fun c_3 => ?_)
      · skip
        refine g_iload C hl 0 rfl dX6_compares_159 ?_
        exact g_iret C hr (ws' := [oX6 h a ft pn ra rm rP rS rD rQ al rw rc tr, cJ G (a 13) 8 vP, cJ G (a 14) 8 vS, cJ G (a 15) 8 vD, cJ G (a 16) 8 vQ]) hw [0, 1, 2, 3, 4] (by decide) rfl ⟨(congrArg iI (by unfold cmF cm1 cm2 cm3; (repeat' split) <;> omega)), rfl⟩ dX6_compares_161
      · skip
        refine g_iload C hl 0 rfl dX6_compares_153 ?_
        refine g_ineg C dX6_compares_155 ?_
        refine g_goto C 161 dX6_compares_156 (by decide) ?_
        exact g_iret C hr (ws' := [oX6 h a ft pn ra rm rP rS rD rQ al rw rc tr, cJ G (a 13) 8 vP, cJ G (a 14) 8 vS, cJ G (a 15) 8 vD, cJ G (a 16) 8 vQ]) hw [0, 1, 2, 3, 4] (by decide) rfl ⟨(congrArg iI (by unfold cmF cm1 cm2 cm3; (repeat' split) <;> omega)), rfl⟩ dX6_compares_161
    · skip
      refine g_iload C hl 1 rfl dX6_compares_91 ?_
      refine g_iload C hl 0 rfl dX6_compares_93 ?_
      refine g_icmp_ge C 102 dX6_compares_95 (by decide) (by omega) (by omega) (fun c_4 => ?_) (fun c_4 => ?_)
      · skip
        refine g_iconst C dX6_compares_102 ?_
        exact g_iret C hr (ws' := [oX6 h a ft pn ra rm rP rS rD rQ al rw rc tr, cJ G (a 13) 8 vP, cJ G (a 14) 8 vS, cJ G (a 15) 8 vD, cJ G (a 16) 8 vQ]) hw [0, 1, 2, 3, 4] (by decide) rfl ⟨(congrArg iI (by unfold cmF cm1 cm2 cm3; (repeat' split) <;> omega)), rfl⟩ dX6_compares_103
      · skip
        refine g_iconst C dX6_compares_98 ?_
        refine g_goto C 103 dX6_compares_99 (by decide) ?_
        exact g_iret C hr (ws' := [oX6 h a ft pn ra rm rP rS rD rQ al rw rc tr, cJ G (a 13) 8 vP, cJ G (a 14) 8 vS, cJ G (a 15) 8 vD, cJ G (a 16) 8 vQ]) hw [0, 1, 2, 3, 4] (by decide) rfl ⟨(congrArg iI (by unfold cmF cm1 cm2 cm3; (repeat' split) <;> omega)), rfl⟩ dX6_compares_103
  · skip
    refine g_iconst C dX6_compares_73 ?_
    refine g_goto C 82 dX6_compares_74 (by decide) ?_
    refine g_istore C [(9, .int (iI 0)), (8, .int (iI ((sg2 ((rP * (vQ kk)) - ((vP kk) * rQ)) (rS * (vQ kk)) rD)))), (6, .long (lI ((vS kk) * rQ))), (4, .long (lI (rS * (vQ kk)))), (2, .long (lI ((rP * (vQ kk)) - ((vP kk) * rQ)))), (0, .ref h), (1, .int (iI kk))] dX6_compares_82 hl (by decide) rfl ?_
    clear hl
    intro ls hl
    refine g_iload C hl 1 rfl dX6_compares_84 ?_
    refine g_iload C hl 0 rfl dX6_compares_86 ?_
    refine g_icmp_eq C 104 dX6_compares_88 (by decide) (by omega) (by omega) (fun c_5 => ?_) (fun c_5 => ?_)
    · skip
      refine g_lload_n C hl 4 rfl rfl dX6_compares_104 ?_
      refine g_lload_n C hl 4 rfl rfl dX6_compares_105 ?_
      refine g_lmul C dX6_compares_106 ?_
      refine g_lload C hl 3 rfl dX6_compares_107 ?_
      refine g_lload C hl 3 rfl dX6_compares_109 ?_
      refine g_lmul C dX6_compares_111 ?_
      refine g_aload_n C hl 5 rfl rfl dX6_compares_112 ?_
      refine g_get C hw hin_X6_compares_X6 0 rfl rfl 10 (by decide) lk_X6_compares_153 rfl dX6_compares_113 ?_
      refine g_lmul C dX6_compares_116 ?_
      refine g_ladd C dX6_compares_117 ?_
      refine g_lload C hl 2 rfl dX6_compares_118 ?_
      refine g_lload C hl 2 rfl dX6_compares_120 ?_
      refine g_lmul C dX6_compares_122 ?_
      refine g_aload_n C hl 5 rfl rfl dX6_compares_123 ?_
      refine g_get C hw hin_X6_compares_X6 0 rfl rfl 15 (by decide) lk_X6_compares_29 rfl dX6_compares_124 ?_
      refine g_iload_n C hl 6 rfl rfl dX6_compares_127 ?_
      refine g_lald C hw 3 rfl (by omega) (Nat.le_of_ble_eq_true rfl) dX6_compares_128 ?_
      refine g_lmul C dX6_compares_129 ?_
      refine g_lsub C dX6_compares_130 ?_
      refine g_ldc2 C (2) cn_X6_compares_117 (by decide +kernel) dX6_compares_131 ?_
      refine g_lload_n C hl 4 rfl rfl dX6_compares_134 ?_
      refine g_lmul C dX6_compares_135 ?_
      refine g_lload C hl 3 rfl dX6_compares_136 ?_
      refine g_lmul C dX6_compares_138 ?_
      refine g_aload_n C hl 5 rfl rfl dX6_compares_139 ?_
      refine g_get C hw hin_X6_compares_X6 0 rfl rfl 10 (by decide) lk_X6_compares_153 rfl dX6_compares_140 ?_
      refine g_callSi C hw (wr := [oX6 h a ft pn ra rm rP rS rD rQ al rw rc tr, cJ G (a 13) 8 vP, cJ G (a 14) 8 vS, cJ G (a 15) 8 vD, cJ G (a 16) 8 vQ]) (As := [.long (lI (((((rP * (vQ kk)) - ((vP kk) * rQ)) * ((rP * (vQ kk)) - ((vP kk) * rQ))) + (((rS * (vQ kk)) * (rS * (vQ kk))) * rD)) - ((((vS kk) * rQ) * ((vS kk) * rQ)) * (vD kk)))), .long (lI ((2 * ((rP * (vQ kk)) - ((vP kk) * rQ))) * (rS * (vQ kk)))), .long (lI (rD))]) (rest := []) (m_X6_signOfTwo l D G (uu := (((((rP * (vQ kk)) - ((vP kk) * rQ)) * ((rP * (vQ kk)) - ((vP kk) * rQ))) + (((rS * (vQ kk)) * (rS * (vQ kk))) * rD)) - ((((vS kk) * rQ) * ((vS kk) * rQ)) * (vD kk)))) (vv := ((2 * ((rP * (vQ kk)) - ((vP kk) * rQ))) * (rS * (vQ kk)))) (dd := rD) (by first | assumption | omega) (by first | assumption | omega) (by first | assumption | omega)) (va_cwS 3 C.1.2.2.2.2 gX6_compares_X6_signOfTwo rfl rfl rfl (by decide +kernel) ⟨Nat.le_of_ble_eq_true rfl, Nat.le_of_ble_eq_true rfl⟩) [] [0, 1, 2, 3, 4] rfl rfl (by decide) (by decide) (by decide) rfl hl.1 _ rfl (Nat.le_of_ble_eq_true rfl) dX6_compares_143 ⟨Nat.le_of_ble_eq_true rfl, Nat.le_of_ble_eq_true rfl⟩ ?_
      clear hw
      rintro _ _ H locs ⟨rfl, rfl⟩ hw
      have hw : gW D A s.heap [oX6 h a ft pn ra rm rP rS rD rQ al rw rc tr, cJ G (a 13) 8 vP, cJ G (a 14) 8 vS, cJ G (a 15) 8 vD, cJ G (a 16) 8 vQ] H locs := hw
      refine g_istore C [(10, .int (iI ((sg2 (((((rP * (vQ kk)) - ((vP kk) * rQ)) * ((rP * (vQ kk)) - ((vP kk) * rQ))) + (((rS * (vQ kk)) * (rS * (vQ kk))) * rD)) - ((((vS kk) * rQ) * ((vS kk) * rQ)) * (vD kk))) ((2 * ((rP * (vQ kk)) - ((vP kk) * rQ))) * (rS * (vQ kk))) rD)))), (9, .int (iI 0)), (8, .int (iI ((sg2 ((rP * (vQ kk)) - ((vP kk) * rQ)) (rS * (vQ kk)) rD)))), (6, .long (lI ((vS kk) * rQ))), (4, .long (lI (rS * (vQ kk)))), (2, .long (lI ((rP * (vQ kk)) - ((vP kk) * rQ)))), (0, .ref h), (1, .int (iI kk))] dX6_compares_146 hl (by decide) rfl ?_
      clear hl
      intro ls hl
      refine g_iload C hl 2 rfl dX6_compares_148 ?_
      refine g_if_ge C 159 dX6_compares_150 (by decide) (by omega) (fun c_6 => ?_) (fun c_6 => ?_)
      · skip
        refine g_iload C hl 0 rfl dX6_compares_159 ?_
        exact g_iret C hr (ws' := [oX6 h a ft pn ra rm rP rS rD rQ al rw rc tr, cJ G (a 13) 8 vP, cJ G (a 14) 8 vS, cJ G (a 15) 8 vD, cJ G (a 16) 8 vQ]) hw [0, 1, 2, 3, 4] (by decide) rfl ⟨(congrArg iI (by unfold cmF cm1 cm2 cm3; (repeat' split) <;> omega)), rfl⟩ dX6_compares_161
      · skip
        refine g_iload C hl 0 rfl dX6_compares_153 ?_
        refine g_ineg C dX6_compares_155 ?_
        refine g_goto C 161 dX6_compares_156 (by decide) ?_
        exact g_iret C hr (ws' := [oX6 h a ft pn ra rm rP rS rD rQ al rw rc tr, cJ G (a 13) 8 vP, cJ G (a 14) 8 vS, cJ G (a 15) 8 vD, cJ G (a 16) 8 vQ]) hw [0, 1, 2, 3, 4] (by decide) rfl ⟨(congrArg iI (by unfold cmF cm1 cm2 cm3; (repeat' split) <;> omega)), rfl⟩ dX6_compares_161
    · skip
      refine g_iload C hl 1 rfl dX6_compares_91 ?_
      refine g_iload C hl 0 rfl dX6_compares_93 ?_
      refine g_icmp_ge C 102 dX6_compares_95 (by decide) (by omega) (by omega) (fun c_7 => ?_) (fun c_7 => ?_)
      · skip
        refine g_iconst C dX6_compares_102 ?_
        exact g_iret C hr (ws' := [oX6 h a ft pn ra rm rP rS rD rQ al rw rc tr, cJ G (a 13) 8 vP, cJ G (a 14) 8 vS, cJ G (a 15) 8 vD, cJ G (a 16) 8 vQ]) hw [0, 1, 2, 3, 4] (by decide) rfl ⟨(congrArg iI (by unfold cmF cm1 cm2 cm3; (repeat' split) <;> omega)), rfl⟩ dX6_compares_103
      · skip
        refine g_iconst C dX6_compares_98 ?_
        refine g_goto C 103 dX6_compares_99 (by decide) ?_
        exact g_iret C hr (ws' := [oX6 h a ft pn ra rm rP rS rD rQ al rw rc tr, cJ G (a 13) 8 vP, cJ G (a 14) 8 vS, cJ G (a 15) 8 vD, cJ G (a 16) 8 vQ]) hw [0, 1, 2, 3, 4] (by decide) rfl ⟨(congrArg iI (by unfold cmF cm1 cm2 cm3; (repeat' split) <;> omega)), rfl⟩ dX6_compares_103

set_option maxRecDepth 20000 in
theorem hin_X6_takesOf_X6 : ∀ w ∈ u_ws RX6 TX6 30, w ∈ wsX6_takesOf := by
  intro w h
  exact List.mem_cons_of_mem _ (List.mem_append_right _ (h))
set_option maxRecDepth 20000 in
theorem lk_X6_takesOf_22 : Cond.fieldLink RX6 22 (TX6 13).1 (TX6 13).2.1 (TX6 13).2.2.1 ∈ wsX6_takesOf := List.mem_cons_of_mem _ (List.mem_append_left _ (List.mem_of_getElem? (i := 0) rfl))
set_option maxRecDepth 20000 in
theorem lk_X6_takesOf_143 : Cond.fieldLink RX6 143 (TX6 8).1 (TX6 8).2.1 (TX6 8).2.2.1 ∈ wsX6_takesOf := List.mem_cons_of_mem _ (List.mem_append_left _ (List.mem_of_getElem? (i := 1) rfl))
set_option maxRecDepth 20000 in
theorem lk_X6_takesOf_26 : Cond.fieldLink RX6 26 (TX6 14).1 (TX6 14).2.1 (TX6 14).2.2.1 ∈ wsX6_takesOf := List.mem_cons_of_mem _ (List.mem_append_left _ (List.mem_of_getElem? (i := 2) rfl))
set_option maxRecDepth 20000 in
theorem lk_X6_takesOf_150 : Cond.fieldLink RX6 150 (TX6 9).1 (TX6 9).2.1 (TX6 9).2.2.1 ∈ wsX6_takesOf := List.mem_cons_of_mem _ (List.mem_append_left _ (List.mem_of_getElem? (i := 3) rfl))
set_option maxRecDepth 20000 in
theorem lk_X6_takesOf_29 : Cond.fieldLink RX6 29 (TX6 15).1 (TX6 15).2.1 (TX6 15).2.2.1 ∈ wsX6_takesOf := List.mem_cons_of_mem _ (List.mem_append_left _ (List.mem_of_getElem? (i := 4) rfl))
set_option maxRecDepth 20000 in
theorem lk_X6_takesOf_153 : Cond.fieldLink RX6 153 (TX6 10).1 (TX6 10).2.1 (TX6 10).2.2.1 ∈ wsX6_takesOf := List.mem_cons_of_mem _ (List.mem_append_left _ (List.mem_of_getElem? (i := 5) rfl))
set_option maxRecDepth 20000 in
theorem lk_X6_takesOf_32 : Cond.fieldLink RX6 32 (TX6 16).1 (TX6 16).2.1 (TX6 16).2.2.1 ∈ wsX6_takesOf := List.mem_cons_of_mem _ (List.mem_append_left _ (List.mem_of_getElem? (i := 6) rfl))
set_option maxRecDepth 20000 in
theorem lk_X6_takesOf_147 : Cond.fieldLink RX6 147 (TX6 11).1 (TX6 11).2.1 (TX6 11).2.2.1 ∈ wsX6_takesOf := List.mem_cons_of_mem _ (List.mem_append_left _ (List.mem_of_getElem? (i := 7) rfl))
set_option maxRecDepth 100000 in
set_option maxHeartbeats 8000000 in
theorem m_X6_takesOf (l : Launch) (D : va_G) (G : gT) (h : Nat) (a : Nat → Nat) (ft : Int) (pn : Int) (ra : Int) (rm : Int) (rP : Int) (rS : Int) (rD : Int) (rQ : Int) (al : Int) (rw : Int) (rc : Int) (tr : Int) (vP : Int → Int) (vS : Int → Int) (vD : Int → Int) (vQ : Int → Int) (kk : Int) (hk : 0 ≤ kk ∧ kk < 8) : gMv l yX6_takesOf wsX6_takesOf ({ frames := 0, cells := 0, slots := 0, locals := 0 }) D G [.ref h, .int (iI kk)] [oX6 h a ft pn ra rm rP rS rD rQ al rw rc tr, cJ G (a 13) 8 vP, cJ G (a 14) 8 vS, cJ G (a 15) 8 vD, cJ G (a 16) 8 vQ] 0 0 (fun (w : va_W) => w = [oX6 h a ft pn ra rm (vP kk) (vS kk) (vD kk) (vQ kk) al rw rc tr, cJ G (a 13) 8 vP, cJ G (a 14) 8 vS, cJ G (a 15) 8 vD, cJ G (a 16) 8 vQ]) := by
  refine g_start_v (cc := cX6_takesOf) (nL := 2) (own := RX6) (ret := none) (by decide +kernel) rfl rfl (Nat.le_of_ble_eq_true rfl) ?_
  intro p e s m below meth c A ls C hr hnm hw hl
  have hl : lv_has ls 2 [(0, .ref h), (1, .int (iI kk))] := hl
  refine g_aload_n C hl 0 rfl rfl dX6_takesOf_0 ?_
  refine g_aload_n C hl 0 rfl rfl dX6_takesOf_1 ?_
  refine g_get C hw hin_X6_takesOf_X6 0 rfl rfl 13 (by decide) lk_X6_takesOf_22 rfl dX6_takesOf_2 ?_
  refine g_iload_n C hl 1 rfl rfl dX6_takesOf_5 ?_
  refine g_lald C hw 1 rfl (by omega) (Nat.le_of_ble_eq_true rfl) dX6_takesOf_6 ?_
  refine g_put C hw [oX6 h a ft pn ra rm (vP kk) rS rD rQ al rw rc tr, cJ G (a 13) 8 vP, cJ G (a 14) 8 vS, cJ G (a 15) 8 vD, cJ G (a 16) 8 vQ] hin_X6_takesOf_X6 tyX6 tyX6_ok nmX6 0 rfl rfl 8 (by decide) lk_X6_takesOf_143 rfl rfl rfl rfl (Nat.le_of_ble_eq_true rfl) rfl dX6_takesOf_7 ?_
  clear hw
  intro H locs hw
  refine g_aload_n C hl 0 rfl rfl dX6_takesOf_10 ?_
  refine g_aload_n C hl 0 rfl rfl dX6_takesOf_11 ?_
  refine g_get C hw hin_X6_takesOf_X6 0 rfl rfl 14 (by decide) lk_X6_takesOf_26 rfl dX6_takesOf_12 ?_
  refine g_iload_n C hl 1 rfl rfl dX6_takesOf_15 ?_
  refine g_lald C hw 2 rfl (by omega) (Nat.le_of_ble_eq_true rfl) dX6_takesOf_16 ?_
  refine g_put C hw [oX6 h a ft pn ra rm (vP kk) (vS kk) rD rQ al rw rc tr, cJ G (a 13) 8 vP, cJ G (a 14) 8 vS, cJ G (a 15) 8 vD, cJ G (a 16) 8 vQ] hin_X6_takesOf_X6 tyX6 tyX6_ok nmX6 0 rfl rfl 9 (by decide) lk_X6_takesOf_150 rfl rfl rfl rfl (Nat.le_of_ble_eq_true rfl) rfl dX6_takesOf_17 ?_
  clear hw
  intro H locs hw
  refine g_aload_n C hl 0 rfl rfl dX6_takesOf_20 ?_
  refine g_aload_n C hl 0 rfl rfl dX6_takesOf_21 ?_
  refine g_get C hw hin_X6_takesOf_X6 0 rfl rfl 15 (by decide) lk_X6_takesOf_29 rfl dX6_takesOf_22 ?_
  refine g_iload_n C hl 1 rfl rfl dX6_takesOf_25 ?_
  refine g_lald C hw 3 rfl (by omega) (Nat.le_of_ble_eq_true rfl) dX6_takesOf_26 ?_
  refine g_put C hw [oX6 h a ft pn ra rm (vP kk) (vS kk) (vD kk) rQ al rw rc tr, cJ G (a 13) 8 vP, cJ G (a 14) 8 vS, cJ G (a 15) 8 vD, cJ G (a 16) 8 vQ] hin_X6_takesOf_X6 tyX6 tyX6_ok nmX6 0 rfl rfl 10 (by decide) lk_X6_takesOf_153 rfl rfl rfl rfl (Nat.le_of_ble_eq_true rfl) rfl dX6_takesOf_27 ?_
  clear hw
  intro H locs hw
  refine g_aload_n C hl 0 rfl rfl dX6_takesOf_30 ?_
  refine g_aload_n C hl 0 rfl rfl dX6_takesOf_31 ?_
  refine g_get C hw hin_X6_takesOf_X6 0 rfl rfl 16 (by decide) lk_X6_takesOf_32 rfl dX6_takesOf_32 ?_
  refine g_iload_n C hl 1 rfl rfl dX6_takesOf_35 ?_
  refine g_lald C hw 4 rfl (by omega) (Nat.le_of_ble_eq_true rfl) dX6_takesOf_36 ?_
  refine g_put C hw [oX6 h a ft pn ra rm (vP kk) (vS kk) (vD kk) (vQ kk) al rw rc tr, cJ G (a 13) 8 vP, cJ G (a 14) 8 vS, cJ G (a 15) 8 vD, cJ G (a 16) 8 vQ] hin_X6_takesOf_X6 tyX6 tyX6_ok nmX6 0 rfl rfl 11 (by decide) lk_X6_takesOf_147 rfl rfl rfl rfl (Nat.le_of_ble_eq_true rfl) rfl dX6_takesOf_37 ?_
  clear hw
  intro H locs hw
  exact g_vret C hr (ws' := [oX6 h a ft pn ra rm (vP kk) (vS kk) (vD kk) (vQ kk) al rw rc tr, cJ G (a 13) 8 vP, cJ G (a 14) 8 vS, cJ G (a 15) 8 vD, cJ G (a 16) 8 vQ]) hw [0, 1, 2, 3, 4] (by decide) rfl rfl dX6_takesOf_40

set_option maxRecDepth 100000 in
set_option maxHeartbeats 8000000 in
theorem m_X6_isNothing (l : Launch) (D : va_G) (G : gT) (h : Nat) (a : Nat → Nat) (ft : Int) (pn : Int) (ra : Int) (rm : Int) (rP : Int) (rS : Int) (rD : Int) (rQ : Int) (al : Int) (rw : Int) (rc : Int) (tr : Int) (kd : Int → Int) (nu : Int → Int) (pp : Int) (hkd : kdOK kd) (hnu : nuOK nu) (hn : 0 ≤ pn ∧ pn ≤ 4) (hp : 0 ≤ pp ∧ pp < pn) : gMi l yX6_isNothing wsX6_isNothing ({ frames := 1, cells := 0, slots := 0, locals := 29 }) D G [.ref h, .int (iI pp)] [oX6 h a ft pn ra rm rP rS rD rQ al rw rc tr, cA G (a 2) 4 kd, cA G (a 3) 12 nu] 0 0 (fun (r : Int32) (w : va_W) => r = (iI (bI (exT pn kd nu pp 0 = 0 ∧ exT pn kd nu pp 1 = 0 ∧ exT pn kd nu pp 2 = 0))) ∧ w = [oX6 h a ft pn ra rm rP rS rD rQ al rw rc tr, cA G (a 2) 4 kd, cA G (a 3) 12 nu]) := by
  refine g_start_i (cc := cX6_isNothing) (nL := 2) (own := RX6) (ret := some .boolean) (by decide +kernel) rfl rfl (Nat.le_of_ble_eq_true rfl) ?_
  intro p e s m below meth c A ls C hr hnm hw hl
  have hl : lv_has ls 2 [(0, .ref h), (1, .int (iI pp))] := hl
  have hE := exT_B pn kd hnu
  obtain ⟨e0, e1, e2⟩ := hE pp
  have hdb := dsc_b hE pp
  refine g_aload_n C hl 0 rfl rfl dX6_isNothing_0 ?_
  refine g_iload_n C hl 1 rfl rfl dX6_isNothing_1 ?_
  refine g_iconst C dX6_isNothing_2 ?_
  refine g_callVl C hw (wr := []) (As := [.int (iI pp), .int (iI 0)]) (rest := []) (m_X6_is l D G (h := h) (a := a) (ft := ft) (pn := pn) (ra := ra) (rm := rm) (rP := rP) (rS := rS) (rD := rD) (rQ := rQ) (al := al) (rw := rw) (rc := rc) (tr := tr) (kd := kd) (nu := nu) (pp := pp) (kk := 0) (by first | assumption | omega) (by first | assumption | omega) (by first | assumption | omega) (by first | assumption | omega) (by first | assumption | omega)) (cwV 2 C.1.2.2.2.2 gX6_isNothing_X6_is rfl rfl rfl (by decide +kernel) ⟨Nat.le_of_ble_eq_true rfl, Nat.le_of_ble_eq_true rfl⟩) [0, 1, 2] [] rfl rfl (by decide) (by decide) (by decide) 0 rfl rfl rfl hl.1 _ rfl (Nat.le_of_ble_eq_true rfl) dX6_isNothing_3 ⟨Nat.le_of_ble_eq_true rfl, Nat.le_of_ble_eq_true rfl⟩ ?_
  clear hw
  rintro _ _ H locs ⟨rfl, rfl⟩ hw
  have hw : gW D A s.heap [oX6 h a ft pn ra rm rP rS rD rQ al rw rc tr, cA G (a 2) 4 kd, cA G (a 3) 12 nu] H locs := hw
  refine g_lconst0 C dX6_isNothing_6 ?_
  refine g_lcmp_ne C 37 dX6_isNothing_7 dX6_isNothing_8 (by decide) (by omega) (by omega) (fun c_1 => ?_) (fun c_1 => ?_)
  · skip
    refine g_iconst C dX6_isNothing_37 ?_
    exact g_zret C hr (ws' := [oX6 h a ft pn ra rm rP rS rD rQ al rw rc tr, cA G (a 2) 4 kd, cA G (a 3) 12 nu]) hw [0, 1, 2] (by decide) rfl (Or.inl rfl) ⟨(congrArg iI (by first | rfl | omega | (simp only [bI]; (repeat' split) <;> omega) | (simp_all [bI]; done) | (simp_all [bI]; omega))), rfl⟩ dX6_isNothing_38
  · skip
    refine g_aload_n C hl 0 rfl rfl dX6_isNothing_11 ?_
    refine g_iload_n C hl 1 rfl rfl dX6_isNothing_12 ?_
    refine g_iconst C dX6_isNothing_13 ?_
    refine g_callVl C hw (wr := []) (As := [.int (iI pp), .int (iI 1)]) (rest := []) (m_X6_is l D G (h := h) (a := a) (ft := ft) (pn := pn) (ra := ra) (rm := rm) (rP := rP) (rS := rS) (rD := rD) (rQ := rQ) (al := al) (rw := rw) (rc := rc) (tr := tr) (kd := kd) (nu := nu) (pp := pp) (kk := 1) (by first | assumption | omega) (by first | assumption | omega) (by first | assumption | omega) (by first | assumption | omega) (by first | assumption | omega)) (cwV 2 C.1.2.2.2.2 gX6_isNothing_X6_is rfl rfl rfl (by decide +kernel) ⟨Nat.le_of_ble_eq_true rfl, Nat.le_of_ble_eq_true rfl⟩) [0, 1, 2] [] rfl rfl (by decide) (by decide) (by decide) 0 rfl rfl rfl hl.1 _ rfl (Nat.le_of_ble_eq_true rfl) dX6_isNothing_14 ⟨Nat.le_of_ble_eq_true rfl, Nat.le_of_ble_eq_true rfl⟩ ?_
    clear hw
    rintro _ _ H locs ⟨rfl, rfl⟩ hw
    have hw : gW D A s.heap [oX6 h a ft pn ra rm rP rS rD rQ al rw rc tr, cA G (a 2) 4 kd, cA G (a 3) 12 nu] H locs := hw
    refine g_lconst0 C dX6_isNothing_17 ?_
    refine g_lcmp_ne C 37 dX6_isNothing_18 dX6_isNothing_19 (by decide) (by omega) (by omega) (fun c_2 => ?_) (fun c_2 => ?_)
    · skip
      refine g_iconst C dX6_isNothing_37 ?_
      exact g_zret C hr (ws' := [oX6 h a ft pn ra rm rP rS rD rQ al rw rc tr, cA G (a 2) 4 kd, cA G (a 3) 12 nu]) hw [0, 1, 2] (by decide) rfl (Or.inl rfl) ⟨(congrArg iI (by first | rfl | omega | (simp only [bI]; (repeat' split) <;> omega) | (simp_all [bI]; done) | (simp_all [bI]; omega))), rfl⟩ dX6_isNothing_38
    · skip
      refine g_aload_n C hl 0 rfl rfl dX6_isNothing_22 ?_
      refine g_iload_n C hl 1 rfl rfl dX6_isNothing_23 ?_
      refine g_iconst C dX6_isNothing_24 ?_
      refine g_callVl C hw (wr := []) (As := [.int (iI pp), .int (iI 2)]) (rest := []) (m_X6_is l D G (h := h) (a := a) (ft := ft) (pn := pn) (ra := ra) (rm := rm) (rP := rP) (rS := rS) (rD := rD) (rQ := rQ) (al := al) (rw := rw) (rc := rc) (tr := tr) (kd := kd) (nu := nu) (pp := pp) (kk := 2) (by first | assumption | omega) (by first | assumption | omega) (by first | assumption | omega) (by first | assumption | omega) (by first | assumption | omega)) (cwV 2 C.1.2.2.2.2 gX6_isNothing_X6_is rfl rfl rfl (by decide +kernel) ⟨Nat.le_of_ble_eq_true rfl, Nat.le_of_ble_eq_true rfl⟩) [0, 1, 2] [] rfl rfl (by decide) (by decide) (by decide) 0 rfl rfl rfl hl.1 _ rfl (Nat.le_of_ble_eq_true rfl) dX6_isNothing_25 ⟨Nat.le_of_ble_eq_true rfl, Nat.le_of_ble_eq_true rfl⟩ ?_
      clear hw
      rintro _ _ H locs ⟨rfl, rfl⟩ hw
      have hw : gW D A s.heap [oX6 h a ft pn ra rm rP rS rD rQ al rw rc tr, cA G (a 2) 4 kd, cA G (a 3) 12 nu] H locs := hw
      refine g_lconst0 C dX6_isNothing_28 ?_
      refine g_lcmp_ne C 37 dX6_isNothing_29 dX6_isNothing_30 (by decide) (by omega) (by omega) (fun c_3 => ?_) (fun c_3 => ?_)
      · skip
        refine g_iconst C dX6_isNothing_37 ?_
        exact g_zret C hr (ws' := [oX6 h a ft pn ra rm rP rS rD rQ al rw rc tr, cA G (a 2) 4 kd, cA G (a 3) 12 nu]) hw [0, 1, 2] (by decide) rfl (Or.inl rfl) ⟨(congrArg iI (by first | rfl | omega | (simp only [bI]; (repeat' split) <;> omega) | (simp_all [bI]; done) | (simp_all [bI]; omega))), rfl⟩ dX6_isNothing_38
      · skip
        refine g_iconst C dX6_isNothing_33 ?_
        refine g_goto C 38 dX6_isNothing_34 (by decide) ?_
        exact g_zret C hr (ws' := [oX6 h a ft pn ra rm rP rS rD rQ al rw rc tr, cA G (a 2) 4 kd, cA G (a 3) 12 nu]) hw [0, 1, 2] (by decide) rfl (Or.inr rfl) ⟨(congrArg iI (by first | rfl | omega | (simp only [bI]; (repeat' split) <;> omega) | (simp_all [bI]; done) | (simp_all [bI]; omega))), rfl⟩ dX6_isNothing_38

set_option maxRecDepth 20000 in
theorem hin_X6_puts_X6 : ∀ w ∈ u_ws RX6 TX6 30, w ∈ wsX6_puts := by
  intro w h
  exact List.mem_cons_of_mem _ (List.mem_append_right _ (h))
set_option maxRecDepth 20000 in
theorem lk_X6_puts_167 : Cond.fieldLink RX6 167 (TX6 12).1 (TX6 12).2.1 (TX6 12).2.2.1 ∈ wsX6_puts := List.mem_cons_of_mem _ (List.mem_append_left _ (List.mem_of_getElem? (i := 0) rfl))
set_option maxRecDepth 20000 in
theorem lk_X6_puts_22 : Cond.fieldLink RX6 22 (TX6 13).1 (TX6 13).2.1 (TX6 13).2.2.1 ∈ wsX6_puts := List.mem_cons_of_mem _ (List.mem_append_left _ (List.mem_of_getElem? (i := 1) rfl))
set_option maxRecDepth 20000 in
theorem lk_X6_puts_143 : Cond.fieldLink RX6 143 (TX6 8).1 (TX6 8).2.1 (TX6 8).2.2.1 ∈ wsX6_puts := List.mem_cons_of_mem _ (List.mem_append_left _ (List.mem_of_getElem? (i := 5) rfl))
set_option maxRecDepth 20000 in
theorem lk_X6_puts_26 : Cond.fieldLink RX6 26 (TX6 14).1 (TX6 14).2.1 (TX6 14).2.2.1 ∈ wsX6_puts := List.mem_cons_of_mem _ (List.mem_append_left _ (List.mem_of_getElem? (i := 2) rfl))
set_option maxRecDepth 20000 in
theorem lk_X6_puts_150 : Cond.fieldLink RX6 150 (TX6 9).1 (TX6 9).2.1 (TX6 9).2.2.1 ∈ wsX6_puts := List.mem_cons_of_mem _ (List.mem_append_left _ (List.mem_of_getElem? (i := 6) rfl))
set_option maxRecDepth 20000 in
theorem lk_X6_puts_29 : Cond.fieldLink RX6 29 (TX6 15).1 (TX6 15).2.1 (TX6 15).2.2.1 ∈ wsX6_puts := List.mem_cons_of_mem _ (List.mem_append_left _ (List.mem_of_getElem? (i := 3) rfl))
set_option maxRecDepth 20000 in
theorem lk_X6_puts_153 : Cond.fieldLink RX6 153 (TX6 10).1 (TX6 10).2.1 (TX6 10).2.2.1 ∈ wsX6_puts := List.mem_cons_of_mem _ (List.mem_append_left _ (List.mem_of_getElem? (i := 7) rfl))
set_option maxRecDepth 20000 in
theorem lk_X6_puts_32 : Cond.fieldLink RX6 32 (TX6 16).1 (TX6 16).2.1 (TX6 16).2.2.1 ∈ wsX6_puts := List.mem_cons_of_mem _ (List.mem_append_left _ (List.mem_of_getElem? (i := 4) rfl))
set_option maxRecDepth 20000 in
theorem lk_X6_puts_147 : Cond.fieldLink RX6 147 (TX6 11).1 (TX6 11).2.1 (TX6 11).2.2.1 ∈ wsX6_puts := List.mem_cons_of_mem _ (List.mem_append_left _ (List.mem_of_getElem? (i := 8) rfl))
set_option maxRecDepth 100000 in
set_option maxHeartbeats 8000000 in
theorem m_X6_puts (l : Launch) (D : va_G) (G : gT) (h : Nat) (a : Nat → Nat) (ft : Int) (pn : Int) (ra : Int) (rm : Int) (rP : Int) (rS : Int) (rD : Int) (rQ : Int) (al : Int) (rw : Int) (rc : Int) (tr : Int) (vP : Int → Int) (vS : Int → Int) (vD : Int → Int) (vQ : Int → Int) (kk : Int) (hk : 0 ≤ kk ∧ kk ≤ al) (hal : al ≤ 7) : gMv l yX6_puts wsX6_puts ({ frames := 0, cells := 0, slots := 0, locals := 0 }) D G [.ref h, .int (iI kk)] [oX6 h a ft pn ra rm rP rS rD rQ al rw rc tr, cJ G (a 13) 8 vP, cJ G (a 14) 8 vS, cJ G (a 15) 8 vD, cJ G (a 16) 8 vQ] 0 0 (fun (w : va_W) => w = [oX6 h a ft pn ra rm rP rS rD rQ (al + 1) rw rc tr, cJ G (a 13) 8 (insA vP al kk rP), cJ G (a 14) 8 (insA vS al kk rS), cJ G (a 15) 8 (insA vD al kk rD), cJ G (a 16) 8 (insA vQ al kk rQ)]) := by
  refine g_start_v (cc := cX6_puts) (nL := 3) (own := RX6) (ret := none) (by decide +kernel) rfl rfl (Nat.le_of_ble_eq_true rfl) ?_
  intro p e s m below meth c A ls C hr hnm hw hl
  have hl : lv_has ls 3 [(0, .ref h), (1, .int (iI kk))] := hl
  refine g_aload_n C hl 0 rfl rfl dX6_puts_0 ?_
  refine g_get C hw hin_X6_puts_X6 0 rfl rfl 12 (by decide) lk_X6_puts_167 rfl dX6_puts_1 ?_
  refine g_istore_n C [(2, .int (iI al)), (0, .ref h), (1, .int (iI kk))] dX6_puts_4 rfl hl (by decide) rfl ?_
  clear hl
  intro ls hl
  refine g_loop (σ := (Int) × (Int → Int) × (Int → Int) × (Int → Int) × (Int → Int)) (fun z_ => [oX6 h a ft pn ra rm rP rS rD rQ al rw rc tr, cJ G (a 13) 8 z_.2.1, cJ G (a 14) 8 z_.2.2.1, cJ G (a 15) 8 z_.2.2.2.1, cJ G (a 16) 8 z_.2.2.2.2]) (fun z_ => [(2, .int (iI (z_.1))), (0, .ref h), (1, .int (iI kk))]) (fun z_ => (kk ≤ z_.1 ∧ z_.1 ≤ al) ∧ (z_.2.1 = shA vP al z_.1) ∧ (z_.2.2.1 = shA vS al z_.1) ∧ (z_.2.2.2.1 = shA vD al z_.1) ∧ (z_.2.2.2.2 = shA vQ al z_.1)) (fun z_ => (z_.1 - kk).toNat) (al, vP, vS, vD, vQ) ⟨by (try dsimp only); omega, by (try dsimp only); exact (shA_0 _ _).symm, by (try dsimp only); exact (shA_0 _ _).symm, by (try dsimp only); exact (shA_0 _ _).symm, by (try dsimp only); exact (shA_0 _ _).symm⟩ hw (lv_sub hl [0, 1, 2] rfl) ?_
  clear hw hl
  rintro ⟨xx, f1, f2, f3, f4⟩ ⟨hx, q1, q2, q3, q4⟩ H locs ls hw hl ih_1
  replace hx : kk ≤ xx ∧ xx ≤ al := hx
  replace q1 : f1 = shA vP al xx := q1
  replace q2 : f2 = shA vS al xx := q2
  replace q3 : f3 = shA vD al xx := q3
  replace q4 : f4 = shA vQ al xx := q4
  replace hw : gW D A s.heap [oX6 h a ft pn ra rm rP rS rD rQ al rw rc tr, cJ G (a 13) 8 f1, cJ G (a 14) 8 f2, cJ G (a 15) 8 f3, cJ G (a 16) 8 f4] H locs := hw
  replace hl : lv_has ls 3 [(2, .int (iI xx)), (0, .ref h), (1, .int (iI kk))] := hl
  replace ih_1 : ∀ (xx' : Int) (f1' : Int → Int) (f2' : Int → Int) (f3' : Int → Int) (f4' : Int → Int), ((kk ≤ xx' ∧ xx' ≤ al) ∧ (f1' = shA vP al xx') ∧ (f2' = shA vS al xx') ∧ (f3' = shA vD al xx') ∧ (f4' = shA vQ al xx')) → ((xx' - kk).toNat) < ((xx - kk).toNat) → ∀ (H : Heap) (locs : List Loc) (ls : Array Slot), gW D A s.heap [oX6 h a ft pn ra rm rP rS rD rQ al rw rc tr, cJ G (a 13) 8 f1', cJ G (a 14) 8 f2', cJ G (a 15) 8 f3', cJ G (a 16) 8 f4'] H locs → lv_has ls 3 [(2, .int (iI (xx'))), (0, .ref h), (1, .int (iI kk))] → W p l e _ s m _ below meth c H locs _ _ _ (F0 m 5 ls []) := fun xx' f1' f2' f3' f4' => ih_1 (xx', f1', f2', f3', f4')
  refine g_iload_n C hl 0 rfl rfl dX6_puts_5 ?_
  refine g_iload_n C hl 2 rfl rfl dX6_puts_6 ?_
  refine g_icmp_le C 72 dX6_puts_7 (by decide) (by omega) (by omega) (fun c_2 => ?_) (fun c_2 => ?_)
  · skip
    refine g_aload_n C hl 1 rfl rfl dX6_puts_72 ?_
    refine g_get C hw hin_X6_puts_X6 0 rfl rfl 13 (by decide) lk_X6_puts_22 rfl dX6_puts_73 ?_
    refine g_iload_n C hl 2 rfl rfl dX6_puts_76 ?_
    refine g_aload_n C hl 1 rfl rfl dX6_puts_77 ?_
    refine g_get C hw hin_X6_puts_X6 0 rfl rfl 8 (by decide) lk_X6_puts_143 rfl dX6_puts_78 ?_
    refine g_last C hw [oX6 h a ft pn ra rm rP rS rD rQ al rw rc tr, cJ G (a 13) 8 (up f1 kk rP), cJ G (a 14) 8 f2, cJ G (a 15) 8 f3, cJ G (a 16) 8 f4] 1 rfl (by omega) (Nat.le_of_ble_eq_true rfl) rfl dX6_puts_81 ?_
    clear hw
    intro H locs hw
    refine g_aload_n C hl 1 rfl rfl dX6_puts_82 ?_
    refine g_get C hw hin_X6_puts_X6 0 rfl rfl 14 (by decide) lk_X6_puts_26 rfl dX6_puts_83 ?_
    refine g_iload_n C hl 2 rfl rfl dX6_puts_86 ?_
    refine g_aload_n C hl 1 rfl rfl dX6_puts_87 ?_
    refine g_get C hw hin_X6_puts_X6 0 rfl rfl 9 (by decide) lk_X6_puts_150 rfl dX6_puts_88 ?_
    refine g_last C hw [oX6 h a ft pn ra rm rP rS rD rQ al rw rc tr, cJ G (a 13) 8 (up f1 kk rP), cJ G (a 14) 8 (up f2 kk rS), cJ G (a 15) 8 f3, cJ G (a 16) 8 f4] 2 rfl (by omega) (Nat.le_of_ble_eq_true rfl) rfl dX6_puts_91 ?_
    clear hw
    intro H locs hw
    refine g_aload_n C hl 1 rfl rfl dX6_puts_92 ?_
    refine g_get C hw hin_X6_puts_X6 0 rfl rfl 15 (by decide) lk_X6_puts_29 rfl dX6_puts_93 ?_
    refine g_iload_n C hl 2 rfl rfl dX6_puts_96 ?_
    refine g_aload_n C hl 1 rfl rfl dX6_puts_97 ?_
    refine g_get C hw hin_X6_puts_X6 0 rfl rfl 10 (by decide) lk_X6_puts_153 rfl dX6_puts_98 ?_
    refine g_last C hw [oX6 h a ft pn ra rm rP rS rD rQ al rw rc tr, cJ G (a 13) 8 (up f1 kk rP), cJ G (a 14) 8 (up f2 kk rS), cJ G (a 15) 8 (up f3 kk rD), cJ G (a 16) 8 f4] 3 rfl (by omega) (Nat.le_of_ble_eq_true rfl) rfl dX6_puts_101 ?_
    clear hw
    intro H locs hw
    refine g_aload_n C hl 1 rfl rfl dX6_puts_102 ?_
    refine g_get C hw hin_X6_puts_X6 0 rfl rfl 16 (by decide) lk_X6_puts_32 rfl dX6_puts_103 ?_
    refine g_iload_n C hl 2 rfl rfl dX6_puts_106 ?_
    refine g_aload_n C hl 1 rfl rfl dX6_puts_107 ?_
    refine g_get C hw hin_X6_puts_X6 0 rfl rfl 11 (by decide) lk_X6_puts_147 rfl dX6_puts_108 ?_
    refine g_last C hw [oX6 h a ft pn ra rm rP rS rD rQ al rw rc tr, cJ G (a 13) 8 (up f1 kk rP), cJ G (a 14) 8 (up f2 kk rS), cJ G (a 15) 8 (up f3 kk rD), cJ G (a 16) 8 (up f4 kk rQ)] 4 rfl (by omega) (Nat.le_of_ble_eq_true rfl) rfl dX6_puts_111 ?_
    clear hw
    intro H locs hw
    refine g_aload_n C hl 1 rfl rfl dX6_puts_112 ?_
    refine g_dup C dX6_puts_113 rfl ?_
    refine g_get C hw hin_X6_puts_X6 0 rfl rfl 12 (by decide) lk_X6_puts_167 rfl dX6_puts_114 ?_
    refine g_iconst C dX6_puts_117 ?_
    refine g_iadd C dX6_puts_118 ?_
    refine g_put C hw [oX6 h a ft pn ra rm rP rS rD rQ (al + 1) rw rc tr, cJ G (a 13) 8 (up f1 kk rP), cJ G (a 14) 8 (up f2 kk rS), cJ G (a 15) 8 (up f3 kk rD), cJ G (a 16) 8 (up f4 kk rQ)] hin_X6_puts_X6 tyX6 tyX6_ok nmX6 0 rfl rfl 12 (by decide) lk_X6_puts_167 rfl rfl rfl rfl (Nat.le_of_ble_eq_true rfl) rfl dX6_puts_119 ?_
    clear hw
    intro H locs hw
    exact g_vret C hr (ws' := [oX6 h a ft pn ra rm rP rS rD rQ (al + 1) rw rc tr, cJ G (a 13) 8 (up f1 kk rP), cJ G (a 14) 8 (up f2 kk rS), cJ G (a 15) 8 (up f3 kk rD), cJ G (a 16) 8 (up f4 kk rQ)]) hw [0, 1, 2, 3, 4] (by decide) rfl (by have e9 : xx = kk := (by omega); rw [q1, q2, q3, q4, e9, insA_of, insA_of, insA_of, insA_of]) dX6_puts_122
  · skip
    refine g_aload_n C hl 1 rfl rfl dX6_puts_10 ?_
    refine g_get C hw hin_X6_puts_X6 0 rfl rfl 13 (by decide) lk_X6_puts_22 rfl dX6_puts_11 ?_
    refine g_iload_n C hl 0 rfl rfl dX6_puts_14 ?_
    refine g_aload_n C hl 1 rfl rfl dX6_puts_15 ?_
    refine g_get C hw hin_X6_puts_X6 0 rfl rfl 13 (by decide) lk_X6_puts_22 rfl dX6_puts_16 ?_
    refine g_iload_n C hl 0 rfl rfl dX6_puts_19 ?_
    refine g_iconst C dX6_puts_20 ?_
    refine g_isub C dX6_puts_21 ?_
    refine g_lald C hw 1 rfl (by omega) (Nat.le_of_ble_eq_true rfl) dX6_puts_22 ?_
    refine g_last C hw [oX6 h a ft pn ra rm rP rS rD rQ al rw rc tr, cJ G (a 13) 8 (up f1 xx (f1 (xx - 1))), cJ G (a 14) 8 f2, cJ G (a 15) 8 f3, cJ G (a 16) 8 f4] 1 rfl (by omega) (Nat.le_of_ble_eq_true rfl) rfl dX6_puts_23 ?_
    clear hw
    intro H locs hw
    refine g_aload_n C hl 1 rfl rfl dX6_puts_24 ?_
    refine g_get C hw hin_X6_puts_X6 0 rfl rfl 14 (by decide) lk_X6_puts_26 rfl dX6_puts_25 ?_
    refine g_iload_n C hl 0 rfl rfl dX6_puts_28 ?_
    refine g_aload_n C hl 1 rfl rfl dX6_puts_29 ?_
    refine g_get C hw hin_X6_puts_X6 0 rfl rfl 14 (by decide) lk_X6_puts_26 rfl dX6_puts_30 ?_
    refine g_iload_n C hl 0 rfl rfl dX6_puts_33 ?_
    refine g_iconst C dX6_puts_34 ?_
    refine g_isub C dX6_puts_35 ?_
    refine g_lald C hw 2 rfl (by omega) (Nat.le_of_ble_eq_true rfl) dX6_puts_36 ?_
    refine g_last C hw [oX6 h a ft pn ra rm rP rS rD rQ al rw rc tr, cJ G (a 13) 8 (up f1 xx (f1 (xx - 1))), cJ G (a 14) 8 (up f2 xx (f2 (xx - 1))), cJ G (a 15) 8 f3, cJ G (a 16) 8 f4] 2 rfl (by omega) (Nat.le_of_ble_eq_true rfl) rfl dX6_puts_37 ?_
    clear hw
    intro H locs hw
    refine g_aload_n C hl 1 rfl rfl dX6_puts_38 ?_
    refine g_get C hw hin_X6_puts_X6 0 rfl rfl 15 (by decide) lk_X6_puts_29 rfl dX6_puts_39 ?_
    refine g_iload_n C hl 0 rfl rfl dX6_puts_42 ?_
    refine g_aload_n C hl 1 rfl rfl dX6_puts_43 ?_
    refine g_get C hw hin_X6_puts_X6 0 rfl rfl 15 (by decide) lk_X6_puts_29 rfl dX6_puts_44 ?_
    refine g_iload_n C hl 0 rfl rfl dX6_puts_47 ?_
    refine g_iconst C dX6_puts_48 ?_
    refine g_isub C dX6_puts_49 ?_
    refine g_lald C hw 3 rfl (by omega) (Nat.le_of_ble_eq_true rfl) dX6_puts_50 ?_
    refine g_last C hw [oX6 h a ft pn ra rm rP rS rD rQ al rw rc tr, cJ G (a 13) 8 (up f1 xx (f1 (xx - 1))), cJ G (a 14) 8 (up f2 xx (f2 (xx - 1))), cJ G (a 15) 8 (up f3 xx (f3 (xx - 1))), cJ G (a 16) 8 f4] 3 rfl (by omega) (Nat.le_of_ble_eq_true rfl) rfl dX6_puts_51 ?_
    clear hw
    intro H locs hw
    refine g_aload_n C hl 1 rfl rfl dX6_puts_52 ?_
    refine g_get C hw hin_X6_puts_X6 0 rfl rfl 16 (by decide) lk_X6_puts_32 rfl dX6_puts_53 ?_
    refine g_iload_n C hl 0 rfl rfl dX6_puts_56 ?_
    refine g_aload_n C hl 1 rfl rfl dX6_puts_57 ?_
    refine g_get C hw hin_X6_puts_X6 0 rfl rfl 16 (by decide) lk_X6_puts_32 rfl dX6_puts_58 ?_
    refine g_iload_n C hl 0 rfl rfl dX6_puts_61 ?_
    refine g_iconst C dX6_puts_62 ?_
    refine g_isub C dX6_puts_63 ?_
    refine g_lald C hw 4 rfl (by omega) (Nat.le_of_ble_eq_true rfl) dX6_puts_64 ?_
    refine g_last C hw [oX6 h a ft pn ra rm rP rS rD rQ al rw rc tr, cJ G (a 13) 8 (up f1 xx (f1 (xx - 1))), cJ G (a 14) 8 (up f2 xx (f2 (xx - 1))), cJ G (a 15) 8 (up f3 xx (f3 (xx - 1))), cJ G (a 16) 8 (up f4 xx (f4 (xx - 1)))] 4 rfl (by omega) (Nat.le_of_ble_eq_true rfl) rfl dX6_puts_65 ?_
    clear hw
    intro H locs hw
    refine g_iinc C [(2, .int (iI (xx + (-1)))), (0, .ref h), (1, .int (iI kk))] 0 dX6_puts_66 hl rfl (by decide) rfl ?_
    clear hl
    intro ls hl
    refine g_goto C 5 dX6_puts_69 (by decide) ?_
    have hw : gW D A s.heap [oX6 h a ft pn ra rm rP rS rD rQ al rw rc tr, cJ G (a 13) 8 (up f1 xx (f1 (xx - 1))), cJ G (a 14) 8 (up f2 xx (f2 (xx - 1))), cJ G (a 15) 8 (up f3 xx (f3 (xx - 1))), cJ G (a 16) 8 (up f4 xx (f4 (xx - 1)))] H locs := g_perm hw [0, 1, 2, 3, 4] (by decide) rfl
    exact ih_1 (xx + (-1)) (up f1 xx (f1 (xx - 1))) (up f2 xx (f2 (xx - 1))) (up f3 xx (f3 (xx - 1))) (up f4 xx (f4 (xx - 1))) ⟨by omega, by rw [q1]; exact shA_s (by omega), by rw [q2]; exact shA_s (by omega), by rw [q3]; exact shA_s (by omega), by rw [q4]; exact shA_s (by omega)⟩ (by omega) H locs ls hw (lv_sub hl [0, 1, 2] rfl)
