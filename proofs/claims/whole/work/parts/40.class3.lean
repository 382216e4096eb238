set_option maxRecDepth 20000 in
theorem hin_X0_enterInOrder_X0 : ∀ w ∈ u_ws RX0 TX0 14, w ∈ wsX0_enterInOrder := by
  intro w h
  exact List.mem_cons_of_mem _ (List.mem_append_right _ (h))
set_option maxRecDepth 20000 in
theorem lk_X0_enterInOrder_52 : Cond.fieldLink RX0 52 (TX0 7).1 (TX0 7).2.1 (TX0 7).2.2.1 ∈ wsX0_enterInOrder := List.mem_cons_of_mem _ (List.mem_append_left _ (List.mem_append_left _ (List.mem_of_getElem? (i := 0) rfl)))
set_option maxRecDepth 20000 in
theorem lk_X0_enterInOrder_30 : Cond.fieldLink RX0 30 (TX0 8).1 (TX0 8).2.1 (TX0 8).2.2.1 ∈ wsX0_enterInOrder := List.mem_cons_of_mem _ (List.mem_append_left _ (List.mem_append_left _ (List.mem_of_getElem? (i := 1) rfl)))
set_option maxRecDepth 20000 in
theorem lk_X0_enterInOrder_33 : Cond.fieldLink RX0 33 (TX0 9).1 (TX0 9).2.1 (TX0 9).2.2.1 ∈ wsX0_enterInOrder := List.mem_cons_of_mem _ (List.mem_append_left _ (List.mem_append_left _ (List.mem_of_getElem? (i := 2) rfl)))
set_option maxRecDepth 100000 in
set_option maxHeartbeats 8000000 in
theorem m_X0_enterInOrder (l : Launch) (D : va_G) (G : gT) (h : Nat) (a : Nat → Nat) (cn : Int) (ul : Int) (rw : Int) (ex : Int → Int) (mi : Int → Int) (si : Int → Int) (un : Int → Int) (be : Int → Int) (ka : Int → Int) (br : Int → Int) (E : Int → Int → Int) (nn : Int) (LB : List (Int × Int)) (pp : Int) (ii : Int) (hE : EB E) (hnn : 0 ≤ nn ∧ nn ≤ 4) (hX : LnX E nn ex) (hZ : LnZ E nn mi si un be) (hp : 0 ≤ pp ∧ pp < nn) (hii : 0 ≤ ii ∧ ii < nR E pp) (hB : hasB ka br LB) (hul : ul = (LB.length : Int)) (hl7 : ul ≤ 7) (hLr : ∀ x ∈ LB, isRt E nn x.1) : gMv l yX0_enterInOrder wsX0_enterInOrder ({ frames := 4, cells := 0, slots := 0, locals := 120 }) D G [.ref h, .int (iI pp), .int (iI ii)] [oX0 h a cn ul rw, cA G (a 1) 12 ex, cA G (a 3) 8 mi, cA G (a 4) 8 si, cA G (a 5) 8 un, cA G (a 6) 8 be, cA G (a 8) 8 ka, cA G (a 9) 8 br] 0 0 (fun (w : va_W) => ∃ (ul2 : Int) (ka2 : Int → Int) (br2 : Int → Int), w = [oX0 h a cn ul2 rw, cA G (a 1) 12 ex, cA G (a 3) 8 mi, cA G (a 4) 8 si, cA G (a 5) 8 un, cA G (a 6) 8 be, cA G (a 8) 8 ka2, cA G (a 9) 8 br2] ∧ (hasB ka2 br2 (insB E (2 * pp + ii) (shI pp) LB)) ∧ (ul2 = ((insB E (2 * pp + ii) (shI pp) LB).length : Int))) := by
  refine g_start_v (cc := cX0_enterInOrder) (nL := 7) (own := RX0) (ret := none) (by decide +kernel) rfl rfl (Nat.le_of_ble_eq_true rfl) ?_
  intro p e s m below meth c A ls C hr hnm hw hl
  have hl : lv_has ls 7 [(0, .ref h), (1, .int (iI pp)), (2, .int (iI ii))] := hl
  have hnr := nR_r E pp
  have hat : isRt E nn (2 * pp + ii) := by
    obtain ⟨q1, q2⟩ := q_of pp ii (by omega)
    exact ⟨by omega, by rw [q1]; omega, by rw [q1, q2]; omega⟩
  refine g_iload_n C hl 1 rfl rfl dX0_enterInOrder_0 ?_
  refine g_iconst C dX0_enterInOrder_1 ?_
  refine g_imul C dX0_enterInOrder_2 ?_
  refine g_iload_n C hl 2 rfl rfl dX0_enterInOrder_3 ?_
  refine g_iadd C dX0_enterInOrder_4 ?_
  refine g_nI (show ((pp * 2) + ii : Int) = 2 * pp + ii by omega) ?_
  refine g_istore_n C [(3, .int (iI (2 * pp + ii))), (0, .ref h), (1, .int (iI pp)), (2, .int (iI ii))] dX0_enterInOrder_5 rfl hl (by decide) rfl ?_
  clear hl
  intro ls hl
  refine g_iconst C dX0_enterInOrder_6 ?_
  refine g_istore C [(4, .int (iI 0)), (3, .int (iI (2 * pp + ii))), (0, .ref h), (1, .int (iI pp)), (2, .int (iI ii))] dX0_enterInOrder_7 hl (by decide) rfl ?_
  clear hl
  intro ls hl
  refine g_cut (D := D) (A := A) (H0 := s.heap) (nL := 7) (σ := (Int) × (Int)) (fun z_ => [oX0 h a cn ul rw, cA G (a 1) 12 ex, cA G (a 3) 8 mi, cA G (a 4) 8 si, cA G (a 5) 8 un, cA G (a 6) 8 be, cA G (a 8) 8 ka, cA G (a 9) 8 br]) (fun z_ => [(4, .int (iI (z_.1))), (3, .int (iI ((2 * pp + ii)))), (0, .ref h), (1, .int (iI pp)), (2, .int (iI ii)), (5, .int (iI (z_.2)))]) (fun z_ => (0 ≤ z_.1 ∧ z_.1 ≤ ul) ∧ (∀ (j : Nat) (x : Int × Int), (j : Int) < z_.1 → LB[j]? = some x → 0 < cmE E (2 * pp + ii) x.1) ∧ ((0 < z_.2 ∧ z_.2 ≤ 1 ∧ z_.1 = ul) ∨ (-1 ≤ z_.2 ∧ z_.2 ≤ 0 ∧ ∃ x, LB[z_.1.toNat]? = some x ∧ x ∈ LB ∧ ka z_.1 = x.1 ∧ br z_.1 = x.2 ∧ z_.2 = cmE E (2 * pp + ii) x.1))) 49 (fun z_ => []) ?_ ?_
  · clear hw hl
    rintro ⟨kk, od⟩ ⟨hkk, hless, hod⟩ H locs ls hw hl
    replace hkk : 0 ≤ kk ∧ kk ≤ ul := hkk
    replace hless : ∀ (j : Nat) (x : Int × Int), (j : Int) < kk → LB[j]? = some x → 0 < cmE E (2 * pp + ii) x.1 := hless
    replace hod : (0 < od ∧ od ≤ 1 ∧ kk = ul) ∨ (-1 ≤ od ∧ od ≤ 0 ∧ ∃ x, LB[kk.toNat]? = some x ∧ x ∈ LB ∧ ka kk = x.1 ∧ br kk = x.2 ∧ od = cmE E (2 * pp + ii) x.1) := hod
    replace hw : gW D A s.heap [oX0 h a cn ul rw, cA G (a 1) 12 ex, cA G (a 3) 8 mi, cA G (a 4) 8 si, cA G (a 5) 8 un, cA G (a 6) 8 be, cA G (a 8) 8 ka, cA G (a 9) 8 br] H locs := hw
    replace hl : lv_has ls 7 [(4, .int (iI kk)), (3, .int (iI (2 * pp + ii))), (0, .ref h), (1, .int (iI pp)), (2, .int (iI ii)), (5, .int (iI od))] := hl
    refine g_iload C hl 5 rfl dX0_enterInOrder_49 ?_
    refine g_if_ne C 68 dX0_enterInOrder_51 (by decide) (by omega) (fun c_1 => ?_) (fun c_1 => ?_)
    · skip
      have hia := insB_at (E := E) (a := (2 * pp + ii)) (b := shI pp) (L := LB) (k := kk.toNat) (by omega) (fun j x hj hx => hless j x (by omega) hx) (by
        intro x hx
        rcases hod with ⟨-, -, q⟩ | ⟨q3, q4, y, q, -, -, -, q2⟩
        · have := (List.getElem?_eq_some_iff.mp hx).1; omega
        · rw [q] at hx; cases hx; omega)
      have hbi := hasB_ins hB (k := kk.toNat) (by omega) (2 * pp + ii) (shI pp)
      rw [← hia, ← hul, show ((kk.toNat : Nat) : Int) = kk by omega] at hbi
      refine g_aload_n C hl 2 rfl rfl dX0_enterInOrder_68 ?_
      refine g_get C hw hin_X0_enterInOrder_X0 0 rfl rfl 7 (by decide) lk_X0_enterInOrder_52 rfl dX0_enterInOrder_69 ?_
      refine g_istore C [(6, .int (iI ul)), (4, .int (iI kk)), (3, .int (iI (2 * pp + ii))), (0, .ref h), (1, .int (iI pp)), (2, .int (iI ii)), (5, .int (iI od))] dX0_enterInOrder_72 hl (by decide) rfl ?_
      clear hl
      intro ls hl
      refine g_loop (σ := (Int) × (Int → Int) × (Int → Int)) (fun z_ => [oX0 h a cn ul rw, cA G (a 1) 12 ex, cA G (a 3) 8 mi, cA G (a 4) 8 si, cA G (a 5) 8 un, cA G (a 6) 8 be, cA G (a 8) 8 z_.2.1, cA G (a 9) 8 z_.2.2]) (fun z_ => [(6, .int (iI (z_.1))), (4, .int (iI kk)), (3, .int (iI ((2 * pp + ii)))), (0, .ref h), (1, .int (iI pp)), (2, .int (iI ii)), (5, .int (iI od))]) (fun z_ => (kk ≤ z_.1 ∧ z_.1 ≤ ul) ∧ (z_.2.1 = shA ka ul z_.1) ∧ (z_.2.2 = shA br ul z_.1)) (fun z_ => (z_.1 - kk).toNat) (ul, ka, br) ⟨by (try dsimp only); omega, by (try dsimp only); exact (shA_0 _ _).symm, by (try dsimp only); exact (shA_0 _ _).symm⟩ hw (lv_sub hl [0, 1, 2, 3, 4, 5, 6] rfl) ?_
      clear hw hl
      rintro ⟨xx, f1, f2⟩ ⟨hx, q1, q2⟩ H locs ls hw hl ih_2
      replace hx : kk ≤ xx ∧ xx ≤ ul := hx
      replace q1 : f1 = shA ka ul xx := q1
      replace q2 : f2 = shA br ul xx := q2
      replace hw : gW D A s.heap [oX0 h a cn ul rw, cA G (a 1) 12 ex, cA G (a 3) 8 mi, cA G (a 4) 8 si, cA G (a 5) 8 un, cA G (a 6) 8 be, cA G (a 8) 8 f1, cA G (a 9) 8 f2] H locs := hw
      replace hl : lv_has ls 7 [(6, .int (iI xx)), (4, .int (iI kk)), (3, .int (iI (2 * pp + ii))), (0, .ref h), (1, .int (iI pp)), (2, .int (iI ii)), (5, .int (iI od))] := hl
      replace ih_2 : ∀ (xx' : Int) (f1' : Int → Int) (f2' : Int → Int), ((kk ≤ xx' ∧ xx' ≤ ul) ∧ (f1' = shA ka ul xx') ∧ (f2' = shA br ul xx')) → ((xx' - kk).toNat) < ((xx - kk).toNat) → ∀ (H : Heap) (locs : List Loc) (ls : Array Slot), gW D A s.heap [oX0 h a cn ul rw, cA G (a 1) 12 ex, cA G (a 3) 8 mi, cA G (a 4) 8 si, cA G (a 5) 8 un, cA G (a 6) 8 be, cA G (a 8) 8 f1', cA G (a 9) 8 f2'] H locs → lv_has ls 7 [(6, .int (iI (xx'))), (4, .int (iI kk)), (3, .int (iI ((2 * pp + ii)))), (0, .ref h), (1, .int (iI pp)), (2, .int (iI ii)), (5, .int (iI od))] → W p l e _ s m _ below meth c H locs _ _ _ (F0 m 74 ls []) := fun xx' f1' f2' => ih_2 (xx', f1', f2')
      refine g_iload C hl 0 rfl dX0_enterInOrder_74 ?_
      refine g_iload C hl 1 rfl dX0_enterInOrder_76 ?_
      refine g_icmp_le C 119 dX0_enterInOrder_78 (by decide) (by omega) (by omega) (fun c_3 => ?_) (fun c_3 => ?_)
      · skip
        refine g_aload_n C hl 3 rfl rfl dX0_enterInOrder_119 ?_
        refine g_get C hw hin_X0_enterInOrder_X0 0 rfl rfl 8 (by decide) lk_X0_enterInOrder_30 rfl dX0_enterInOrder_120 ?_
        refine g_iload C hl 1 rfl dX0_enterInOrder_123 ?_
        refine g_iload_n C hl 2 rfl rfl dX0_enterInOrder_125 ?_
        refine g_iast C hw [oX0 h a cn ul rw, cA G (a 1) 12 ex, cA G (a 3) 8 mi, cA G (a 4) 8 si, cA G (a 5) 8 un, cA G (a 6) 8 be, cA G (a 8) 8 (up f1 kk (2 * pp + ii)), cA G (a 9) 8 f2] 6 rfl (by omega) (Nat.le_of_ble_eq_true rfl) rfl dX0_enterInOrder_126 ?_
        clear hw
        intro H locs hw
        refine g_aload_n C hl 3 rfl rfl dX0_enterInOrder_127 ?_
        refine g_get C hw hin_X0_enterInOrder_X0 0 rfl rfl 9 (by decide) lk_X0_enterInOrder_33 rfl dX0_enterInOrder_128 ?_
        refine g_iload C hl 1 rfl dX0_enterInOrder_131 ?_
        refine g_iconst C dX0_enterInOrder_133 ?_
        refine g_iload_n C hl 4 rfl rfl dX0_enterInOrder_134 ?_
        refine g_ishl C dX0_enterInOrder_135 ?_
        refine g_topi (show (((iI 1) <<< ((iI pp) &&& 31)) : Int32) = (iI (shI pp)) by exact shI_i pp) ?_
        refine g_iast C hw [oX0 h a cn ul rw, cA G (a 1) 12 ex, cA G (a 3) 8 mi, cA G (a 4) 8 si, cA G (a 5) 8 un, cA G (a 6) 8 be, cA G (a 8) 8 (up f1 kk (2 * pp + ii)), cA G (a 9) 8 (up f2 kk (shI pp))] 7 rfl (by omega) (Nat.le_of_ble_eq_true rfl) rfl dX0_enterInOrder_136 ?_
        clear hw
        intro H locs hw
        refine g_aload_n C hl 3 rfl rfl dX0_enterInOrder_137 ?_
        refine g_dup C dX0_enterInOrder_138 rfl ?_
        refine g_get C hw hin_X0_enterInOrder_X0 0 rfl rfl 7 (by decide) lk_X0_enterInOrder_52 rfl dX0_enterInOrder_139 ?_
        refine g_iconst C dX0_enterInOrder_142 ?_
        refine g_iadd C dX0_enterInOrder_143 ?_
        refine g_put C hw [oX0 h a cn (ul + 1) rw, cA G (a 1) 12 ex, cA G (a 3) 8 mi, cA G (a 4) 8 si, cA G (a 5) 8 un, cA G (a 6) 8 be, cA G (a 8) 8 (up f1 kk (2 * pp + ii)), cA G (a 9) 8 (up f2 kk (shI pp))] hin_X0_enterInOrder_X0 tyX0 tyX0_ok nmX0 0 rfl rfl 7 (by decide) lk_X0_enterInOrder_52 rfl rfl rfl rfl (Nat.le_of_ble_eq_true rfl) rfl dX0_enterInOrder_144 ?_
        clear hw
        intro H locs hw
        have e9 : xx = kk := by omega
        rw [e9] at q1 q2
        exact g_vret C hr (ws' := [oX0 h a cn (ul + 1) rw, cA G (a 1) 12 ex, cA G (a 3) 8 mi, cA G (a 4) 8 si, cA G (a 5) 8 un, cA G (a 6) 8 be, cA G (a 8) 8 (up f1 kk (2 * pp + ii)), cA G (a 9) 8 (up f2 kk (shI pp))]) hw [0, 1, 2, 3, 4, 5, 6, 7] (by decide) rfl ⟨(ul + 1), (up f1 kk (2 * pp + ii)), (up f2 kk (shI pp)), rfl, (by first | (rw [hie, ← hx4]; exact hbs) | (rw [q1, q2, insA_of, insA_of]; exact hbi)), (by first | (rw [hie, List.length_set]; exact hul) | (rw [hia]; simp only [List.length_append, List.length_take, List.length_cons, List.length_drop]; omega))⟩ dX0_enterInOrder_147
      · skip
        refine g_aload_n C hl 3 rfl rfl dX0_enterInOrder_81 ?_
        refine g_get C hw hin_X0_enterInOrder_X0 0 rfl rfl 8 (by decide) lk_X0_enterInOrder_30 rfl dX0_enterInOrder_82 ?_
        refine g_iload C hl 0 rfl dX0_enterInOrder_85 ?_
        refine g_aload_n C hl 3 rfl rfl dX0_enterInOrder_87 ?_
        refine g_get C hw hin_X0_enterInOrder_X0 0 rfl rfl 8 (by decide) lk_X0_enterInOrder_30 rfl dX0_enterInOrder_88 ?_
        refine g_iload C hl 0 rfl dX0_enterInOrder_91 ?_
        refine g_iconst C dX0_enterInOrder_93 ?_
        refine g_isub C dX0_enterInOrder_94 ?_
        refine g_iald C hw 6 rfl (by omega) (Nat.le_of_ble_eq_true rfl) dX0_enterInOrder_95 ?_
        refine g_iast C hw [oX0 h a cn ul rw, cA G (a 1) 12 ex, cA G (a 3) 8 mi, cA G (a 4) 8 si, cA G (a 5) 8 un, cA G (a 6) 8 be, cA G (a 8) 8 (up f1 xx (f1 (xx - 1))), cA G (a 9) 8 f2] 6 rfl (by omega) (Nat.le_of_ble_eq_true rfl) rfl dX0_enterInOrder_96 ?_
        clear hw
        intro H locs hw
        refine g_aload_n C hl 3 rfl rfl dX0_enterInOrder_97 ?_
        refine g_get C hw hin_X0_enterInOrder_X0 0 rfl rfl 9 (by decide) lk_X0_enterInOrder_33 rfl dX0_enterInOrder_98 ?_
        refine g_iload C hl 0 rfl dX0_enterInOrder_101 ?_
        refine g_aload_n C hl 3 rfl rfl dX0_enterInOrder_103 ?_
        refine g_get C hw hin_X0_enterInOrder_X0 0 rfl rfl 9 (by decide) lk_X0_enterInOrder_33 rfl dX0_enterInOrder_104 ?_
        refine g_iload C hl 0 rfl dX0_enterInOrder_107 ?_
        refine g_iconst C dX0_enterInOrder_109 ?_
        refine g_isub C dX0_enterInOrder_110 ?_
        refine g_iald C hw 7 rfl (by omega) (Nat.le_of_ble_eq_true rfl) dX0_enterInOrder_111 ?_
        refine g_iast C hw [oX0 h a cn ul rw, cA G (a 1) 12 ex, cA G (a 3) 8 mi, cA G (a 4) 8 si, cA G (a 5) 8 un, cA G (a 6) 8 be, cA G (a 8) 8 (up f1 xx (f1 (xx - 1))), cA G (a 9) 8 (up f2 xx (f2 (xx - 1)))] 7 rfl (by omega) (Nat.le_of_ble_eq_true rfl) rfl dX0_enterInOrder_112 ?_
        clear hw
        intro H locs hw
        refine g_iinc C [(6, .int (iI (xx + (-1)))), (4, .int (iI kk)), (3, .int (iI (2 * pp + ii))), (0, .ref h), (1, .int (iI pp)), (2, .int (iI ii)), (5, .int (iI od))] 0 dX0_enterInOrder_113 hl rfl (by decide) rfl ?_
        clear hl
        intro ls hl
        refine g_goto C 74 dX0_enterInOrder_116 (by decide) ?_
        have hw : gW D A s.heap [oX0 h a cn ul rw, cA G (a 1) 12 ex, cA G (a 3) 8 mi, cA G (a 4) 8 si, cA G (a 5) 8 un, cA G (a 6) 8 be, cA G (a 8) 8 (up f1 xx (f1 (xx - 1))), cA G (a 9) 8 (up f2 xx (f2 (xx - 1)))] H locs := g_perm hw [0, 1, 2, 3, 4, 5, 6, 7] (by decide) rfl
        exact ih_2 (xx + (-1)) (up f1 xx (f1 (xx - 1))) (up f2 xx (f2 (xx - 1))) ⟨by omega, by rw [q1]; exact shA_s (by omega), by rw [q2]; exact shA_s (by omega)⟩ (by omega) H locs ls hw (lv_sub hl [0, 1, 2, 3, 4, 5, 6] rfl)
    · skip
      obtain ⟨x9, hx1, hx2, hx3, hx4, hx5⟩ : ∃ x, LB[kk.toNat]? = some x ∧ x ∈ LB ∧ ka kk = x.1 ∧ br kk = x.2 ∧ od = cmE E (2 * pp + ii) x.1 := by rcases hod with ⟨q, -⟩ | ⟨-, -, q⟩; omega; exact q
      have hkl := (List.getElem?_eq_some_iff.mp hx1).1
      have hie := insB_eq (E := E) (b := shI pp) (fun j x hj hx => hless j x (by omega) hx) hx1 (by omega)
      have hbs := hasB_set hB hx1 (orI (br kk) (shI pp))
      rw [show ((kk.toNat : Nat) : Int) = kk by omega] at hbs
      refine g_aload_n C hl 2 rfl rfl dX0_enterInOrder_54 ?_
      refine g_get C hw hin_X0_enterInOrder_X0 0 rfl rfl 9 (by decide) lk_X0_enterInOrder_33 rfl dX0_enterInOrder_55 ?_
      refine g_iload C hl 0 rfl dX0_enterInOrder_58 ?_
      refine g_dup2 C dX0_enterInOrder_60 rfl rfl ?_
      refine g_iald C hw 7 rfl (by omega) (Nat.le_of_ble_eq_true rfl) dX0_enterInOrder_61 ?_
      refine g_iconst C dX0_enterInOrder_62 ?_
      refine g_iload_n C hl 3 rfl rfl dX0_enterInOrder_63 ?_
      refine g_ishl C dX0_enterInOrder_64 ?_
      refine g_ior C dX0_enterInOrder_65 ?_
      refine g_topi (show ((((iI (br kk))) ||| (((iI 1) <<< ((iI pp) &&& 31)))) : Int32) = (iI (orI (br kk) (shI pp))) by rw [shI_i, orI_i]) ?_
      refine g_iast C hw [oX0 h a cn ul rw, cA G (a 1) 12 ex, cA G (a 3) 8 mi, cA G (a 4) 8 si, cA G (a 5) 8 un, cA G (a 6) 8 be, cA G (a 8) 8 ka, cA G (a 9) 8 (up br kk (orI (br kk) (shI pp)))] 7 rfl (by omega) (Nat.le_of_ble_eq_true rfl) rfl dX0_enterInOrder_66 ?_
      clear hw
      intro H locs hw
      exact g_vret C hr (ws' := [oX0 h a cn ul rw, cA G (a 1) 12 ex, cA G (a 3) 8 mi, cA G (a 4) 8 si, cA G (a 5) 8 un, cA G (a 6) 8 be, cA G (a 8) 8 ka, cA G (a 9) 8 (up br kk (orI (br kk) (shI pp)))]) hw [0, 1, 2, 3, 4, 5, 6, 7] (by decide) rfl ⟨ul, ka, (up br kk (orI (br kk) (shI pp))), rfl, (by first | (rw [hie, ← hx4]; exact hbs) | (rw [q1, q2, insA_of, insA_of]; exact hbi)), (by first | (rw [hie, List.length_set]; exact hul) | (rw [hia]; simp only [List.length_append, List.length_take, List.length_cons, List.length_drop]; omega))⟩ dX0_enterInOrder_67
  · intro hj_4
    replace hj_4 : ∀ (kk' : Int) (od' : Int), ((0 ≤ kk' ∧ kk' ≤ ul) ∧ (∀ (j : Nat) (x : Int × Int), (j : Int) < kk' → LB[j]? = some x → 0 < cmE E (2 * pp + ii) x.1) ∧ ((0 < od' ∧ od' ≤ 1 ∧ kk' = ul) ∨ (-1 ≤ od' ∧ od' ≤ 0 ∧ ∃ x, LB[kk'.toNat]? = some x ∧ x ∈ LB ∧ ka kk' = x.1 ∧ br kk' = x.2 ∧ od' = cmE E (2 * pp + ii) x.1))) → ∀ (H : Heap) (locs : List Loc) (ls : Array Slot), gW D A s.heap [oX0 h a cn ul rw, cA G (a 1) 12 ex, cA G (a 3) 8 mi, cA G (a 4) 8 si, cA G (a 5) 8 un, cA G (a 6) 8 be, cA G (a 8) 8 ka, cA G (a 9) 8 br] H locs → lv_has ls 7 [(4, .int (iI (kk'))), (3, .int (iI ((2 * pp + ii)))), (0, .ref h), (1, .int (iI pp)), (2, .int (iI ii)), (5, .int (iI (od')))] → W p l e _ s m _ below meth c H locs _ _ _ (F0 m 49 ls []) := fun kk' od' => hj_4 (kk', od')
    refine g_iconst C dX0_enterInOrder_9 ?_
    refine g_istore C [(5, .int (iI 1)), (4, .int (iI 0)), (3, .int (iI (2 * pp + ii))), (0, .ref h), (1, .int (iI pp)), (2, .int (iI ii))] dX0_enterInOrder_10 hl (by decide) rfl ?_
    clear hl
    intro ls hl
    refine g_loop (σ := (Int) × (Int)) (fun z_ => [oX0 h a cn ul rw, cA G (a 1) 12 ex, cA G (a 3) 8 mi, cA G (a 4) 8 si, cA G (a 5) 8 un, cA G (a 6) 8 be, cA G (a 8) 8 ka, cA G (a 9) 8 br]) (fun z_ => [(5, .int (iI (z_.2))), (4, .int (iI (z_.1))), (3, .int (iI ((2 * pp + ii)))), (0, .ref h), (1, .int (iI pp)), (2, .int (iI ii))]) (fun z_ => (0 ≤ z_.1 ∧ z_.1 ≤ ul) ∧ (0 < z_.2 ∧ z_.2 ≤ 1) ∧ (∀ (j : Nat) (x : Int × Int), (j : Int) < z_.1 → LB[j]? = some x → 0 < cmE E (2 * pp + ii) x.1)) (fun z_ => (ul - z_.1).toNat) (0, 1) ⟨by (try dsimp only); omega, by (try dsimp only); omega, by (try dsimp only); intro j x hj; omega⟩ hw (lv_sub hl [0, 1, 2, 3, 4, 5] rfl) ?_
    clear hw hl
    rintro ⟨kk, od⟩ ⟨hkk, hod1, hless⟩ H locs ls hw hl ih_5
    replace hkk : 0 ≤ kk ∧ kk ≤ ul := hkk
    replace hod1 : 0 < od ∧ od ≤ 1 := hod1
    replace hless : ∀ (j : Nat) (x : Int × Int), (j : Int) < kk → LB[j]? = some x → 0 < cmE E (2 * pp + ii) x.1 := hless
    replace hw : gW D A s.heap [oX0 h a cn ul rw, cA G (a 1) 12 ex, cA G (a 3) 8 mi, cA G (a 4) 8 si, cA G (a 5) 8 un, cA G (a 6) 8 be, cA G (a 8) 8 ka, cA G (a 9) 8 br] H locs := hw
    replace hl : lv_has ls 7 [(5, .int (iI od)), (4, .int (iI kk)), (3, .int (iI (2 * pp + ii))), (0, .ref h), (1, .int (iI pp)), (2, .int (iI ii))] := hl
    replace ih_5 : ∀ (kk' : Int) (od' : Int), ((0 ≤ kk' ∧ kk' ≤ ul) ∧ (0 < od' ∧ od' ≤ 1) ∧ (∀ (j : Nat) (x : Int × Int), (j : Int) < kk' → LB[j]? = some x → 0 < cmE E (2 * pp + ii) x.1)) → ((ul - kk').toNat) < ((ul - kk).toNat) → ∀ (H : Heap) (locs : List Loc) (ls : Array Slot), gW D A s.heap [oX0 h a cn ul rw, cA G (a 1) 12 ex, cA G (a 3) 8 mi, cA G (a 4) 8 si, cA G (a 5) 8 un, cA G (a 6) 8 be, cA G (a 8) 8 ka, cA G (a 9) 8 br] H locs → lv_has ls 7 [(5, .int (iI (od'))), (4, .int (iI (kk'))), (3, .int (iI ((2 * pp + ii)))), (0, .ref h), (1, .int (iI pp)), (2, .int (iI ii))] → W p l e _ s m _ below meth c H locs _ _ _ (F0 m 12 ls []) := fun kk' od' => ih_5 (kk', od')
    refine g_iload C hl 1 rfl dX0_enterInOrder_12 ?_
    refine g_aload_n C hl 3 rfl rfl dX0_enterInOrder_14 ?_
    refine g_get C hw hin_X0_enterInOrder_X0 0 rfl rfl 7 (by decide) lk_X0_enterInOrder_52 rfl dX0_enterInOrder_15 ?_
    refine g_icmp_ge C 49 dX0_enterInOrder_18 (by decide) (by omega) (by omega) (fun c_6 => ?_) (fun c_6 => ?_)
    · skip
      have hw : gW D A s.heap [oX0 h a cn ul rw, cA G (a 1) 12 ex, cA G (a 3) 8 mi, cA G (a 4) 8 si, cA G (a 5) 8 un, cA G (a 6) 8 be, cA G (a 8) 8 ka, cA G (a 9) 8 br] H locs := g_perm hw [0, 1, 2, 3, 4, 5, 6, 7] (by decide) rfl
      exact hj_4 kk od ⟨by omega, by exact hless, by first | exact Or.inl ⟨by omega, by omega, by omega⟩ | exact Or.inr ⟨by omega, by omega, x9, hx1, hx2, hx3, hx4, rfl⟩⟩ H locs ls hw (lv_sub hl [1, 2, 3, 4, 5, 0] rfl)
    · skip
      obtain ⟨x9, hx1, hx2, hx3, hx4⟩ := hasB_at hB (k := kk) ⟨by omega, by omega⟩
      have hxr := hLr x9 hx2
      have hcr := cmF_r (qP E (2 * pp + ii)) (qS E (2 * pp + ii)) (qD E (2 * pp + ii)) (qQ E (2 * pp + ii)) (qP E x9.1) (qS E x9.1) (qD E x9.1) (qQ E x9.1)
      replace hcr : -1 ≤ cmE E (2 * pp + ii) x9.1 ∧ cmE E (2 * pp + ii) x9.1 ≤ 1 := hcr
      refine g_aload_n C hl 3 rfl rfl dX0_enterInOrder_21 ?_
      refine g_iload_n C hl 2 rfl rfl dX0_enterInOrder_22 ?_
      refine g_aload_n C hl 3 rfl rfl dX0_enterInOrder_23 ?_
      refine g_get C hw hin_X0_enterInOrder_X0 0 rfl rfl 8 (by decide) lk_X0_enterInOrder_30 rfl dX0_enterInOrder_24 ?_
      refine g_iload C hl 1 rfl dX0_enterInOrder_27 ?_
      refine g_iald C hw 6 rfl (by omega) (Nat.le_of_ble_eq_true rfl) dX0_enterInOrder_29 ?_
      refine g_nI (show (ka kk : Int) = x9.1 by exact hx3) ?_
      refine g_callVi C hw (wr := [cA G (a 8) 8 ka, cA G (a 9) 8 br]) (As := [.int (iI (2 * pp + ii)), .int (iI (x9.1))]) (rest := []) (m_X0_compare l D G (h := h) (a := a) (cn := cn) (ul := ul) (rw := rw) (ex := ex) (mi := mi) (si := si) (un := un) (be := be) (E := E) (nn := nn) (tt := (2 * pp + ii)) (yy := x9.1) (by first | assumption | omega) (by first | assumption | omega) (by first | assumption | omega) (by first | assumption | omega) (by exact hat) (by exact hxr)) (cwV 2 C.1.2.2.2.2 gX0_enterInOrder_X0_compare rfl rfl rfl (by decide +kernel) ⟨Nat.le_of_ble_eq_true rfl, Nat.le_of_ble_eq_true rfl⟩) [0, 1, 2, 3, 4, 5] [6, 7] rfl rfl (by decide) (by decide) (by decide) 0 rfl rfl rfl hl.1 _ rfl (Nat.le_of_ble_eq_true rfl) dX0_enterInOrder_30 ⟨Nat.le_of_ble_eq_true rfl, Nat.le_of_ble_eq_true rfl⟩ ?_
      clear hw
      rintro _ _ H locs ⟨rfl, rfl⟩ hw
      have hw : gW D A s.heap [cA G (a 8) 8 ka, cA G (a 9) 8 br, oX0 h a cn ul rw, cA G (a 1) 12 ex, cA G (a 3) 8 mi, cA G (a 4) 8 si, cA G (a 5) 8 un, cA G (a 6) 8 be] H locs := hw
      refine g_istore C [(5, .int (iI ((cmE E (2 * pp + ii) x9.1)))), (4, .int (iI kk)), (3, .int (iI (2 * pp + ii))), (0, .ref h), (1, .int (iI pp)), (2, .int (iI ii))] dX0_enterInOrder_33 hl (by decide) rfl ?_
      clear hl
      intro ls hl
      refine g_iload C hl 0 rfl dX0_enterInOrder_35 ?_
      refine g_if_gt C 43 dX0_enterInOrder_37 (by decide) (by omega) (fun c_7 => ?_) (fun c_7 => ?_)
      · skip
        refine g_iinc C [(4, .int (iI (kk + 1))), (5, .int (iI ((cmE E (2 * pp + ii) x9.1)))), (3, .int (iI (2 * pp + ii))), (0, .ref h), (1, .int (iI pp)), (2, .int (iI ii))] 1 dX0_enterInOrder_43 hl rfl (by decide) rfl ?_
        clear hl
        intro ls hl
        refine g_goto C 12 dX0_enterInOrder_46 (by decide) ?_
        have hw : gW D A s.heap [oX0 h a cn ul rw, cA G (a 1) 12 ex, cA G (a 3) 8 mi, cA G (a 4) 8 si, cA G (a 5) 8 un, cA G (a 6) 8 be, cA G (a 8) 8 ka, cA G (a 9) 8 br] H locs := g_perm hw [2, 3, 4, 5, 6, 7, 0, 1] (by decide) rfl
        exact ih_5 (kk + 1) (cmE E (2 * pp + ii) x9.1) ⟨by omega, by omega, by intro j x hj hx; by_cases q : (j : Int) < kk; exact hless j x q hx; have q2 : j = kk.toNat := (by omega); subst q2; rw [hx1] at hx; cases hx; omega⟩ (by omega) H locs ls hw (lv_sub hl [1, 0, 2, 3, 4, 5] rfl)
      · skip
        refine g_goto C 49 dX0_enterInOrder_40 (by decide) ?_
        have hw : gW D A s.heap [oX0 h a cn ul rw, cA G (a 1) 12 ex, cA G (a 3) 8 mi, cA G (a 4) 8 si, cA G (a 5) 8 un, cA G (a 6) 8 be, cA G (a 8) 8 ka, cA G (a 9) 8 br] H locs := g_perm hw [2, 3, 4, 5, 6, 7, 0, 1] (by decide) rfl
        exact hj_4 kk (cmE E (2 * pp + ii) x9.1) ⟨by omega, by exact hless, by first | exact Or.inl ⟨by omega, by omega, by omega⟩ | exact Or.inr ⟨by omega, by omega, x9, hx1, hx2, hx3, hx4, rfl⟩⟩ H locs ls hw (lv_sub hl [1, 2, 3, 4, 5, 0] rfl)

set_option maxRecDepth 20000 in
theorem hin_X0_lay_X4 : ∀ w ∈ u_ws RX4 TX4 3, w ∈ wsX0_lay := by
  intro w h
  exact List.mem_cons_of_mem _ (List.mem_append_left _ (List.mem_append_right _ (h)))
set_option maxRecDepth 20000 in
theorem lk_X0_lay_45 : Cond.fieldLink RX0 45 (TX4 0).1 (TX4 0).2.1 (TX4 0).2.2.1 ∈ wsX0_lay := List.mem_cons_of_mem _ (List.mem_append_left _ (List.mem_append_left _ (List.mem_append_left _ (List.mem_of_getElem? (i := 0) rfl))))
set_option maxRecDepth 20000 in
theorem hin_X0_lay_X0 : ∀ w ∈ u_ws RX0 TX0 14, w ∈ wsX0_lay := by
  intro w h
  exact List.mem_cons_of_mem _ (List.mem_append_right _ (h))
set_option maxRecDepth 20000 in
theorem lk_X0_lay_51 : Cond.fieldLink RX0 51 (TX0 0).1 (TX0 0).2.1 (TX0 0).2.2.1 ∈ wsX0_lay := List.mem_cons_of_mem _ (List.mem_append_left _ (List.mem_append_left _ (List.mem_append_left _ (List.mem_of_getElem? (i := 1) rfl))))
set_option maxRecDepth 20000 in
theorem lk_X0_lay_52 : Cond.fieldLink RX0 52 (TX0 7).1 (TX0 7).2.1 (TX0 7).2.2.1 ∈ wsX0_lay := List.mem_cons_of_mem _ (List.mem_append_left _ (List.mem_append_left _ (List.mem_append_left _ (List.mem_of_getElem? (i := 2) rfl))))
set_option maxRecDepth 20000 in
theorem lk_X0_lay_9 : Cond.fieldLink RX0 9 (TX0 1).1 (TX0 1).2.1 (TX0 1).2.2.1 ∈ wsX0_lay := List.mem_cons_of_mem _ (List.mem_append_left _ (List.mem_append_left _ (List.mem_append_left _ (List.mem_of_getElem? (i := 3) rfl))))
set_option maxRecDepth 20000 in
theorem lk_X0_lay_15 : Cond.fieldLink RX0 15 (TX0 2).1 (TX0 2).2.1 (TX0 2).2.2.1 ∈ wsX0_lay := List.mem_cons_of_mem _ (List.mem_append_left _ (List.mem_append_left _ (List.mem_append_left _ (List.mem_of_getElem? (i := 4) rfl))))
set_option maxRecDepth 100000 in
set_option maxHeartbeats 8000000 in
theorem m_X0_lay (l : Launch) (D : va_G) (G : gT) (h : Nat) (a : Nat → Nat) (cn : Int) (ul : Int) (rw : Int) (ex : Int → Int) (rt : Int → Int) (mi : Int → Int) (si : Int → Int) (un : Int → Int) (be : Int → Int) (ka : Int → Int) (br : Int → Int) (o : Nat) (b : Nat → Nat) (ct : Int) (kd : Int → Int) (nu : Int → Int) (hkd : kdOK kd) (hnu : nuOK nu) (hct : 0 ≤ ct ∧ ct ≤ 4) : gMv l yX0_lay wsX0_lay ({ frames := 5, cells := 0, slots := 0, locals := 146 }) D G [.ref h, .ref o] [oX0 h a cn ul rw, cA G (a 1) 12 ex, cA G (a 2) 4 rt, cA G (a 3) 8 mi, cA G (a 4) 8 si, cA G (a 5) 8 un, cA G (a 6) 8 be, cA G (a 8) 8 ka, cA G (a 9) 8 br, oX4 o b ct, cA G (b 1) 4 kd, cA G (b 2) 12 nu] 0 0 (fun (w : va_W) => ∃ (ex2 : Int → Int) (rt2 : Int → Int) (mi2 : Int → Int) (si2 : Int → Int) (un2 : Int → Int) (be2 : Int → Int) (ka2 : Int → Int) (br2 : Int → Int), w = [oX0 h a ct ((ALb (exT ct kd nu) ct.toNat).length : Int) rw, cA G (a 1) 12 ex2, cA G (a 2) 4 rt2, cA G (a 3) 8 mi2, cA G (a 4) 8 si2, cA G (a 5) 8 un2, cA G (a 6) 8 be2, cA G (a 8) 8 ka2, cA G (a 9) 8 br2, oX4 o b ct, cA G (b 1) 4 kd, cA G (b 2) 12 nu] ∧ (LnX (exT ct kd nu) ct ex2) ∧ (LnT (exT ct kd nu) ct rt2) ∧ (LnZ (exT ct kd nu) ct mi2 si2 un2 be2) ∧ (hasB ka2 br2 (ALb (exT ct kd nu) ct.toNat))) := by
  refine g_start_v (cc := cX0_lay) (nL := 4) (own := RX0) (ret := none) (by decide +kernel) rfl rfl (Nat.le_of_ble_eq_true rfl) ?_
  intro p e s m below meth c A ls C hr hnm hw hl
  have hl : lv_has ls 4 [(0, .ref h), (1, .ref o)] := hl
  have hE := exT_B ct kd hnu
  refine g_aload_n C hl 0 rfl rfl dX0_lay_0 ?_
  refine g_aload_n C hl 1 rfl rfl dX0_lay_1 ?_
  refine g_get C hw hin_X0_lay_X4 9 rfl rfl 0 (by decide) lk_X0_lay_45 rfl dX0_lay_2 ?_
  refine g_put C hw [oX0 h a ct ul rw, cA G (a 1) 12 ex, cA G (a 2) 4 rt, cA G (a 3) 8 mi, cA G (a 4) 8 si, cA G (a 5) 8 un, cA G (a 6) 8 be, cA G (a 8) 8 ka, cA G (a 9) 8 br, oX4 o b ct, cA G (b 1) 4 kd, cA G (b 2) 12 nu] hin_X0_lay_X0 tyX0 tyX0_ok nmX0 0 rfl rfl 0 (by decide) lk_X0_lay_51 rfl rfl rfl rfl (Nat.le_of_ble_eq_true rfl) rfl dX0_lay_5 ?_
  clear hw
  intro H locs hw
  refine g_aload_n C hl 0 rfl rfl dX0_lay_8 ?_
  refine g_iconst C dX0_lay_9 ?_
  refine g_put C hw [oX0 h a ct 0 rw, cA G (a 1) 12 ex, cA G (a 2) 4 rt, cA G (a 3) 8 mi, cA G (a 4) 8 si, cA G (a 5) 8 un, cA G (a 6) 8 be, cA G (a 8) 8 ka, cA G (a 9) 8 br, oX4 o b ct, cA G (b 1) 4 kd, cA G (b 2) 12 nu] hin_X0_lay_X0 tyX0 tyX0_ok nmX0 0 rfl rfl 7 (by decide) lk_X0_lay_52 rfl rfl rfl rfl (Nat.le_of_ble_eq_true rfl) rfl dX0_lay_10 ?_
  clear hw
  intro H locs hw
  refine g_iconst C dX0_lay_13 ?_
  refine g_istore_n C [(2, .int (iI 0)), (0, .ref h), (1, .ref o)] dX0_lay_14 rfl hl (by decide) rfl ?_
  clear hl
  intro ls hl
  refine g_loop (σ := (Int) × (Int) × (Int → Int) × (Int → Int) × (Int → Int) × (Int → Int) × (Int → Int) × (Int → Int) × (Int → Int) × (Int → Int)) (fun z_ => [oX0 h a ct z_.2.1 rw, cA G (a 1) 12 z_.2.2.1, cA G (a 2) 4 z_.2.2.2.1, cA G (a 3) 8 z_.2.2.2.2.1, cA G (a 4) 8 z_.2.2.2.2.2.1, cA G (a 5) 8 z_.2.2.2.2.2.2.1, cA G (a 6) 8 z_.2.2.2.2.2.2.2.1, cA G (a 8) 8 z_.2.2.2.2.2.2.2.2.1, cA G (a 9) 8 z_.2.2.2.2.2.2.2.2.2, oX4 o b ct, cA G (b 1) 4 kd, cA G (b 2) 12 nu]) (fun z_ => [(2, .int (iI (z_.1))), (0, .ref h), (1, .ref o)]) (fun z_ => (0 ≤ z_.1 ∧ z_.1 ≤ ct) ∧ (LnX (exT ct kd nu) z_.1 z_.2.2.1) ∧ (LnT (exT ct kd nu) z_.1 z_.2.2.2.1) ∧ (LnZ (exT ct kd nu) z_.1 z_.2.2.2.2.1 z_.2.2.2.2.2.1 z_.2.2.2.2.2.2.1 z_.2.2.2.2.2.2.2.1) ∧ (hasB z_.2.2.2.2.2.2.2.2.1 z_.2.2.2.2.2.2.2.2.2 (ALb (exT ct kd nu) z_.1.toNat)) ∧ (z_.2.1 = ((ALb (exT ct kd nu) z_.1.toNat).length : Int))) (fun z_ => (ct - z_.1).toNat) (0, 0, ex, rt, mi, si, un, be, ka, br) ⟨by (try dsimp only); omega, by (try dsimp only); intro q h1 h2; omega, by (try dsimp only); intro q h1 h2; omega, by (try dsimp only); intro t ht; have := ht.1; have := ht.2.1; omega, by (try dsimp only); intro j x hx; simp [ALb] at hx, by (try dsimp only); simp [ALb]⟩ hw (lv_sub hl [0, 1, 2] rfl) ?_
  clear hw hl
  rintro ⟨pp, u1, ex1, rt1, mi1, si1, un1, be1, ka1, br1⟩ ⟨hpp, hX, hT, hZ, hB, hu1⟩ H locs ls hw hl ih_1
  replace hpp : 0 ≤ pp ∧ pp ≤ ct := hpp
  replace hX : LnX (exT ct kd nu) pp ex1 := hX
  replace hT : LnT (exT ct kd nu) pp rt1 := hT
  replace hZ : LnZ (exT ct kd nu) pp mi1 si1 un1 be1 := hZ
  replace hB : hasB ka1 br1 (ALb (exT ct kd nu) pp.toNat) := hB
  replace hu1 : u1 = ((ALb (exT ct kd nu) pp.toNat).length : Int) := hu1
  replace hw : gW D A s.heap [oX0 h a ct u1 rw, cA G (a 1) 12 ex1, cA G (a 2) 4 rt1, cA G (a 3) 8 mi1, cA G (a 4) 8 si1, cA G (a 5) 8 un1, cA G (a 6) 8 be1, cA G (a 8) 8 ka1, cA G (a 9) 8 br1, oX4 o b ct, cA G (b 1) 4 kd, cA G (b 2) 12 nu] H locs := hw
  replace hl : lv_has ls 4 [(2, .int (iI pp)), (0, .ref h), (1, .ref o)] := hl
  replace ih_1 : ∀ (pp' : Int) (u1' : Int) (ex1' : Int → Int) (rt1' : Int → Int) (mi1' : Int → Int) (si1' : Int → Int) (un1' : Int → Int) (be1' : Int → Int) (ka1' : Int → Int) (br1' : Int → Int), ((0 ≤ pp' ∧ pp' ≤ ct) ∧ (LnX (exT ct kd nu) pp' ex1') ∧ (LnT (exT ct kd nu) pp' rt1') ∧ (LnZ (exT ct kd nu) pp' mi1' si1' un1' be1') ∧ (hasB ka1' br1' (ALb (exT ct kd nu) pp'.toNat)) ∧ (u1' = ((ALb (exT ct kd nu) pp'.toNat).length : Int))) → ((ct - pp').toNat) < ((ct - pp).toNat) → ∀ (H : Heap) (locs : List Loc) (ls : Array Slot), gW D A s.heap [oX0 h a ct u1' rw, cA G (a 1) 12 ex1', cA G (a 2) 4 rt1', cA G (a 3) 8 mi1', cA G (a 4) 8 si1', cA G (a 5) 8 un1', cA G (a 6) 8 be1', cA G (a 8) 8 ka1', cA G (a 9) 8 br1', oX4 o b ct, cA G (b 1) 4 kd, cA G (b 2) 12 nu] H locs → lv_has ls 4 [(2, .int (iI (pp'))), (0, .ref h), (1, .ref o)] → W p l e _ s m _ below meth c H locs _ _ _ (F0 m 15 ls []) := fun pp' u1' ex1' rt1' mi1' si1' un1' be1' ka1' br1' => ih_1 (pp', u1', ex1', rt1', mi1', si1', un1', be1', ka1', br1')
  have hnr := nR_r (exT ct kd nu) pp
  refine g_iload_n C hl 0 rfl rfl dX0_lay_15 ?_
  refine g_aload_n C hl 1 rfl rfl dX0_lay_16 ?_
  refine g_get C hw hin_X0_lay_X0 0 rfl rfl 0 (by decide) lk_X0_lay_51 rfl dX0_lay_17 ?_
  refine g_icmp_ge C 87 dX0_lay_20 (by decide) (by omega) (by omega) (fun c_2 => ?_) (fun c_2 => ?_)
  · skip
    exact g_vret C hr (ws' := [oX0 h a ct u1 rw, cA G (a 1) 12 ex1, cA G (a 2) 4 rt1, cA G (a 3) 8 mi1, cA G (a 4) 8 si1, cA G (a 5) 8 un1, cA G (a 6) 8 be1, cA G (a 8) 8 ka1, cA G (a 9) 8 br1, oX4 o b ct, cA G (b 1) 4 kd, cA G (b 2) 12 nu]) hw [0, 1, 2, 3, 4, 5, 6, 7, 8, 9, 10, 11] (by decide) rfl ⟨ex1, rt1, mi1, si1, un1, be1, ka1, br1, (by rw [hu1, show pp = ct by omega]), (by have e9 : pp = ct := (by omega); rw [e9] at hX; exact hX), (by have e9 : pp = ct := (by omega); rw [e9] at hT; exact hT), (by have e9 : pp = ct := (by omega); rw [e9] at hZ; exact hZ), (by have e9 : pp = ct := (by omega); rw [e9] at hB; exact hB)⟩ dX0_lay_87
  · skip
    refine g_iconst C dX0_lay_23 ?_
    refine g_istore_n C [(3, .int (iI 0)), (2, .int (iI pp)), (0, .ref h), (1, .ref o)] dX0_lay_24 rfl hl (by decide) rfl ?_
    clear hl
    intro ls hl
    refine g_iload_n C hl 0 rfl rfl dX0_lay_25 ?_
    refine g_iconst C dX0_lay_26 ?_
    refine g_icmp_ge C 52 dX0_lay_27 (by decide) (by decide) (by decide) (fun c_3 => absurd c_3 (by decide)) (fun c_3 => ?_)
    refine g_aload_n C hl 2 rfl rfl dX0_lay_30 ?_
    refine g_get C hw hin_X0_lay_X0 0 rfl rfl 1 (by decide) lk_X0_lay_9 rfl dX0_lay_31 ?_
    refine g_iload_n C hl 1 rfl rfl dX0_lay_34 ?_
    refine g_iconst C dX0_lay_35 ?_
    refine g_imul C dX0_lay_36 ?_
    refine g_iload_n C hl 0 rfl rfl dX0_lay_37 ?_
    refine g_iadd C dX0_lay_38 ?_
    refine g_aload_n C hl 3 rfl rfl dX0_lay_39 ?_
    refine g_iload_n C hl 1 rfl rfl dX0_lay_40 ?_
    refine g_iload_n C hl 0 rfl rfl dX0_lay_41 ?_
    refine g_callVi C hw (wr := [oX0 h a ct u1 rw, cA G (a 1) 12 ex1, cA G (a 2) 4 rt1, cA G (a 3) 8 mi1, cA G (a 4) 8 si1, cA G (a 5) 8 un1, cA G (a 6) 8 be1, cA G (a 8) 8 ka1, cA G (a 9) 8 br1]) (As := [.int (iI pp), .int (iI 0)]) (rest := [.int (iI ((pp * 3) + 0)), .ref ((a 1))]) (m_X4_exact l D G (h := o) (a := b) (cn := ct) (kd := kd) (nu := nu) (pp := pp) (kk := 0) (by first | assumption | omega) (by first | assumption | omega) (by first | assumption | omega) (by first | assumption | omega)) (cwV 2 C.1.2.2.2.2 gX0_lay_X4_exact rfl rfl rfl (by decide +kernel) ⟨Nat.le_of_ble_eq_true rfl, Nat.le_of_ble_eq_true rfl⟩) [9, 10, 11] [0, 1, 2, 3, 4, 5, 6, 7, 8] rfl rfl (by decide) (by decide) (by decide) 0 rfl rfl rfl hl.1 _ rfl (Nat.le_of_ble_eq_true rfl) dX0_lay_42 ⟨Nat.le_of_ble_eq_true rfl, Nat.le_of_ble_eq_true rfl⟩ ?_
    clear hw
    rintro _ _ H locs ⟨rfl, rfl⟩ hw
    have hw : gW D A s.heap [oX0 h a ct u1 rw, cA G (a 1) 12 ex1, cA G (a 2) 4 rt1, cA G (a 3) 8 mi1, cA G (a 4) 8 si1, cA G (a 5) 8 un1, cA G (a 6) 8 be1, cA G (a 8) 8 ka1, cA G (a 9) 8 br1, oX4 o b ct, cA G (b 1) 4 kd, cA G (b 2) 12 nu] H locs := hw
    refine g_iast C hw [oX0 h a ct u1 rw, cA G (a 1) 12 (up ex1 ((pp * 3) + 0) (exF kd nu pp 0)), cA G (a 2) 4 rt1, cA G (a 3) 8 mi1, cA G (a 4) 8 si1, cA G (a 5) 8 un1, cA G (a 6) 8 be1, cA G (a 8) 8 ka1, cA G (a 9) 8 br1, oX4 o b ct, cA G (b 1) 4 kd, cA G (b 2) 12 nu] 1 rfl (by omega) (Nat.le_of_ble_eq_true rfl) rfl dX0_lay_45 ?_
    clear hw
    intro H locs hw
    refine g_iinc C [(3, .int (iI 1)), (2, .int (iI pp)), (0, .ref h), (1, .ref o)] 0 dX0_lay_46 hl rfl (by decide) rfl ?_
    clear hl
    intro ls hl
    refine g_goto C 25 dX0_lay_49 (by decide) ?_
    refine g_iload_n C hl 0 rfl rfl dX0_lay_25 ?_
    refine g_iconst C dX0_lay_26 ?_
    refine g_icmp_ge C 52 dX0_lay_27 (by decide) (by decide) (by decide) (fun c_4 => absurd c_4 (by decide)) (fun c_4 => ?_)
    refine g_aload_n C hl 2 rfl rfl dX0_lay_30 ?_
    refine g_get C hw hin_X0_lay_X0 0 rfl rfl 1 (by decide) lk_X0_lay_9 rfl dX0_lay_31 ?_
    refine g_iload_n C hl 1 rfl rfl dX0_lay_34 ?_
    refine g_iconst C dX0_lay_35 ?_
    refine g_imul C dX0_lay_36 ?_
    refine g_iload_n C hl 0 rfl rfl dX0_lay_37 ?_
    refine g_iadd C dX0_lay_38 ?_
    refine g_aload_n C hl 3 rfl rfl dX0_lay_39 ?_
    refine g_iload_n C hl 1 rfl rfl dX0_lay_40 ?_
    refine g_iload_n C hl 0 rfl rfl dX0_lay_41 ?_
    refine g_callVi C hw (wr := [oX0 h a ct u1 rw, cA G (a 1) 12 (up ex1 ((pp * 3) + 0) (exF kd nu pp 0)), cA G (a 2) 4 rt1, cA G (a 3) 8 mi1, cA G (a 4) 8 si1, cA G (a 5) 8 un1, cA G (a 6) 8 be1, cA G (a 8) 8 ka1, cA G (a 9) 8 br1]) (As := [.int (iI pp), .int (iI 1)]) (rest := [.int (iI ((pp * 3) + 1)), .ref ((a 1))]) (m_X4_exact l D G (h := o) (a := b) (cn := ct) (kd := kd) (nu := nu) (pp := pp) (kk := 1) (by first | assumption | omega) (by first | assumption | omega) (by first | assumption | omega) (by first | assumption | omega)) (cwV 2 C.1.2.2.2.2 gX0_lay_X4_exact rfl rfl rfl (by decide +kernel) ⟨Nat.le_of_ble_eq_true rfl, Nat.le_of_ble_eq_true rfl⟩) [9, 10, 11] [0, 1, 2, 3, 4, 5, 6, 7, 8] rfl rfl (by decide) (by decide) (by decide) 0 rfl rfl rfl hl.1 _ rfl (Nat.le_of_ble_eq_true rfl) dX0_lay_42 ⟨Nat.le_of_ble_eq_true rfl, Nat.le_of_ble_eq_true rfl⟩ ?_
    clear hw
    rintro _ _ H locs ⟨rfl, rfl⟩ hw
    have hw : gW D A s.heap [oX0 h a ct u1 rw, cA G (a 1) 12 (up ex1 ((pp * 3) + 0) (exF kd nu pp 0)), cA G (a 2) 4 rt1, cA G (a 3) 8 mi1, cA G (a 4) 8 si1, cA G (a 5) 8 un1, cA G (a 6) 8 be1, cA G (a 8) 8 ka1, cA G (a 9) 8 br1, oX4 o b ct, cA G (b 1) 4 kd, cA G (b 2) 12 nu] H locs := hw
    refine g_iast C hw [oX0 h a ct u1 rw, cA G (a 1) 12 (up (up ex1 ((pp * 3) + 0) (exF kd nu pp 0)) ((pp * 3) + 1) (exF kd nu pp 1)), cA G (a 2) 4 rt1, cA G (a 3) 8 mi1, cA G (a 4) 8 si1, cA G (a 5) 8 un1, cA G (a 6) 8 be1, cA G (a 8) 8 ka1, cA G (a 9) 8 br1, oX4 o b ct, cA G (b 1) 4 kd, cA G (b 2) 12 nu] 1 rfl (by omega) (Nat.le_of_ble_eq_true rfl) rfl dX0_lay_45 ?_
    clear hw
    intro H locs hw
    refine g_iinc C [(3, .int (iI 2)), (2, .int (iI pp)), (0, .ref h), (1, .ref o)] 0 dX0_lay_46 hl rfl (by decide) rfl ?_
    clear hl
    intro ls hl
    refine g_goto C 25 dX0_lay_49 (by decide) ?_
    refine g_iload_n C hl 0 rfl rfl dX0_lay_25 ?_
    refine g_iconst C dX0_lay_26 ?_
    refine g_icmp_ge C 52 dX0_lay_27 (by decide) (by decide) (by decide) (fun c_5 => absurd c_5 (by decide)) (fun c_5 => ?_)
    refine g_aload_n C hl 2 rfl rfl dX0_lay_30 ?_
    refine g_get C hw hin_X0_lay_X0 0 rfl rfl 1 (by decide) lk_X0_lay_9 rfl dX0_lay_31 ?_
    refine g_iload_n C hl 1 rfl rfl dX0_lay_34 ?_
    refine g_iconst C dX0_lay_35 ?_
    refine g_imul C dX0_lay_36 ?_
    refine g_iload_n C hl 0 rfl rfl dX0_lay_37 ?_
    refine g_iadd C dX0_lay_38 ?_
    refine g_aload_n C hl 3 rfl rfl dX0_lay_39 ?_
    refine g_iload_n C hl 1 rfl rfl dX0_lay_40 ?_
    refine g_iload_n C hl 0 rfl rfl dX0_lay_41 ?_
    refine g_callVi C hw (wr := [oX0 h a ct u1 rw, cA G (a 1) 12 (up (up ex1 ((pp * 3) + 0) (exF kd nu pp 0)) ((pp * 3) + 1) (exF kd nu pp 1)), cA G (a 2) 4 rt1, cA G (a 3) 8 mi1, cA G (a 4) 8 si1, cA G (a 5) 8 un1, cA G (a 6) 8 be1, cA G (a 8) 8 ka1, cA G (a 9) 8 br1]) (As := [.int (iI pp), .int (iI 2)]) (rest := [.int (iI ((pp * 3) + 2)), .ref ((a 1))]) (m_X4_exact l D G (h := o) (a := b) (cn := ct) (kd := kd) (nu := nu) (pp := pp) (kk := 2) (by first | assumption | omega) (by first | assumption | omega) (by first | assumption | omega) (by first | assumption | omega)) (cwV 2 C.1.2.2.2.2 gX0_lay_X4_exact rfl rfl rfl (by decide +kernel) ⟨Nat.le_of_ble_eq_true rfl, Nat.le_of_ble_eq_true rfl⟩) [9, 10, 11] [0, 1, 2, 3, 4, 5, 6, 7, 8] rfl rfl (by decide) (by decide) (by decide) 0 rfl rfl rfl hl.1 _ rfl (Nat.le_of_ble_eq_true rfl) dX0_lay_42 ⟨Nat.le_of_ble_eq_true rfl, Nat.le_of_ble_eq_true rfl⟩ ?_
    clear hw
    rintro _ _ H locs ⟨rfl, rfl⟩ hw
    have hw : gW D A s.heap [oX0 h a ct u1 rw, cA G (a 1) 12 (up (up ex1 ((pp * 3) + 0) (exF kd nu pp 0)) ((pp * 3) + 1) (exF kd nu pp 1)), cA G (a 2) 4 rt1, cA G (a 3) 8 mi1, cA G (a 4) 8 si1, cA G (a 5) 8 un1, cA G (a 6) 8 be1, cA G (a 8) 8 ka1, cA G (a 9) 8 br1, oX4 o b ct, cA G (b 1) 4 kd, cA G (b 2) 12 nu] H locs := hw
    refine g_iast C hw [oX0 h a ct u1 rw, cA G (a 1) 12 (up (up (up ex1 ((pp * 3) + 0) (exF kd nu pp 0)) ((pp * 3) + 1) (exF kd nu pp 1)) ((pp * 3) + 2) (exF kd nu pp 2)), cA G (a 2) 4 rt1, cA G (a 3) 8 mi1, cA G (a 4) 8 si1, cA G (a 5) 8 un1, cA G (a 6) 8 be1, cA G (a 8) 8 ka1, cA G (a 9) 8 br1, oX4 o b ct, cA G (b 1) 4 kd, cA G (b 2) 12 nu] 1 rfl (by omega) (Nat.le_of_ble_eq_true rfl) rfl dX0_lay_45 ?_
    clear hw
    intro H locs hw
    refine g_iinc C [(3, .int (iI 3)), (2, .int (iI pp)), (0, .ref h), (1, .ref o)] 0 dX0_lay_46 hl rfl (by decide) rfl ?_
    clear hl
    intro ls hl
    refine g_goto C 25 dX0_lay_49 (by decide) ?_
    refine g_iload_n C hl 0 rfl rfl dX0_lay_25 ?_
    refine g_iconst C dX0_lay_26 ?_
    refine g_icmp_ge C 52 dX0_lay_27 (by decide) (by decide) (by decide) (fun c_6 => ?_) (fun c_6 => absurd c_6 (by decide))
    have hX2 := LnX_s (E := (exT ct kd nu)) hpp.1 hX (exT_in (k := 0) ⟨hpp.1, by omega⟩).symm (exT_in (k := 1) ⟨hpp.1, by omega⟩).symm (exT_in (k := 2) ⟨hpp.1, by omega⟩).symm
    have hX3 := hX2 pp hpp.1 (by omega)
    refine g_aload_n C hl 2 rfl rfl dX0_lay_52 ?_
    refine g_iload_n C hl 1 rfl rfl dX0_lay_53 ?_
    refine g_callVv C hw (wr := [cA G (a 8) 8 ka1, cA G (a 9) 8 br1, oX4 o b ct, cA G (b 1) 4 kd, cA G (b 2) 12 nu]) (As := [.int (iI pp)]) (rest := []) (m_X0_findRoots l D G (h := h) (a := a) (cn := ct) (ul := u1) (rw := rw) (ex := (up (up (up ex1 ((pp * 3) + 0) (exF kd nu pp 0)) ((pp * 3) + 1) (exF kd nu pp 1)) ((pp * 3) + 2) (exF kd nu pp 2))) (rt := rt1) (mi := mi1) (si := si1) (un := un1) (be := be1) (E := (exT ct kd nu)) (pp := pp) (by exact hE) (by first | assumption | omega) (by exact hX3)) (cwV 1 C.1.2.2.2.2 gX0_lay_X0_findRoots rfl rfl rfl (by decide +kernel) ⟨Nat.le_of_ble_eq_true rfl, Nat.le_of_ble_eq_true rfl⟩) [0, 1, 2, 3, 4, 5, 6] [7, 8, 9, 10, 11] rfl rfl (by decide) (by decide) (by decide) 0 rfl rfl rfl hl.1 _ rfl (Nat.le_of_ble_eq_true rfl) dX0_lay_54 ⟨Nat.le_of_ble_eq_true rfl, Nat.le_of_ble_eq_true rfl⟩ ?_
    clear hw
    rintro _ H locs ⟨rtN, miN, siN, unN, beN, rfl, hp_7⟩ hw
    have hw : gW D A s.heap [cA G (a 8) 8 ka1, cA G (a 9) 8 br1, oX4 o b ct, cA G (b 1) 4 kd, cA G (b 2) 12 nu, oX0 h a ct u1 rw, cA G (a 1) 12 (up (up (up ex1 ((pp * 3) + 0) (exF kd nu pp 0)) ((pp * 3) + 1) (exF kd nu pp 1)) ((pp * 3) + 2) (exF kd nu pp 2)), cA G (a 2) 4 rtN, cA G (a 3) 8 miN, cA G (a 4) 8 siN, cA G (a 5) 8 unN, cA G (a 6) 8 beN] H locs := hw
    have hp_7 : fRp (exT ct kd nu) pp rt1 mi1 si1 un1 be1 rtN miN siN unN beN := hp_7
    have hfr := hp_7
    have hZ2 := LnZ_s hZ hfr
    have hT2 := LnT_s hT
    rw [← hfr.1] at hT2
    have hT3 := hT2 pp hpp.1 (by omega)
    refine g_iconst C dX0_lay_57 ?_
    refine g_istore_n C [(3, .int (iI 0)), (2, .int (iI pp)), (0, .ref h), (1, .ref o)] dX0_lay_58 rfl hl (by decide) rfl ?_
    clear hl
    intro ls hl
    refine g_loop (σ := (Int) × (Int) × (Int → Int) × (Int → Int)) (fun z_ => [cA G (a 8) 8 z_.2.2.1, cA G (a 9) 8 z_.2.2.2, oX4 o b ct, cA G (b 1) 4 kd, cA G (b 2) 12 nu, oX0 h a ct z_.2.1 rw, cA G (a 1) 12 (up (up (up ex1 ((pp * 3) + 0) (exF kd nu pp 0)) ((pp * 3) + 1) (exF kd nu pp 1)) ((pp * 3) + 2) (exF kd nu pp 2)), cA G (a 2) 4 rtN, cA G (a 3) 8 miN, cA G (a 4) 8 siN, cA G (a 5) 8 unN, cA G (a 6) 8 beN]) (fun z_ => [(3, .int (iI (z_.1))), (2, .int (iI pp)), (0, .ref h), (1, .ref o)]) (fun z_ => (0 ≤ z_.1 ∧ z_.1 ≤ nR (exT ct kd nu) pp) ∧ (hasB z_.2.2.1 z_.2.2.2 (insBR (exT ct kd nu) pp (ALb (exT ct kd nu) pp.toNat) z_.1.toNat)) ∧ (z_.2.1 = ((insBR (exT ct kd nu) pp (ALb (exT ct kd nu) pp.toNat) z_.1.toNat).length : Int))) (fun z_ => (nR (exT ct kd nu) pp - z_.1).toNat) (0, u1, ka1, br1) ⟨by (try dsimp only); omega, by (try dsimp only); exact hB, by (try dsimp only); exact hu1⟩ hw (lv_sub hl [0, 1, 2, 3] rfl) ?_
    clear hw hl
    rintro ⟨ii, u2, ka3, br3⟩ ⟨hii, hB2, hu2⟩ H locs ls hw hl ih_8
    replace hii : 0 ≤ ii ∧ ii ≤ nR (exT ct kd nu) pp := hii
    replace hB2 : hasB ka3 br3 (insBR (exT ct kd nu) pp (ALb (exT ct kd nu) pp.toNat) ii.toNat) := hB2
    replace hu2 : u2 = ((insBR (exT ct kd nu) pp (ALb (exT ct kd nu) pp.toNat) ii.toNat).length : Int) := hu2
    replace hw : gW D A s.heap [cA G (a 8) 8 ka3, cA G (a 9) 8 br3, oX4 o b ct, cA G (b 1) 4 kd, cA G (b 2) 12 nu, oX0 h a ct u2 rw, cA G (a 1) 12 (up (up (up ex1 ((pp * 3) + 0) (exF kd nu pp 0)) ((pp * 3) + 1) (exF kd nu pp 1)) ((pp * 3) + 2) (exF kd nu pp 2)), cA G (a 2) 4 rtN, cA G (a 3) 8 miN, cA G (a 4) 8 siN, cA G (a 5) 8 unN, cA G (a 6) 8 beN] H locs := hw
    replace hl : lv_has ls 4 [(3, .int (iI ii)), (2, .int (iI pp)), (0, .ref h), (1, .ref o)] := hl
    replace ih_8 : ∀ (ii' : Int) (u2' : Int) (ka3' : Int → Int) (br3' : Int → Int), ((0 ≤ ii' ∧ ii' ≤ nR (exT ct kd nu) pp) ∧ (hasB ka3' br3' (insBR (exT ct kd nu) pp (ALb (exT ct kd nu) pp.toNat) ii'.toNat)) ∧ (u2' = ((insBR (exT ct kd nu) pp (ALb (exT ct kd nu) pp.toNat) ii'.toNat).length : Int))) → ((nR (exT ct kd nu) pp - ii').toNat) < ((nR (exT ct kd nu) pp - ii).toNat) → ∀ (H : Heap) (locs : List Loc) (ls : Array Slot), gW D A s.heap [cA G (a 8) 8 ka3', cA G (a 9) 8 br3', oX4 o b ct, cA G (b 1) 4 kd, cA G (b 2) 12 nu, oX0 h a ct u2' rw, cA G (a 1) 12 (up (up (up ex1 ((pp * 3) + 0) (exF kd nu pp 0)) ((pp * 3) + 1) (exF kd nu pp 1)) ((pp * 3) + 2) (exF kd nu pp 2)), cA G (a 2) 4 rtN, cA G (a 3) 8 miN, cA G (a 4) 8 siN, cA G (a 5) 8 unN, cA G (a 6) 8 beN] H locs → lv_has ls 4 [(3, .int (iI (ii'))), (2, .int (iI pp)), (0, .ref h), (1, .ref o)] → W p l e _ s m _ below meth c H locs _ _ _ (F0 m 59 ls []) := fun ii' u2' ka3' br3' => ih_8 (ii', u2', ka3', br3')
    have hln := insBR_len (E := (exT ct kd nu)) hpp.1 hii.1
    refine g_iload_n C hl 0 rfl rfl dX0_lay_59 ?_
    refine g_aload_n C hl 2 rfl rfl dX0_lay_60 ?_
    refine g_get C hw hin_X0_lay_X0 5 rfl rfl 2 (by decide) lk_X0_lay_15 rfl dX0_lay_61 ?_
    refine g_iload_n C hl 1 rfl rfl dX0_lay_64 ?_
    refine g_iald C hw 7 rfl (by omega) (Nat.le_of_ble_eq_true rfl) dX0_lay_65 ?_
    refine g_nI (show (rtN pp : Int) = nR (exT ct kd nu) pp by exact hT3) ?_
    refine g_icmp_ge C 81 dX0_lay_66 (by decide) (by omega) (by omega) (fun c_9 => ?_) (fun c_9 => ?_)
    · skip
      refine g_iinc C [(2, .int (iI (pp + 1))), (3, .int (iI ii)), (0, .ref h), (1, .ref o)] 1 dX0_lay_81 hl rfl (by decide) rfl ?_
      clear hl
      intro ls hl
      refine g_goto C 15 dX0_lay_84 (by decide) ?_
      have hw : gW D A s.heap [oX0 h a ct u2 rw, cA G (a 1) 12 (up (up (up ex1 ((pp * 3) + 0) (exF kd nu pp 0)) ((pp * 3) + 1) (exF kd nu pp 1)) ((pp * 3) + 2) (exF kd nu pp 2)), cA G (a 2) 4 rtN, cA G (a 3) 8 miN, cA G (a 4) 8 siN, cA G (a 5) 8 unN, cA G (a 6) 8 beN, cA G (a 8) 8 ka3, cA G (a 9) 8 br3, oX4 o b ct, cA G (b 1) 4 kd, cA G (b 2) 12 nu] H locs := g_perm hw [5, 6, 7, 8, 9, 10, 11, 0, 1, 2, 3, 4] (by decide) rfl
      exact ih_1 (pp + 1) u2 (up (up (up ex1 ((pp * 3) + 0) (exF kd nu pp 0)) ((pp * 3) + 1) (exF kd nu pp 1)) ((pp * 3) + 2) (exF kd nu pp 2)) rtN miN siN unN beN ka3 br3 ⟨by omega, by exact hX2, by exact hT2, by exact hZ2, by rw [ALb_s hpp.1, show nR (exT ct kd nu) pp = ii by omega]; exact hB2, by rw [ALb_s hpp.1, show nR (exT ct kd nu) pp = ii by omega]; exact hu2⟩ (by omega) H locs ls hw (lv_sub hl [0, 2, 3] rfl)
    · skip
      refine g_aload_n C hl 2 rfl rfl dX0_lay_69 ?_
      refine g_iload_n C hl 1 rfl rfl dX0_lay_70 ?_
      refine g_iload_n C hl 0 rfl rfl dX0_lay_71 ?_
      refine g_callVv C hw (wr := [oX4 o b ct, cA G (b 1) 4 kd, cA G (b 2) 12 nu, cA G (a 2) 4 rtN]) (As := [.int (iI pp), .int (iI ii)]) (rest := []) (m_X0_enterInOrder l D G (h := h) (a := a) (cn := ct) (ul := u2) (rw := rw) (ex := (up (up (up ex1 ((pp * 3) + 0) (exF kd nu pp 0)) ((pp * 3) + 1) (exF kd nu pp 1)) ((pp * 3) + 2) (exF kd nu pp 2))) (mi := miN) (si := siN) (un := unN) (be := beN) (ka := ka3) (br := br3) (E := (exT ct kd nu)) (nn := (pp + 1)) (LB := (insBR (exT ct kd nu) pp (ALb (exT ct kd nu) pp.toNat) ii.toNat)) (pp := pp) (ii := ii) (by exact hE) (by first | assumption | omega) (by exact hX2) (by exact hZ2) (by first | assumption | omega) (by first | assumption | omega) (by exact hB2) (by exact hu2) (by first | assumption | omega) (by exact fun x hx => insBR_rt hpp.1 hii.1 (by omega) hx)) (cwV 2 C.1.2.2.2.2 gX0_lay_X0_enterInOrder rfl rfl rfl (by decide +kernel) ⟨Nat.le_of_ble_eq_true rfl, Nat.le_of_ble_eq_true rfl⟩) [5, 6, 8, 9, 10, 11, 0, 1] [2, 3, 4, 7] rfl rfl (by decide) (by decide) (by decide) 0 rfl rfl rfl hl.1 _ rfl (Nat.le_of_ble_eq_true rfl) dX0_lay_72 ⟨Nat.le_of_ble_eq_true rfl, Nat.le_of_ble_eq_true rfl⟩ ?_
      clear hw
      rintro _ H locs ⟨ul2__10, ka2__11, br2__12, rfl, hp_13, hp_14⟩ hw
      have hw : gW D A s.heap [oX4 o b ct, cA G (b 1) 4 kd, cA G (b 2) 12 nu, cA G (a 2) 4 rtN, oX0 h a ct ul2__10 rw, cA G (a 1) 12 (up (up (up ex1 ((pp * 3) + 0) (exF kd nu pp 0)) ((pp * 3) + 1) (exF kd nu pp 1)) ((pp * 3) + 2) (exF kd nu pp 2)), cA G (a 3) 8 miN, cA G (a 4) 8 siN, cA G (a 5) 8 unN, cA G (a 6) 8 beN, cA G (a 8) 8 ka2__11, cA G (a 9) 8 br2__12] H locs := hw
      have hp_13 : hasB ka2__11 br2__12 (insB (exT ct kd nu) (2 * pp + ii) (shI pp) (insBR (exT ct kd nu) pp (ALb (exT ct kd nu) pp.toNat) ii.toNat)) := hp_13
      have hp_14 : ul2__10 = ((insB (exT ct kd nu) (2 * pp + ii) (shI pp) (insBR (exT ct kd nu) pp (ALb (exT ct kd nu) pp.toNat) ii.toNat)).length : Int) := hp_14
      have hBn := hp_13
      have hun := hp_14
      refine g_iinc C [(3, .int (iI (ii + 1))), (2, .int (iI pp)), (0, .ref h), (1, .ref o)] 0 dX0_lay_75 hl rfl (by decide) rfl ?_
      clear hl
      intro ls hl
      refine g_goto C 59 dX0_lay_78 (by decide) ?_
      have hw : gW D A s.heap [cA G (a 8) 8 ka2__11, cA G (a 9) 8 br2__12, oX4 o b ct, cA G (b 1) 4 kd, cA G (b 2) 12 nu, oX0 h a ct ul2__10 rw, cA G (a 1) 12 (up (up (up ex1 ((pp * 3) + 0) (exF kd nu pp 0)) ((pp * 3) + 1) (exF kd nu pp 1)) ((pp * 3) + 2) (exF kd nu pp 2)), cA G (a 2) 4 rtN, cA G (a 3) 8 miN, cA G (a 4) 8 siN, cA G (a 5) 8 unN, cA G (a 6) 8 beN] H locs := g_perm hw [10, 11, 0, 1, 2, 4, 5, 3, 6, 7, 8, 9] (by decide) rfl
      exact ih_8 (ii + 1) ul2__10 ka2__11 br2__12 ⟨by omega, by rw [insBR_s hii.1]; exact hBn, by rw [insBR_s hii.1]; exact hun⟩ (by omega) H locs ls hw (lv_sub hl [0, 1, 2, 3] rfl)
