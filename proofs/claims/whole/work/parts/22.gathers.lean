set_option maxRecDepth 20000 in
theorem hin_X6_gathers_X6 : ∀ w ∈ u_ws RX6 TX6 30, w ∈ wsX6_gathers := by
  intro w h
  exact List.mem_cons_of_mem _ (List.mem_append_right _ (h))
set_option maxRecDepth 20000 in
theorem lk_X6_gathers_167 : Cond.fieldLink RX6 167 (TX6 12).1 (TX6 12).2.1 (TX6 12).2.2.1 ∈ wsX6_gathers := List.mem_cons_of_mem _ (List.mem_append_left _ (List.mem_append_left _ (List.mem_of_getElem? (i := 0) rfl)))
set_option maxRecDepth 20000 in
theorem lk_X6_gathers_75 : Cond.fieldLink RX6 75 (TX6 1).1 (TX6 1).2.1 (TX6 1).2.2.1 ∈ wsX6_gathers := List.mem_cons_of_mem _ (List.mem_append_left _ (List.mem_append_left _ (List.mem_of_getElem? (i := 1) rfl)))
set_option maxRecDepth 100000 in
set_option maxHeartbeats 8000000 in
theorem m_X6_gathers (l : Launch) (D : va_G) (G : gT) (h : Nat) (a : Nat → Nat) (ft : Int) (pn : Int) (ra : Int) (rm : Int) (rP : Int) (rS : Int) (rD : Int) (rQ : Int) (al : Int) (rw : Int) (rc : Int) (tr : Int) (kd : Int → Int) (nu : Int → Int) (vP : Int → Int) (vS : Int → Int) (vD : Int → Int) (vQ : Int → Int) (hkd : kdOK kd) (hnu : nuOK nu) (hn : 0 ≤ pn ∧ pn ≤ 4) : gMv l yX6_gathers wsX6_gathers ({ frames := 3, cells := 0, slots := 0, locals := 80 }) D G [.ref h] [oX6 h a ft pn ra rm rP rS rD rQ al rw rc tr, cA G (a 2) 4 kd, cA G (a 3) 12 nu, cJ G (a 13) 8 vP, cJ G (a 14) 8 vS, cJ G (a 15) 8 vD, cJ G (a 16) 8 vQ] 0 0 (fun (w : va_W) => ∃ (r2P : Int) (r2S : Int) (r2D : Int) (r2Q : Int) (vP2 : Int → Int) (vS2 : Int → Int) (vD2 : Int → Int) (vQ2 : Int → Int), w = [oX6 h a ft pn ra rm r2P r2S r2D r2Q ((ALn (exT pn kd nu) pn.toNat).length : Int) rw rc tr, cA G (a 2) 4 kd, cA G (a 3) 12 nu, cJ G (a 13) 8 vP2, cJ G (a 14) 8 vS2, cJ G (a 15) 8 vD2, cJ G (a 16) 8 vQ2] ∧ (MR (exT pn kd nu) (ALn (exT pn kd nu) pn.toNat) vP2 vS2 vD2 vQ2)) := by
  refine g_start_v (cc := cX6_gathers) (nL := 4) (own := RX6) (ret := none) (by decide +kernel) rfl rfl (Nat.le_of_ble_eq_true rfl) ?_
  intro p e s m below meth c A ls C hr hnm hw hl
  have hl : lv_has ls 4 [(0, .ref h)] := hl
  have hE := exT_B pn kd hnu
  refine g_aload_n C hl 0 rfl rfl dX6_gathers_0 ?_
  refine g_iconst C dX6_gathers_1 ?_
  refine g_put C hw [oX6 h a ft pn ra rm rP rS rD rQ 0 rw rc tr, cA G (a 2) 4 kd, cA G (a 3) 12 nu, cJ G (a 13) 8 vP, cJ G (a 14) 8 vS, cJ G (a 15) 8 vD, cJ G (a 16) 8 vQ] hin_X6_gathers_X6 tyX6 tyX6_ok nmX6 0 rfl rfl 12 (by decide) lk_X6_gathers_167 rfl rfl rfl rfl (Nat.le_of_ble_eq_true rfl) rfl dX6_gathers_2 ?_
  clear hw
  intro H locs hw
  refine g_iconst C dX6_gathers_5 ?_
  refine g_istore_n C [(1, .int (iI 0)), (0, .ref h)] dX6_gathers_6 rfl hl (by decide) rfl ?_
  clear hl
  intro ls hl
  refine g_loop (σ := (Int) × (Int) × (Int) × (Int) × (Int) × (Int) × (Int → Int) × (Int → Int) × (Int → Int) × (Int → Int)) (fun z_ => [oX6 h a ft pn ra rm z_.2.2.1 z_.2.2.2.1 z_.2.2.2.2.1 z_.2.2.2.2.2.1 z_.2.1 rw rc tr, cA G (a 2) 4 kd, cA G (a 3) 12 nu, cJ G (a 13) 8 z_.2.2.2.2.2.2.1, cJ G (a 14) 8 z_.2.2.2.2.2.2.2.1, cJ G (a 15) 8 z_.2.2.2.2.2.2.2.2.1, cJ G (a 16) 8 z_.2.2.2.2.2.2.2.2.2]) (fun z_ => [(1, .int (iI (z_.1))), (0, .ref h)]) (fun z_ => (0 ≤ z_.1 ∧ z_.1 ≤ pn) ∧ (z_.2.1 = ((ALn (exT pn kd nu) z_.1.toNat).length : Int)) ∧ (MR (exT pn kd nu) (ALn (exT pn kd nu) z_.1.toNat) z_.2.2.2.2.2.2.1 z_.2.2.2.2.2.2.2.1 z_.2.2.2.2.2.2.2.2.1 z_.2.2.2.2.2.2.2.2.2)) (fun z_ => (pn - z_.1).toNat) (0, 0, rP, rS, rD, rQ, vP, vS, vD, vQ) ⟨by (try dsimp only); omega, by (try dsimp only); simp [ALn], by (try dsimp only); intro j t ht; simp [ALn] at ht⟩ hw (lv_sub hl [0, 1] rfl) ?_
  clear hw hl
  rintro ⟨pp, a1, gP, gS, gD, gQ, f1, f2, f3, f4⟩ ⟨hpp, ha1, hM⟩ H locs ls hw hl ih_1
  replace hpp : 0 ≤ pp ∧ pp ≤ pn := hpp
  replace ha1 : a1 = ((ALn (exT pn kd nu) pp.toNat).length : Int) := ha1
  replace hM : MR (exT pn kd nu) (ALn (exT pn kd nu) pp.toNat) f1 f2 f3 f4 := hM
  replace hw : gW D A s.heap [oX6 h a ft pn ra rm gP gS gD gQ a1 rw rc tr, cA G (a 2) 4 kd, cA G (a 3) 12 nu, cJ G (a 13) 8 f1, cJ G (a 14) 8 f2, cJ G (a 15) 8 f3, cJ G (a 16) 8 f4] H locs := hw
  replace hl : lv_has ls 4 [(1, .int (iI pp)), (0, .ref h)] := hl
  replace ih_1 : ∀ (pp' : Int) (a1' : Int) (gP' : Int) (gS' : Int) (gD' : Int) (gQ' : Int) (f1' : Int → Int) (f2' : Int → Int) (f3' : Int → Int) (f4' : Int → Int), ((0 ≤ pp' ∧ pp' ≤ pn) ∧ (a1' = ((ALn (exT pn kd nu) pp'.toNat).length : Int)) ∧ (MR (exT pn kd nu) (ALn (exT pn kd nu) pp'.toNat) f1' f2' f3' f4')) → ((pn - pp').toNat) < ((pn - pp).toNat) → ∀ (H : Heap) (locs : List Loc) (ls : Array Slot), gW D A s.heap [oX6 h a ft pn ra rm gP' gS' gD' gQ' a1' rw rc tr, cA G (a 2) 4 kd, cA G (a 3) 12 nu, cJ G (a 13) 8 f1', cJ G (a 14) 8 f2', cJ G (a 15) 8 f3', cJ G (a 16) 8 f4'] H locs → lv_has ls 4 [(1, .int (iI (pp'))), (0, .ref h)] → W p l e _ s m _ below meth c H locs _ _ _ (F0 m 7 ls []) := fun pp' a1' gP' gS' gD' gQ' f1' f2' f3' f4' => ih_1 (pp', a1', gP', gS', gD', gQ', f1', f2', f3', f4')
  have hlen1 := ALn_len (exT pn kd nu) pp.toNat
  have hnr := nR_r (exT pn kd nu) pp
  refine g_iload_n C hl 0 rfl rfl dX6_gathers_7 ?_
  refine g_aload_n C hl 1 rfl rfl dX6_gathers_8 ?_
  refine g_get C hw hin_X6_gathers_X6 0 rfl rfl 1 (by decide) lk_X6_gathers_75 rfl dX6_gathers_9 ?_
  refine g_icmp_ge C 89 dX6_gathers_12 (by decide) (by omega) (by omega) (fun c_2 => ?_) (fun c_2 => ?_)
  · skip
    exact g_vret C hr (ws' := [oX6 h a ft pn ra rm gP gS gD gQ a1 rw rc tr, cA G (a 2) 4 kd, cA G (a 3) 12 nu, cJ G (a 13) 8 f1, cJ G (a 14) 8 f2, cJ G (a 15) 8 f3, cJ G (a 16) 8 f4]) hw [0, 1, 2, 3, 4, 5, 6] (by decide) rfl ⟨gP, gS, gD, gQ, f1, f2, f3, f4, (by rw [ha1, show pp = pn by omega]), (by have e9 : pp = pn := (by omega); rw [e9] at hM; exact hM)⟩ dX6_gathers_89
  · skip
    refine g_iconst C dX6_gathers_15 ?_
    refine g_istore_n C [(2, .int (iI 0)), (1, .int (iI pp)), (0, .ref h)] dX6_gathers_16 rfl hl (by decide) rfl ?_
    clear hl
    intro ls hl
    refine g_loop (σ := (Int) × (Int) × (Int) × (Int) × (Int) × (Int) × (Int → Int) × (Int → Int) × (Int → Int) × (Int → Int)) (fun z_ => [oX6 h a ft pn ra rm z_.2.2.1 z_.2.2.2.1 z_.2.2.2.2.1 z_.2.2.2.2.2.1 z_.2.1 rw rc tr, cA G (a 2) 4 kd, cA G (a 3) 12 nu, cJ G (a 13) 8 z_.2.2.2.2.2.2.1, cJ G (a 14) 8 z_.2.2.2.2.2.2.2.1, cJ G (a 15) 8 z_.2.2.2.2.2.2.2.2.1, cJ G (a 16) 8 z_.2.2.2.2.2.2.2.2.2]) (fun z_ => [(2, .int (iI (z_.1))), (1, .int (iI pp)), (0, .ref h)]) (fun z_ => (0 ≤ z_.1 ∧ z_.1 ≤ nR (exT pn kd nu) pp) ∧ (z_.2.1 = ((insR (exT pn kd nu) pp (ALn (exT pn kd nu) pp.toNat) z_.1.toNat).length : Int)) ∧ (MR (exT pn kd nu) (insR (exT pn kd nu) pp (ALn (exT pn kd nu) pp.toNat) z_.1.toNat) z_.2.2.2.2.2.2.1 z_.2.2.2.2.2.2.2.1 z_.2.2.2.2.2.2.2.2.1 z_.2.2.2.2.2.2.2.2.2)) (fun z_ => (nR (exT pn kd nu) pp - z_.1).toNat) (0, a1, gP, gS, gD, gQ, f1, f2, f3, f4) ⟨by (try dsimp only); omega, by (try dsimp only); exact ha1, by (try dsimp only); exact hM⟩ hw (lv_sub hl [0, 1, 2] rfl) ?_
    clear hw hl
    rintro ⟨ii, a2, xP, xS, xD, xQ, k1, k2, k3, k4⟩ ⟨hii, ha2, hM2⟩ H locs ls hw hl ih_3
    replace hii : 0 ≤ ii ∧ ii ≤ nR (exT pn kd nu) pp := hii
    replace ha2 : a2 = ((insR (exT pn kd nu) pp (ALn (exT pn kd nu) pp.toNat) ii.toNat).length : Int) := ha2
    replace hM2 : MR (exT pn kd nu) (insR (exT pn kd nu) pp (ALn (exT pn kd nu) pp.toNat) ii.toNat) k1 k2 k3 k4 := hM2
    replace hw : gW D A s.heap [oX6 h a ft pn ra rm xP xS xD xQ a2 rw rc tr, cA G (a 2) 4 kd, cA G (a 3) 12 nu, cJ G (a 13) 8 k1, cJ G (a 14) 8 k2, cJ G (a 15) 8 k3, cJ G (a 16) 8 k4] H locs := hw
    replace hl : lv_has ls 4 [(2, .int (iI ii)), (1, .int (iI pp)), (0, .ref h)] := hl
    replace ih_3 : ∀ (ii' : Int) (a2' : Int) (xP' : Int) (xS' : Int) (xD' : Int) (xQ' : Int) (k1' : Int → Int) (k2' : Int → Int) (k3' : Int → Int) (k4' : Int → Int), ((0 ≤ ii' ∧ ii' ≤ nR (exT pn kd nu) pp) ∧ (a2' = ((insR (exT pn kd nu) pp (ALn (exT pn kd nu) pp.toNat) ii'.toNat).length : Int)) ∧ (MR (exT pn kd nu) (insR (exT pn kd nu) pp (ALn (exT pn kd nu) pp.toNat) ii'.toNat) k1' k2' k3' k4')) → ((nR (exT pn kd nu) pp - ii').toNat) < ((nR (exT pn kd nu) pp - ii).toNat) → ∀ (H : Heap) (locs : List Loc) (ls : Array Slot), gW D A s.heap [oX6 h a ft pn ra rm xP' xS' xD' xQ' a2' rw rc tr, cA G (a 2) 4 kd, cA G (a 3) 12 nu, cJ G (a 13) 8 k1', cJ G (a 14) 8 k2', cJ G (a 15) 8 k3', cJ G (a 16) 8 k4'] H locs → lv_has ls 4 [(2, .int (iI (ii'))), (1, .int (iI pp)), (0, .ref h)] → W p l e _ s m _ below meth c H locs _ _ _ (F0 m 17 ls []) := fun ii' a2' xP' xS' xD' xQ' k1' k2' k3' k4' => ih_3 (ii', a2', xP', xS', xD', xQ', k1', k2', k3', k4')
    have hlen2 := insR_len (exT pn kd nu) pp (ALn (exT pn kd nu) pp.toNat) ii.toNat
    refine g_iload_n C hl 0 rfl rfl dX6_gathers_17 ?_
    refine g_aload_n C hl 2 rfl rfl dX6_gathers_18 ?_
    refine g_iload_n C hl 1 rfl rfl dX6_gathers_19 ?_
    refine g_callVi C hw (wr := [cJ G (a 13) 8 k1, cJ G (a 14) 8 k2, cJ G (a 15) 8 k3, cJ G (a 16) 8 k4]) (As := [.int (iI pp)]) (rest := [.int (iI ii)]) (m_X6_rootsOf l D G (h := h) (a := a) (ft := ft) (pn := pn) (ra := ra) (rm := rm) (rP := xP) (rS := xS) (rD := xD) (rQ := xQ) (al := a2) (rw := rw) (rc := rc) (tr := tr) (kd := kd) (nu := nu) (pp := pp) (by first | assumption | omega) (by first | assumption | omega) (by first | assumption | omega) (by first | assumption | omega)) (cwV 1 C.1.2.2.2.2 gX6_gathers_X6_rootsOf rfl rfl rfl (by decide +kernel) ⟨Nat.le_of_ble_eq_true rfl, Nat.le_of_ble_eq_true rfl⟩) [0, 1, 2] [3, 4, 5, 6] rfl rfl (by decide) (by decide) (by decide) 0 rfl rfl rfl hl.1 _ rfl (Nat.le_of_ble_eq_true rfl) dX6_gathers_20 ⟨Nat.le_of_ble_eq_true rfl, Nat.le_of_ble_eq_true rfl⟩ ?_
    clear hw
    rintro _ _ H locs ⟨rfl, rfl⟩ hw
    have hw : gW D A s.heap [cJ G (a 13) 8 k1, cJ G (a 14) 8 k2, cJ G (a 15) 8 k3, cJ G (a 16) 8 k4, oX6 h a ft pn ra rm xP xS xD xQ a2 rw rc tr, cA G (a 2) 4 kd, cA G (a 3) 12 nu] H locs := hw
    refine g_icmp_ge C 83 dX6_gathers_23 (by decide) (by omega) (by omega) (fun c_4 => ?_) (fun c_4 => ?_)
    · skip
      refine g_iinc C [(1, .int (iI (pp + 1))), (2, .int (iI ii)), (0, .ref h)] 1 dX6_gathers_83 hl rfl (by decide) rfl ?_
      clear hl
      intro ls hl
      refine g_goto C 7 dX6_gathers_86 (by decide) ?_
      have hw : gW D A s.heap [oX6 h a ft pn ra rm xP xS xD xQ a2 rw rc tr, cA G (a 2) 4 kd, cA G (a 3) 12 nu, cJ G (a 13) 8 k1, cJ G (a 14) 8 k2, cJ G (a 15) 8 k3, cJ G (a 16) 8 k4] H locs := g_perm hw [4, 5, 6, 0, 1, 2, 3] (by decide) rfl
      exact ih_1 (pp + 1) a2 xP xS xD xQ k1 k2 k3 k4 ⟨by omega, by rw [ALn_s hpp.1, show nR (exT pn kd nu) pp = ii by omega]; exact ha2, by rw [ALn_s hpp.1, show nR (exT pn kd nu) pp = ii by omega]; exact hM2⟩ (by omega) H locs ls hw (lv_sub hl [0, 2] rfl)
    · skip
      refine g_aload_n C hl 2 rfl rfl dX6_gathers_26 ?_
      refine g_iload_n C hl 1 rfl rfl dX6_gathers_27 ?_
      refine g_iload_n C hl 0 rfl rfl dX6_gathers_28 ?_
      refine g_callVv C hw (wr := [cJ G (a 13) 8 k1, cJ G (a 14) 8 k2, cJ G (a 15) 8 k3, cJ G (a 16) 8 k4]) (As := [.int (iI pp), .int (iI ii)]) (rest := []) (m_X6_takesRoot l D G (h := h) (a := a) (ft := ft) (pn := pn) (ra := ra) (rm := rm) (rP := xP) (rS := xS) (rD := xD) (rQ := xQ) (al := a2) (rw := rw) (rc := rc) (tr := tr) (kd := kd) (nu := nu) (pp := pp) (ii := ii) (by first | assumption | omega) (by first | assumption | omega) (by first | assumption | omega) (by first | assumption | omega) (by first | assumption | omega)) (cwV 2 C.1.2.2.2.2 gX6_gathers_X6_takesRoot rfl rfl rfl (by decide +kernel) ⟨Nat.le_of_ble_eq_true rfl, Nat.le_of_ble_eq_true rfl⟩) [4, 5, 6] [0, 1, 2, 3] rfl rfl (by decide) (by decide) (by decide) 0 rfl rfl rfl hl.1 _ rfl (Nat.le_of_ble_eq_true rfl) dX6_gathers_29 ⟨Nat.le_of_ble_eq_true rfl, Nat.le_of_ble_eq_true rfl⟩ ?_
      clear hw
      rintro _ H locs rfl hw
      have hw : gW D A s.heap [cJ G (a 13) 8 k1, cJ G (a 14) 8 k2, cJ G (a 15) 8 k3, cJ G (a 16) 8 k4, oX6 h a ft pn ra rm (zP (exT pn kd nu) pp) (zS (exT pn kd nu) pp ii) (zD (exT pn kd nu) pp) (zQ (exT pn kd nu) pp) a2 rw rc tr, cA G (a 2) 4 kd, cA G (a 3) 12 nu] H locs := hw
      have hr1 := rt_ok hE (q := pp) (i := ii) ⟨by omega, by omega⟩
      refine g_cut (D := D) (A := A) (H0 := s.heap) (nL := 4) (σ := (Int)) (fun z_ => [cJ G (a 13) 8 k1, cJ G (a 14) 8 k2, cJ G (a 15) 8 k3, cJ G (a 16) 8 k4, oX6 h a ft pn ra rm (zP (exT pn kd nu) pp) (zS (exT pn kd nu) pp ii) (zD (exT pn kd nu) pp) (zQ (exT pn kd nu) pp) a2 rw rc tr, cA G (a 2) 4 kd, cA G (a 3) 12 nu]) (fun z_ => [(2, .int (iI ii)), (1, .int (iI pp)), (0, .ref h), (3, .int (iI z_))]) (fun z_ => (0 ≤ z_ ∧ z_ ≤ a2) ∧ (∀ (j : Nat) (x : Int), (j : Int) < z_ → (insR (exT pn kd nu) pp (ALn (exT pn kd nu) pp.toNat) ii.toNat)[j]? = some x → 0 < cmE (exT pn kd nu) (2 * pp + ii) x) ∧ (z_ = a2 ∨ ∃ x, (insR (exT pn kd nu) pp (ALn (exT pn kd nu) pp.toNat) ii.toNat)[z_.toNat]? = some x ∧ cmE (exT pn kd nu) (2 * pp + ii) x ≤ 0)) 56 (fun z_ => []) ?_ ?_
      · clear hw hl
        rintro kk ⟨hkk, hless, hat⟩ H locs ls hw hl
        replace hkk : 0 ≤ kk ∧ kk ≤ a2 := hkk
        replace hless : ∀ (j : Nat) (x : Int), (j : Int) < kk → (insR (exT pn kd nu) pp (ALn (exT pn kd nu) pp.toNat) ii.toNat)[j]? = some x → 0 < cmE (exT pn kd nu) (2 * pp + ii) x := hless
        replace hat : kk = a2 ∨ ∃ x, (insR (exT pn kd nu) pp (ALn (exT pn kd nu) pp.toNat) ii.toNat)[kk.toNat]? = some x ∧ cmE (exT pn kd nu) (2 * pp + ii) x ≤ 0 := hat
        replace hw : gW D A s.heap [cJ G (a 13) 8 k1, cJ G (a 14) 8 k2, cJ G (a 15) 8 k3, cJ G (a 16) 8 k4, oX6 h a ft pn ra rm (zP (exT pn kd nu) pp) (zS (exT pn kd nu) pp ii) (zD (exT pn kd nu) pp) (zQ (exT pn kd nu) pp) a2 rw rc tr, cA G (a 2) 4 kd, cA G (a 3) 12 nu] H locs := hw
        replace hl : lv_has ls 4 [(2, .int (iI ii)), (1, .int (iI pp)), (0, .ref h), (3, .int (iI kk))] := hl
        refine g_iload_n C hl 3 rfl rfl dX6_gathers_56 ?_
        refine g_aload_n C hl 2 rfl rfl dX6_gathers_57 ?_
        refine g_get C hw hin_X6_gathers_X6 4 rfl rfl 12 (by decide) lk_X6_gathers_167 rfl dX6_gathers_58 ?_
        refine g_icmp_eq C 72 dX6_gathers_61 (by decide) (by omega) (by omega) (fun c_5 => ?_) (fun c_5 => ?_)
        · skip
          have hq := insL_at (E := (exT pn kd nu)) (a := 2 * pp + ii) (L := insR (exT pn kd nu) pp (ALn (exT pn kd nu) pp.toNat) ii.toNat) (k := kk.toNat) (by omega) (fun j x hj hx => hless j x (by omega) hx) (by first | (intro x hx; rw [ht] at hx; cases hx; omega) | (intro x hx; have := (List.getElem?_eq_some_iff.mp hx).1; omega))
          obtain ⟨g1, g2, g3, g4⟩ := qP_of (E := (exT pn kd nu)) (pp := pp) (ii := ii) (by omega)
          have hq1 : a2 + 1 = ((insR (exT pn kd nu) pp (ALn (exT pn kd nu) pp.toNat) (ii + 1).toNat).length : Int) := by rw [insR_s hii.1, hq]; simp only [List.length_append, List.length_take, List.length_cons, List.length_drop]; omega
          have hq2 := MR_ins hM2 (k := kk.toNat) (by omega) (2 * pp + ii)
          rw [← hq, ← insR_s hii.1, g1, g2, g3, g4, ← ha2, show ((kk.toNat : Nat) : Int) = kk by omega] at hq2
          refine g_aload_n C hl 2 rfl rfl dX6_gathers_72 ?_
          refine g_iload_n C hl 3 rfl rfl dX6_gathers_73 ?_
          refine g_callVv C hw (wr := [cA G (a 2) 4 kd, cA G (a 3) 12 nu]) (As := [.int (iI kk)]) (rest := []) (m_X6_puts l D G (h := h) (a := a) (ft := ft) (pn := pn) (ra := ra) (rm := rm) (rP := (zP (exT pn kd nu) pp)) (rS := (zS (exT pn kd nu) pp ii)) (rD := (zD (exT pn kd nu) pp)) (rQ := (zQ (exT pn kd nu) pp)) (al := a2) (rw := rw) (rc := rc) (tr := tr) (vP := k1) (vS := k2) (vD := k3) (vQ := k4) (kk := kk) (by first | assumption | omega) (by first | assumption | omega)) (cwV 1 C.1.2.2.2.2 gX6_gathers_X6_puts rfl rfl rfl (by decide +kernel) ⟨Nat.le_of_ble_eq_true rfl, Nat.le_of_ble_eq_true rfl⟩) [4, 0, 1, 2, 3] [5, 6] rfl rfl (by decide) (by decide) (by decide) 0 rfl rfl rfl hl.1 _ rfl (Nat.le_of_ble_eq_true rfl) dX6_gathers_74 ⟨Nat.le_of_ble_eq_true rfl, Nat.le_of_ble_eq_true rfl⟩ ?_
          clear hw
          rintro _ H locs rfl hw
          have hw : gW D A s.heap [cA G (a 2) 4 kd, cA G (a 3) 12 nu, oX6 h a ft pn ra rm (zP (exT pn kd nu) pp) (zS (exT pn kd nu) pp ii) (zD (exT pn kd nu) pp) (zQ (exT pn kd nu) pp) (a2 + 1) rw rc tr, cJ G (a 13) 8 (insA k1 a2 kk (zP (exT pn kd nu) pp)), cJ G (a 14) 8 (insA k2 a2 kk (zS (exT pn kd nu) pp ii)), cJ G (a 15) 8 (insA k3 a2 kk (zD (exT pn kd nu) pp)), cJ G (a 16) 8 (insA k4 a2 kk (zQ (exT pn kd nu) pp))] H locs := hw
          refine g_iinc C [(2, .int (iI (ii + 1))), (1, .int (iI pp)), (0, .ref h), (3, .int (iI kk))] 0 dX6_gathers_77 hl rfl (by decide) rfl ?_
          clear hl
          intro ls hl
          refine g_goto C 17 dX6_gathers_80 (by decide) ?_
          have hw : gW D A s.heap [oX6 h a ft pn ra rm (zP (exT pn kd nu) pp) (zS (exT pn kd nu) pp ii) (zD (exT pn kd nu) pp) (zQ (exT pn kd nu) pp) (a2 + 1) rw rc tr, cA G (a 2) 4 kd, cA G (a 3) 12 nu, cJ G (a 13) 8 (insA k1 a2 kk (zP (exT pn kd nu) pp)), cJ G (a 14) 8 (insA k2 a2 kk (zS (exT pn kd nu) pp ii)), cJ G (a 15) 8 (insA k3 a2 kk (zD (exT pn kd nu) pp)), cJ G (a 16) 8 (insA k4 a2 kk (zQ (exT pn kd nu) pp))] H locs := g_perm hw [2, 0, 1, 3, 4, 5, 6] (by decide) rfl
          exact ih_3 (ii + 1) (a2 + 1) (zP (exT pn kd nu) pp) (zS (exT pn kd nu) pp ii) (zD (exT pn kd nu) pp) (zQ (exT pn kd nu) pp) (insA k1 a2 kk (zP (exT pn kd nu) pp)) (insA k2 a2 kk (zS (exT pn kd nu) pp ii)) (insA k3 a2 kk (zD (exT pn kd nu) pp)) (insA k4 a2 kk (zQ (exT pn kd nu) pp)) ⟨by omega, by first | exact hq1 | omega, by exact hq2⟩ (by omega) H locs ls hw (lv_sub hl [0, 1, 2] rfl)
        · skip
          obtain ⟨t, ht, htm, hte⟩ := MR_at hM2 (k := kk) ⟨by omega, by omega⟩
          have hrt := isRt_ok hE (insR_rt hpp.1 hii.1 (by omega) htm)
          have hcr := cmF_r (zP (exT pn kd nu) pp) (zS (exT pn kd nu) pp ii) (zD (exT pn kd nu) pp) (zQ (exT pn kd nu) pp) (k1 kk) (k2 kk) (k3 kk) (k4 kk)
          have hr2 : rtOK (k1 kk) (k2 kk) (k3 kk) (k4 kk) := by rw [hte.1, hte.2.1, hte.2.2.1, hte.2.2.2]; exact hrt
          have hcv := cm_conv (E := (exT pn kd nu)) (pp := pp) (ii := ii) (by omega) hte
          refine g_aload_n C hl 2 rfl rfl dX6_gathers_64 ?_
          refine g_iload_n C hl 3 rfl rfl dX6_gathers_65 ?_
          refine g_callVi C hw (wr := [cA G (a 2) 4 kd, cA G (a 3) 12 nu]) (As := [.int (iI kk)]) (rest := []) (m_X6_compares l D G (h := h) (a := a) (ft := ft) (pn := pn) (ra := ra) (rm := rm) (rP := (zP (exT pn kd nu) pp)) (rS := (zS (exT pn kd nu) pp ii)) (rD := (zD (exT pn kd nu) pp)) (rQ := (zQ (exT pn kd nu) pp)) (al := a2) (rw := rw) (rc := rc) (tr := tr) (vP := k1) (vS := k2) (vD := k3) (vQ := k4) (kk := kk) (by first | assumption | omega) (by first | assumption | omega) (by first | assumption | omega)) (cwV 1 C.1.2.2.2.2 gX6_gathers_X6_compares rfl rfl rfl (by decide +kernel) ⟨Nat.le_of_ble_eq_true rfl, Nat.le_of_ble_eq_true rfl⟩) [4, 0, 1, 2, 3] [5, 6] rfl rfl (by decide) (by decide) (by decide) 0 rfl rfl rfl hl.1 _ rfl (Nat.le_of_ble_eq_true rfl) dX6_gathers_66 ⟨Nat.le_of_ble_eq_true rfl, Nat.le_of_ble_eq_true rfl⟩ ?_
          clear hw
          rintro _ _ H locs ⟨rfl, rfl⟩ hw
          have hw : gW D A s.heap [cA G (a 2) 4 kd, cA G (a 3) 12 nu, oX6 h a ft pn ra rm (zP (exT pn kd nu) pp) (zS (exT pn kd nu) pp ii) (zD (exT pn kd nu) pp) (zQ (exT pn kd nu) pp) a2 rw rc tr, cJ G (a 13) 8 k1, cJ G (a 14) 8 k2, cJ G (a 15) 8 k3, cJ G (a 16) 8 k4] H locs := hw
          refine g_nI (show ((cmF (zP (exT pn kd nu) pp) (zS (exT pn kd nu) pp ii) (zD (exT pn kd nu) pp) (zQ (exT pn kd nu) pp) (k1 kk) (k2 kk) (k3 kk) (k4 kk)) : Int) = cmE (exT pn kd nu) (2 * pp + ii) t by exact hcv) ?_
          refine g_if_ge C 77 dX6_gathers_69 (by decide) (by omega) (fun c_6 => ?_) (fun c_6 => ?_)
          · skip
            have hq := insL_eq (E := (exT pn kd nu)) (a := 2 * pp + ii) (fun j x hj hx => hless j x (by omega) hx) ht (by rcases hat with q | ⟨x, q, q2⟩; exact absurd q (by omega); rw [ht] at q; cases q; omega)
            have hq1 : a2 = ((insR (exT pn kd nu) pp (ALn (exT pn kd nu) pp.toNat) (ii + 1).toNat).length : Int) := by rw [insR_s hii.1, hq]; exact ha2
            have hq2 : MR (exT pn kd nu) (insR (exT pn kd nu) pp (ALn (exT pn kd nu) pp.toNat) (ii + 1).toNat) k1 k2 k3 k4 := by rw [insR_s hii.1, hq]; exact hM2
            refine g_iinc C [(2, .int (iI (ii + 1))), (1, .int (iI pp)), (0, .ref h), (3, .int (iI kk))] 0 dX6_gathers_77 hl rfl (by decide) rfl ?_
            clear hl
            intro ls hl
            refine g_goto C 17 dX6_gathers_80 (by decide) ?_
            have hw : gW D A s.heap [oX6 h a ft pn ra rm (zP (exT pn kd nu) pp) (zS (exT pn kd nu) pp ii) (zD (exT pn kd nu) pp) (zQ (exT pn kd nu) pp) a2 rw rc tr, cA G (a 2) 4 kd, cA G (a 3) 12 nu, cJ G (a 13) 8 k1, cJ G (a 14) 8 k2, cJ G (a 15) 8 k3, cJ G (a 16) 8 k4] H locs := g_perm hw [2, 0, 1, 3, 4, 5, 6] (by decide) rfl
            exact ih_3 (ii + 1) a2 (zP (exT pn kd nu) pp) (zS (exT pn kd nu) pp ii) (zD (exT pn kd nu) pp) (zQ (exT pn kd nu) pp) k1 k2 k3 k4 ⟨by omega, by first | exact hq1 | omega, by exact hq2⟩ (by omega) H locs ls hw (lv_sub hl [0, 1, 2] rfl)
          · skip
            have hq := insL_at (E := (exT pn kd nu)) (a := 2 * pp + ii) (L := insR (exT pn kd nu) pp (ALn (exT pn kd nu) pp.toNat) ii.toNat) (k := kk.toNat) (by omega) (fun j x hj hx => hless j x (by omega) hx) (by first | (intro x hx; rw [ht] at hx; cases hx; omega) | (intro x hx; have := (List.getElem?_eq_some_iff.mp hx).1; omega))
            obtain ⟨g1, g2, g3, g4⟩ := qP_of (E := (exT pn kd nu)) (pp := pp) (ii := ii) (by omega)
            have hq1 : a2 + 1 = ((insR (exT pn kd nu) pp (ALn (exT pn kd nu) pp.toNat) (ii + 1).toNat).length : Int) := by rw [insR_s hii.1, hq]; simp only [List.length_append, List.length_take, List.length_cons, List.length_drop]; omega
            have hq2 := MR_ins hM2 (k := kk.toNat) (by omega) (2 * pp + ii)
            rw [← hq, ← insR_s hii.1, g1, g2, g3, g4, ← ha2, show ((kk.toNat : Nat) : Int) = kk by omega] at hq2
            refine g_aload_n C hl 2 rfl rfl dX6_gathers_72 ?_
            refine g_iload_n C hl 3 rfl rfl dX6_gathers_73 ?_
            refine g_callVv C hw (wr := [cA G (a 2) 4 kd, cA G (a 3) 12 nu]) (As := [.int (iI kk)]) (rest := []) (m_X6_puts l D G (h := h) (a := a) (ft := ft) (pn := pn) (ra := ra) (rm := rm) (rP := (zP (exT pn kd nu) pp)) (rS := (zS (exT pn kd nu) pp ii)) (rD := (zD (exT pn kd nu) pp)) (rQ := (zQ (exT pn kd nu) pp)) (al := a2) (rw := rw) (rc := rc) (tr := tr) (vP := k1) (vS := k2) (vD := k3) (vQ := k4) (kk := kk) (by first | assumption | omega) (by first | assumption | omega)) (cwV 1 C.1.2.2.2.2 gX6_gathers_X6_puts rfl rfl rfl (by decide +kernel) ⟨Nat.le_of_ble_eq_true rfl, Nat.le_of_ble_eq_true rfl⟩) [2, 3, 4, 5, 6] [0, 1] rfl rfl (by decide) (by decide) (by decide) 0 rfl rfl rfl hl.1 _ rfl (Nat.le_of_ble_eq_true rfl) dX6_gathers_74 ⟨Nat.le_of_ble_eq_true rfl, Nat.le_of_ble_eq_true rfl⟩ ?_
            clear hw
            rintro _ H locs rfl hw
            have hw : gW D A s.heap [cA G (a 2) 4 kd, cA G (a 3) 12 nu, oX6 h a ft pn ra rm (zP (exT pn kd nu) pp) (zS (exT pn kd nu) pp ii) (zD (exT pn kd nu) pp) (zQ (exT pn kd nu) pp) (a2 + 1) rw rc tr, cJ G (a 13) 8 (insA k1 a2 kk (zP (exT pn kd nu) pp)), cJ G (a 14) 8 (insA k2 a2 kk (zS (exT pn kd nu) pp ii)), cJ G (a 15) 8 (insA k3 a2 kk (zD (exT pn kd nu) pp)), cJ G (a 16) 8 (insA k4 a2 kk (zQ (exT pn kd nu) pp))] H locs := hw
            refine g_iinc C [(2, .int (iI (ii + 1))), (1, .int (iI pp)), (0, .ref h), (3, .int (iI kk))] 0 dX6_gathers_77 hl rfl (by decide) rfl ?_
            clear hl
            intro ls hl
            refine g_goto C 17 dX6_gathers_80 (by decide) ?_
            have hw : gW D A s.heap [oX6 h a ft pn ra rm (zP (exT pn kd nu) pp) (zS (exT pn kd nu) pp ii) (zD (exT pn kd nu) pp) (zQ (exT pn kd nu) pp) (a2 + 1) rw rc tr, cA G (a 2) 4 kd, cA G (a 3) 12 nu, cJ G (a 13) 8 (insA k1 a2 kk (zP (exT pn kd nu) pp)), cJ G (a 14) 8 (insA k2 a2 kk (zS (exT pn kd nu) pp ii)), cJ G (a 15) 8 (insA k3 a2 kk (zD (exT pn kd nu) pp)), cJ G (a 16) 8 (insA k4 a2 kk (zQ (exT pn kd nu) pp))] H locs := g_perm hw [2, 0, 1, 3, 4, 5, 6] (by decide) rfl
            exact ih_3 (ii + 1) (a2 + 1) (zP (exT pn kd nu) pp) (zS (exT pn kd nu) pp ii) (zD (exT pn kd nu) pp) (zQ (exT pn kd nu) pp) (insA k1 a2 kk (zP (exT pn kd nu) pp)) (insA k2 a2 kk (zS (exT pn kd nu) pp ii)) (insA k3 a2 kk (zD (exT pn kd nu) pp)) (insA k4 a2 kk (zQ (exT pn kd nu) pp)) ⟨by omega, by first | exact hq1 | omega, by exact hq2⟩ (by omega) H locs ls hw (lv_sub hl [0, 1, 2] rfl)
      · intro hj_7
        replace hj_7 : ∀ (kk' : Int), ((0 ≤ kk' ∧ kk' ≤ a2) ∧ (∀ (j : Nat) (x : Int), (j : Int) < kk' → (insR (exT pn kd nu) pp (ALn (exT pn kd nu) pp.toNat) ii.toNat)[j]? = some x → 0 < cmE (exT pn kd nu) (2 * pp + ii) x) ∧ (kk' = a2 ∨ ∃ x, (insR (exT pn kd nu) pp (ALn (exT pn kd nu) pp.toNat) ii.toNat)[kk'.toNat]? = some x ∧ cmE (exT pn kd nu) (2 * pp + ii) x ≤ 0)) → ∀ (H : Heap) (locs : List Loc) (ls : Array Slot), gW D A s.heap [cJ G (a 13) 8 k1, cJ G (a 14) 8 k2, cJ G (a 15) 8 k3, cJ G (a 16) 8 k4, oX6 h a ft pn ra rm (zP (exT pn kd nu) pp) (zS (exT pn kd nu) pp ii) (zD (exT pn kd nu) pp) (zQ (exT pn kd nu) pp) a2 rw rc tr, cA G (a 2) 4 kd, cA G (a 3) 12 nu] H locs → lv_has ls 4 [(2, .int (iI ii)), (1, .int (iI pp)), (0, .ref h), (3, .int (iI (kk')))] → W p l e _ s m _ below meth c H locs _ _ _ (F0 m 56 ls []) := fun kk' => hj_7 kk'
        refine g_iconst C dX6_gathers_32 ?_
        refine g_istore_n C [(3, .int (iI 0)), (2, .int (iI ii)), (1, .int (iI pp)), (0, .ref h)] dX6_gathers_33 rfl hl (by decide) rfl ?_
        clear hl
        intro ls hl
        refine g_loop (σ := (Int)) (fun z_ => [cJ G (a 13) 8 k1, cJ G (a 14) 8 k2, cJ G (a 15) 8 k3, cJ G (a 16) 8 k4, oX6 h a ft pn ra rm (zP (exT pn kd nu) pp) (zS (exT pn kd nu) pp ii) (zD (exT pn kd nu) pp) (zQ (exT pn kd nu) pp) a2 rw rc tr, cA G (a 2) 4 kd, cA G (a 3) 12 nu]) (fun z_ => [(3, .int (iI z_)), (2, .int (iI ii)), (1, .int (iI pp)), (0, .ref h)]) (fun z_ => (0 ≤ z_ ∧ z_ ≤ a2) ∧ (∀ (j : Nat) (x : Int), (j : Int) < z_ → (insR (exT pn kd nu) pp (ALn (exT pn kd nu) pp.toNat) ii.toNat)[j]? = some x → 0 < cmE (exT pn kd nu) (2 * pp + ii) x)) (fun z_ => (a2 - z_).toNat) 0 ⟨by (try dsimp only); omega, by (try dsimp only); intro j x hj; omega⟩ hw (lv_sub hl [0, 1, 2, 3] rfl) ?_
        clear hw hl
        rintro kk ⟨hkk, hless⟩ H locs ls hw hl ih_8
        replace hkk : 0 ≤ kk ∧ kk ≤ a2 := hkk
        replace hless : ∀ (j : Nat) (x : Int), (j : Int) < kk → (insR (exT pn kd nu) pp (ALn (exT pn kd nu) pp.toNat) ii.toNat)[j]? = some x → 0 < cmE (exT pn kd nu) (2 * pp + ii) x := hless
        replace hw : gW D A s.heap [cJ G (a 13) 8 k1, cJ G (a 14) 8 k2, cJ G (a 15) 8 k3, cJ G (a 16) 8 k4, oX6 h a ft pn ra rm (zP (exT pn kd nu) pp) (zS (exT pn kd nu) pp ii) (zD (exT pn kd nu) pp) (zQ (exT pn kd nu) pp) a2 rw rc tr, cA G (a 2) 4 kd, cA G (a 3) 12 nu] H locs := hw
        replace hl : lv_has ls 4 [(3, .int (iI kk)), (2, .int (iI ii)), (1, .int (iI pp)), (0, .ref h)] := hl
        replace ih_8 : ∀ (kk' : Int), ((0 ≤ kk' ∧ kk' ≤ a2) ∧ (∀ (j : Nat) (x : Int), (j : Int) < kk' → (insR (exT pn kd nu) pp (ALn (exT pn kd nu) pp.toNat) ii.toNat)[j]? = some x → 0 < cmE (exT pn kd nu) (2 * pp + ii) x)) → ((a2 - kk').toNat) < ((a2 - kk).toNat) → ∀ (H : Heap) (locs : List Loc) (ls : Array Slot), gW D A s.heap [cJ G (a 13) 8 k1, cJ G (a 14) 8 k2, cJ G (a 15) 8 k3, cJ G (a 16) 8 k4, oX6 h a ft pn ra rm (zP (exT pn kd nu) pp) (zS (exT pn kd nu) pp ii) (zD (exT pn kd nu) pp) (zQ (exT pn kd nu) pp) a2 rw rc tr, cA G (a 2) 4 kd, cA G (a 3) 12 nu] H locs → lv_has ls 4 [(3, .int (iI (kk'))), (2, .int (iI ii)), (1, .int (iI pp)), (0, .ref h)] → W p l e _ s m _ below meth c H locs _ _ _ (F0 m 34 ls []) := fun kk' => ih_8 kk'
        refine g_iload_n C hl 0 rfl rfl dX6_gathers_34 ?_
        refine g_aload_n C hl 3 rfl rfl dX6_gathers_35 ?_
        refine g_get C hw hin_X6_gathers_X6 4 rfl rfl 12 (by decide) lk_X6_gathers_167 rfl dX6_gathers_36 ?_
        refine g_icmp_ge C 56 dX6_gathers_39 (by decide) (by omega) (by omega) (fun c_9 => ?_) (fun c_9 => ?_)
        · skip
          have hw : gW D A s.heap [cJ G (a 13) 8 k1, cJ G (a 14) 8 k2, cJ G (a 15) 8 k3, cJ G (a 16) 8 k4, oX6 h a ft pn ra rm (zP (exT pn kd nu) pp) (zS (exT pn kd nu) pp ii) (zD (exT pn kd nu) pp) (zQ (exT pn kd nu) pp) a2 rw rc tr, cA G (a 2) 4 kd, cA G (a 3) 12 nu] H locs := g_perm hw [0, 1, 2, 3, 4, 5, 6] (by decide) rfl
          exact hj_7 kk ⟨by omega, by exact hless, by first | exact Or.inr ⟨t, ht, by omega⟩ | exact Or.inl (by omega)⟩ H locs ls hw (lv_sub hl [1, 2, 3, 0] rfl)
        · skip
          obtain ⟨t, ht, htm, hte⟩ := MR_at hM2 (k := kk) ⟨by omega, by omega⟩
          have hrt := isRt_ok hE (insR_rt hpp.1 hii.1 (by omega) htm)
          have hcr := cmF_r (zP (exT pn kd nu) pp) (zS (exT pn kd nu) pp ii) (zD (exT pn kd nu) pp) (zQ (exT pn kd nu) pp) (k1 kk) (k2 kk) (k3 kk) (k4 kk)
          have hr2 : rtOK (k1 kk) (k2 kk) (k3 kk) (k4 kk) := by rw [hte.1, hte.2.1, hte.2.2.1, hte.2.2.2]; exact hrt
          have hcv := cm_conv (E := (exT pn kd nu)) (pp := pp) (ii := ii) (by omega) hte
          refine g_aload_n C hl 3 rfl rfl dX6_gathers_42 ?_
          refine g_iload_n C hl 0 rfl rfl dX6_gathers_43 ?_
          refine g_callVi C hw (wr := [cA G (a 2) 4 kd, cA G (a 3) 12 nu]) (As := [.int (iI kk)]) (rest := []) (m_X6_compares l D G (h := h) (a := a) (ft := ft) (pn := pn) (ra := ra) (rm := rm) (rP := (zP (exT pn kd nu) pp)) (rS := (zS (exT pn kd nu) pp ii)) (rD := (zD (exT pn kd nu) pp)) (rQ := (zQ (exT pn kd nu) pp)) (al := a2) (rw := rw) (rc := rc) (tr := tr) (vP := k1) (vS := k2) (vD := k3) (vQ := k4) (kk := kk) (by first | assumption | omega) (by first | assumption | omega) (by first | assumption | omega)) (cwV 1 C.1.2.2.2.2 gX6_gathers_X6_compares rfl rfl rfl (by decide +kernel) ⟨Nat.le_of_ble_eq_true rfl, Nat.le_of_ble_eq_true rfl⟩) [4, 0, 1, 2, 3] [5, 6] rfl rfl (by decide) (by decide) (by decide) 0 rfl rfl rfl hl.1 _ rfl (Nat.le_of_ble_eq_true rfl) dX6_gathers_44 ⟨Nat.le_of_ble_eq_true rfl, Nat.le_of_ble_eq_true rfl⟩ ?_
          clear hw
          rintro _ _ H locs ⟨rfl, rfl⟩ hw
          have hw : gW D A s.heap [cA G (a 2) 4 kd, cA G (a 3) 12 nu, oX6 h a ft pn ra rm (zP (exT pn kd nu) pp) (zS (exT pn kd nu) pp ii) (zD (exT pn kd nu) pp) (zQ (exT pn kd nu) pp) a2 rw rc tr, cJ G (a 13) 8 k1, cJ G (a 14) 8 k2, cJ G (a 15) 8 k3, cJ G (a 16) 8 k4] H locs := hw
          refine g_nI (show ((cmF (zP (exT pn kd nu) pp) (zS (exT pn kd nu) pp ii) (zD (exT pn kd nu) pp) (zQ (exT pn kd nu) pp) (k1 kk) (k2 kk) (k3 kk) (k4 kk)) : Int) = cmE (exT pn kd nu) (2 * pp + ii) t by exact hcv) ?_
          refine g_if_le C 56 dX6_gathers_47 (by decide) (by omega) (fun c_10 => ?_) (fun c_10 => ?_)
          · skip
            have hw : gW D A s.heap [cJ G (a 13) 8 k1, cJ G (a 14) 8 k2, cJ G (a 15) 8 k3, cJ G (a 16) 8 k4, oX6 h a ft pn ra rm (zP (exT pn kd nu) pp) (zS (exT pn kd nu) pp ii) (zD (exT pn kd nu) pp) (zQ (exT pn kd nu) pp) a2 rw rc tr, cA G (a 2) 4 kd, cA G (a 3) 12 nu] H locs := g_perm hw [3, 4, 5, 6, 2, 0, 1] (by decide) rfl
            exact hj_7 kk ⟨by omega, by exact hless, by first | exact Or.inr ⟨t, ht, by omega⟩ | exact Or.inl (by omega)⟩ H locs ls hw (lv_sub hl [1, 2, 3, 0] rfl)
          · skip
            refine g_iinc C [(3, .int (iI (kk + 1))), (2, .int (iI ii)), (1, .int (iI pp)), (0, .ref h)] 0 dX6_gathers_50 hl rfl (by decide) rfl ?_
            clear hl
            intro ls hl
            refine g_goto C 34 dX6_gathers_53 (by decide) ?_
            have hw : gW D A s.heap [cJ G (a 13) 8 k1, cJ G (a 14) 8 k2, cJ G (a 15) 8 k3, cJ G (a 16) 8 k4, oX6 h a ft pn ra rm (zP (exT pn kd nu) pp) (zS (exT pn kd nu) pp ii) (zD (exT pn kd nu) pp) (zQ (exT pn kd nu) pp) a2 rw rc tr, cA G (a 2) 4 kd, cA G (a 3) 12 nu] H locs := g_perm hw [3, 4, 5, 6, 2, 0, 1] (by decide) rfl
            exact ih_8 (kk + 1) ⟨by omega, by intro j x hj hx; by_cases q : (j : Int) < kk; exact hless j x q hx; have q2 : j = kk.toNat := (by omega); subst q2; rw [ht] at hx; cases hx; omega⟩ (by omega) H locs ls hw (lv_sub hl [0, 1, 2, 3] rfl)
