set_option maxRecDepth 100000 in
set_option maxHeartbeats 8000000 in
theorem m_X6_placeOf (l : Launch) (D : va_G) (G : gT) (h : Nat) (a : Nat → Nat) (ft : Int) (pn : Int) (ra : Int) (rm : Int) (rP : Int) (rS : Int) (rD : Int) (rQ : Int) (al : Int) (rw : Int) (rc : Int) (tr : Int) (kd : Int → Int) (nu : Int → Int) (vP : Int → Int) (vS : Int → Int) (vD : Int → Int) (vQ : Int → Int) (pp : Int) (ii : Int) (hkd : kdOK kd) (hnu : nuOK nu) (hn : 0 ≤ pn ∧ pn ≤ 4) (hp : 0 ≤ pp ∧ pp < pn) (hii : 0 ≤ ii ∧ ii < nR (exT pn kd nu) pp) : gMi l yX6_placeOf wsX6_placeOf ({ frames := 4, cells := 0, slots := 0, locals := 103 }) D G [.ref h, .int (iI pp), .int (iI ii)] [oX6 h a ft pn ra rm rP rS rD rQ al rw rc tr, cA G (a 2) 4 kd, cA G (a 3) 12 nu, cJ G (a 13) 8 vP, cJ G (a 14) 8 vS, cJ G (a 15) 8 vD, cJ G (a 16) 8 vQ] 0 0 (fun (r : Int32) (w : va_W) => ∃ (r2P : Int) (r2S : Int) (r2D : Int) (r2Q : Int) (vP2 : Int → Int) (vS2 : Int → Int) (vD2 : Int → Int) (vQ2 : Int → Int), r = (iI (plF (exT pn kd nu) (2 * pp + ii) (ALn (exT pn kd nu) pn.toNat))) ∧ w = [oX6 h a ft pn ra rm r2P r2S r2D r2Q ((ALn (exT pn kd nu) pn.toNat).length : Int) rw rc tr, cA G (a 2) 4 kd, cA G (a 3) 12 nu, cJ G (a 13) 8 vP2, cJ G (a 14) 8 vS2, cJ G (a 15) 8 vD2, cJ G (a 16) 8 vQ2] ∧ (MR (exT pn kd nu) (ALn (exT pn kd nu) pn.toNat) vP2 vS2 vD2 vQ2)) := by
  refine g_start_i (cc := cX6_placeOf) (nL := 4) (own := RX6) (ret := some .int) (by decide +kernel) rfl rfl (Nat.le_of_ble_eq_true rfl) ?_
  intro p e s m below meth c A ls C hr hnm hw hl
  have hl : lv_has ls 4 [(0, .ref h), (1, .int (iI pp)), (2, .int (iI ii))] := hl
  have hE := exT_B pn kd hnu
  obtain ⟨e0, e1, e2⟩ := hE pp
  have hdb := dsc_b hE pp
  have hlen := ALn_len (exT pn kd nu) pn.toNat
  have hnr := nR_r (exT pn kd nu) pp
  have hr1 := rt_ok hE (q := pp) (i := ii) ⟨by omega, by omega⟩
  obtain ⟨x9, hx9, hc9⟩ := ALn_hasI (E := (exT pn kd nu)) hp hii
  obtain ⟨n9, hn9⟩ := List.getElem?_of_mem hx9
  have hl9 := (List.getElem?_eq_some_iff.mp hn9).1
  refine g_aload_n C hl 0 rfl rfl dX6_placeOf_0 ?_
  refine g_callVv C hw (wr := []) (As := []) (rest := []) (m_X6_gathers l D G (h := h) (a := a) (ft := ft) (pn := pn) (ra := ra) (rm := rm) (rP := rP) (rS := rS) (rD := rD) (rQ := rQ) (al := al) (rw := rw) (rc := rc) (tr := tr) (kd := kd) (nu := nu) (vP := vP) (vS := vS) (vD := vD) (vQ := vQ) (by first | assumption | omega) (by first | assumption | omega) (by first | assumption | omega)) (cwV 0 C.1.2.2.2.2 gX6_placeOf_X6_gathers rfl rfl rfl (by decide +kernel) ⟨Nat.le_of_ble_eq_true rfl, Nat.le_of_ble_eq_true rfl⟩) [0, 1, 2, 3, 4, 5, 6] [] rfl rfl (by decide) (by decide) (by decide) 0 rfl rfl rfl hl.1 _ rfl (Nat.le_of_ble_eq_true rfl) dX6_placeOf_1 ⟨Nat.le_of_ble_eq_true rfl, Nat.le_of_ble_eq_true rfl⟩ ?_
  clear hw
  rintro _ H locs ⟨r2P__1, r2S__2, r2D__3, r2Q__4, vP2__5, vS2__6, vD2__7, vQ2__8, rfl, hp_9⟩ hw
  have hw : gW D A s.heap [oX6 h a ft pn ra rm r2P__1 r2S__2 r2D__3 r2Q__4 ((ALn (exT pn kd nu) pn.toNat).length : Int) rw rc tr, cA G (a 2) 4 kd, cA G (a 3) 12 nu, cJ G (a 13) 8 vP2__5, cJ G (a 14) 8 vS2__6, cJ G (a 15) 8 vD2__7, cJ G (a 16) 8 vQ2__8] H locs := hw
  have hp_9 : MR (exT pn kd nu) (ALn (exT pn kd nu) pn.toNat) vP2__5 vS2__6 vD2__7 vQ2__8 := hp_9
  have hM := hp_9
  refine g_aload_n C hl 0 rfl rfl dX6_placeOf_4 ?_
  refine g_iload_n C hl 1 rfl rfl dX6_placeOf_5 ?_
  refine g_iload_n C hl 2 rfl rfl dX6_placeOf_6 ?_
  refine g_callVv C hw (wr := [cJ G (a 13) 8 vP2__5, cJ G (a 14) 8 vS2__6, cJ G (a 15) 8 vD2__7, cJ G (a 16) 8 vQ2__8]) (As := [.int (iI pp), .int (iI ii)]) (rest := []) (m_X6_takesRoot l D G (h := h) (a := a) (ft := ft) (pn := pn) (ra := ra) (rm := rm) (rP := r2P__1) (rS := r2S__2) (rD := r2D__3) (rQ := r2Q__4) (al := ((ALn (exT pn kd nu) pn.toNat).length : Int)) (rw := rw) (rc := rc) (tr := tr) (kd := kd) (nu := nu) (pp := pp) (ii := ii) (by first | assumption | omega) (by first | assumption | omega) (by first | assumption | omega) (by first | assumption | omega) (by first | assumption | omega)) (cwV 2 C.1.2.2.2.2 gX6_placeOf_X6_takesRoot rfl rfl rfl (by decide +kernel) ⟨Nat.le_of_ble_eq_true rfl, Nat.le_of_ble_eq_true rfl⟩) [0, 1, 2] [3, 4, 5, 6] rfl rfl (by decide) (by decide) (by decide) 0 rfl rfl rfl hl.1 _ rfl (Nat.le_of_ble_eq_true rfl) dX6_placeOf_7 ⟨Nat.le_of_ble_eq_true rfl, Nat.le_of_ble_eq_true rfl⟩ ?_
  clear hw
  rintro _ H locs rfl hw
  have hw : gW D A s.heap [cJ G (a 13) 8 vP2__5, cJ G (a 14) 8 vS2__6, cJ G (a 15) 8 vD2__7, cJ G (a 16) 8 vQ2__8, oX6 h a ft pn ra rm (zP (exT pn kd nu) pp) (zS (exT pn kd nu) pp ii) (zD (exT pn kd nu) pp) (zQ (exT pn kd nu) pp) ((ALn (exT pn kd nu) pn.toNat).length : Int) rw rc tr, cA G (a 2) 4 kd, cA G (a 3) 12 nu] H locs := hw
  refine g_iconst C dX6_placeOf_10 ?_
  refine g_istore_n C [(3, .int (iI 0)), (0, .ref h), (1, .int (iI pp)), (2, .int (iI ii))] dX6_placeOf_11 rfl hl (by decide) rfl ?_
  clear hl
  intro ls hl
  refine g_loop (σ := (Int)) (fun z_ => [cJ G (a 13) 8 vP2__5, cJ G (a 14) 8 vS2__6, cJ G (a 15) 8 vD2__7, cJ G (a 16) 8 vQ2__8, oX6 h a ft pn ra rm (zP (exT pn kd nu) pp) (zS (exT pn kd nu) pp ii) (zD (exT pn kd nu) pp) (zQ (exT pn kd nu) pp) ((ALn (exT pn kd nu) pn.toNat).length : Int) rw rc tr, cA G (a 2) 4 kd, cA G (a 3) 12 nu]) (fun z_ => [(3, .int (iI z_)), (0, .ref h), (1, .int (iI pp)), (2, .int (iI ii))]) (fun z_ => (0 ≤ z_ ∧ z_ ≤ ((ALn (exT pn kd nu) pn.toNat).length : Int)) ∧ (∀ (j : Nat) (y : Int), (j : Int) < z_ → (ALn (exT pn kd nu) pn.toNat)[j]? = some y → ¬ cmE (exT pn kd nu) (2 * pp + ii) y = 0)) (fun z_ => (((ALn (exT pn kd nu) pn.toNat).length : Int) - z_).toNat) 0 ⟨by (try dsimp only); omega, by (try dsimp only); intro j y hj; omega⟩ hw (lv_sub hl [0, 1, 2, 3] rfl) ?_
  clear hw hl
  rintro kk ⟨hkk, hne⟩ H locs ls hw hl ih_10
  replace hkk : 0 ≤ kk ∧ kk ≤ ((ALn (exT pn kd nu) pn.toNat).length : Int) := hkk
  replace hne : ∀ (j : Nat) (y : Int), (j : Int) < kk → (ALn (exT pn kd nu) pn.toNat)[j]? = some y → ¬ cmE (exT pn kd nu) (2 * pp + ii) y = 0 := hne
  replace hw : gW D A s.heap [cJ G (a 13) 8 vP2__5, cJ G (a 14) 8 vS2__6, cJ G (a 15) 8 vD2__7, cJ G (a 16) 8 vQ2__8, oX6 h a ft pn ra rm (zP (exT pn kd nu) pp) (zS (exT pn kd nu) pp ii) (zD (exT pn kd nu) pp) (zQ (exT pn kd nu) pp) ((ALn (exT pn kd nu) pn.toNat).length : Int) rw rc tr, cA G (a 2) 4 kd, cA G (a 3) 12 nu] H locs := hw
  replace hl : lv_has ls 4 [(3, .int (iI kk)), (0, .ref h), (1, .int (iI pp)), (2, .int (iI ii))] := hl
  replace ih_10 : ∀ (kk' : Int), ((0 ≤ kk' ∧ kk' ≤ ((ALn (exT pn kd nu) pn.toNat).length : Int)) ∧ (∀ (j : Nat) (y : Int), (j : Int) < kk' → (ALn (exT pn kd nu) pn.toNat)[j]? = some y → ¬ cmE (exT pn kd nu) (2 * pp + ii) y = 0)) → ((((ALn (exT pn kd nu) pn.toNat).length : Int) - kk').toNat) < ((((ALn (exT pn kd nu) pn.toNat).length : Int) - kk).toNat) → ∀ (H : Heap) (locs : List Loc) (ls : Array Slot), gW D A s.heap [cJ G (a 13) 8 vP2__5, cJ G (a 14) 8 vS2__6, cJ G (a 15) 8 vD2__7, cJ G (a 16) 8 vQ2__8, oX6 h a ft pn ra rm (zP (exT pn kd nu) pp) (zS (exT pn kd nu) pp ii) (zD (exT pn kd nu) pp) (zQ (exT pn kd nu) pp) ((ALn (exT pn kd nu) pn.toNat).length : Int) rw rc tr, cA G (a 2) 4 kd, cA G (a 3) 12 nu] H locs → lv_has ls 4 [(3, .int (iI (kk'))), (0, .ref h), (1, .int (iI pp)), (2, .int (iI ii))] → W p l e _ s m _ below meth c H locs _ _ _ (F0 m 12 ls []) := fun kk' => ih_10 kk'
  have hkl : kk < ((ALn (exT pn kd nu) pn.toNat).length : Int) := by
    rcases Int.lt_or_le kk ((ALn (exT pn kd nu) pn.toNat).length : Int) with q | q
    · exact q
    · exact absurd hc9 (hne n9 x9 (by omega) hn9)
  obtain ⟨t, ht, htm, hte⟩ := MR_at hM (k := kk) ⟨by omega, by omega⟩
  have hrt := isRt_ok hE (ALn_mem (exT pn kd nu) pn.toNat t htm)
  have hr2 := hrt
  rw [← hte.1, ← hte.2.1, ← hte.2.2.1, ← hte.2.2.2] at hr2
  have hcv := cm_conv (E := (exT pn kd nu)) (pp := pp) (ii := ii) (by omega) hte
  have hcr := cmF_r (qP (exT pn kd nu) (2 * pp + ii)) (qS (exT pn kd nu) (2 * pp + ii)) (qD (exT pn kd nu) (2 * pp + ii)) (qQ (exT pn kd nu) (2 * pp + ii)) (qP (exT pn kd nu) t) (qS (exT pn kd nu) t) (qD (exT pn kd nu) t) (qQ (exT pn kd nu) t)
  replace hcr : -1 ≤ cmE (exT pn kd nu) (2 * pp + ii) t ∧ cmE (exT pn kd nu) (2 * pp + ii) t ≤ 1 := hcr
  refine g_aload_n C hl 1 rfl rfl dX6_placeOf_12 ?_
  refine g_iload_n C hl 0 rfl rfl dX6_placeOf_13 ?_
  refine g_callVi C hw (wr := [cA G (a 2) 4 kd, cA G (a 3) 12 nu]) (As := [.int (iI kk)]) (rest := []) (m_X6_compares l D G (h := h) (a := a) (ft := ft) (pn := pn) (ra := ra) (rm := rm) (rP := (zP (exT pn kd nu) pp)) (rS := (zS (exT pn kd nu) pp ii)) (rD := (zD (exT pn kd nu) pp)) (rQ := (zQ (exT pn kd nu) pp)) (al := ((ALn (exT pn kd nu) pn.toNat).length : Int)) (rw := rw) (rc := rc) (tr := tr) (vP := vP2__5) (vS := vS2__6) (vD := vD2__7) (vQ := vQ2__8) (kk := kk) (by first | assumption | omega) (by first | assumption | omega) (by first | assumption | omega)) (cwV 1 C.1.2.2.2.2 gX6_placeOf_X6_compares rfl rfl rfl (by decide +kernel) ⟨Nat.le_of_ble_eq_true rfl, Nat.le_of_ble_eq_true rfl⟩) [4, 0, 1, 2, 3] [5, 6] rfl rfl (by decide) (by decide) (by decide) 0 rfl rfl rfl hl.1 _ rfl (Nat.le_of_ble_eq_true rfl) dX6_placeOf_14 ⟨Nat.le_of_ble_eq_true rfl, Nat.le_of_ble_eq_true rfl⟩ ?_
  clear hw
  rintro _ _ H locs ⟨rfl, rfl⟩ hw
  have hw : gW D A s.heap [cA G (a 2) 4 kd, cA G (a 3) 12 nu, oX6 h a ft pn ra rm (zP (exT pn kd nu) pp) (zS (exT pn kd nu) pp ii) (zD (exT pn kd nu) pp) (zQ (exT pn kd nu) pp) ((ALn (exT pn kd nu) pn.toNat).length : Int) rw rc tr, cJ G (a 13) 8 vP2__5, cJ G (a 14) 8 vS2__6, cJ G (a 15) 8 vD2__7, cJ G (a 16) 8 vQ2__8] H locs := hw
  refine g_nI (show ((cmF (zP (exT pn kd nu) pp) (zS (exT pn kd nu) pp ii) (zD (exT pn kd nu) pp) (zQ (exT pn kd nu) pp) (vP2__5 kk) (vS2__6 kk) (vD2__7 kk) (vQ2__8 kk)) : Int) = cmE (exT pn kd nu) (2 * pp + ii) t by exact hcv) ?_
  refine g_if_eq C 26 dX6_placeOf_17 (by decide) (by omega) (fun c_11 => ?_) (fun c_11 => ?_)
  · skip
    refine g_iload_n C hl 0 rfl rfl dX6_placeOf_26 ?_
    exact g_iret C hr (ws' := [oX6 h a ft pn ra rm (zP (exT pn kd nu) pp) (zS (exT pn kd nu) pp ii) (zD (exT pn kd nu) pp) (zQ (exT pn kd nu) pp) ((ALn (exT pn kd nu) pn.toNat).length : Int) rw rc tr, cA G (a 2) 4 kd, cA G (a 3) 12 nu, cJ G (a 13) 8 vP2__5, cJ G (a 14) 8 vS2__6, cJ G (a 15) 8 vD2__7, cJ G (a 16) 8 vQ2__8]) hw [2, 0, 1, 3, 4, 5, 6] (by decide) rfl ⟨(zP (exT pn kd nu) pp), (zS (exT pn kd nu) pp ii), (zD (exT pn kd nu) pp), (zQ (exT pn kd nu) pp), vP2__5, vS2__6, vD2__7, vQ2__8, (congrArg iI (by have := plF_at (E := (exT pn kd nu)) (t := 2 * pp + ii) (k := kk.toNat) (fun j y hj hy => hne j y (by omega) hy) ht (by assumption); omega)), rfl, (by exact hM)⟩ dX6_placeOf_27
  · skip
    refine g_iinc C [(3, .int (iI (kk + 1))), (0, .ref h), (1, .int (iI pp)), (2, .int (iI ii))] 0 dX6_placeOf_20 hl rfl (by decide) rfl ?_
    clear hl
    intro ls hl
    refine g_goto C 12 dX6_placeOf_23 (by decide) ?_
    have hw : gW D A s.heap [cJ G (a 13) 8 vP2__5, cJ G (a 14) 8 vS2__6, cJ G (a 15) 8 vD2__7, cJ G (a 16) 8 vQ2__8, oX6 h a ft pn ra rm (zP (exT pn kd nu) pp) (zS (exT pn kd nu) pp ii) (zD (exT pn kd nu) pp) (zQ (exT pn kd nu) pp) ((ALn (exT pn kd nu) pn.toNat).length : Int) rw rc tr, cA G (a 2) 4 kd, cA G (a 3) 12 nu] H locs := g_perm hw [3, 4, 5, 6, 2, 0, 1] (by decide) rfl
    exact ih_10 (kk + 1) ⟨by omega, by intro j x hj hx; by_cases q : (j : Int) < kk; exact hne j x q hx; have q2 : j = kk.toNat := (by omega); subst q2; rw [ht] at hx; cases hx; assumption⟩ (by omega) H locs ls hw (lv_sub hl [0, 1, 2, 3] rfl)

set_option maxRecDepth 100000 in
set_option maxHeartbeats 8000000 in
theorem m_X6_place (l : Launch) (D : va_G) (G : gT) (h : Nat) (a : Nat → Nat) (ft : Int) (pn : Int) (ra : Int) (rm : Int) (rP : Int) (rS : Int) (rD : Int) (rQ : Int) (al : Int) (rw : Int) (rc : Int) (tr : Int) (kd : Int → Int) (nu : Int → Int) (vP : Int → Int) (vS : Int → Int) (vD : Int → Int) (vQ : Int → Int) (pp : Int) (ii : Int) (hkd : kdOK kd) (hnu : nuOK nu) (hn : 0 ≤ pn ∧ pn ≤ 4) (hp : -2147483648 ≤ pp ∧ pp ≤ 2147483647) (hi : -2147483648 ≤ ii ∧ ii ≤ 2147483647) : gMi l yX6_place wsX6_place ({ frames := 5, cells := 0, slots := 0, locals := 126 }) D G [.ref h, .int (iI pp), .int (iI ii)] [oX6 h a ft pn ra rm rP rS rD rQ al rw rc tr, cA G (a 2) 4 kd, cA G (a 3) 12 nu, cJ G (a 13) 8 vP, cJ G (a 14) 8 vS, cJ G (a 15) 8 vD, cJ G (a 16) 8 vQ] 0 0 (fun (r : Int32) (w : va_W) => ∃ (al2 : Int) (r2P : Int) (r2S : Int) (r2D : Int) (r2Q : Int) (vP2 : Int → Int) (vS2 : Int → Int) (vD2 : Int → Int) (vQ2 : Int → Int), r = (iI (R_pla pn (exT pn kd nu) pp ii)) ∧ w = [oX6 h a ft pn ra rm r2P r2S r2D r2Q al2 rw rc tr, cA G (a 2) 4 kd, cA G (a 3) 12 nu, cJ G (a 13) 8 vP2, cJ G (a 14) 8 vS2, cJ G (a 15) 8 vD2, cJ G (a 16) 8 vQ2]) := by
  refine g_start_i (cc := cX6_place) (nL := 3) (own := RX6) (ret := some .int) (by decide +kernel) rfl rfl (Nat.le_of_ble_eq_true rfl) ?_
  intro p e s m below meth c A ls C hr hnm hw hl
  have hl : lv_has ls 3 [(0, .ref h), (1, .int (iI pp)), (2, .int (iI ii))] := hl
  refine g_aload_n C hl 0 rfl rfl dX6_place_0 ?_
  refine g_iload_n C hl 1 rfl rfl dX6_place_1 ?_
  refine g_iload_n C hl 2 rfl rfl dX6_place_2 ?_
  refine g_callVi C hw (wr := [cJ G (a 13) 8 vP, cJ G (a 14) 8 vS, cJ G (a 15) 8 vD, cJ G (a 16) 8 vQ]) (As := [.int (iI pp), .int (iI ii)]) (rest := []) (m_X6_noRoot l D G (h := h) (a := a) (ft := ft) (pn := pn) (ra := ra) (rm := rm) (rP := rP) (rS := rS) (rD := rD) (rQ := rQ) (al := al) (rw := rw) (rc := rc) (tr := tr) (kd := kd) (nu := nu) (pp := pp) (ii := ii) (by first | assumption | omega) (by first | assumption | omega) (by first | assumption | omega) (by first | assumption | omega) (by first | assumption | omega)) (cwV 2 C.1.2.2.2.2 gX6_place_X6_noRoot rfl rfl rfl (by decide +kernel) ⟨Nat.le_of_ble_eq_true rfl, Nat.le_of_ble_eq_true rfl⟩) [0, 1, 2] [3, 4, 5, 6] rfl rfl (by decide) (by decide) (by decide) 0 rfl rfl rfl hl.1 _ rfl (Nat.le_of_ble_eq_true rfl) dX6_place_3 ⟨Nat.le_of_ble_eq_true rfl, Nat.le_of_ble_eq_true rfl⟩ ?_
  clear hw
  rintro _ _ H locs ⟨rfl, rfl⟩ hw
  have hw : gW D A s.heap [cJ G (a 13) 8 vP, cJ G (a 14) 8 vS, cJ G (a 15) 8 vD, cJ G (a 16) 8 vQ, oX6 h a ft pn ra rm rP rS rD rQ al rw rc tr, cA G (a 2) 4 kd, cA G (a 3) 12 nu] H locs := hw
  refine g_ifb_eq C 13 dX6_place_6 (by decide) (fun c_1 => ?_) (fun c_1 => ?_)
  · skip
    refine g_aload_n C hl 0 rfl rfl dX6_place_13 ?_
    refine g_iload_n C hl 1 rfl rfl dX6_place_14 ?_
    refine g_iload_n C hl 2 rfl rfl dX6_place_15 ?_
    refine g_callVi C hw (wr := []) (As := [.int (iI pp), .int (iI ii)]) (rest := []) (m_X6_placeOf l D G (h := h) (a := a) (ft := ft) (pn := pn) (ra := ra) (rm := rm) (rP := rP) (rS := rS) (rD := rD) (rQ := rQ) (al := al) (rw := rw) (rc := rc) (tr := tr) (kd := kd) (nu := nu) (vP := vP) (vS := vS) (vD := vD) (vQ := vQ) (pp := pp) (ii := ii) (by first | assumption | omega) (by first | assumption | omega) (by first | assumption | omega) (by first | assumption | omega) (by first | assumption | omega)) (cwV 2 C.1.2.2.2.2 gX6_place_X6_placeOf rfl rfl rfl (by decide +kernel) ⟨Nat.le_of_ble_eq_true rfl, Nat.le_of_ble_eq_true rfl⟩) [4, 5, 6, 0, 1, 2, 3] [] rfl rfl (by decide) (by decide) (by decide) 0 rfl rfl rfl hl.1 _ rfl (Nat.le_of_ble_eq_true rfl) dX6_place_16 ⟨Nat.le_of_ble_eq_true rfl, Nat.le_of_ble_eq_true rfl⟩ ?_
    clear hw
    rintro _ _ H locs ⟨r2P__2, r2S__3, r2D__4, r2Q__5, vP2__6, vS2__7, vD2__8, vQ2__9, rfl, rfl, hp_10⟩ hw
    have hw : gW D A s.heap [oX6 h a ft pn ra rm r2P__2 r2S__3 r2D__4 r2Q__5 ((ALn (exT pn kd nu) pn.toNat).length : Int) rw rc tr, cA G (a 2) 4 kd, cA G (a 3) 12 nu, cJ G (a 13) 8 vP2__6, cJ G (a 14) 8 vS2__7, cJ G (a 15) 8 vD2__8, cJ G (a 16) 8 vQ2__9] H locs := hw
    have hp_10 : MR (exT pn kd nu) (ALn (exT pn kd nu) pn.toNat) vP2__6 vS2__7 vD2__8 vQ2__9 := hp_10
    exact g_iret C hr (ws' := [oX6 h a ft pn ra rm r2P__2 r2S__3 r2D__4 r2Q__5 ((ALn (exT pn kd nu) pn.toNat).length : Int) rw rc tr, cA G (a 2) 4 kd, cA G (a 3) 12 nu, cJ G (a 13) 8 vP2__6, cJ G (a 14) 8 vS2__7, cJ G (a 15) 8 vD2__8, cJ G (a 16) 8 vQ2__9]) hw [0, 1, 2, 3, 4, 5, 6] (by decide) rfl ⟨((ALn (exT pn kd nu) pn.toNat).length : Int), r2P__2, r2S__3, r2D__4, r2Q__5, vP2__6, vS2__7, vD2__8, vQ2__9, (congrArg iI (by unfold R_pla; (repeat' split) <;> omega)), rfl⟩ dX6_place_19
  · skip
    refine g_iconst C dX6_place_9 ?_
    refine g_goto C 19 dX6_place_10 (by decide) ?_
    exact g_iret C hr (ws' := [oX6 h a ft pn ra rm rP rS rD rQ al rw rc tr, cA G (a 2) 4 kd, cA G (a 3) 12 nu, cJ G (a 13) 8 vP, cJ G (a 14) 8 vS, cJ G (a 15) 8 vD, cJ G (a 16) 8 vQ]) hw [4, 5, 6, 0, 1, 2, 3] (by decide) rfl ⟨al, rP, rS, rD, rQ, vP, vS, vD, vQ, (congrArg iI (by unfold R_pla; (repeat' split) <;> omega)), rfl⟩ dX6_place_19

set_option maxRecDepth 20000 in
theorem cn_X6_byName_246 : Jvm.Cond.constantLong RX6 246 (8) ∈ wsX6_byName := List.mem_cons_of_mem _ (List.mem_append_left _ (List.mem_append_left _ (List.mem_of_getElem? (i := 0) rfl)))
set_option maxRecDepth 100000 in
set_option maxHeartbeats 8000000 in
theorem m_X6_byName (l : Launch) (D : va_G) (G : gT) (h : Nat) (a : Nat → Nat) (ft : Int) (pn : Int) (ra : Int) (rm : Int) (rP : Int) (rS : Int) (rD : Int) (rQ : Int) (al : Int) (rw : Int) (rc : Int) (tr : Int) (kd : Int → Int) (nu : Int → Int) (pp : Int) (wh : Int) (hkd : kdOK kd) (hnu : nuOK nu) (hn : 0 ≤ pn ∧ pn ≤ 4) (hp : -2147483648 ≤ pp ∧ pp ≤ 2147483647) (hw1 : -2147483648 ≤ wh ∧ wh ≤ 2147483647) : gMi l yX6_byName wsX6_byName ({ frames := 4, cells := 0, slots := 0, locals := 102 }) D G [.ref h, .int (iI pp), .int (iI wh)] [oX6 h a ft pn ra rm rP rS rD rQ al rw rc tr, cA G (a 2) 4 kd, cA G (a 3) 12 nu] 0 0 (fun (r : Int32) (w : va_W) => ∃ (r2P : Int) (r2S : Int) (r2D : Int) (r2Q : Int), r = (iI (R_byn pn (exT pn kd nu) pp wh)) ∧ w = [oX6 h a ft pn ra rm r2P r2S r2D r2Q al rw rc tr, cA G (a 2) 4 kd, cA G (a 3) 12 nu]) := by
  refine g_start_i (cc := cX6_byName) (nL := 5) (own := RX6) (ret := some .int) (by decide +kernel) rfl rfl (Nat.le_of_ble_eq_true rfl) ?_
  intro p e s m below meth c A ls C hr hnm hw hl
  have hl : lv_has ls 5 [(0, .ref h), (1, .int (iI pp)), (2, .int (iI wh))] := hl
  have hnr := nR_r (exT pn kd nu) pp
  refine g_aload_n C hl 0 rfl rfl dX6_byName_0 ?_
  refine g_iload_n C hl 1 rfl rfl dX6_byName_1 ?_
  refine g_callVi C hw (wr := [cA G (a 2) 4 kd, cA G (a 3) 12 nu]) (As := [.int (iI pp)]) (rest := []) (m_X6_noPolynomial l D G (h := h) (a := a) (ft := ft) (pn := pn) (ra := ra) (rm := rm) (rP := rP) (rS := rS) (rD := rD) (rQ := rQ) (al := al) (rw := rw) (rc := rc) (tr := tr) (pp := pp) (by first | assumption | omega) (by first | assumption | omega)) (cwV 1 C.1.2.2.2.2 gX6_byName_X6_noPolynomial rfl rfl rfl (by decide +kernel) ⟨Nat.le_of_ble_eq_true rfl, Nat.le_of_ble_eq_true rfl⟩) [0] [1, 2] rfl rfl (by decide) (by decide) (by decide) 0 rfl rfl rfl hl.1 _ rfl (Nat.le_of_ble_eq_true rfl) dX6_byName_2 ⟨Nat.le_of_ble_eq_true rfl, Nat.le_of_ble_eq_true rfl⟩ ?_
  clear hw
  rintro _ _ H locs ⟨rfl, rfl⟩ hw
  have hw : gW D A s.heap [cA G (a 2) 4 kd, cA G (a 3) 12 nu, oX6 h a ft pn ra rm rP rS rD rQ al rw rc tr] H locs := hw
  refine g_ifb_eq C 10 dX6_byName_5 (by decide) (fun c_1 => ?_) (fun c_1 => ?_)
  · skip
    refine g_iload_n C hl 2 rfl rfl dX6_byName_10 ?_
    refine g_i2l C dX6_byName_11 (by omega) ?_
    refine g_lconst0 C dX6_byName_12 ?_
    refine g_ldc2 C (8) cn_X6_byName_246 (by decide +kernel) dX6_byName_13 ?_
    refine g_callSi C hw (wr := [cA G (a 2) 4 kd, cA G (a 3) 12 nu, oX6 h a ft pn ra rm rP rS rD rQ al rw rc tr]) (As := [.long (lI (wh)), .long (lI (0)), .long (lI (8))]) (rest := []) (m_X6_in l D G (va := wh) (vb := 0) (vc := 8) (by first | assumption | omega) (by first | assumption | omega) (by first | assumption | omega)) (va_cwS 3 C.1.2.2.2.2 gX6_byName_X6_in rfl rfl rfl (by decide +kernel) ⟨Nat.le_of_ble_eq_true rfl, Nat.le_of_ble_eq_true rfl⟩) [] [0, 1, 2] rfl rfl (by decide) (by decide) (by decide) rfl hl.1 _ rfl (Nat.le_of_ble_eq_true rfl) dX6_byName_16 ⟨Nat.le_of_ble_eq_true rfl, Nat.le_of_ble_eq_true rfl⟩ ?_
    clear hw
    rintro _ _ H locs ⟨rfl, rfl⟩ hw
    have hw : gW D A s.heap [cA G (a 2) 4 kd, cA G (a 3) 12 nu, oX6 h a ft pn ra rm rP rS rD rQ al rw rc tr] H locs := hw
    refine g_ifb_ne C 25 dX6_byName_19 (by decide) (fun c_2 => ?_) (fun c_2 => ?_)
    · skip
      refine g_bipush C dX6_byName_25 (by decide) ?_
      refine g_istore_n C [(3, .int (iI ((-9)))), (0, .ref h), (1, .int (iI pp)), (2, .int (iI wh))] dX6_byName_27 rfl hl (by decide) rfl ?_
      clear hl
      intro ls hl
      refine g_aload_n C hl 1 rfl rfl dX6_byName_28 ?_
      refine g_iload_n C hl 2 rfl rfl dX6_byName_29 ?_
      refine g_callVi C hw (wr := []) (As := [.int (iI pp)]) (rest := []) (m_X6_rootsOf l D G (h := h) (a := a) (ft := ft) (pn := pn) (ra := ra) (rm := rm) (rP := rP) (rS := rS) (rD := rD) (rQ := rQ) (al := al) (rw := rw) (rc := rc) (tr := tr) (kd := kd) (nu := nu) (pp := pp) (by first | assumption | omega) (by first | assumption | omega) (by first | assumption | omega) (by first | assumption | omega)) (cwV 1 C.1.2.2.2.2 gX6_byName_X6_rootsOf rfl rfl rfl (by decide +kernel) ⟨Nat.le_of_ble_eq_true rfl, Nat.le_of_ble_eq_true rfl⟩) [2, 0, 1] [] rfl rfl (by decide) (by decide) (by decide) 0 rfl rfl rfl hl.1 _ rfl (Nat.le_of_ble_eq_true rfl) dX6_byName_30 ⟨Nat.le_of_ble_eq_true rfl, Nat.le_of_ble_eq_true rfl⟩ ?_
      clear hw
      rintro _ _ H locs ⟨rfl, rfl⟩ hw
      have hw : gW D A s.heap [oX6 h a ft pn ra rm rP rS rD rQ al rw rc tr, cA G (a 2) 4 kd, cA G (a 3) 12 nu] H locs := hw
      refine g_iconst C dX6_byName_33 ?_
      refine g_isub C dX6_byName_34 ?_
      refine g_istore C [(4, .int (iI ((nR (exT pn kd nu) pp) - 1))), (3, .int (iI ((-9)))), (0, .ref h), (1, .int (iI pp)), (2, .int (iI wh))] dX6_byName_35 hl (by decide) rfl ?_
      clear hl
      intro ls hl
      refine g_loop (σ := (Int) × (Int) × (Int) × (Int) × (Int) × (Int)) (fun z_ => [oX6 h a ft pn ra rm z_.2.2.1 z_.2.2.2.1 z_.2.2.2.2.1 z_.2.2.2.2.2 al rw rc tr, cA G (a 2) 4 kd, cA G (a 3) 12 nu]) (fun z_ => [(4, .int (iI (z_.2.1))), (3, .int (iI (z_.1))), (0, .ref h), (1, .int (iI pp)), (2, .int (iI wh))]) (fun z_ => (-1 ≤ z_.2.1 ∧ z_.2.1 < nR (exT pn kd nu) pp) ∧ (z_.1 = if z_.2.1 < 0 ∧ 0 < nR (exT pn kd nu) pp ∧ nmF (exT pn kd nu) pp 0 = wh then 0 else if z_.2.1 < 1 ∧ 1 < nR (exT pn kd nu) pp ∧ nmF (exT pn kd nu) pp 1 = wh then 1 else -9)) (fun z_ => (z_.2.1 + 1).toNat) ((-9), ((nR (exT pn kd nu) pp) - 1), rP, rS, rD, rQ) ⟨by (try dsimp only); omega, by (try dsimp only); (repeat' split) <;> omega⟩ hw (lv_sub hl [0, 1, 2, 3, 4] rfl) ?_
      clear hw hl
      rintro ⟨it, ii, gP, gS, gD, gQ⟩ ⟨hii, hit⟩ H locs ls hw hl ih_3
      replace hii : -1 ≤ ii ∧ ii < nR (exT pn kd nu) pp := hii
      replace hit : it = if ii < 0 ∧ 0 < nR (exT pn kd nu) pp ∧ nmF (exT pn kd nu) pp 0 = wh then 0 else if ii < 1 ∧ 1 < nR (exT pn kd nu) pp ∧ nmF (exT pn kd nu) pp 1 = wh then 1 else -9 := hit
      replace hw : gW D A s.heap [oX6 h a ft pn ra rm gP gS gD gQ al rw rc tr, cA G (a 2) 4 kd, cA G (a 3) 12 nu] H locs := hw
      replace hl : lv_has ls 5 [(4, .int (iI ii)), (3, .int (iI it)), (0, .ref h), (1, .int (iI pp)), (2, .int (iI wh))] := hl
      replace ih_3 : ∀ (it' : Int) (ii' : Int) (gP' : Int) (gS' : Int) (gD' : Int) (gQ' : Int), ((-1 ≤ ii' ∧ ii' < nR (exT pn kd nu) pp) ∧ (it' = if ii' < 0 ∧ 0 < nR (exT pn kd nu) pp ∧ nmF (exT pn kd nu) pp 0 = wh then 0 else if ii' < 1 ∧ 1 < nR (exT pn kd nu) pp ∧ nmF (exT pn kd nu) pp 1 = wh then 1 else -9)) → ((ii' + 1).toNat) < ((ii + 1).toNat) → ∀ (H : Heap) (locs : List Loc) (ls : Array Slot), gW D A s.heap [oX6 h a ft pn ra rm gP' gS' gD' gQ' al rw rc tr, cA G (a 2) 4 kd, cA G (a 3) 12 nu] H locs → lv_has ls 5 [(4, .int (iI (ii'))), (3, .int (iI (it'))), (0, .ref h), (1, .int (iI pp)), (2, .int (iI wh))] → W p l e _ s m _ below meth c H locs _ _ _ (F0 m 37 ls []) := fun it' ii' gP' gS' gD' gQ' => ih_3 (it', ii', gP', gS', gD', gQ')
      have hnm := nmF_r (exT pn kd nu) pp ii
      refine g_iload C hl 0 rfl dX6_byName_37 ?_
      refine g_if_lt C 66 dX6_byName_39 (by decide) (by omega) (fun c_4 => ?_) (fun c_4 => ?_)
      · skip
        refine g_iload_n C hl 1 rfl rfl dX6_byName_66 ?_
        exact g_iret C hr (ws' := [oX6 h a ft pn ra rm gP gS gD gQ al rw rc tr, cA G (a 2) 4 kd, cA G (a 3) 12 nu]) hw [0, 1, 2] (by decide) rfl ⟨gP, gS, gD, gQ, (congrArg iI (by unfold R_byn; (repeat' split) <;> (try (repeat' split at hit)) <;> omega)), rfl⟩ dX6_byName_67
      · skip
        refine g_aload_n C hl 2 rfl rfl dX6_byName_42 ?_
        refine g_iload_n C hl 3 rfl rfl dX6_byName_43 ?_
        refine g_iload C hl 0 rfl dX6_byName_44 ?_
        refine g_callVi C hw (wr := []) (As := [.int (iI pp), .int (iI ii)]) (rest := []) (m_X6_nameOf l D G (h := h) (a := a) (ft := ft) (pn := pn) (ra := ra) (rm := rm) (rP := gP) (rS := gS) (rD := gD) (rQ := gQ) (al := al) (rw := rw) (rc := rc) (tr := tr) (kd := kd) (nu := nu) (pp := pp) (ii := ii) (by first | assumption | omega) (by first | assumption | omega) (by first | assumption | omega) (by first | assumption | omega) (by first | assumption | omega)) (cwV 2 C.1.2.2.2.2 gX6_byName_X6_nameOf rfl rfl rfl (by decide +kernel) ⟨Nat.le_of_ble_eq_true rfl, Nat.le_of_ble_eq_true rfl⟩) [0, 1, 2] [] rfl rfl (by decide) (by decide) (by decide) 0 rfl rfl rfl hl.1 _ rfl (Nat.le_of_ble_eq_true rfl) dX6_byName_46 ⟨Nat.le_of_ble_eq_true rfl, Nat.le_of_ble_eq_true rfl⟩ ?_
        clear hw
        rintro _ _ H locs ⟨r2P__5, r2S__6, r2D__7, r2Q__8, rfl, rfl⟩ hw
        have hw : gW D A s.heap [oX6 h a ft pn ra rm r2P__5 r2S__6 r2D__7 r2Q__8 al rw rc tr, cA G (a 2) 4 kd, cA G (a 3) 12 nu] H locs := hw
        refine g_iload_n C hl 4 rfl rfl dX6_byName_49 ?_
        refine g_icmp_ne C 58 dX6_byName_50 (by decide) (by omega) (by omega) (fun c_9 => ?_) (fun c_9 => ?_)
        · skip
          refine g_iload_n C hl 1 rfl rfl dX6_byName_58 ?_
          refine g_istore_n C [(3, .int (iI it)), (4, .int (iI ii)), (0, .ref h), (1, .int (iI pp)), (2, .int (iI wh))] dX6_byName_59 rfl hl (by decide) rfl ?_
          clear hl
          intro ls hl
          refine g_iinc C [(4, .int (iI (ii + (-1)))), (3, .int (iI it)), (0, .ref h), (1, .int (iI pp)), (2, .int (iI wh))] 1 dX6_byName_60 hl rfl (by decide) rfl ?_
          clear hl
          intro ls hl
          refine g_goto C 37 dX6_byName_63 (by decide) ?_
          have hw : gW D A s.heap [oX6 h a ft pn ra rm r2P__5 r2S__6 r2D__7 r2Q__8 al rw rc tr, cA G (a 2) 4 kd, cA G (a 3) 12 nu] H locs := g_perm hw [0, 1, 2] (by decide) rfl
          exact ih_3 it (ii + (-1)) r2P__5 r2S__6 r2D__7 r2Q__8 ⟨by omega, by (rcases (by omega : ii = 0 ∨ ii = 1) with q | q) <;> subst q <;> ((repeat' split at hit) <;> (repeat' split) <;> omega)⟩ (by omega) H locs ls hw (lv_sub hl [0, 1, 2, 3, 4] rfl)
        · skip
          refine g_iload C hl 0 rfl dX6_byName_53 ?_
          refine g_goto C 59 dX6_byName_55 (by decide) ?_
          refine g_istore_n C [(3, .int (iI ii)), (4, .int (iI ii)), (0, .ref h), (1, .int (iI pp)), (2, .int (iI wh))] dX6_byName_59 rfl hl (by decide) rfl ?_
          clear hl
          intro ls hl
          refine g_iinc C [(4, .int (iI (ii + (-1)))), (3, .int (iI ii)), (0, .ref h), (1, .int (iI pp)), (2, .int (iI wh))] 1 dX6_byName_60 hl rfl (by decide) rfl ?_
          clear hl
          intro ls hl
          refine g_goto C 37 dX6_byName_63 (by decide) ?_
          have hw : gW D A s.heap [oX6 h a ft pn ra rm r2P__5 r2S__6 r2D__7 r2Q__8 al rw rc tr, cA G (a 2) 4 kd, cA G (a 3) 12 nu] H locs := g_perm hw [0, 1, 2] (by decide) rfl
          exact ih_3 ii (ii + (-1)) r2P__5 r2S__6 r2D__7 r2Q__8 ⟨by omega, by (rcases (by omega : ii = 0 ∨ ii = 1) with q | q) <;> subst q <;> ((repeat' split at hit) <;> (repeat' split) <;> omega)⟩ (by omega) H locs ls hw (lv_sub hl [0, 1, 2, 3, 4] rfl)
    · skip
      refine g_bipush C dX6_byName_22 (by decide) ?_
      exact g_iret C hr (ws' := [oX6 h a ft pn ra rm rP rS rD rQ al rw rc tr, cA G (a 2) 4 kd, cA G (a 3) 12 nu]) hw [2, 0, 1] (by decide) rfl ⟨rP, rS, rD, rQ, (congrArg iI (by unfold R_byn; (repeat' split) <;> (try (repeat' split at hit)) <;> omega)), rfl⟩ dX6_byName_24
  · skip
    refine g_iconst C dX6_byName_8 ?_
    exact g_iret C hr (ws' := [oX6 h a ft pn ra rm rP rS rD rQ al rw rc tr, cA G (a 2) 4 kd, cA G (a 3) 12 nu]) hw [2, 0, 1] (by decide) rfl ⟨rP, rS, rD, rQ, (congrArg iI (by unfold R_byn; (repeat' split) <;> (try (repeat' split at hit)) <;> omega)), rfl⟩ dX6_byName_9

set_option maxRecDepth 100000 in
set_option maxHeartbeats 8000000 in
theorem m_X6_more (l : Launch) (D : va_G) (G : gT) (h : Nat) (a : Nat → Nat) (ft : Int) (pn : Int) (ra : Int) (rm : Int) (rP : Int) (rS : Int) (rD : Int) (rQ : Int) (al : Int) (rw : Int) (rc : Int) (tr : Int) (kd : Int → Int) (nu : Int → Int) (pp : Int) (qq : Int) (hkd : kdOK kd) (hnu : nuOK nu) (hn : 0 ≤ pn ∧ pn ≤ 4) (hp : -2147483648 ≤ pp ∧ pp ≤ 2147483647) (hq : -2147483648 ≤ qq ∧ qq ≤ 2147483647) : gMi l yX6_more wsX6_more ({ frames := 5, cells := 0, slots := 0, locals := 124 }) D G [.ref h, .int (iI pp), .int (iI qq)] [oX6 h a ft pn ra rm rP rS rD rQ al rw rc tr, cA G (a 2) 4 kd, cA G (a 3) 12 nu] 0 0 (fun (r : Int32) (w : va_W) => ∃ (r2P : Int) (r2S : Int) (r2D : Int) (r2Q : Int), r = (iI (R_mor pn (exT pn kd nu) pp qq)) ∧ w = [oX6 h a ft pn ra rm r2P r2S r2D r2Q al rw rc tr, cA G (a 2) 4 kd, cA G (a 3) 12 nu]) := by
  refine g_start_i (cc := cX6_more) (nL := 5) (own := RX6) (ret := some .int) (by decide +kernel) rfl rfl (Nat.le_of_ble_eq_true rfl) ?_
  intro p e s m below meth c A ls C hr hnm hw hl
  have hl : lv_has ls 5 [(0, .ref h), (1, .int (iI pp)), (2, .int (iI qq))] := hl
  have hnr := nR_r (exT pn kd nu) pp
  have hs0 := sRi_r (exT pn kd nu) pp 0 qq
  have hs1 := sRi_r (exT pn kd nu) pp 1 qq
  refine g_aload_n C hl 0 rfl rfl dX6_more_0 ?_
  refine g_iload_n C hl 1 rfl rfl dX6_more_1 ?_
  refine g_callVi C hw (wr := [cA G (a 2) 4 kd, cA G (a 3) 12 nu]) (As := [.int (iI pp)]) (rest := []) (m_X6_noPolynomial l D G (h := h) (a := a) (ft := ft) (pn := pn) (ra := ra) (rm := rm) (rP := rP) (rS := rS) (rD := rD) (rQ := rQ) (al := al) (rw := rw) (rc := rc) (tr := tr) (pp := pp) (by first | assumption | omega) (by first | assumption | omega)) (cwV 1 C.1.2.2.2.2 gX6_more_X6_noPolynomial rfl rfl rfl (by decide +kernel) ⟨Nat.le_of_ble_eq_true rfl, Nat.le_of_ble_eq_true rfl⟩) [0] [1, 2] rfl rfl (by decide) (by decide) (by decide) 0 rfl rfl rfl hl.1 _ rfl (Nat.le_of_ble_eq_true rfl) dX6_more_2 ⟨Nat.le_of_ble_eq_true rfl, Nat.le_of_ble_eq_true rfl⟩ ?_
  clear hw
  rintro _ _ H locs ⟨rfl, rfl⟩ hw
  have hw : gW D A s.heap [cA G (a 2) 4 kd, cA G (a 3) 12 nu, oX6 h a ft pn ra rm rP rS rD rQ al rw rc tr] H locs := hw
  refine g_ifb_ne C 16 dX6_more_5 (by decide) (fun c_1 => ?_) (fun c_1 => ?_)
  · skip
    refine g_iconst C dX6_more_16 ?_
    exact g_iret C hr (ws' := [oX6 h a ft pn ra rm rP rS rD rQ al rw rc tr, cA G (a 2) 4 kd, cA G (a 3) 12 nu]) hw [2, 0, 1] (by decide) rfl ⟨rP, rS, rD, rQ, (congrArg iI (by unfold R_mor; first | (rw [if_pos (by omega), hsm, show ii = nR (exT pn kd nu) pp by omega]; done) | (rw [if_neg (by omega)]; done))), rfl⟩ dX6_more_17
  · skip
    refine g_aload_n C hl 0 rfl rfl dX6_more_8 ?_
    refine g_iload_n C hl 2 rfl rfl dX6_more_9 ?_
    refine g_callVi C hw (wr := [cA G (a 2) 4 kd, cA G (a 3) 12 nu]) (As := [.int (iI qq)]) (rest := []) (m_X6_noPolynomial l D G (h := h) (a := a) (ft := ft) (pn := pn) (ra := ra) (rm := rm) (rP := rP) (rS := rS) (rD := rD) (rQ := rQ) (al := al) (rw := rw) (rc := rc) (tr := tr) (pp := qq) (by first | assumption | omega) (by first | assumption | omega)) (cwV 1 C.1.2.2.2.2 gX6_more_X6_noPolynomial rfl rfl rfl (by decide +kernel) ⟨Nat.le_of_ble_eq_true rfl, Nat.le_of_ble_eq_true rfl⟩) [2] [0, 1] rfl rfl (by decide) (by decide) (by decide) 0 rfl rfl rfl hl.1 _ rfl (Nat.le_of_ble_eq_true rfl) dX6_more_10 ⟨Nat.le_of_ble_eq_true rfl, Nat.le_of_ble_eq_true rfl⟩ ?_
    clear hw
    rintro _ _ H locs ⟨rfl, rfl⟩ hw
    have hw : gW D A s.heap [cA G (a 2) 4 kd, cA G (a 3) 12 nu, oX6 h a ft pn ra rm rP rS rD rQ al rw rc tr] H locs := hw
    refine g_ifb_eq C 18 dX6_more_13 (by decide) (fun c_2 => ?_) (fun c_2 => ?_)
    · skip
      refine g_iconst C dX6_more_18 ?_
      refine g_istore_n C [(3, .int (iI 2)), (0, .ref h), (1, .int (iI pp)), (2, .int (iI qq))] dX6_more_19 rfl hl (by decide) rfl ?_
      clear hl
      intro ls hl
      refine g_iconst C dX6_more_20 ?_
      refine g_istore C [(4, .int (iI 0)), (3, .int (iI 2)), (0, .ref h), (1, .int (iI pp)), (2, .int (iI qq))] dX6_more_21 hl (by decide) rfl ?_
      clear hl
      intro ls hl
      refine g_loop (σ := (Int) × (Int) × (Int) × (Int) × (Int) × (Int)) (fun z_ => [cA G (a 2) 4 kd, cA G (a 3) 12 nu, oX6 h a ft pn ra rm z_.2.2.1 z_.2.2.2.1 z_.2.2.2.2.1 z_.2.2.2.2.2 al rw rc tr]) (fun z_ => [(4, .int (iI (z_.2.1))), (3, .int (iI (z_.1))), (0, .ref h), (1, .int (iI pp)), (2, .int (iI qq))]) (fun z_ => (0 ≤ z_.2.1 ∧ z_.2.1 ≤ nR (exT pn kd nu) pp) ∧ (z_.1 = 2 + (if 0 < z_.2.1 then sRi (exT pn kd nu) pp 0 qq else 0) + (if 1 < z_.2.1 then sRi (exT pn kd nu) pp 1 qq else 0))) (fun z_ => (nR (exT pn kd nu) pp - z_.2.1).toNat) (2, 0, rP, rS, rD, rQ) ⟨by (try dsimp only); omega, by (try dsimp only); simp⟩ hw (lv_sub hl [0, 1, 2, 3, 4] rfl) ?_
      clear hw hl
      rintro ⟨sm, ii, gP, gS, gD, gQ⟩ ⟨hii, hsm⟩ H locs ls hw hl ih_3
      replace hii : 0 ≤ ii ∧ ii ≤ nR (exT pn kd nu) pp := hii
      replace hsm : sm = 2 + (if 0 < ii then sRi (exT pn kd nu) pp 0 qq else 0) + (if 1 < ii then sRi (exT pn kd nu) pp 1 qq else 0) := hsm
      replace hw : gW D A s.heap [cA G (a 2) 4 kd, cA G (a 3) 12 nu, oX6 h a ft pn ra rm gP gS gD gQ al rw rc tr] H locs := hw
      replace hl : lv_has ls 5 [(4, .int (iI ii)), (3, .int (iI sm)), (0, .ref h), (1, .int (iI pp)), (2, .int (iI qq))] := hl
      replace ih_3 : ∀ (sm' : Int) (ii' : Int) (gP' : Int) (gS' : Int) (gD' : Int) (gQ' : Int), ((0 ≤ ii' ∧ ii' ≤ nR (exT pn kd nu) pp) ∧ (sm' = 2 + (if 0 < ii' then sRi (exT pn kd nu) pp 0 qq else 0) + (if 1 < ii' then sRi (exT pn kd nu) pp 1 qq else 0))) → ((nR (exT pn kd nu) pp - ii').toNat) < ((nR (exT pn kd nu) pp - ii).toNat) → ∀ (H : Heap) (locs : List Loc) (ls : Array Slot), gW D A s.heap [cA G (a 2) 4 kd, cA G (a 3) 12 nu, oX6 h a ft pn ra rm gP' gS' gD' gQ' al rw rc tr] H locs → lv_has ls 5 [(4, .int (iI (ii'))), (3, .int (iI (sm'))), (0, .ref h), (1, .int (iI pp)), (2, .int (iI qq))] → W p l e _ s m _ below meth c H locs _ _ _ (F0 m 23 ls []) := fun sm' ii' gP' gS' gD' gQ' => ih_3 (sm', ii', gP', gS', gD', gQ')
      refine g_iload C hl 0 rfl dX6_more_23 ?_
      refine g_aload_n C hl 2 rfl rfl dX6_more_25 ?_
      refine g_iload_n C hl 3 rfl rfl dX6_more_26 ?_
      refine g_callVi C hw (wr := []) (As := [.int (iI pp)]) (rest := [.int (iI ii)]) (m_X6_rootsOf l D G (h := h) (a := a) (ft := ft) (pn := pn) (ra := ra) (rm := rm) (rP := gP) (rS := gS) (rD := gD) (rQ := gQ) (al := al) (rw := rw) (rc := rc) (tr := tr) (kd := kd) (nu := nu) (pp := pp) (by first | assumption | omega) (by first | assumption | omega) (by first | assumption | omega) (by first | assumption | omega)) (cwV 1 C.1.2.2.2.2 gX6_more_X6_rootsOf rfl rfl rfl (by decide +kernel) ⟨Nat.le_of_ble_eq_true rfl, Nat.le_of_ble_eq_true rfl⟩) [2, 0, 1] [] rfl rfl (by decide) (by decide) (by decide) 0 rfl rfl rfl hl.1 _ rfl (Nat.le_of_ble_eq_true rfl) dX6_more_27 ⟨Nat.le_of_ble_eq_true rfl, Nat.le_of_ble_eq_true rfl⟩ ?_
      clear hw
      rintro _ _ H locs ⟨rfl, rfl⟩ hw
      have hw : gW D A s.heap [oX6 h a ft pn ra rm gP gS gD gQ al rw rc tr, cA G (a 2) 4 kd, cA G (a 3) 12 nu] H locs := hw
      refine g_icmp_ge C 50 dX6_more_30 (by decide) (by omega) (by omega) (fun c_4 => ?_) (fun c_4 => ?_)
      · skip
        refine g_iload_n C hl 1 rfl rfl dX6_more_50 ?_
        exact g_iret C hr (ws' := [oX6 h a ft pn ra rm gP gS gD gQ al rw rc tr, cA G (a 2) 4 kd, cA G (a 3) 12 nu]) hw [0, 1, 2] (by decide) rfl ⟨gP, gS, gD, gQ, (congrArg iI (by unfold R_mor; first | (rw [if_pos (by omega), hsm, show ii = nR (exT pn kd nu) pp by omega]; done) | (rw [if_neg (by omega)]; done))), rfl⟩ dX6_more_51
      · skip
        refine g_iload_n C hl 1 rfl rfl dX6_more_33 ?_
        refine g_aload_n C hl 2 rfl rfl dX6_more_34 ?_
        refine g_iload_n C hl 3 rfl rfl dX6_more_35 ?_
        refine g_iload C hl 0 rfl dX6_more_36 ?_
        refine g_iload_n C hl 4 rfl rfl dX6_more_38 ?_
        refine g_callVi C hw (wr := []) (As := [.int (iI pp), .int (iI ii), .int (iI qq)]) (rest := [.int (iI sm)]) (m_X6_signAtRoot l D G (h := h) (a := a) (ft := ft) (pn := pn) (ra := ra) (rm := rm) (rP := gP) (rS := gS) (rD := gD) (rQ := gQ) (al := al) (rw := rw) (rc := rc) (tr := tr) (kd := kd) (nu := nu) (pp := pp) (ii := ii) (qq := qq) (by first | assumption | omega) (by first | assumption | omega) (by first | assumption | omega) (by first | assumption | omega) (by first | assumption | omega) (by first | assumption | omega)) (cwV 3 C.1.2.2.2.2 gX6_more_X6_signAtRoot rfl rfl rfl (by decide +kernel) ⟨Nat.le_of_ble_eq_true rfl, Nat.le_of_ble_eq_true rfl⟩) [0, 1, 2] [] rfl rfl (by decide) (by decide) (by decide) 0 rfl rfl rfl hl.1 _ rfl (Nat.le_of_ble_eq_true rfl) dX6_more_39 ⟨Nat.le_of_ble_eq_true rfl, Nat.le_of_ble_eq_true rfl⟩ ?_
        clear hw
        rintro _ _ H locs ⟨r2P__5, r2S__6, r2D__7, r2Q__8, rfl, rfl⟩ hw
        have hw : gW D A s.heap [oX6 h a ft pn ra rm r2P__5 r2S__6 r2D__7 r2Q__8 al rw rc tr, cA G (a 2) 4 kd, cA G (a 3) 12 nu] H locs := hw
        refine g_iadd C dX6_more_42 ?_
        refine g_istore_n C [(3, .int (iI (sm + (sRi (exT pn kd nu) pp ii qq)))), (4, .int (iI ii)), (0, .ref h), (1, .int (iI pp)), (2, .int (iI qq))] dX6_more_43 rfl hl (by decide) rfl ?_
        clear hl
        intro ls hl
        refine g_iinc C [(4, .int (iI (ii + 1))), (3, .int (iI (sm + (sRi (exT pn kd nu) pp ii qq)))), (0, .ref h), (1, .int (iI pp)), (2, .int (iI qq))] 1 dX6_more_44 hl rfl (by decide) rfl ?_
        clear hl
        intro ls hl
        refine g_goto C 23 dX6_more_47 (by decide) ?_
        have hw : gW D A s.heap [cA G (a 2) 4 kd, cA G (a 3) 12 nu, oX6 h a ft pn ra rm r2P__5 r2S__6 r2D__7 r2Q__8 al rw rc tr] H locs := g_perm hw [1, 2, 0] (by decide) rfl
        exact ih_3 (sm + (sRi (exT pn kd nu) pp ii qq)) (ii + 1) r2P__5 r2S__6 r2D__7 r2Q__8 ⟨by omega, by (rcases (by omega : ii = 0 ∨ ii = 1) with q | q) <;> subst q <;> ((repeat' split at hsm) <;> (repeat' split) <;> omega)⟩ (by omega) H locs ls hw (lv_sub hl [0, 1, 2, 3, 4] rfl)
    · skip
      refine g_iconst C dX6_more_16 ?_
      exact g_iret C hr (ws' := [oX6 h a ft pn ra rm rP rS rD rQ al rw rc tr, cA G (a 2) 4 kd, cA G (a 3) 12 nu]) hw [2, 0, 1] (by decide) rfl ⟨rP, rS, rD, rQ, (congrArg iI (by unfold R_mor; first | (rw [if_pos (by omega), hsm, show ii = nR (exT pn kd nu) pp by omega]; done) | (rw [if_neg (by omega)]; done))), rfl⟩ dX6_more_17

set_option maxRecDepth 20000 in
theorem hin_X6_rootless_X6 : ∀ w ∈ u_ws RX6 TX6 30, w ∈ wsX6_rootless := by
  intro w h
  exact List.mem_cons_of_mem _ (List.mem_append_right _ (h))
set_option maxRecDepth 20000 in
theorem lk_X6_rootless_75 : Cond.fieldLink RX6 75 (TX6 1).1 (TX6 1).2.1 (TX6 1).2.2.1 ∈ wsX6_rootless := List.mem_cons_of_mem _ (List.mem_append_left _ (List.mem_of_getElem? (i := 0) rfl))
set_option maxRecDepth 100000 in
set_option maxHeartbeats 8000000 in
theorem m_X6_rootless (l : Launch) (D : va_G) (G : gT) (h : Nat) (a : Nat → Nat) (ft : Int) (pn : Int) (ra : Int) (rm : Int) (rP : Int) (rS : Int) (rD : Int) (rQ : Int) (al : Int) (rw : Int) (rc : Int) (tr : Int) (kd : Int → Int) (nu : Int → Int) (hkd : kdOK kd) (hnu : nuOK nu) (hn : 0 ≤ pn ∧ pn ≤ 4) : gMi l yX6_rootless wsX6_rootless ({ frames := 3, cells := 0, slots := 0, locals := 73 }) D G [.ref h] [oX6 h a ft pn ra rm rP rS rD rQ al rw rc tr, cA G (a 2) 4 kd, cA G (a 3) 12 nu] 0 0 (fun (r : Int32) (w : va_W) => r = (iI (cnF (fun q => nR (exT pn kd nu) q == 0) pn.toNat)) ∧ w = [oX6 h a ft pn ra rm rP rS rD rQ al rw rc tr, cA G (a 2) 4 kd, cA G (a 3) 12 nu]) := by
  refine g_start_i (cc := cX6_rootless) (nL := 3) (own := RX6) (ret := some .int) (by decide +kernel) rfl rfl (Nat.le_of_ble_eq_true rfl) ?_
  intro p e s m below meth c A ls C hr hnm hw hl
  have hl : lv_has ls 3 [(0, .ref h)] := hl
  refine g_iconst C dX6_rootless_0 ?_
  refine g_istore_n C [(1, .int (iI 0)), (0, .ref h)] dX6_rootless_1 rfl hl (by decide) rfl ?_
  clear hl
  intro ls hl
  refine g_iconst C dX6_rootless_2 ?_
  refine g_istore_n C [(2, .int (iI 0)), (1, .int (iI 0)), (0, .ref h)] dX6_rootless_3 rfl hl (by decide) rfl ?_
  clear hl
  intro ls hl
  refine g_loop (σ := (Int) × (Int)) (fun z_ => [oX6 h a ft pn ra rm rP rS rD rQ al rw rc tr, cA G (a 2) 4 kd, cA G (a 3) 12 nu]) (fun z_ => [(2, .int (iI (z_.2))), (1, .int (iI (z_.1))), (0, .ref h)]) (fun z_ => (0 ≤ z_.2 ∧ z_.2 ≤ pn) ∧ (z_.1 = cnF (fun q => nR (exT pn kd nu) q == 0) z_.2.toNat)) (fun z_ => (pn - z_.2).toNat) (0, 0) ⟨by (try dsimp only); omega, by (try dsimp only); rfl⟩ hw (lv_sub hl [0, 1, 2] rfl) ?_
  clear hw hl
  rintro ⟨mn, pp⟩ ⟨hpp, hmn⟩ H locs ls hw hl ih_1
  replace hpp : 0 ≤ pp ∧ pp ≤ pn := hpp
  replace hmn : mn = cnF (fun q => nR (exT pn kd nu) q == 0) pp.toNat := hmn
  replace hw : gW D A s.heap [oX6 h a ft pn ra rm rP rS rD rQ al rw rc tr, cA G (a 2) 4 kd, cA G (a 3) 12 nu] H locs := hw
  replace hl : lv_has ls 3 [(2, .int (iI pp)), (1, .int (iI mn)), (0, .ref h)] := hl
  replace ih_1 : ∀ (mn' : Int) (pp' : Int), ((0 ≤ pp' ∧ pp' ≤ pn) ∧ (mn' = cnF (fun q => nR (exT pn kd nu) q == 0) pp'.toNat)) → ((pn - pp').toNat) < ((pn - pp).toNat) → ∀ (H : Heap) (locs : List Loc) (ls : Array Slot), gW D A s.heap [oX6 h a ft pn ra rm rP rS rD rQ al rw rc tr, cA G (a 2) 4 kd, cA G (a 3) 12 nu] H locs → lv_has ls 3 [(2, .int (iI (pp'))), (1, .int (iI (mn'))), (0, .ref h)] → W p l e _ s m _ below meth c H locs _ _ _ (F0 m 4 ls []) := fun mn' pp' => ih_1 (mn', pp')
  have hnr := nR_r (exT pn kd nu) pp
  have hcn := cnF_r (fun q => nR (exT pn kd nu) q == 0) pp.toNat
  refine g_iload_n C hl 0 rfl rfl dX6_rootless_4 ?_
  refine g_aload_n C hl 2 rfl rfl dX6_rootless_5 ?_
  refine g_get C hw hin_X6_rootless_X6 0 rfl rfl 1 (by decide) lk_X6_rootless_75 rfl dX6_rootless_6 ?_
  refine g_icmp_ge C 34 dX6_rootless_9 (by decide) (by omega) (by omega) (fun c_2 => ?_) (fun c_2 => ?_)
  · skip
    refine g_iload_n C hl 1 rfl rfl dX6_rootless_34 ?_
    exact g_iret C hr (ws' := [oX6 h a ft pn ra rm rP rS rD rQ al rw rc tr, cA G (a 2) 4 kd, cA G (a 3) 12 nu]) hw [0, 1, 2] (by decide) rfl ⟨(congrArg iI (by rw [hmn, show pp = pn by omega])), rfl⟩ dX6_rootless_35
  · skip
    refine g_iload_n C hl 1 rfl rfl dX6_rootless_12 ?_
    refine g_aload_n C hl 2 rfl rfl dX6_rootless_13 ?_
    refine g_iload_n C hl 0 rfl rfl dX6_rootless_14 ?_
    refine g_callVi C hw (wr := []) (As := [.int (iI pp)]) (rest := [.int (iI mn)]) (m_X6_rootsOf l D G (h := h) (a := a) (ft := ft) (pn := pn) (ra := ra) (rm := rm) (rP := rP) (rS := rS) (rD := rD) (rQ := rQ) (al := al) (rw := rw) (rc := rc) (tr := tr) (kd := kd) (nu := nu) (pp := pp) (by first | assumption | omega) (by first | assumption | omega) (by first | assumption | omega) (by first | assumption | omega)) (cwV 1 C.1.2.2.2.2 gX6_rootless_X6_rootsOf rfl rfl rfl (by decide +kernel) ⟨Nat.le_of_ble_eq_true rfl, Nat.le_of_ble_eq_true rfl⟩) [0, 1, 2] [] rfl rfl (by decide) (by decide) (by decide) 0 rfl rfl rfl hl.1 _ rfl (Nat.le_of_ble_eq_true rfl) dX6_rootless_15 ⟨Nat.le_of_ble_eq_true rfl, Nat.le_of_ble_eq_true rfl⟩ ?_
    clear hw
    rintro _ _ H locs ⟨rfl, rfl⟩ hw
    have hw : gW D A s.heap [oX6 h a ft pn ra rm rP rS rD rQ al rw rc tr, cA G (a 2) 4 kd, cA G (a 3) 12 nu] H locs := hw
    refine g_if_ne C 25 dX6_rootless_18 (by decide) (by omega) (fun c_3 => ?_) (fun c_3 => ?_)
    · skip
      refine g_iconst C dX6_rootless_25 ?_
      refine g_iadd C dX6_rootless_26 ?_
      refine g_istore_n C [(1, .int (iI (mn + 0))), (2, .int (iI pp)), (0, .ref h)] dX6_rootless_27 rfl hl (by decide) rfl ?_
      clear hl
      intro ls hl
      refine g_iinc C [(2, .int (iI (pp + 1))), (1, .int (iI (mn + 0))), (0, .ref h)] 1 dX6_rootless_28 hl rfl (by decide) rfl ?_
      clear hl
      intro ls hl
      refine g_goto C 4 dX6_rootless_31 (by decide) ?_
      have hw : gW D A s.heap [oX6 h a ft pn ra rm rP rS rD rQ al rw rc tr, cA G (a 2) 4 kd, cA G (a 3) 12 nu] H locs := g_perm hw [0, 1, 2] (by decide) rfl
      exact ih_1 (mn + 0) (pp + 1) ⟨by omega, by rw [cnF_s hpp.1, hmn]; simp_all⟩ (by omega) H locs ls hw (lv_sub hl [0, 1, 2] rfl)
    · skip
      refine g_iconst C dX6_rootless_21 ?_
      refine g_goto C 26 dX6_rootless_22 (by decide) ?_
      refine g_iadd C dX6_rootless_26 ?_
      refine g_istore_n C [(1, .int (iI (mn + 1))), (2, .int (iI pp)), (0, .ref h)] dX6_rootless_27 rfl hl (by decide) rfl ?_
      clear hl
      intro ls hl
      refine g_iinc C [(2, .int (iI (pp + 1))), (1, .int (iI (mn + 1))), (0, .ref h)] 1 dX6_rootless_28 hl rfl (by decide) rfl ?_
      clear hl
      intro ls hl
      refine g_goto C 4 dX6_rootless_31 (by decide) ?_
      have hw : gW D A s.heap [oX6 h a ft pn ra rm rP rS rD rQ al rw rc tr, cA G (a 2) 4 kd, cA G (a 3) 12 nu] H locs := g_perm hw [0, 1, 2] (by decide) rfl
      exact ih_1 (mn + 1) (pp + 1) ⟨by omega, by rw [cnF_s hpp.1, hmn]; simp_all⟩ (by omega) H locs ls hw (lv_sub hl [0, 1, 2] rfl)

set_option maxRecDepth 20000 in
theorem hin_X6_many_X6 : ∀ w ∈ u_ws RX6 TX6 30, w ∈ wsX6_many := by
  intro w h
  exact List.mem_cons_of_mem _ (List.mem_append_right _ (h))
set_option maxRecDepth 20000 in
theorem lk_X6_many_75 : Cond.fieldLink RX6 75 (TX6 1).1 (TX6 1).2.1 (TX6 1).2.2.1 ∈ wsX6_many := List.mem_cons_of_mem _ (List.mem_append_left _ (List.mem_of_getElem? (i := 0) rfl))
set_option maxRecDepth 20000 in
theorem lk_X6_many_126 : Cond.fieldLink RX6 126 (TX6 21).1 (TX6 21).2.1 (TX6 21).2.2.1 ∈ wsX6_many := List.mem_cons_of_mem _ (List.mem_append_left _ (List.mem_of_getElem? (i := 1) rfl))
set_option maxRecDepth 100000 in
set_option maxHeartbeats 8000000 in
theorem m_X6_many (l : Launch) (D : va_G) (G : gT) (h : Nat) (a : Nat → Nat) (ft : Int) (pn : Int) (ra : Int) (rm : Int) (rP : Int) (rS : Int) (rD : Int) (rQ : Int) (al : Int) (rw : Int) (rc : Int) (tr : Int) (kd : Int → Int) (nu : Int → Int) (wh : Int) (hkd : kdOK kd) (hnu : nuOK nu) (hn : 0 ≤ pn ∧ pn ≤ 4) (hw1 : -2147483648 ≤ wh ∧ wh ≤ 2147483647) : gMi l yX6_many wsX6_many ({ frames := 3, cells := 0, slots := 0, locals := 73 }) D G [.ref h, .int (iI wh)] [oX6 h a ft pn ra rm rP rS rD rQ al rw rc tr, cA G (a 2) 4 kd, cA G (a 3) 12 nu] 0 0 (fun (r : Int32) (w : va_W) => r = (iI (R_many pn (exT pn kd nu) rc wh)) ∧ w = [oX6 h a ft pn ra rm rP rS rD rQ al rw rc tr, cA G (a 2) 4 kd, cA G (a 3) 12 nu]) := by
  refine g_start_i (cc := cX6_many) (nL := 5) (own := RX6) (ret := some .int) (by decide +kernel) rfl rfl (Nat.le_of_ble_eq_true rfl) ?_
  intro p e s m below meth c A ls C hr hnm hw hl
  have hl : lv_has ls 5 [(0, .ref h), (1, .int (iI wh))] := hl
  refine g_iconst C dX6_many_0 ?_
  refine g_istore_n C [(2, .int (iI 0)), (0, .ref h), (1, .int (iI wh))] dX6_many_1 rfl hl (by decide) rfl ?_
  clear hl
  intro ls hl
  refine g_iconst C dX6_many_2 ?_
  refine g_istore_n C [(3, .int (iI 0)), (2, .int (iI 0)), (0, .ref h), (1, .int (iI wh))] dX6_many_3 rfl hl (by decide) rfl ?_
  clear hl
  intro ls hl
  refine g_iconst C dX6_many_4 ?_
  refine g_istore C [(4, .int (iI 0)), (3, .int (iI 0)), (2, .int (iI 0)), (0, .ref h), (1, .int (iI wh))] dX6_many_5 hl (by decide) rfl ?_
  clear hl
  intro ls hl
  refine g_loop (σ := (Int) × (Int) × (Int)) (fun z_ => [oX6 h a ft pn ra rm rP rS rD rQ al rw rc tr, cA G (a 2) 4 kd, cA G (a 3) 12 nu]) (fun z_ => [(4, .int (iI (z_.2.2))), (3, .int (iI (z_.2.1))), (2, .int (iI (z_.1))), (0, .ref h), (1, .int (iI wh))]) (fun z_ => (0 ≤ z_.2.2 ∧ z_.2.2 ≤ pn) ∧ (z_.1 = smF (fun q => nR (exT pn kd nu) q) z_.2.2.toNat) ∧ (z_.2.1 = cnF (noB (exT pn kd nu)) z_.2.2.toNat)) (fun z_ => (pn - z_.2.2).toNat) (0, 0, 0) ⟨by (try dsimp only); omega, by (try dsimp only); rfl, by (try dsimp only); rfl⟩ hw (lv_sub hl [0, 1, 2, 3, 4] rfl) ?_
  clear hw hl
  rintro ⟨sm, no, pp⟩ ⟨hpp, hsm, hno⟩ H locs ls hw hl ih_1
  replace hpp : 0 ≤ pp ∧ pp ≤ pn := hpp
  replace hsm : sm = smF (fun q => nR (exT pn kd nu) q) pp.toNat := hsm
  replace hno : no = cnF (noB (exT pn kd nu)) pp.toNat := hno
  replace hw : gW D A s.heap [oX6 h a ft pn ra rm rP rS rD rQ al rw rc tr, cA G (a 2) 4 kd, cA G (a 3) 12 nu] H locs := hw
  replace hl : lv_has ls 5 [(4, .int (iI pp)), (3, .int (iI no)), (2, .int (iI sm)), (0, .ref h), (1, .int (iI wh))] := hl
  replace ih_1 : ∀ (sm' : Int) (no' : Int) (pp' : Int), ((0 ≤ pp' ∧ pp' ≤ pn) ∧ (sm' = smF (fun q => nR (exT pn kd nu) q) pp'.toNat) ∧ (no' = cnF (noB (exT pn kd nu)) pp'.toNat)) → ((pn - pp').toNat) < ((pn - pp).toNat) → ∀ (H : Heap) (locs : List Loc) (ls : Array Slot), gW D A s.heap [oX6 h a ft pn ra rm rP rS rD rQ al rw rc tr, cA G (a 2) 4 kd, cA G (a 3) 12 nu] H locs → lv_has ls 5 [(4, .int (iI (pp'))), (3, .int (iI (no'))), (2, .int (iI (sm'))), (0, .ref h), (1, .int (iI wh))] → W p l e _ s m _ below meth c H locs _ _ _ (F0 m 7 ls []) := fun sm' no' pp' => ih_1 (sm', no', pp')
  have hnr := nR_r (exT pn kd nu) pp
  refine g_iload C hl 0 rfl dX6_many_7 ?_
  refine g_aload_n C hl 3 rfl rfl dX6_many_9 ?_
  refine g_get C hw hin_X6_many_X6 0 rfl rfl 1 (by decide) lk_X6_many_75 rfl dX6_many_10 ?_
  refine g_icmp_ge C 48 dX6_many_13 (by decide) (by omega) (by omega) (fun c_2 => ?_) (fun c_2 => ?_)
  · skip
    have hpe : pp = pn := by omega
    rw [hpe] at hsm hno
    refine g_iload_n C hl 4 rfl rfl dX6_many_48 ?_
    rcases (by omega : wh = 0 ∨ wh = 1 ∨ wh = 2 ∨ wh = 3 ∨ (wh < 0 ∨ 3 < wh)) with hs_3 | hs_3 | hs_3 | hs_3 | hs_3
    · skip
      refine g_tabIn C 0 31 80 hs_3 (by decide) dX6_many_49 (by decide) (by decide) (by decide +kernel) (by decide) ?_
      refine g_aload_n C hl 3 rfl rfl dX6_many_80 ?_
      refine g_get C hw hin_X6_many_X6 0 rfl rfl 1 (by decide) lk_X6_many_75 rfl dX6_many_81 ?_
      exact g_iret C hr (ws' := [oX6 h a ft pn ra rm rP rS rD rQ al rw rc tr, cA G (a 2) 4 kd, cA G (a 3) 12 nu]) hw [0, 1, 2] (by decide) rfl ⟨(congrArg iI (by unfold R_many; (try rw [hsm]); (try rw [hno]); (repeat' split) <;> first | rfl | omega)), rfl⟩ dX6_many_84
    · skip
      refine g_tabIn C 1 36 85 hs_3 (by decide) dX6_many_49 (by decide) (by decide) (by decide +kernel) (by decide) ?_
      refine g_iload_n C hl 2 rfl rfl dX6_many_85 ?_
      exact g_iret C hr (ws' := [oX6 h a ft pn ra rm rP rS rD rQ al rw rc tr, cA G (a 2) 4 kd, cA G (a 3) 12 nu]) hw [0, 1, 2] (by decide) rfl ⟨(congrArg iI (by unfold R_many; (try rw [hsm]); (try rw [hno]); (repeat' split) <;> first | rfl | omega)), rfl⟩ dX6_many_86
    · skip
      refine g_tabIn C 2 38 87 hs_3 (by decide) dX6_many_49 (by decide) (by decide) (by decide +kernel) (by decide) ?_
      refine g_iload_n C hl 1 rfl rfl dX6_many_87 ?_
      exact g_iret C hr (ws' := [oX6 h a ft pn ra rm rP rS rD rQ al rw rc tr, cA G (a 2) 4 kd, cA G (a 3) 12 nu]) hw [0, 1, 2] (by decide) rfl ⟨(congrArg iI (by unfold R_many; (try rw [hsm]); (try rw [hno]); (repeat' split) <;> first | rfl | omega)), rfl⟩ dX6_many_88
    · skip
      refine g_tabIn C 3 40 89 hs_3 (by decide) dX6_many_49 (by decide) (by decide) (by decide +kernel) (by decide) ?_
      refine g_aload_n C hl 3 rfl rfl dX6_many_89 ?_
      refine g_get C hw hin_X6_many_X6 0 rfl rfl 21 (by decide) lk_X6_many_126 rfl dX6_many_90 ?_
      exact g_iret C hr (ws' := [oX6 h a ft pn ra rm rP rS rD rQ al rw rc tr, cA G (a 2) 4 kd, cA G (a 3) 12 nu]) hw [0, 1, 2] (by decide) rfl ⟨(congrArg iI (by unfold R_many; (try rw [hsm]); (try rw [hno]); (repeat' split) <;> first | rfl | omega)), rfl⟩ dX6_many_93
    · skip
      refine g_tabOut C 94 (by omega) dX6_many_49 (by omega) (by decide) ?_
      refine g_bipush C dX6_many_94 (by decide) ?_
      exact g_iret C hr (ws' := [oX6 h a ft pn ra rm rP rS rD rQ al rw rc tr, cA G (a 2) 4 kd, cA G (a 3) 12 nu]) hw [0, 1, 2] (by decide) rfl ⟨(congrArg iI (by unfold R_many; (try rw [hsm]); (try rw [hno]); (repeat' split) <;> first | rfl | omega)), rfl⟩ dX6_many_96
  · skip
    refine g_iload_n C hl 2 rfl rfl dX6_many_16 ?_
    refine g_aload_n C hl 3 rfl rfl dX6_many_17 ?_
    refine g_iload C hl 0 rfl dX6_many_18 ?_
    refine g_callVi C hw (wr := []) (As := [.int (iI pp)]) (rest := [.int (iI sm)]) (m_X6_rootsOf l D G (h := h) (a := a) (ft := ft) (pn := pn) (ra := ra) (rm := rm) (rP := rP) (rS := rS) (rD := rD) (rQ := rQ) (al := al) (rw := rw) (rc := rc) (tr := tr) (kd := kd) (nu := nu) (pp := pp) (by first | assumption | omega) (by first | assumption | omega) (by first | assumption | omega) (by first | assumption | omega)) (cwV 1 C.1.2.2.2.2 gX6_many_X6_rootsOf rfl rfl rfl (by decide +kernel) ⟨Nat.le_of_ble_eq_true rfl, Nat.le_of_ble_eq_true rfl⟩) [0, 1, 2] [] rfl rfl (by decide) (by decide) (by decide) 0 rfl rfl rfl hl.1 _ rfl (Nat.le_of_ble_eq_true rfl) dX6_many_20 ⟨Nat.le_of_ble_eq_true rfl, Nat.le_of_ble_eq_true rfl⟩ ?_
    clear hw
    rintro _ _ H locs ⟨rfl, rfl⟩ hw
    have hw : gW D A s.heap [oX6 h a ft pn ra rm rP rS rD rQ al rw rc tr, cA G (a 2) 4 kd, cA G (a 3) 12 nu] H locs := hw
    refine g_iadd C dX6_many_23 ?_
    refine g_istore_n C [(2, .int (iI (sm + (nR (exT pn kd nu) pp)))), (4, .int (iI pp)), (3, .int (iI no)), (0, .ref h), (1, .int (iI wh))] dX6_many_24 rfl hl (by decide) rfl ?_
    clear hl
    intro ls hl
    refine g_iload_n C hl 2 rfl rfl dX6_many_25 ?_
    refine g_aload_n C hl 3 rfl rfl dX6_many_26 ?_
    refine g_iload C hl 1 rfl dX6_many_27 ?_
    refine g_callVi C hw (wr := []) (As := [.int (iI pp)]) (rest := [.int (iI no)]) (m_X6_isNothing l D G (h := h) (a := a) (ft := ft) (pn := pn) (ra := ra) (rm := rm) (rP := rP) (rS := rS) (rD := rD) (rQ := rQ) (al := al) (rw := rw) (rc := rc) (tr := tr) (kd := kd) (nu := nu) (pp := pp) (by first | assumption | omega) (by first | assumption | omega) (by first | assumption | omega) (by first | assumption | omega)) (cwV 1 C.1.2.2.2.2 gX6_many_X6_isNothing rfl rfl rfl (by decide +kernel) ⟨Nat.le_of_ble_eq_true rfl, Nat.le_of_ble_eq_true rfl⟩) [0, 1, 2] [] rfl rfl (by decide) (by decide) (by decide) 0 rfl rfl rfl hl.1 _ rfl (Nat.le_of_ble_eq_true rfl) dX6_many_29 ⟨Nat.le_of_ble_eq_true rfl, Nat.le_of_ble_eq_true rfl⟩ ?_
    clear hw
    rintro _ _ H locs ⟨rfl, rfl⟩ hw
    have hw : gW D A s.heap [oX6 h a ft pn ra rm rP rS rD rQ al rw rc tr, cA G (a 2) 4 kd, cA G (a 3) 12 nu] H locs := hw
    refine g_ifb_eq C 39 dX6_many_32 (by decide) (fun c_4 => ?_) (fun c_4 => ?_)
    · skip
      refine g_iconst C dX6_many_39 ?_
      refine g_iadd C dX6_many_40 ?_
      refine g_istore_n C [(3, .int (iI (no + 0))), (2, .int (iI (sm + (nR (exT pn kd nu) pp)))), (4, .int (iI pp)), (0, .ref h), (1, .int (iI wh))] dX6_many_41 rfl hl (by decide) rfl ?_
      clear hl
      intro ls hl
      refine g_iinc C [(4, .int (iI (pp + 1))), (3, .int (iI (no + 0))), (2, .int (iI (sm + (nR (exT pn kd nu) pp)))), (0, .ref h), (1, .int (iI wh))] 2 dX6_many_42 hl rfl (by decide) rfl ?_
      clear hl
      intro ls hl
      refine g_goto C 7 dX6_many_45 (by decide) ?_
      have hw : gW D A s.heap [oX6 h a ft pn ra rm rP rS rD rQ al rw rc tr, cA G (a 2) 4 kd, cA G (a 3) 12 nu] H locs := g_perm hw [0, 1, 2] (by decide) rfl
      exact ih_1 (sm + (nR (exT pn kd nu) pp)) (no + 0) (pp + 1) ⟨by omega, by rw [smF_s hpp.1, hsm], by rw [cnF_s hpp.1, hno]; first | (rw [if_pos (noB_t (by assumption))]; done) | (rw [if_neg (noB_f (by assumption))]; done)⟩ (by omega) H locs ls hw (lv_sub hl [0, 1, 2, 3, 4] rfl)
    · skip
      refine g_iconst C dX6_many_35 ?_
      refine g_goto C 40 dX6_many_36 (by decide) ?_
      refine g_iadd C dX6_many_40 ?_
      refine g_istore_n C [(3, .int (iI (no + 1))), (2, .int (iI (sm + (nR (exT pn kd nu) pp)))), (4, .int (iI pp)), (0, .ref h), (1, .int (iI wh))] dX6_many_41 rfl hl (by decide) rfl ?_
      clear hl
      intro ls hl
      refine g_iinc C [(4, .int (iI (pp + 1))), (3, .int (iI (no + 1))), (2, .int (iI (sm + (nR (exT pn kd nu) pp)))), (0, .ref h), (1, .int (iI wh))] 2 dX6_many_42 hl rfl (by decide) rfl ?_
      clear hl
      intro ls hl
      refine g_goto C 7 dX6_many_45 (by decide) ?_
      have hw : gW D A s.heap [oX6 h a ft pn ra rm rP rS rD rQ al rw rc tr, cA G (a 2) 4 kd, cA G (a 3) 12 nu] H locs := g_perm hw [0, 1, 2] (by decide) rfl
      exact ih_1 (sm + (nR (exT pn kd nu) pp)) (no + 1) (pp + 1) ⟨by omega, by rw [smF_s hpp.1, hsm], by rw [cnF_s hpp.1, hno]; first | (rw [if_pos (noB_t (by assumption))]; done) | (rw [if_neg (noB_f (by assumption))]; done)⟩ (by omega) H locs ls hw (lv_sub hl [0, 1, 2, 3, 4] rfl)
