set_option maxRecDepth 20000 in
theorem hin_X6_rowsOf_X6 : ∀ w ∈ u_ws RX6 TX6 30, w ∈ wsX6_rowsOf := by
  intro w h
  exact List.mem_cons_of_mem _ (List.mem_append_right _ (h))
set_option maxRecDepth 20000 in
theorem lk_X6_rowsOf_213 : Cond.fieldLink RX6 213 (TX6 20).1 (TX6 20).2.1 (TX6 20).2.2.1 ∈ wsX6_rowsOf := List.mem_cons_of_mem _ (List.mem_append_left _ (List.mem_append_left _ (List.mem_of_getElem? (i := 0) rfl)))
set_option maxRecDepth 20000 in
theorem lk_X6_rowsOf_167 : Cond.fieldLink RX6 167 (TX6 12).1 (TX6 12).2.1 (TX6 12).2.2.1 ∈ wsX6_rowsOf := List.mem_cons_of_mem _ (List.mem_append_left _ (List.mem_append_left _ (List.mem_of_getElem? (i := 1) rfl)))
set_option maxRecDepth 20000 in
theorem lk_X6_rowsOf_75 : Cond.fieldLink RX6 75 (TX6 1).1 (TX6 1).2.1 (TX6 1).2.2.1 ∈ wsX6_rowsOf := List.mem_cons_of_mem _ (List.mem_append_left _ (List.mem_append_left _ (List.mem_of_getElem? (i := 2) rfl)))
set_option maxRecDepth 20000 in
theorem lk_X6_rowsOf_38 : Cond.fieldLink RX6 38 (TX6 18).1 (TX6 18).2.1 (TX6 18).2.2.1 ∈ wsX6_rowsOf := List.mem_cons_of_mem _ (List.mem_append_left _ (List.mem_append_left _ (List.mem_of_getElem? (i := 3) rfl)))
set_option maxRecDepth 20000 in
theorem lk_X6_rowsOf_41 : Cond.fieldLink RX6 41 (TX6 19).1 (TX6 19).2.1 (TX6 19).2.2.1 ∈ wsX6_rowsOf := List.mem_cons_of_mem _ (List.mem_append_left _ (List.mem_append_left _ (List.mem_of_getElem? (i := 4) rfl)))
set_option maxRecDepth 100000 in
set_option maxHeartbeats 8000000 in
theorem m_X6_rowsOf (l : Launch) (D : va_G) (G : gT) (h : Nat) (a : Nat → Nat) (ft : Int) (pn : Int) (ra : Int) (rm : Int) (rP : Int) (rS : Int) (rD : Int) (rQ : Int) (al : Int) (rw : Int) (rc : Int) (tr : Int) (kd : Int → Int) (nu : Int → Int) (vP : Int → Int) (vS : Int → Int) (vD : Int → Int) (vQ : Int → Int) (wA : Int → Int) (fA : Int → Int) (hkd : kdOK kd) (hnu : nuOK nu) (hn : 0 ≤ pn ∧ pn ≤ 4) : gMv l yX6_rowsOf wsX6_rowsOf ({ frames := 5, cells := 0, slots := 0, locals := 125 }) D G [.ref h] [oX6 h a ft pn ra rm rP rS rD rQ al rw rc tr, cA G (a 2) 4 kd, cA G (a 3) 12 nu, cJ G (a 13) 8 vP, cJ G (a 14) 8 vS, cJ G (a 15) 8 vD, cJ G (a 16) 8 vQ, cA G (a 18) 17 wA, cA G (a 19) 17 fA] 0 0 (fun (w : va_W) => ∃ (r2P : Int) (r2S : Int) (r2D : Int) (r2Q : Int) (vP2 : Int → Int) (vS2 : Int → Int) (vD2 : Int → Int) (vQ2 : Int → Int) (wA2 : Int → Int) (fA2 : Int → Int), w = [oX6 h a ft pn ra rm r2P r2S r2D r2Q ((ALn (exT pn kd nu) pn.toNat).length : Int) ((fsL (exT pn kd nu) (ALn (exT pn kd nu) pn.toNat) pn (2 * (ALn (exT pn kd nu) pn.toNat).length + 1)).length : Int) rc tr, cA G (a 2) 4 kd, cA G (a 3) 12 nu, cJ G (a 13) 8 vP2, cJ G (a 14) 8 vS2, cJ G (a 15) 8 vD2, cJ G (a 16) 8 vQ2, cA G (a 18) 17 wA2, cA G (a 19) 17 fA2] ∧ (MR (exT pn kd nu) (ALn (exT pn kd nu) pn.toNat) vP2 vS2 vD2 vQ2) ∧ (∀ j : Nat, (j : Int) ≤ 2 * ((ALn (exT pn kd nu) pn.toNat).length : Int) → wA2 j = rwN (exT pn kd nu) (ALn (exT pn kd nu) pn.toNat) pn j) ∧ (hasL fA2 (fsL (exT pn kd nu) (ALn (exT pn kd nu) pn.toNat) pn (2 * (ALn (exT pn kd nu) pn.toNat).length + 1)))) := by
  refine g_start_v (cc := cX6_rowsOf) (nL := 5) (own := RX6) (ret := none) (by decide +kernel) rfl rfl (Nat.le_of_ble_eq_true rfl) ?_
  intro p e s m below meth c A ls C hr hnm hw hl
  have hl : lv_has ls 5 [(0, .ref h)] := hl
  have hE := exT_B pn kd hnu
  have hlen := ALn_len (exT pn kd nu) pn.toNat
  refine g_aload_n C hl 0 rfl rfl dX6_rowsOf_0 ?_
  refine g_callVv C hw (wr := [cA G (a 18) 17 wA, cA G (a 19) 17 fA]) (As := []) (rest := []) (m_X6_gathers l D G (h := h) (a := a) (ft := ft) (pn := pn) (ra := ra) (rm := rm) (rP := rP) (rS := rS) (rD := rD) (rQ := rQ) (al := al) (rw := rw) (rc := rc) (tr := tr) (kd := kd) (nu := nu) (vP := vP) (vS := vS) (vD := vD) (vQ := vQ) (by first | assumption | omega) (by first | assumption | omega) (by first | assumption | omega)) (cwV 0 C.1.2.2.2.2 gX6_rowsOf_X6_gathers rfl rfl rfl (by decide +kernel) ⟨Nat.le_of_ble_eq_true rfl, Nat.le_of_ble_eq_true rfl⟩) [0, 1, 2, 3, 4, 5, 6] [7, 8] rfl rfl (by decide) (by decide) (by decide) 0 rfl rfl rfl hl.1 _ rfl (Nat.le_of_ble_eq_true rfl) dX6_rowsOf_1 ⟨Nat.le_of_ble_eq_true rfl, Nat.le_of_ble_eq_true rfl⟩ ?_
  clear hw
  rintro _ H locs ⟨r2P__1, r2S__2, r2D__3, r2Q__4, vP2__5, vS2__6, vD2__7, vQ2__8, rfl, hp_9⟩ hw
  have hw : gW D A s.heap [cA G (a 18) 17 wA, cA G (a 19) 17 fA, oX6 h a ft pn ra rm r2P__1 r2S__2 r2D__3 r2Q__4 ((ALn (exT pn kd nu) pn.toNat).length : Int) rw rc tr, cA G (a 2) 4 kd, cA G (a 3) 12 nu, cJ G (a 13) 8 vP2__5, cJ G (a 14) 8 vS2__6, cJ G (a 15) 8 vD2__7, cJ G (a 16) 8 vQ2__8] H locs := hw
  have hp_9 : MR (exT pn kd nu) (ALn (exT pn kd nu) pn.toNat) vP2__5 vS2__6 vD2__7 vQ2__8 := hp_9
  have hM := hp_9
  refine g_aload_n C hl 0 rfl rfl dX6_rowsOf_4 ?_
  refine g_iconst C dX6_rowsOf_5 ?_
  refine g_put C hw [cA G (a 18) 17 wA, cA G (a 19) 17 fA, oX6 h a ft pn ra rm r2P__1 r2S__2 r2D__3 r2Q__4 ((ALn (exT pn kd nu) pn.toNat).length : Int) 0 rc tr, cA G (a 2) 4 kd, cA G (a 3) 12 nu, cJ G (a 13) 8 vP2__5, cJ G (a 14) 8 vS2__6, cJ G (a 15) 8 vD2__7, cJ G (a 16) 8 vQ2__8] hin_X6_rowsOf_X6 tyX6 tyX6_ok nmX6 2 rfl rfl 20 (by decide) lk_X6_rowsOf_213 rfl rfl rfl rfl (Nat.le_of_ble_eq_true rfl) rfl dX6_rowsOf_6 ?_
  clear hw
  intro H locs hw
  refine g_iconst C dX6_rowsOf_9 ?_
  refine g_istore_n C [(1, .int (iI 0)), (0, .ref h)] dX6_rowsOf_10 rfl hl (by decide) rfl ?_
  clear hl
  intro ls hl
  refine g_loop (σ := (Int) × (Int) × (Int) × (Int) × (Int) × (Int) × (Int → Int) × (Int → Int)) (fun z_ => [cA G (a 18) 17 z_.2.2.2.2.2.2.1, cA G (a 19) 17 z_.2.2.2.2.2.2.2, oX6 h a ft pn ra rm z_.2.2.1 z_.2.2.2.1 z_.2.2.2.2.1 z_.2.2.2.2.2.1 ((ALn (exT pn kd nu) pn.toNat).length : Int) z_.2.1 rc tr, cA G (a 2) 4 kd, cA G (a 3) 12 nu, cJ G (a 13) 8 vP2__5, cJ G (a 14) 8 vS2__6, cJ G (a 15) 8 vD2__7, cJ G (a 16) 8 vQ2__8]) (fun z_ => [(1, .int (iI (z_.1))), (0, .ref h)]) (fun z_ => (0 ≤ z_.1 ∧ z_.1 ≤ 2 * ((ALn (exT pn kd nu) pn.toNat).length : Int) + 1) ∧ (z_.2.1 = ((fsL (exT pn kd nu) (ALn (exT pn kd nu) pn.toNat) pn z_.1.toNat).length : Int)) ∧ (∀ j : Nat, (j : Int) < z_.1 → z_.2.2.2.2.2.2.1 j = rwN (exT pn kd nu) (ALn (exT pn kd nu) pn.toNat) pn j) ∧ (hasL z_.2.2.2.2.2.2.2 (fsL (exT pn kd nu) (ALn (exT pn kd nu) pn.toNat) pn z_.1.toNat))) (fun z_ => (2 * ((ALn (exT pn kd nu) pn.toNat).length : Int) + 1 - z_.1).toNat) (0, 0, r2P__1, r2S__2, r2D__3, r2Q__4, wA, fA) ⟨by (try dsimp only); omega, by (try dsimp only); simp [fsL], by (try dsimp only); intro j hj; omega, by (try dsimp only); intro j hj; simp [fsL] at hj⟩ hw (lv_sub hl [0, 1] rfl) ?_
  clear hw hl
  rintro ⟨kk, w1, gP, gS, gD, gQ, f5, f6⟩ ⟨hkk, hrw, h5, h6⟩ H locs ls hw hl ih_10
  replace hkk : 0 ≤ kk ∧ kk ≤ 2 * ((ALn (exT pn kd nu) pn.toNat).length : Int) + 1 := hkk
  replace hrw : w1 = ((fsL (exT pn kd nu) (ALn (exT pn kd nu) pn.toNat) pn kk.toNat).length : Int) := hrw
  replace h5 : ∀ j : Nat, (j : Int) < kk → f5 j = rwN (exT pn kd nu) (ALn (exT pn kd nu) pn.toNat) pn j := h5
  replace h6 : hasL f6 (fsL (exT pn kd nu) (ALn (exT pn kd nu) pn.toNat) pn kk.toNat) := h6
  replace hw : gW D A s.heap [cA G (a 18) 17 f5, cA G (a 19) 17 f6, oX6 h a ft pn ra rm gP gS gD gQ ((ALn (exT pn kd nu) pn.toNat).length : Int) w1 rc tr, cA G (a 2) 4 kd, cA G (a 3) 12 nu, cJ G (a 13) 8 vP2__5, cJ G (a 14) 8 vS2__6, cJ G (a 15) 8 vD2__7, cJ G (a 16) 8 vQ2__8] H locs := hw
  replace hl : lv_has ls 5 [(1, .int (iI kk)), (0, .ref h)] := hl
  replace ih_10 : ∀ (kk' : Int) (w1' : Int) (gP' : Int) (gS' : Int) (gD' : Int) (gQ' : Int) (f5' : Int → Int) (f6' : Int → Int), ((0 ≤ kk' ∧ kk' ≤ 2 * ((ALn (exT pn kd nu) pn.toNat).length : Int) + 1) ∧ (w1' = ((fsL (exT pn kd nu) (ALn (exT pn kd nu) pn.toNat) pn kk'.toNat).length : Int)) ∧ (∀ j : Nat, (j : Int) < kk' → f5' j = rwN (exT pn kd nu) (ALn (exT pn kd nu) pn.toNat) pn j) ∧ (hasL f6' (fsL (exT pn kd nu) (ALn (exT pn kd nu) pn.toNat) pn kk'.toNat))) → ((2 * ((ALn (exT pn kd nu) pn.toNat).length : Int) + 1 - kk').toNat) < ((2 * ((ALn (exT pn kd nu) pn.toNat).length : Int) + 1 - kk).toNat) → ∀ (H : Heap) (locs : List Loc) (ls : Array Slot), gW D A s.heap [cA G (a 18) 17 f5', cA G (a 19) 17 f6', oX6 h a ft pn ra rm gP' gS' gD' gQ' ((ALn (exT pn kd nu) pn.toNat).length : Int) w1' rc tr, cA G (a 2) 4 kd, cA G (a 3) 12 nu, cJ G (a 13) 8 vP2__5, cJ G (a 14) 8 vS2__6, cJ G (a 15) 8 vD2__7, cJ G (a 16) 8 vQ2__8] H locs → lv_has ls 5 [(1, .int (iI (kk'))), (0, .ref h)] → W p l e _ s m _ below meth c H locs _ _ _ (F0 m 11 ls []) := fun kk' w1' gP' gS' gD' gQ' f5' f6' => ih_10 (kk', w1', gP', gS', gD', gQ', f5', f6')
  have hfl := fsL_len (exT pn kd nu) (ALn (exT pn kd nu) pn.toNat) pn kk.toNat
  refine g_iload_n C hl 0 rfl rfl dX6_rowsOf_11 ?_
  refine g_iconst C dX6_rowsOf_12 ?_
  refine g_aload_n C hl 1 rfl rfl dX6_rowsOf_13 ?_
  refine g_get C hw hin_X6_rowsOf_X6 2 rfl rfl 12 (by decide) lk_X6_rowsOf_167 rfl dX6_rowsOf_14 ?_
  refine g_imul C dX6_rowsOf_17 ?_
  refine g_icmp_gt C 135 dX6_rowsOf_18 (by decide) (by omega) (by omega) (fun c_11 => ?_) (fun c_11 => ?_)
  · skip
    exact g_vret C hr (ws' := [oX6 h a ft pn ra rm gP gS gD gQ ((ALn (exT pn kd nu) pn.toNat).length : Int) w1 rc tr, cA G (a 2) 4 kd, cA G (a 3) 12 nu, cJ G (a 13) 8 vP2__5, cJ G (a 14) 8 vS2__6, cJ G (a 15) 8 vD2__7, cJ G (a 16) 8 vQ2__8, cA G (a 18) 17 f5, cA G (a 19) 17 f6]) hw [2, 3, 4, 5, 6, 7, 8, 0, 1] (by decide) rfl ⟨gP, gS, gD, gQ, vP2__5, vS2__6, vD2__7, vQ2__8, f5, f6, (by have e9 : kk = 2 * ((ALn (exT pn kd nu) pn.toNat).length : Int) + 1 := (by omega); rw [hrw, e9, show (2 * ((ALn (exT pn kd nu) pn.toNat).length : Int) + 1).toNat = 2 * (ALn (exT pn kd nu) pn.toNat).length + 1 by omega]), (by exact hM), (by intro j hj; exact h5 j (by omega)), (by have e9 : kk = 2 * ((ALn (exT pn kd nu) pn.toNat).length : Int) + 1 := (by omega); rw [e9, show (2 * ((ALn (exT pn kd nu) pn.toNat).length : Int) + 1).toNat = 2 * (ALn (exT pn kd nu) pn.toNat).length + 1 by omega] at h6; exact h6)⟩ dX6_rowsOf_135
  · skip
    refine g_iconst C dX6_rowsOf_21 ?_
    refine g_istore_n C [(2, .int (iI 0)), (1, .int (iI kk)), (0, .ref h)] dX6_rowsOf_22 rfl hl (by decide) rfl ?_
    clear hl
    intro ls hl
    refine g_iconst C dX6_rowsOf_23 ?_
    refine g_istore_n C [(3, .int (iI 0)), (2, .int (iI 0)), (1, .int (iI kk)), (0, .ref h)] dX6_rowsOf_24 rfl hl (by decide) rfl ?_
    clear hl
    intro ls hl
    refine g_loop (σ := (Int) × (Int) × (Int) × (Int) × (Int) × (Int)) (fun z_ => [cA G (a 18) 17 f5, cA G (a 19) 17 f6, oX6 h a ft pn ra rm z_.2.2.1 z_.2.2.2.1 z_.2.2.2.2.1 z_.2.2.2.2.2 ((ALn (exT pn kd nu) pn.toNat).length : Int) w1 rc tr, cA G (a 2) 4 kd, cA G (a 3) 12 nu, cJ G (a 13) 8 vP2__5, cJ G (a 14) 8 vS2__6, cJ G (a 15) 8 vD2__7, cJ G (a 16) 8 vQ2__8]) (fun z_ => [(3, .int (iI (z_.2.1))), (2, .int (iI (z_.1))), (1, .int (iI kk)), (0, .ref h)]) (fun z_ => (0 ≤ z_.2.1 ∧ z_.2.1 ≤ pn) ∧ (z_.1 = rnF (exT pn kd nu) (ALn (exT pn kd nu) pn.toNat) kk z_.2.1.toNat)) (fun z_ => (pn - z_.2.1).toNat) (0, 0, gP, gS, gD, gQ) ⟨by (try dsimp only); omega, by (try dsimp only); rfl⟩ hw (lv_sub hl [0, 1, 2, 3] rfl) ?_
    clear hw hl
    rintro ⟨nn, pp, xP, xS, xD, xQ⟩ ⟨hpp, hnn⟩ H locs ls hw hl ih_12
    replace hpp : 0 ≤ pp ∧ pp ≤ pn := hpp
    replace hnn : nn = rnF (exT pn kd nu) (ALn (exT pn kd nu) pn.toNat) kk pp.toNat := hnn
    replace hw : gW D A s.heap [cA G (a 18) 17 f5, cA G (a 19) 17 f6, oX6 h a ft pn ra rm xP xS xD xQ ((ALn (exT pn kd nu) pn.toNat).length : Int) w1 rc tr, cA G (a 2) 4 kd, cA G (a 3) 12 nu, cJ G (a 13) 8 vP2__5, cJ G (a 14) 8 vS2__6, cJ G (a 15) 8 vD2__7, cJ G (a 16) 8 vQ2__8] H locs := hw
    replace hl : lv_has ls 5 [(3, .int (iI pp)), (2, .int (iI nn)), (1, .int (iI kk)), (0, .ref h)] := hl
    replace ih_12 : ∀ (nn' : Int) (pp' : Int) (xP' : Int) (xS' : Int) (xD' : Int) (xQ' : Int), ((0 ≤ pp' ∧ pp' ≤ pn) ∧ (nn' = rnF (exT pn kd nu) (ALn (exT pn kd nu) pn.toNat) kk pp'.toNat)) → ((pn - pp').toNat) < ((pn - pp).toNat) → ∀ (H : Heap) (locs : List Loc) (ls : Array Slot), gW D A s.heap [cA G (a 18) 17 f5, cA G (a 19) 17 f6, oX6 h a ft pn ra rm xP' xS' xD' xQ' ((ALn (exT pn kd nu) pn.toNat).length : Int) w1 rc tr, cA G (a 2) 4 kd, cA G (a 3) 12 nu, cJ G (a 13) 8 vP2__5, cJ G (a 14) 8 vS2__6, cJ G (a 15) 8 vD2__7, cJ G (a 16) 8 vQ2__8] H locs → lv_has ls 5 [(3, .int (iI (pp'))), (2, .int (iI (nn'))), (1, .int (iI kk)), (0, .ref h)] → W p l e _ s m _ below meth c H locs _ _ _ (F0 m 25 ls []) := fun nn' pp' xP' xS' xD' xQ' => ih_12 (nn', pp', xP', xS', xD', xQ')
    have hnb := rnF_r (exT pn kd nu) (ALn (exT pn kd nu) pn.toNat) kk (p := pp.toNat) (by omega)
    have hsb := sSp_r (exT pn kd nu) (ALn (exT pn kd nu) pn.toNat) kk pp
    refine g_iload_n C hl 0 rfl rfl dX6_rowsOf_25 ?_
    refine g_aload_n C hl 3 rfl rfl dX6_rowsOf_26 ?_
    refine g_get C hw hin_X6_rowsOf_X6 2 rfl rfl 1 (by decide) lk_X6_rowsOf_75 rfl dX6_rowsOf_27 ?_
    refine g_icmp_ge C 52 dX6_rowsOf_30 (by decide) (by omega) (by omega) (fun c_13 => ?_) (fun c_13 => ?_)
    · skip
      have hpe : pp = pn := by omega
      rw [hpe] at hnn
      replace hnn : nn = rwN (exT pn kd nu) (ALn (exT pn kd nu) pn.toNat) pn kk := hnn
      refine g_aload_n C hl 3 rfl rfl dX6_rowsOf_52 ?_
      refine g_get C hw hin_X6_rowsOf_X6 2 rfl rfl 18 (by decide) lk_X6_rowsOf_38 rfl dX6_rowsOf_53 ?_
      refine g_iload_n C hl 2 rfl rfl dX6_rowsOf_56 ?_
      refine g_iload_n C hl 1 rfl rfl dX6_rowsOf_57 ?_
      refine g_iast C hw [cA G (a 18) 17 (up f5 kk nn), cA G (a 19) 17 f6, oX6 h a ft pn ra rm xP xS xD xQ ((ALn (exT pn kd nu) pn.toNat).length : Int) w1 rc tr, cA G (a 2) 4 kd, cA G (a 3) 12 nu, cJ G (a 13) 8 vP2__5, cJ G (a 14) 8 vS2__6, cJ G (a 15) 8 vD2__7, cJ G (a 16) 8 vQ2__8] 0 rfl (by omega) (Nat.le_of_ble_eq_true rfl) rfl dX6_rowsOf_58 ?_
      clear hw
      intro H locs hw
      refine g_iconst C dX6_rowsOf_59 ?_
      refine g_istore_n C [(3, .int (iI 0)), (2, .int (iI nn)), (1, .int (iI kk)), (0, .ref h)] dX6_rowsOf_60 rfl hl (by decide) rfl ?_
      clear hl
      intro ls hl
      refine g_iconst C dX6_rowsOf_61 ?_
      refine g_istore C [(4, .int (iI 0)), (3, .int (iI 0)), (2, .int (iI nn)), (1, .int (iI kk)), (0, .ref h)] dX6_rowsOf_62 hl (by decide) rfl ?_
      clear hl
      intro ls hl
      refine g_loop (σ := (Int) × (Int)) (fun z_ => [cA G (a 18) 17 (up f5 kk nn), cA G (a 19) 17 f6, oX6 h a ft pn ra rm xP xS xD xQ ((ALn (exT pn kd nu) pn.toNat).length : Int) w1 rc tr, cA G (a 2) 4 kd, cA G (a 3) 12 nu, cJ G (a 13) 8 vP2__5, cJ G (a 14) 8 vS2__6, cJ G (a 15) 8 vD2__7, cJ G (a 16) 8 vQ2__8]) (fun z_ => [(4, .int (iI (z_.2))), (3, .int (iI (z_.1))), (2, .int (iI nn)), (1, .int (iI kk)), (0, .ref h)]) (fun z_ => (0 ≤ z_.2 ∧ z_.2 ≤ w1) ∧ (z_.1 = if ((fsL (exT pn kd nu) (ALn (exT pn kd nu) pn.toNat) pn kk.toNat).take z_.2.toNat).any (fun t => rwN (exT pn kd nu) (ALn (exT pn kd nu) pn.toNat) pn t == nn) = true then 1 else 0)) (fun z_ => (w1 - z_.2).toNat) (0, 0) ⟨by (try dsimp only); omega, by (try dsimp only); simp⟩ hw (lv_sub hl [0, 1, 2, 3, 4] rfl) ?_
      clear hw hl
      rintro ⟨mt, rr⟩ ⟨hrr, hmt⟩ H locs ls hw hl ih_14
      replace hrr : 0 ≤ rr ∧ rr ≤ w1 := hrr
      replace hmt : mt = if ((fsL (exT pn kd nu) (ALn (exT pn kd nu) pn.toNat) pn kk.toNat).take rr.toNat).any (fun t => rwN (exT pn kd nu) (ALn (exT pn kd nu) pn.toNat) pn t == nn) = true then 1 else 0 := hmt
      replace hw : gW D A s.heap [cA G (a 18) 17 (up f5 kk nn), cA G (a 19) 17 f6, oX6 h a ft pn ra rm xP xS xD xQ ((ALn (exT pn kd nu) pn.toNat).length : Int) w1 rc tr, cA G (a 2) 4 kd, cA G (a 3) 12 nu, cJ G (a 13) 8 vP2__5, cJ G (a 14) 8 vS2__6, cJ G (a 15) 8 vD2__7, cJ G (a 16) 8 vQ2__8] H locs := hw
      replace hl : lv_has ls 5 [(4, .int (iI rr)), (3, .int (iI mt)), (2, .int (iI nn)), (1, .int (iI kk)), (0, .ref h)] := hl
      replace ih_14 : ∀ (mt' : Int) (rr' : Int), ((0 ≤ rr' ∧ rr' ≤ w1) ∧ (mt' = if ((fsL (exT pn kd nu) (ALn (exT pn kd nu) pn.toNat) pn kk.toNat).take rr'.toNat).any (fun t => rwN (exT pn kd nu) (ALn (exT pn kd nu) pn.toNat) pn t == nn) = true then 1 else 0)) → ((w1 - rr').toNat) < ((w1 - rr).toNat) → ∀ (H : Heap) (locs : List Loc) (ls : Array Slot), gW D A s.heap [cA G (a 18) 17 (up f5 kk nn), cA G (a 19) 17 f6, oX6 h a ft pn ra rm xP xS xD xQ ((ALn (exT pn kd nu) pn.toNat).length : Int) w1 rc tr, cA G (a 2) 4 kd, cA G (a 3) 12 nu, cJ G (a 13) 8 vP2__5, cJ G (a 14) 8 vS2__6, cJ G (a 15) 8 vD2__7, cJ G (a 16) 8 vQ2__8] H locs → lv_has ls 5 [(4, .int (iI (rr'))), (3, .int (iI (mt'))), (2, .int (iI nn)), (1, .int (iI kk)), (0, .ref h)] → W p l e _ s m _ below meth c H locs _ _ _ (F0 m 64 ls []) := fun mt' rr' => ih_14 (mt', rr')
      have hmr : 0 ≤ mt ∧ mt ≤ 1 := by rw [hmt]; split <;> omega
      refine g_iload C hl 0 rfl dX6_rowsOf_64 ?_
      refine g_aload_n C hl 4 rfl rfl dX6_rowsOf_66 ?_
      refine g_get C hw hin_X6_rowsOf_X6 2 rfl rfl 20 (by decide) lk_X6_rowsOf_213 rfl dX6_rowsOf_67 ?_
      refine g_icmp_ge C 105 dX6_rowsOf_70 (by decide) (by omega) (by omega) (fun c_15 => ?_) (fun c_15 => ?_)
      · skip
        have hany : (fsL (exT pn kd nu) (ALn (exT pn kd nu) pn.toNat) pn kk.toNat).take rr.toNat = fsL (exT pn kd nu) (ALn (exT pn kd nu) pn.toNat) pn kk.toNat := List.take_of_length_le (by omega)
        rw [hany, hnn] at hmt
        replace hmt : mt = if (fsL (exT pn kd nu) (ALn (exT pn kd nu) pn.toNat) pn kk.toNat).any (fun r => rwN (exT pn kd nu) (ALn (exT pn kd nu) pn.toNat) pn r == rwN (exT pn kd nu) (ALn (exT pn kd nu) pn.toNat) pn kk) = true then 1 else 0 := hmt
        have hw5 : ∀ j : Nat, (j : Int) < kk + 1 → (up f5 kk nn) j = rwN (exT pn kd nu) (ALn (exT pn kd nu) pn.toNat) pn j := by
          intro j hj
          by_cases q : (j : Int) = kk
          · rw [q, up_s]; exact hnn
          · rw [up_n q]; exact h5 j (by omega)
        refine g_iload_n C hl 1 rfl rfl dX6_rowsOf_105 ?_
        refine g_if_ne C 129 dX6_rowsOf_106 (by decide) (by omega) (fun c_16 => ?_) (fun c_16 => ?_)
        · skip
          have h9 : (fsL (exT pn kd nu) (ALn (exT pn kd nu) pn.toNat) pn kk.toNat).any (fun r => rwN (exT pn kd nu) (ALn (exT pn kd nu) pn.toNat) pn r == rwN (exT pn kd nu) (ALn (exT pn kd nu) pn.toNat) pn kk) = true := by
            rcases Classical.em ((fsL (exT pn kd nu) (ALn (exT pn kd nu) pn.toNat) pn kk.toNat).any (fun r => rwN (exT pn kd nu) (ALn (exT pn kd nu) pn.toNat) pn r == rwN (exT pn kd nu) (ALn (exT pn kd nu) pn.toNat) pn kk) = true) with q | q
            · exact q
            · rw [if_neg q] at hmt; omega
          have hf := fsL_t hkk.1 h9
          refine g_iinc C [(1, .int (iI (kk + 1))), (4, .int (iI rr)), (3, .int (iI mt)), (2, .int (iI nn)), (0, .ref h)] 3 dX6_rowsOf_129 hl rfl (by decide) rfl ?_
          clear hl
          intro ls hl
          refine g_goto C 11 dX6_rowsOf_132 (by decide) ?_
          have hw : gW D A s.heap [cA G (a 18) 17 (up f5 kk nn), cA G (a 19) 17 f6, oX6 h a ft pn ra rm xP xS xD xQ ((ALn (exT pn kd nu) pn.toNat).length : Int) w1 rc tr, cA G (a 2) 4 kd, cA G (a 3) 12 nu, cJ G (a 13) 8 vP2__5, cJ G (a 14) 8 vS2__6, cJ G (a 15) 8 vD2__7, cJ G (a 16) 8 vQ2__8] H locs := g_perm hw [0, 1, 2, 3, 4, 5, 6, 7, 8] (by decide) rfl
          exact ih_10 (kk + 1) w1 xP xS xD xQ (up f5 kk nn) f6 ⟨by omega, by first | (rw [hf]; exact hrw) | (rw [hf, List.length_append, List.length_singleton, hrw]; omega), by exact hw5, by first | exact hpu | (rw [hf]; exact h6)⟩ (by omega) H locs ls hw (lv_sub hl [0, 4] rfl)
        · skip
          have h9 : ¬ (fsL (exT pn kd nu) (ALn (exT pn kd nu) pn.toNat) pn kk.toNat).any (fun r => rwN (exT pn kd nu) (ALn (exT pn kd nu) pn.toNat) pn r == rwN (exT pn kd nu) (ALn (exT pn kd nu) pn.toNat) pn kk) = true := by
            intro q
            rw [if_pos q] at hmt; omega
          have hf := fsL_f hkk.1 h9
          have hpu := hasL_push h6 kk
          rw [← hf, ← hrw] at hpu
          refine g_aload_n C hl 4 rfl rfl dX6_rowsOf_109 ?_
          refine g_get C hw hin_X6_rowsOf_X6 2 rfl rfl 19 (by decide) lk_X6_rowsOf_41 rfl dX6_rowsOf_110 ?_
          refine g_aload_n C hl 4 rfl rfl dX6_rowsOf_113 ?_
          refine g_get C hw hin_X6_rowsOf_X6 2 rfl rfl 20 (by decide) lk_X6_rowsOf_213 rfl dX6_rowsOf_114 ?_
          refine g_iload_n C hl 3 rfl rfl dX6_rowsOf_117 ?_
          refine g_iast C hw [cA G (a 18) 17 (up f5 kk nn), cA G (a 19) 17 (up f6 w1 kk), oX6 h a ft pn ra rm xP xS xD xQ ((ALn (exT pn kd nu) pn.toNat).length : Int) w1 rc tr, cA G (a 2) 4 kd, cA G (a 3) 12 nu, cJ G (a 13) 8 vP2__5, cJ G (a 14) 8 vS2__6, cJ G (a 15) 8 vD2__7, cJ G (a 16) 8 vQ2__8] 1 rfl (by omega) (Nat.le_of_ble_eq_true rfl) rfl dX6_rowsOf_118 ?_
          clear hw
          intro H locs hw
          refine g_aload_n C hl 4 rfl rfl dX6_rowsOf_119 ?_
          refine g_dup C dX6_rowsOf_120 rfl ?_
          refine g_get C hw hin_X6_rowsOf_X6 2 rfl rfl 20 (by decide) lk_X6_rowsOf_213 rfl dX6_rowsOf_121 ?_
          refine g_iconst C dX6_rowsOf_124 ?_
          refine g_iadd C dX6_rowsOf_125 ?_
          refine g_put C hw [cA G (a 18) 17 (up f5 kk nn), cA G (a 19) 17 (up f6 w1 kk), oX6 h a ft pn ra rm xP xS xD xQ ((ALn (exT pn kd nu) pn.toNat).length : Int) (w1 + 1) rc tr, cA G (a 2) 4 kd, cA G (a 3) 12 nu, cJ G (a 13) 8 vP2__5, cJ G (a 14) 8 vS2__6, cJ G (a 15) 8 vD2__7, cJ G (a 16) 8 vQ2__8] hin_X6_rowsOf_X6 tyX6 tyX6_ok nmX6 2 rfl rfl 20 (by decide) lk_X6_rowsOf_213 rfl rfl rfl rfl (Nat.le_of_ble_eq_true rfl) rfl dX6_rowsOf_126 ?_
          clear hw
          intro H locs hw
          refine g_iinc C [(1, .int (iI (kk + 1))), (4, .int (iI rr)), (3, .int (iI mt)), (2, .int (iI nn)), (0, .ref h)] 3 dX6_rowsOf_129 hl rfl (by decide) rfl ?_
          clear hl
          intro ls hl
          refine g_goto C 11 dX6_rowsOf_132 (by decide) ?_
          have hw : gW D A s.heap [cA G (a 18) 17 (up f5 kk nn), cA G (a 19) 17 (up f6 w1 kk), oX6 h a ft pn ra rm xP xS xD xQ ((ALn (exT pn kd nu) pn.toNat).length : Int) (w1 + 1) rc tr, cA G (a 2) 4 kd, cA G (a 3) 12 nu, cJ G (a 13) 8 vP2__5, cJ G (a 14) 8 vS2__6, cJ G (a 15) 8 vD2__7, cJ G (a 16) 8 vQ2__8] H locs := g_perm hw [0, 1, 2, 3, 4, 5, 6, 7, 8] (by decide) rfl
          exact ih_10 (kk + 1) (w1 + 1) xP xS xD xQ (up f5 kk nn) (up f6 w1 kk) ⟨by omega, by first | (rw [hf]; exact hrw) | (rw [hf, List.length_append, List.length_singleton, hrw]; omega), by exact hw5, by first | exact hpu | (rw [hf]; exact h6)⟩ (by omega) H locs ls hw (lv_sub hl [0, 4] rfl)
      · skip
        refine g_iload_n C hl 1 rfl rfl dX6_rowsOf_73 ?_
        refine g_if_ne C 93 dX6_rowsOf_74 (by decide) (by omega) (fun c_17 => ?_) (fun c_17 => ?_)
        · skip
          refine g_iconst C dX6_rowsOf_93 ?_
          refine g_goto C 98 dX6_rowsOf_94 (by decide) ?_
          refine g_istore_n C [(3, .int (iI 1)), (4, .int (iI rr)), (2, .int (iI nn)), (1, .int (iI kk)), (0, .ref h)] dX6_rowsOf_98 rfl hl (by decide) rfl ?_
          clear hl
          intro ls hl
          refine g_iinc C [(4, .int (iI (rr + 1))), (3, .int (iI 1)), (2, .int (iI nn)), (1, .int (iI kk)), (0, .ref h)] 1 dX6_rowsOf_99 hl rfl (by decide) rfl ?_
          clear hl
          intro ls hl
          refine g_goto C 64 dX6_rowsOf_102 (by decide) ?_
          have hw : gW D A s.heap [cA G (a 18) 17 (up f5 kk nn), cA G (a 19) 17 f6, oX6 h a ft pn ra rm xP xS xD xQ ((ALn (exT pn kd nu) pn.toNat).length : Int) w1 rc tr, cA G (a 2) 4 kd, cA G (a 3) 12 nu, cJ G (a 13) 8 vP2__5, cJ G (a 14) 8 vS2__6, cJ G (a 15) 8 vD2__7, cJ G (a 16) 8 vQ2__8] H locs := g_perm hw [0, 1, 2, 3, 4, 5, 6, 7, 8] (by decide) rfl
          exact ih_14 1 (rr + 1) ⟨by omega, by rw [show (rr + 1).toNat = rr.toNat + 1 by omega]; first | (rw [if_pos]; rw [List.take_add_one, List.any_append]; rcases Classical.em (((fsL (exT pn kd nu) (ALn (exT pn kd nu) pn.toNat) pn kk.toNat).take rr.toNat).any (fun t => rwN (exT pn kd nu) (ALn (exT pn kd nu) pn.toNat) pn t == nn) = true) with q | q; rw [q]; rfl; rw [if_neg q] at hmt; omega) | (rw [ht9, if_pos]; rw [show (rwN (exT pn kd nu) (ALn (exT pn kd nu) pn.toNat) pn (f6 rr) == nn) = true by simp; omega]; simp) | (rw [ht9, if_neg]; intro q; rcases Bool.or_eq_true_iff.mp q with q | q; rw [if_pos q] at hmt; omega; simp at q; omega)⟩ (by omega) H locs ls hw (lv_sub hl [0, 1, 2, 3, 4] rfl)
        · skip
          obtain ⟨hx1, hx2⟩ := hasL_at h6 (k := rr) ⟨by omega, by omega⟩
          have hx3 := fsL_mem (exT pn kd nu) (ALn (exT pn kd nu) pn.toNat) pn kk.toNat _ hx2
          have hx4 : up f5 kk nn (f6 rr) = rwN (exT pn kd nu) (ALn (exT pn kd nu) pn.toNat) pn (f6 rr) := by
            rw [up_n (by omega)]
            have := h5 (f6 rr).toNat (by omega)
            rw [show (((f6 rr).toNat : Nat) : Int) = f6 rr by omega] at this
            exact this
          have hx5 := rnF_r (exT pn kd nu) (ALn (exT pn kd nu) pn.toNat) (f6 rr) (p := pn.toNat) (by omega)
          replace hx5 : 0 ≤ rwN (exT pn kd nu) (ALn (exT pn kd nu) pn.toNat) pn (f6 rr) ∧ rwN (exT pn kd nu) (ALn (exT pn kd nu) pn.toNat) pn (f6 rr) ≤ 80 := hx5
          have hn5 := rnF_r (exT pn kd nu) (ALn (exT pn kd nu) pn.toNat) kk (p := pn.toNat) (by omega)
          replace hn5 : 0 ≤ rwN (exT pn kd nu) (ALn (exT pn kd nu) pn.toNat) pn kk ∧ rwN (exT pn kd nu) (ALn (exT pn kd nu) pn.toNat) pn kk ≤ 80 := hn5
          have ht9 := take_any (p := fun t => rwN (exT pn kd nu) (ALn (exT pn kd nu) pn.toNat) pn t == nn) hx1
          refine g_aload_n C hl 4 rfl rfl dX6_rowsOf_77 ?_
          refine g_get C hw hin_X6_rowsOf_X6 2 rfl rfl 18 (by decide) lk_X6_rowsOf_38 rfl dX6_rowsOf_78 ?_
          refine g_aload_n C hl 4 rfl rfl dX6_rowsOf_81 ?_
          refine g_get C hw hin_X6_rowsOf_X6 2 rfl rfl 19 (by decide) lk_X6_rowsOf_41 rfl dX6_rowsOf_82 ?_
          refine g_iload C hl 0 rfl dX6_rowsOf_85 ?_
          refine g_iald C hw 1 rfl (by omega) (Nat.le_of_ble_eq_true rfl) dX6_rowsOf_87 ?_
          refine g_iald C hw 0 rfl (by omega) (Nat.le_of_ble_eq_true rfl) dX6_rowsOf_88 ?_
          refine g_iload_n C hl 2 rfl rfl dX6_rowsOf_89 ?_
          refine g_icmp_ne C 97 dX6_rowsOf_90 (by decide) (by omega) (by omega) (fun c_18 => ?_) (fun c_18 => ?_)
          · skip
            refine g_iconst C dX6_rowsOf_97 ?_
            refine g_istore_n C [(3, .int (iI 0)), (4, .int (iI rr)), (2, .int (iI nn)), (1, .int (iI kk)), (0, .ref h)] dX6_rowsOf_98 rfl hl (by decide) rfl ?_
            clear hl
            intro ls hl
            refine g_iinc C [(4, .int (iI (rr + 1))), (3, .int (iI 0)), (2, .int (iI nn)), (1, .int (iI kk)), (0, .ref h)] 1 dX6_rowsOf_99 hl rfl (by decide) rfl ?_
            clear hl
            intro ls hl
            refine g_goto C 64 dX6_rowsOf_102 (by decide) ?_
            have hw : gW D A s.heap [cA G (a 18) 17 (up f5 kk nn), cA G (a 19) 17 f6, oX6 h a ft pn ra rm xP xS xD xQ ((ALn (exT pn kd nu) pn.toNat).length : Int) w1 rc tr, cA G (a 2) 4 kd, cA G (a 3) 12 nu, cJ G (a 13) 8 vP2__5, cJ G (a 14) 8 vS2__6, cJ G (a 15) 8 vD2__7, cJ G (a 16) 8 vQ2__8] H locs := g_perm hw [0, 1, 2, 3, 4, 5, 6, 7, 8] (by decide) rfl
            exact ih_14 0 (rr + 1) ⟨by omega, by rw [show (rr + 1).toNat = rr.toNat + 1 by omega]; first | (rw [if_pos]; rw [List.take_add_one, List.any_append]; rcases Classical.em (((fsL (exT pn kd nu) (ALn (exT pn kd nu) pn.toNat) pn kk.toNat).take rr.toNat).any (fun t => rwN (exT pn kd nu) (ALn (exT pn kd nu) pn.toNat) pn t == nn) = true) with q | q; rw [q]; rfl; rw [if_neg q] at hmt; omega) | (rw [ht9, if_pos]; rw [show (rwN (exT pn kd nu) (ALn (exT pn kd nu) pn.toNat) pn (f6 rr) == nn) = true by simp; omega]; simp) | (rw [ht9, if_neg]; intro q; rcases Bool.or_eq_true_iff.mp q with q | q; rw [if_pos q] at hmt; omega; simp at q; omega)⟩ (by omega) H locs ls hw (lv_sub hl [0, 1, 2, 3, 4] rfl)
          · skip
            refine g_iconst C dX6_rowsOf_93 ?_
            refine g_goto C 98 dX6_rowsOf_94 (by decide) ?_
            refine g_istore_n C [(3, .int (iI 1)), (4, .int (iI rr)), (2, .int (iI nn)), (1, .int (iI kk)), (0, .ref h)] dX6_rowsOf_98 rfl hl (by decide) rfl ?_
            clear hl
            intro ls hl
            refine g_iinc C [(4, .int (iI (rr + 1))), (3, .int (iI 1)), (2, .int (iI nn)), (1, .int (iI kk)), (0, .ref h)] 1 dX6_rowsOf_99 hl rfl (by decide) rfl ?_
            clear hl
            intro ls hl
            refine g_goto C 64 dX6_rowsOf_102 (by decide) ?_
            have hw : gW D A s.heap [cA G (a 18) 17 (up f5 kk nn), cA G (a 19) 17 f6, oX6 h a ft pn ra rm xP xS xD xQ ((ALn (exT pn kd nu) pn.toNat).length : Int) w1 rc tr, cA G (a 2) 4 kd, cA G (a 3) 12 nu, cJ G (a 13) 8 vP2__5, cJ G (a 14) 8 vS2__6, cJ G (a 15) 8 vD2__7, cJ G (a 16) 8 vQ2__8] H locs := g_perm hw [0, 1, 2, 3, 4, 5, 6, 7, 8] (by decide) rfl
            exact ih_14 1 (rr + 1) ⟨by omega, by rw [show (rr + 1).toNat = rr.toNat + 1 by omega]; first | (rw [if_pos]; rw [List.take_add_one, List.any_append]; rcases Classical.em (((fsL (exT pn kd nu) (ALn (exT pn kd nu) pn.toNat) pn kk.toNat).take rr.toNat).any (fun t => rwN (exT pn kd nu) (ALn (exT pn kd nu) pn.toNat) pn t == nn) = true) with q | q; rw [q]; rfl; rw [if_neg q] at hmt; omega) | (rw [ht9, if_pos]; rw [show (rwN (exT pn kd nu) (ALn (exT pn kd nu) pn.toNat) pn (f6 rr) == nn) = true by simp; omega]; simp) | (rw [ht9, if_neg]; intro q; rcases Bool.or_eq_true_iff.mp q with q | q; rw [if_pos q] at hmt; omega; simp at q; omega)⟩ (by omega) H locs ls hw (lv_sub hl [0, 1, 2, 3, 4] rfl)
    · skip
      refine g_iconst C dX6_rowsOf_33 ?_
      refine g_iload_n C hl 1 rfl rfl dX6_rowsOf_34 ?_
      refine g_imul C dX6_rowsOf_35 ?_
      refine g_aload_n C hl 3 rfl rfl dX6_rowsOf_36 ?_
      refine g_iload_n C hl 2 rfl rfl dX6_rowsOf_37 ?_
      refine g_iload_n C hl 0 rfl rfl dX6_rowsOf_38 ?_
      refine g_callVi C hw (wr := [cA G (a 18) 17 f5, cA G (a 19) 17 f6]) (As := [.int (iI kk), .int (iI pp)]) (rest := [.int (iI (3 * nn))]) (m_X6_signInSpot l D G (h := h) (a := a) (ft := ft) (pn := pn) (ra := ra) (rm := rm) (rP := xP) (rS := xS) (rD := xD) (rQ := xQ) (al := ((ALn (exT pn kd nu) pn.toNat).length : Int)) (rw := w1) (rc := rc) (tr := tr) (kd := kd) (nu := nu) (vP := vP2__5) (vS := vS2__6) (vD := vD2__7) (vQ := vQ2__8) (kk := kk) (pp := pp) (by first | assumption | omega) (by first | assumption | omega) (by first | assumption | omega) (by first | assumption | omega) (by first | assumption | omega) (by first | assumption | omega) (by first | assumption | omega)) (cwV 2 C.1.2.2.2.2 gX6_rowsOf_X6_signInSpot rfl rfl rfl (by decide +kernel) ⟨Nat.le_of_ble_eq_true rfl, Nat.le_of_ble_eq_true rfl⟩) [2, 3, 4, 5, 6, 7, 8] [0, 1] rfl rfl (by decide) (by decide) (by decide) 0 rfl rfl rfl hl.1 _ rfl (Nat.le_of_ble_eq_true rfl) dX6_rowsOf_39 ⟨Nat.le_of_ble_eq_true rfl, Nat.le_of_ble_eq_true rfl⟩ ?_
      clear hw
      rintro _ _ H locs ⟨r2P__19, r2S__20, r2D__21, r2Q__22, rfl, rfl⟩ hw
      have hw : gW D A s.heap [cA G (a 18) 17 f5, cA G (a 19) 17 f6, oX6 h a ft pn ra rm r2P__19 r2S__20 r2D__21 r2Q__22 ((ALn (exT pn kd nu) pn.toNat).length : Int) w1 rc tr, cA G (a 2) 4 kd, cA G (a 3) 12 nu, cJ G (a 13) 8 vP2__5, cJ G (a 14) 8 vS2__6, cJ G (a 15) 8 vD2__7, cJ G (a 16) 8 vQ2__8] H locs := hw
      refine g_iadd C dX6_rowsOf_42 ?_
      refine g_iconst C dX6_rowsOf_43 ?_
      refine g_iadd C dX6_rowsOf_44 ?_
      refine g_istore_n C [(2, .int (iI (((3 * nn) + (sSp (exT pn kd nu) (ALn (exT pn kd nu) pn.toNat) kk pp)) + 1))), (3, .int (iI pp)), (1, .int (iI kk)), (0, .ref h)] dX6_rowsOf_45 rfl hl (by decide) rfl ?_
      clear hl
      intro ls hl
      refine g_iinc C [(3, .int (iI (pp + 1))), (2, .int (iI (((3 * nn) + (sSp (exT pn kd nu) (ALn (exT pn kd nu) pn.toNat) kk pp)) + 1))), (1, .int (iI kk)), (0, .ref h)] 1 dX6_rowsOf_46 hl rfl (by decide) rfl ?_
      clear hl
      intro ls hl
      refine g_goto C 25 dX6_rowsOf_49 (by decide) ?_
      have hw : gW D A s.heap [cA G (a 18) 17 f5, cA G (a 19) 17 f6, oX6 h a ft pn ra rm r2P__19 r2S__20 r2D__21 r2Q__22 ((ALn (exT pn kd nu) pn.toNat).length : Int) w1 rc tr, cA G (a 2) 4 kd, cA G (a 3) 12 nu, cJ G (a 13) 8 vP2__5, cJ G (a 14) 8 vS2__6, cJ G (a 15) 8 vD2__7, cJ G (a 16) 8 vQ2__8] H locs := g_perm hw [0, 1, 2, 3, 4, 5, 6, 7, 8] (by decide) rfl
      exact ih_12 (((3 * nn) + (sSp (exT pn kd nu) (ALn (exT pn kd nu) pn.toNat) kk pp)) + 1) (pp + 1) r2P__19 r2S__20 r2D__21 r2Q__22 ⟨by omega, by rw [rnF_s hpp.1, hnn]⟩ (by omega) H locs ls hw (lv_sub hl [0, 1, 2, 3] rfl)

set_option maxRecDepth 20000 in
theorem hin_X6_allAbove_X6 : ∀ w ∈ u_ws RX6 TX6 30, w ∈ wsX6_allAbove := by
  intro w h
  exact List.mem_cons_of_mem _ (List.mem_append_right _ (h))
set_option maxRecDepth 20000 in
theorem lk_X6_allAbove_167 : Cond.fieldLink RX6 167 (TX6 12).1 (TX6 12).2.1 (TX6 12).2.2.1 ∈ wsX6_allAbove := List.mem_cons_of_mem _ (List.mem_append_left _ (List.mem_append_left _ (List.mem_of_getElem? (i := 0) rfl)))
set_option maxRecDepth 20000 in
theorem lk_X6_allAbove_75 : Cond.fieldLink RX6 75 (TX6 1).1 (TX6 1).2.1 (TX6 1).2.2.1 ∈ wsX6_allAbove := List.mem_cons_of_mem _ (List.mem_append_left _ (List.mem_append_left _ (List.mem_of_getElem? (i := 1) rfl)))
set_option maxRecDepth 100000 in
set_option maxHeartbeats 8000000 in
theorem m_X6_allAbove (l : Launch) (D : va_G) (G : gT) (h : Nat) (a : Nat → Nat) (ft : Int) (pn : Int) (ra : Int) (rm : Int) (rP : Int) (rS : Int) (rD : Int) (rQ : Int) (al : Int) (rw : Int) (rc : Int) (tr : Int) (kd : Int → Int) (nu : Int → Int) (vP : Int → Int) (vS : Int → Int) (vD : Int → Int) (vQ : Int → Int) (hkd : kdOK kd) (hnu : nuOK nu) (hn : 0 ≤ pn ∧ pn ≤ 4) (hal : al = ((ALn (exT pn kd nu) pn.toNat).length : Int)) (hM : MR (exT pn kd nu) (ALn (exT pn kd nu) pn.toNat) vP vS vD vQ) : gMi l yX6_allAbove wsX6_allAbove ({ frames := 5, cells := 0, slots := 0, locals := 125 }) D G [.ref h] [oX6 h a ft pn ra rm rP rS rD rQ al rw rc tr, cA G (a 2) 4 kd, cA G (a 3) 12 nu, cJ G (a 13) 8 vP, cJ G (a 14) 8 vS, cJ G (a 15) 8 vD, cJ G (a 16) 8 vQ] 0 0 (fun (r : Int32) (w : va_W) => ∃ (r2P : Int) (r2S : Int) (r2D : Int) (r2Q : Int), r = (iI (cnF (fun k => allB (fun q => decide (0 < sSp (exT pn kd nu) (ALn (exT pn kd nu) pn.toNat) k q)) pn.toNat) (2 * (ALn (exT pn kd nu) pn.toNat).length + 1))) ∧ w = [oX6 h a ft pn ra rm r2P r2S r2D r2Q al rw rc tr, cA G (a 2) 4 kd, cA G (a 3) 12 nu, cJ G (a 13) 8 vP, cJ G (a 14) 8 vS, cJ G (a 15) 8 vD, cJ G (a 16) 8 vQ]) := by
  refine g_start_i (cc := cX6_allAbove) (nL := 5) (own := RX6) (ret := some .int) (by decide +kernel) rfl rfl (Nat.le_of_ble_eq_true rfl) ?_
  intro p e s m below meth c A ls C hr hnm hw hl
  have hl : lv_has ls 5 [(0, .ref h)] := hl
  have hE := exT_B pn kd hnu
  have hlen := ALn_len (exT pn kd nu) pn.toNat
  refine g_iconst C dX6_allAbove_0 ?_
  refine g_istore_n C [(1, .int (iI 0)), (0, .ref h)] dX6_allAbove_1 rfl hl (by decide) rfl ?_
  clear hl
  intro ls hl
  refine g_iconst C dX6_allAbove_2 ?_
  refine g_istore_n C [(2, .int (iI 0)), (1, .int (iI 0)), (0, .ref h)] dX6_allAbove_3 rfl hl (by decide) rfl ?_
  clear hl
  intro ls hl
  refine g_loop (σ := (Int) × (Int) × (Int) × (Int) × (Int) × (Int)) (fun z_ => [oX6 h a ft pn ra rm z_.2.2.1 z_.2.2.2.1 z_.2.2.2.2.1 z_.2.2.2.2.2 al rw rc tr, cA G (a 2) 4 kd, cA G (a 3) 12 nu, cJ G (a 13) 8 vP, cJ G (a 14) 8 vS, cJ G (a 15) 8 vD, cJ G (a 16) 8 vQ]) (fun z_ => [(2, .int (iI (z_.2.1))), (1, .int (iI (z_.1))), (0, .ref h)]) (fun z_ => (0 ≤ z_.2.1 ∧ z_.2.1 ≤ 2 * al + 1) ∧ (z_.1 = cnF (fun k => allB (fun q => decide (0 < sSp (exT pn kd nu) (ALn (exT pn kd nu) pn.toNat) k q)) pn.toNat) z_.2.1.toNat)) (fun z_ => (2 * al + 1 - z_.2.1).toNat) (0, 0, rP, rS, rD, rQ) ⟨by (try dsimp only); omega, by (try dsimp only); rfl⟩ hw (lv_sub hl [0, 1, 2] rfl) ?_
  clear hw hl
  rintro ⟨mn, kk, gP, gS, gD, gQ⟩ ⟨hkk, hmn⟩ H locs ls hw hl ih_1
  replace hkk : 0 ≤ kk ∧ kk ≤ 2 * al + 1 := hkk
  replace hmn : mn = cnF (fun k => allB (fun q => decide (0 < sSp (exT pn kd nu) (ALn (exT pn kd nu) pn.toNat) k q)) pn.toNat) kk.toNat := hmn
  replace hw : gW D A s.heap [oX6 h a ft pn ra rm gP gS gD gQ al rw rc tr, cA G (a 2) 4 kd, cA G (a 3) 12 nu, cJ G (a 13) 8 vP, cJ G (a 14) 8 vS, cJ G (a 15) 8 vD, cJ G (a 16) 8 vQ] H locs := hw
  replace hl : lv_has ls 5 [(2, .int (iI kk)), (1, .int (iI mn)), (0, .ref h)] := hl
  replace ih_1 : ∀ (mn' : Int) (kk' : Int) (gP' : Int) (gS' : Int) (gD' : Int) (gQ' : Int), ((0 ≤ kk' ∧ kk' ≤ 2 * al + 1) ∧ (mn' = cnF (fun k => allB (fun q => decide (0 < sSp (exT pn kd nu) (ALn (exT pn kd nu) pn.toNat) k q)) pn.toNat) kk'.toNat)) → ((2 * al + 1 - kk').toNat) < ((2 * al + 1 - kk).toNat) → ∀ (H : Heap) (locs : List Loc) (ls : Array Slot), gW D A s.heap [oX6 h a ft pn ra rm gP' gS' gD' gQ' al rw rc tr, cA G (a 2) 4 kd, cA G (a 3) 12 nu, cJ G (a 13) 8 vP, cJ G (a 14) 8 vS, cJ G (a 15) 8 vD, cJ G (a 16) 8 vQ] H locs → lv_has ls 5 [(2, .int (iI (kk'))), (1, .int (iI (mn'))), (0, .ref h)] → W p l e _ s m _ below meth c H locs _ _ _ (F0 m 4 ls []) := fun mn' kk' gP' gS' gD' gQ' => ih_1 (mn', kk', gP', gS', gD', gQ')
  have hcn := cnF_r (fun k => allB (fun q => decide (0 < sSp (exT pn kd nu) (ALn (exT pn kd nu) pn.toNat) k q)) pn.toNat) kk.toNat
  refine g_iload_n C hl 0 rfl rfl dX6_allAbove_4 ?_
  refine g_iconst C dX6_allAbove_5 ?_
  refine g_aload_n C hl 2 rfl rfl dX6_allAbove_6 ?_
  refine g_get C hw hin_X6_allAbove_X6 0 rfl rfl 12 (by decide) lk_X6_allAbove_167 rfl dX6_allAbove_7 ?_
  refine g_imul C dX6_allAbove_10 ?_
  refine g_icmp_gt C 72 dX6_allAbove_11 (by decide) (by omega) (by omega) (fun c_2 => ?_) (fun c_2 => ?_)
  · skip
    refine g_iload_n C hl 1 rfl rfl dX6_allAbove_72 ?_
    exact g_iret C hr (ws' := [oX6 h a ft pn ra rm gP gS gD gQ al rw rc tr, cA G (a 2) 4 kd, cA G (a 3) 12 nu, cJ G (a 13) 8 vP, cJ G (a 14) 8 vS, cJ G (a 15) 8 vD, cJ G (a 16) 8 vQ]) hw [0, 1, 2, 3, 4, 5, 6] (by decide) rfl ⟨gP, gS, gD, gQ, (congrArg iI (by rw [hmn, show kk.toNat = 2 * (ALn (exT pn kd nu) pn.toNat).length + 1 by omega])), rfl⟩ dX6_allAbove_73
  · skip
    refine g_iconst C dX6_allAbove_14 ?_
    refine g_istore_n C [(3, .int (iI 1)), (2, .int (iI kk)), (1, .int (iI mn)), (0, .ref h)] dX6_allAbove_15 rfl hl (by decide) rfl ?_
    clear hl
    intro ls hl
    refine g_iconst C dX6_allAbove_16 ?_
    refine g_istore C [(4, .int (iI 0)), (3, .int (iI 1)), (2, .int (iI kk)), (1, .int (iI mn)), (0, .ref h)] dX6_allAbove_17 hl (by decide) rfl ?_
    clear hl
    intro ls hl
    refine g_loop (σ := (Int) × (Int) × (Int) × (Int) × (Int) × (Int)) (fun z_ => [oX6 h a ft pn ra rm z_.2.2.1 z_.2.2.2.1 z_.2.2.2.2.1 z_.2.2.2.2.2 al rw rc tr, cA G (a 2) 4 kd, cA G (a 3) 12 nu, cJ G (a 13) 8 vP, cJ G (a 14) 8 vS, cJ G (a 15) 8 vD, cJ G (a 16) 8 vQ]) (fun z_ => [(4, .int (iI (z_.2.1))), (3, .int (iI (z_.1))), (2, .int (iI kk)), (1, .int (iI mn)), (0, .ref h)]) (fun z_ => (0 ≤ z_.2.1 ∧ z_.2.1 ≤ pn) ∧ (z_.1 = if allB (fun q => decide (0 < sSp (exT pn kd nu) (ALn (exT pn kd nu) pn.toNat) kk q)) z_.2.1.toNat = true then 1 else 0)) (fun z_ => (pn - z_.2.1).toNat) (1, 0, gP, gS, gD, gQ) ⟨by (try dsimp only); omega, by (try dsimp only); rfl⟩ hw (lv_sub hl [0, 1, 2, 3, 4] rfl) ?_
    clear hw hl
    rintro ⟨ar, pp, xP, xS, xD, xQ⟩ ⟨hpp, har⟩ H locs ls hw hl ih_3
    replace hpp : 0 ≤ pp ∧ pp ≤ pn := hpp
    replace har : ar = if allB (fun q => decide (0 < sSp (exT pn kd nu) (ALn (exT pn kd nu) pn.toNat) kk q)) pp.toNat = true then 1 else 0 := har
    replace hw : gW D A s.heap [oX6 h a ft pn ra rm xP xS xD xQ al rw rc tr, cA G (a 2) 4 kd, cA G (a 3) 12 nu, cJ G (a 13) 8 vP, cJ G (a 14) 8 vS, cJ G (a 15) 8 vD, cJ G (a 16) 8 vQ] H locs := hw
    replace hl : lv_has ls 5 [(4, .int (iI pp)), (3, .int (iI ar)), (2, .int (iI kk)), (1, .int (iI mn)), (0, .ref h)] := hl
    replace ih_3 : ∀ (ar' : Int) (pp' : Int) (xP' : Int) (xS' : Int) (xD' : Int) (xQ' : Int), ((0 ≤ pp' ∧ pp' ≤ pn) ∧ (ar' = if allB (fun q => decide (0 < sSp (exT pn kd nu) (ALn (exT pn kd nu) pn.toNat) kk q)) pp'.toNat = true then 1 else 0)) → ((pn - pp').toNat) < ((pn - pp).toNat) → ∀ (H : Heap) (locs : List Loc) (ls : Array Slot), gW D A s.heap [oX6 h a ft pn ra rm xP' xS' xD' xQ' al rw rc tr, cA G (a 2) 4 kd, cA G (a 3) 12 nu, cJ G (a 13) 8 vP, cJ G (a 14) 8 vS, cJ G (a 15) 8 vD, cJ G (a 16) 8 vQ] H locs → lv_has ls 5 [(4, .int (iI (pp'))), (3, .int (iI (ar'))), (2, .int (iI kk)), (1, .int (iI mn)), (0, .ref h)] → W p l e _ s m _ below meth c H locs _ _ _ (F0 m 19 ls []) := fun ar' pp' xP' xS' xD' xQ' => ih_3 (ar', pp', xP', xS', xD', xQ')
    have har9 : 0 ≤ ar ∧ ar ≤ 1 := by rw [har]; split <;> omega
    have hsb := sSp_r (exT pn kd nu) (ALn (exT pn kd nu) pn.toNat) kk pp
    refine g_iload C hl 0 rfl dX6_allAbove_19 ?_
    refine g_aload_n C hl 4 rfl rfl dX6_allAbove_21 ?_
    refine g_get C hw hin_X6_allAbove_X6 0 rfl rfl 1 (by decide) lk_X6_allAbove_75 rfl dX6_allAbove_22 ?_
    refine g_icmp_ge C 54 dX6_allAbove_25 (by decide) (by omega) (by omega) (fun c_4 => ?_) (fun c_4 => ?_)
    · skip
      have hpe : pp = pn := by omega
      rw [hpe] at har
      have har1 : ar = 0 → ¬ allB (fun q => decide (0 < sSp (exT pn kd nu) (ALn (exT pn kd nu) pn.toNat) kk q)) pn.toNat = true := by intro q1 q2; rw [if_pos q2] at har; omega
      have har2 : ¬ ar = 0 → allB (fun q => decide (0 < sSp (exT pn kd nu) (ALn (exT pn kd nu) pn.toNat) kk q)) pn.toNat = true := by
        intro q1
        rcases Classical.em (allB (fun q => decide (0 < sSp (exT pn kd nu) (ALn (exT pn kd nu) pn.toNat) kk q)) pn.toNat = true) with q | q
        · exact q
        · rw [if_neg q] at har; omega
      refine g_iload_n C hl 3 rfl rfl dX6_allAbove_54 ?_
      refine g_iload_n C hl 1 rfl rfl dX6_allAbove_55 ?_
      refine g_if_eq C 63 dX6_allAbove_56 (by decide) (by omega) (fun c_5 => ?_) (fun c_5 => ?_)
      · skip
        refine g_iconst C dX6_allAbove_63 ?_
        refine g_iadd C dX6_allAbove_64 ?_
        refine g_istore_n C [(1, .int (iI (mn + 0))), (4, .int (iI pp)), (3, .int (iI ar)), (2, .int (iI kk)), (0, .ref h)] dX6_allAbove_65 rfl hl (by decide) rfl ?_
        clear hl
        intro ls hl
        refine g_iinc C [(2, .int (iI (kk + 1))), (1, .int (iI (mn + 0))), (4, .int (iI pp)), (3, .int (iI ar)), (0, .ref h)] 3 dX6_allAbove_66 hl rfl (by decide) rfl ?_
        clear hl
        intro ls hl
        refine g_goto C 4 dX6_allAbove_69 (by decide) ?_
        have hw : gW D A s.heap [oX6 h a ft pn ra rm xP xS xD xQ al rw rc tr, cA G (a 2) 4 kd, cA G (a 3) 12 nu, cJ G (a 13) 8 vP, cJ G (a 14) 8 vS, cJ G (a 15) 8 vD, cJ G (a 16) 8 vQ] H locs := g_perm hw [0, 1, 2, 3, 4, 5, 6] (by decide) rfl
        exact ih_1 (mn + 0) (kk + 1) xP xS xD xQ ⟨by omega, by rw [cnF_s hkk.1, hmn]; first | (rw [if_pos (har2 (by omega))]; done) | (rw [if_neg (har1 (by omega))]; done)⟩ (by omega) H locs ls hw (lv_sub hl [0, 1, 4] rfl)
      · skip
        refine g_iconst C dX6_allAbove_59 ?_
        refine g_goto C 64 dX6_allAbove_60 (by decide) ?_
        refine g_iadd C dX6_allAbove_64 ?_
        refine g_istore_n C [(1, .int (iI (mn + 1))), (4, .int (iI pp)), (3, .int (iI ar)), (2, .int (iI kk)), (0, .ref h)] dX6_allAbove_65 rfl hl (by decide) rfl ?_
        clear hl
        intro ls hl
        refine g_iinc C [(2, .int (iI (kk + 1))), (1, .int (iI (mn + 1))), (4, .int (iI pp)), (3, .int (iI ar)), (0, .ref h)] 3 dX6_allAbove_66 hl rfl (by decide) rfl ?_
        clear hl
        intro ls hl
        refine g_goto C 4 dX6_allAbove_69 (by decide) ?_
        have hw : gW D A s.heap [oX6 h a ft pn ra rm xP xS xD xQ al rw rc tr, cA G (a 2) 4 kd, cA G (a 3) 12 nu, cJ G (a 13) 8 vP, cJ G (a 14) 8 vS, cJ G (a 15) 8 vD, cJ G (a 16) 8 vQ] H locs := g_perm hw [0, 1, 2, 3, 4, 5, 6] (by decide) rfl
        exact ih_1 (mn + 1) (kk + 1) xP xS xD xQ ⟨by omega, by rw [cnF_s hkk.1, hmn]; first | (rw [if_pos (har2 (by omega))]; done) | (rw [if_neg (har1 (by omega))]; done)⟩ (by omega) H locs ls hw (lv_sub hl [0, 1, 4] rfl)
    · skip
      refine g_iload_n C hl 1 rfl rfl dX6_allAbove_28 ?_
      refine g_if_eq C 46 dX6_allAbove_29 (by decide) (by omega) (fun c_6 => ?_) (fun c_6 => ?_)
      · skip
        refine g_iconst C dX6_allAbove_46 ?_
        refine g_istore_n C [(3, .int (iI 0)), (4, .int (iI pp)), (2, .int (iI kk)), (1, .int (iI mn)), (0, .ref h)] dX6_allAbove_47 rfl hl (by decide) rfl ?_
        clear hl
        intro ls hl
        refine g_iinc C [(4, .int (iI (pp + 1))), (3, .int (iI 0)), (2, .int (iI kk)), (1, .int (iI mn)), (0, .ref h)] 1 dX6_allAbove_48 hl rfl (by decide) rfl ?_
        clear hl
        intro ls hl
        refine g_goto C 19 dX6_allAbove_51 (by decide) ?_
        have hw : gW D A s.heap [oX6 h a ft pn ra rm xP xS xD xQ al rw rc tr, cA G (a 2) 4 kd, cA G (a 3) 12 nu, cJ G (a 13) 8 vP, cJ G (a 14) 8 vS, cJ G (a 15) 8 vD, cJ G (a 16) 8 vQ] H locs := g_perm hw [0, 1, 2, 3, 4, 5, 6] (by decide) rfl
        exact ih_3 0 (pp + 1) xP xS xD xQ ⟨by omega, by rw [allB_s hpp.1]; split at har <;> simp_all <;> omega⟩ (by omega) H locs ls hw (lv_sub hl [0, 1, 2, 3, 4] rfl)
      · skip
        refine g_aload_n C hl 4 rfl rfl dX6_allAbove_32 ?_
        refine g_iload_n C hl 2 rfl rfl dX6_allAbove_33 ?_
        refine g_iload C hl 0 rfl dX6_allAbove_34 ?_
        refine g_callVi C hw (wr := []) (As := [.int (iI kk), .int (iI pp)]) (rest := []) (m_X6_signInSpot l D G (h := h) (a := a) (ft := ft) (pn := pn) (ra := ra) (rm := rm) (rP := xP) (rS := xS) (rD := xD) (rQ := xQ) (al := al) (rw := rw) (rc := rc) (tr := tr) (kd := kd) (nu := nu) (vP := vP) (vS := vS) (vD := vD) (vQ := vQ) (kk := kk) (pp := pp) (by first | assumption | omega) (by first | assumption | omega) (by first | assumption | omega) (by first | assumption | omega) (by first | assumption | omega) (by first | assumption | omega) (by first | assumption | omega)) (cwV 2 C.1.2.2.2.2 gX6_allAbove_X6_signInSpot rfl rfl rfl (by decide +kernel) ⟨Nat.le_of_ble_eq_true rfl, Nat.le_of_ble_eq_true rfl⟩) [0, 1, 2, 3, 4, 5, 6] [] rfl rfl (by decide) (by decide) (by decide) 0 rfl rfl rfl hl.1 _ rfl (Nat.le_of_ble_eq_true rfl) dX6_allAbove_36 ⟨Nat.le_of_ble_eq_true rfl, Nat.le_of_ble_eq_true rfl⟩ ?_
        clear hw
        rintro _ _ H locs ⟨r2P__7, r2S__8, r2D__9, r2Q__10, rfl, rfl⟩ hw
        have hw : gW D A s.heap [oX6 h a ft pn ra rm r2P__7 r2S__8 r2D__9 r2Q__10 al rw rc tr, cA G (a 2) 4 kd, cA G (a 3) 12 nu, cJ G (a 13) 8 vP, cJ G (a 14) 8 vS, cJ G (a 15) 8 vD, cJ G (a 16) 8 vQ] H locs := hw
        refine g_if_le C 46 dX6_allAbove_39 (by decide) (by omega) (fun c_11 => ?_) (fun c_11 => ?_)
        · skip
          refine g_iconst C dX6_allAbove_46 ?_
          refine g_istore_n C [(3, .int (iI 0)), (4, .int (iI pp)), (2, .int (iI kk)), (1, .int (iI mn)), (0, .ref h)] dX6_allAbove_47 rfl hl (by decide) rfl ?_
          clear hl
          intro ls hl
          refine g_iinc C [(4, .int (iI (pp + 1))), (3, .int (iI 0)), (2, .int (iI kk)), (1, .int (iI mn)), (0, .ref h)] 1 dX6_allAbove_48 hl rfl (by decide) rfl ?_
          clear hl
          intro ls hl
          refine g_goto C 19 dX6_allAbove_51 (by decide) ?_
          have hw : gW D A s.heap [oX6 h a ft pn ra rm r2P__7 r2S__8 r2D__9 r2Q__10 al rw rc tr, cA G (a 2) 4 kd, cA G (a 3) 12 nu, cJ G (a 13) 8 vP, cJ G (a 14) 8 vS, cJ G (a 15) 8 vD, cJ G (a 16) 8 vQ] H locs := g_perm hw [0, 1, 2, 3, 4, 5, 6] (by decide) rfl
          exact ih_3 0 (pp + 1) r2P__7 r2S__8 r2D__9 r2Q__10 ⟨by omega, by rw [allB_s hpp.1]; split at har <;> simp_all <;> omega⟩ (by omega) H locs ls hw (lv_sub hl [0, 1, 2, 3, 4] rfl)
        · skip
          refine g_iconst C dX6_allAbove_42 ?_
          refine g_goto C 47 dX6_allAbove_43 (by decide) ?_
          refine g_istore_n C [(3, .int (iI 1)), (4, .int (iI pp)), (2, .int (iI kk)), (1, .int (iI mn)), (0, .ref h)] dX6_allAbove_47 rfl hl (by decide) rfl ?_
          clear hl
          intro ls hl
          refine g_iinc C [(4, .int (iI (pp + 1))), (3, .int (iI 1)), (2, .int (iI kk)), (1, .int (iI mn)), (0, .ref h)] 1 dX6_allAbove_48 hl rfl (by decide) rfl ?_
          clear hl
          intro ls hl
          refine g_goto C 19 dX6_allAbove_51 (by decide) ?_
          have hw : gW D A s.heap [oX6 h a ft pn ra rm r2P__7 r2S__8 r2D__9 r2Q__10 al rw rc tr, cA G (a 2) 4 kd, cA G (a 3) 12 nu, cJ G (a 13) 8 vP, cJ G (a 14) 8 vS, cJ G (a 15) 8 vD, cJ G (a 16) 8 vQ] H locs := g_perm hw [0, 1, 2, 3, 4, 5, 6] (by decide) rfl
          exact ih_3 1 (pp + 1) r2P__7 r2S__8 r2D__9 r2Q__10 ⟨by omega, by rw [allB_s hpp.1]; split at har <;> simp_all <;> omega⟩ (by omega) H locs ls hw (lv_sub hl [0, 1, 2, 3, 4] rfl)

set_option maxRecDepth 20000 in
theorem cn_X6_line_117 : Jvm.Cond.constantLong RX6 117 (2) ∈ wsX6_line := List.mem_cons_of_mem _ (List.mem_append_left _ (List.mem_append_left _ (List.mem_of_getElem? (i := 0) rfl)))
set_option maxRecDepth 20000 in
theorem hin_X6_line_X6 : ∀ w ∈ u_ws RX6 TX6 30, w ∈ wsX6_line := by
  intro w h
  exact List.mem_cons_of_mem _ (List.mem_append_right _ (h))
set_option maxRecDepth 20000 in
theorem lk_X6_line_75 : Cond.fieldLink RX6 75 (TX6 1).1 (TX6 1).2.1 (TX6 1).2.2.1 ∈ wsX6_line := List.mem_cons_of_mem _ (List.mem_append_left _ (List.mem_append_left _ (List.mem_of_getElem? (i := 1) rfl)))
set_option maxRecDepth 20000 in
theorem lk_X6_line_213 : Cond.fieldLink RX6 213 (TX6 20).1 (TX6 20).2.1 (TX6 20).2.2.1 ∈ wsX6_line := List.mem_cons_of_mem _ (List.mem_append_left _ (List.mem_append_left _ (List.mem_of_getElem? (i := 3) rfl)))
set_option maxRecDepth 20000 in
theorem lk_X6_line_167 : Cond.fieldLink RX6 167 (TX6 12).1 (TX6 12).2.1 (TX6 12).2.2.1 ∈ wsX6_line := List.mem_cons_of_mem _ (List.mem_append_left _ (List.mem_append_left _ (List.mem_of_getElem? (i := 2) rfl)))
set_option maxRecDepth 100000 in
set_option maxHeartbeats 8000000 in
theorem m_X6_line (l : Launch) (D : va_G) (G : gT) (h : Nat) (a : Nat → Nat) (ft : Int) (pn : Int) (ra : Int) (rm : Int) (rP : Int) (rS : Int) (rD : Int) (rQ : Int) (al : Int) (rw : Int) (rc : Int) (tr : Int) (kd : Int → Int) (nu : Int → Int) (vP : Int → Int) (vS : Int → Int) (vD : Int → Int) (vQ : Int → Int) (wA : Int → Int) (fA : Int → Int) (wh : Int) (hkd : kdOK kd) (hnu : nuOK nu) (hn : 0 ≤ pn ∧ pn ≤ 4) (hw1 : -2147483648 ≤ wh ∧ wh ≤ 2147483647) : gMi l yX6_line wsX6_line ({ frames := 6, cells := 0, slots := 0, locals := 149 }) D G [.ref h, .int (iI wh)] [oX6 h a ft pn ra rm rP rS rD rQ al rw rc tr, cA G (a 2) 4 kd, cA G (a 3) 12 nu, cJ G (a 13) 8 vP, cJ G (a 14) 8 vS, cJ G (a 15) 8 vD, cJ G (a 16) 8 vQ, cA G (a 18) 17 wA, cA G (a 19) 17 fA] 0 0 (fun (r : Int32) (w : va_W) => ∃ (al2 : Int) (rw2 : Int) (r2P : Int) (r2S : Int) (r2D : Int) (r2Q : Int) (vP2 : Int → Int) (vS2 : Int → Int) (vD2 : Int → Int) (vQ2 : Int → Int) (wA2 : Int → Int) (fA2 : Int → Int), r = (iI (R_line pn (exT pn kd nu) (ALn (exT pn kd nu) pn.toNat) wh)) ∧ w = [oX6 h a ft pn ra rm r2P r2S r2D r2Q al2 rw2 rc tr, cA G (a 2) 4 kd, cA G (a 3) 12 nu, cJ G (a 13) 8 vP2, cJ G (a 14) 8 vS2, cJ G (a 15) 8 vD2, cJ G (a 16) 8 vQ2, cA G (a 18) 17 wA2, cA G (a 19) 17 fA2]) := by
  refine g_start_i (cc := cX6_line) (nL := 2) (own := RX6) (ret := some .int) (by decide +kernel) rfl rfl (Nat.le_of_ble_eq_true rfl) ?_
  intro p e s m below meth c A ls C hr hnm hw hl
  have hl : lv_has ls 2 [(0, .ref h), (1, .int (iI wh))] := hl
  have hE := exT_B pn kd hnu
  have hlen := ALn_len (exT pn kd nu) pn.toNat
  refine g_iload_n C hl 1 rfl rfl dX6_line_0 ?_
  refine g_i2l C dX6_line_1 (by omega) ?_
  refine g_lconst0 C dX6_line_2 ?_
  refine g_ldc2 C (2) cn_X6_line_117 (by decide +kernel) dX6_line_3 ?_
  refine g_callSi C hw (wr := [oX6 h a ft pn ra rm rP rS rD rQ al rw rc tr, cA G (a 2) 4 kd, cA G (a 3) 12 nu, cJ G (a 13) 8 vP, cJ G (a 14) 8 vS, cJ G (a 15) 8 vD, cJ G (a 16) 8 vQ, cA G (a 18) 17 wA, cA G (a 19) 17 fA]) (As := [.long (lI (wh)), .long (lI (0)), .long (lI (2))]) (rest := []) (m_X6_in l D G (va := wh) (vb := 0) (vc := 2) (by first | assumption | omega) (by first | assumption | omega) (by first | assumption | omega)) (va_cwS 3 C.1.2.2.2.2 gX6_line_X6_in rfl rfl rfl (by decide +kernel) ⟨Nat.le_of_ble_eq_true rfl, Nat.le_of_ble_eq_true rfl⟩) [] [0, 1, 2, 3, 4, 5, 6, 7, 8] rfl rfl (by decide) (by decide) (by decide) rfl hl.1 _ rfl (Nat.le_of_ble_eq_true rfl) dX6_line_6 ⟨Nat.le_of_ble_eq_true rfl, Nat.le_of_ble_eq_true rfl⟩ ?_
  clear hw
  rintro _ _ H locs ⟨rfl, rfl⟩ hw
  have hw : gW D A s.heap [oX6 h a ft pn ra rm rP rS rD rQ al rw rc tr, cA G (a 2) 4 kd, cA G (a 3) 12 nu, cJ G (a 13) 8 vP, cJ G (a 14) 8 vS, cJ G (a 15) 8 vD, cJ G (a 16) 8 vQ, cA G (a 18) 17 wA, cA G (a 19) 17 fA] H locs := hw
  refine g_ifb_ne C 15 dX6_line_9 (by decide) (fun c_1 => ?_) (fun c_1 => ?_)
  · skip
    refine g_aload_n C hl 0 rfl rfl dX6_line_15 ?_
    refine g_get C hw hin_X6_line_X6 0 rfl rfl 1 (by decide) lk_X6_line_75 rfl dX6_line_16 ?_
    refine g_if_ne C 25 dX6_line_19 (by decide) (by omega) (fun c_2 => ?_) (fun c_2 => ?_)
    · skip
      refine g_aload_n C hl 0 rfl rfl dX6_line_25 ?_
      refine g_callVv C hw (wr := []) (As := []) (rest := []) (m_X6_rowsOf l D G (h := h) (a := a) (ft := ft) (pn := pn) (ra := ra) (rm := rm) (rP := rP) (rS := rS) (rD := rD) (rQ := rQ) (al := al) (rw := rw) (rc := rc) (tr := tr) (kd := kd) (nu := nu) (vP := vP) (vS := vS) (vD := vD) (vQ := vQ) (wA := wA) (fA := fA) (by first | assumption | omega) (by first | assumption | omega) (by first | assumption | omega)) (cwV 0 C.1.2.2.2.2 gX6_line_X6_rowsOf rfl rfl rfl (by decide +kernel) ⟨Nat.le_of_ble_eq_true rfl, Nat.le_of_ble_eq_true rfl⟩) [0, 1, 2, 3, 4, 5, 6, 7, 8] [] rfl rfl (by decide) (by decide) (by decide) 0 rfl rfl rfl hl.1 _ rfl (Nat.le_of_ble_eq_true rfl) dX6_line_26 ⟨Nat.le_of_ble_eq_true rfl, Nat.le_of_ble_eq_true rfl⟩ ?_
      clear hw
      rintro _ H locs ⟨r2P__3, r2S__4, r2D__5, r2Q__6, vP2__7, vS2__8, vD2__9, vQ2__10, wA2__11, fA2__12, rfl, hp_13, hp_14, hp_15⟩ hw
      have hw : gW D A s.heap [oX6 h a ft pn ra rm r2P__3 r2S__4 r2D__5 r2Q__6 ((ALn (exT pn kd nu) pn.toNat).length : Int) ((fsL (exT pn kd nu) (ALn (exT pn kd nu) pn.toNat) pn (2 * (ALn (exT pn kd nu) pn.toNat).length + 1)).length : Int) rc tr, cA G (a 2) 4 kd, cA G (a 3) 12 nu, cJ G (a 13) 8 vP2__7, cJ G (a 14) 8 vS2__8, cJ G (a 15) 8 vD2__9, cJ G (a 16) 8 vQ2__10, cA G (a 18) 17 wA2__11, cA G (a 19) 17 fA2__12] H locs := hw
      have hp_13 : MR (exT pn kd nu) (ALn (exT pn kd nu) pn.toNat) vP2__7 vS2__8 vD2__9 vQ2__10 := hp_13
      have hp_14 : ∀ j : Nat, (j : Int) ≤ 2 * ((ALn (exT pn kd nu) pn.toNat).length : Int) → wA2__11 j = rwN (exT pn kd nu) (ALn (exT pn kd nu) pn.toNat) pn j := hp_14
      have hp_15 : hasL fA2__12 (fsL (exT pn kd nu) (ALn (exT pn kd nu) pn.toNat) pn (2 * (ALn (exT pn kd nu) pn.toNat).length + 1)) := hp_15
      refine g_iload_n C hl 1 rfl rfl dX6_line_29 ?_
      refine g_if_ne C 40 dX6_line_30 (by decide) (by omega) (fun c_16 => ?_) (fun c_16 => ?_)
      · skip
        refine g_iload_n C hl 1 rfl rfl dX6_line_40 ?_
        refine g_iconst C dX6_line_41 ?_
        refine g_icmp_ne C 56 dX6_line_42 (by decide) (by omega) (by omega) (fun c_17 => ?_) (fun c_17 => ?_)
        · skip
          refine g_aload_n C hl 0 rfl rfl dX6_line_56 ?_
          refine g_get C hw hin_X6_line_X6 0 rfl rfl 20 (by decide) lk_X6_line_213 rfl dX6_line_57 ?_
          exact g_iret C hr (ws' := [oX6 h a ft pn ra rm r2P__3 r2S__4 r2D__5 r2Q__6 ((ALn (exT pn kd nu) pn.toNat).length : Int) ((fsL (exT pn kd nu) (ALn (exT pn kd nu) pn.toNat) pn (2 * (ALn (exT pn kd nu) pn.toNat).length + 1)).length : Int) rc tr, cA G (a 2) 4 kd, cA G (a 3) 12 nu, cJ G (a 13) 8 vP2__7, cJ G (a 14) 8 vS2__8, cJ G (a 15) 8 vD2__9, cJ G (a 16) 8 vQ2__10, cA G (a 18) 17 wA2__11, cA G (a 19) 17 fA2__12]) hw [0, 1, 2, 3, 4, 5, 6, 7, 8] (by decide) rfl ⟨((ALn (exT pn kd nu) pn.toNat).length : Int), ((fsL (exT pn kd nu) (ALn (exT pn kd nu) pn.toNat) pn (2 * (ALn (exT pn kd nu) pn.toNat).length + 1)).length : Int), r2P__3, r2S__4, r2D__5, r2Q__6, vP2__7, vS2__8, vD2__9, vQ2__10, wA2__11, fA2__12, (congrArg iI (by unfold R_line; (repeat' split) <;> omega)), rfl⟩ dX6_line_60
        · skip
          refine g_iconst C dX6_line_45 ?_
          refine g_aload_n C hl 0 rfl rfl dX6_line_46 ?_
          refine g_get C hw hin_X6_line_X6 0 rfl rfl 12 (by decide) lk_X6_line_167 rfl dX6_line_47 ?_
          refine g_imul C dX6_line_50 ?_
          refine g_iconst C dX6_line_51 ?_
          refine g_iadd C dX6_line_52 ?_
          refine g_goto C 60 dX6_line_53 (by decide) ?_
          exact g_iret C hr (ws' := [oX6 h a ft pn ra rm r2P__3 r2S__4 r2D__5 r2Q__6 ((ALn (exT pn kd nu) pn.toNat).length : Int) ((fsL (exT pn kd nu) (ALn (exT pn kd nu) pn.toNat) pn (2 * (ALn (exT pn kd nu) pn.toNat).length + 1)).length : Int) rc tr, cA G (a 2) 4 kd, cA G (a 3) 12 nu, cJ G (a 13) 8 vP2__7, cJ G (a 14) 8 vS2__8, cJ G (a 15) 8 vD2__9, cJ G (a 16) 8 vQ2__10, cA G (a 18) 17 wA2__11, cA G (a 19) 17 fA2__12]) hw [0, 1, 2, 3, 4, 5, 6, 7, 8] (by decide) rfl ⟨((ALn (exT pn kd nu) pn.toNat).length : Int), ((fsL (exT pn kd nu) (ALn (exT pn kd nu) pn.toNat) pn (2 * (ALn (exT pn kd nu) pn.toNat).length + 1)).length : Int), r2P__3, r2S__4, r2D__5, r2Q__6, vP2__7, vS2__8, vD2__9, vQ2__10, wA2__11, fA2__12, (congrArg iI (by unfold R_line; (repeat' split) <;> omega)), rfl⟩ dX6_line_60
      · skip
        refine g_aload_n C hl 0 rfl rfl dX6_line_33 ?_
        refine g_get C hw hin_X6_line_X6 0 rfl rfl 12 (by decide) lk_X6_line_167 rfl dX6_line_34 ?_
        refine g_goto C 60 dX6_line_37 (by decide) ?_
        exact g_iret C hr (ws' := [oX6 h a ft pn ra rm r2P__3 r2S__4 r2D__5 r2Q__6 ((ALn (exT pn kd nu) pn.toNat).length : Int) ((fsL (exT pn kd nu) (ALn (exT pn kd nu) pn.toNat) pn (2 * (ALn (exT pn kd nu) pn.toNat).length + 1)).length : Int) rc tr, cA G (a 2) 4 kd, cA G (a 3) 12 nu, cJ G (a 13) 8 vP2__7, cJ G (a 14) 8 vS2__8, cJ G (a 15) 8 vD2__9, cJ G (a 16) 8 vQ2__10, cA G (a 18) 17 wA2__11, cA G (a 19) 17 fA2__12]) hw [0, 1, 2, 3, 4, 5, 6, 7, 8] (by decide) rfl ⟨((ALn (exT pn kd nu) pn.toNat).length : Int), ((fsL (exT pn kd nu) (ALn (exT pn kd nu) pn.toNat) pn (2 * (ALn (exT pn kd nu) pn.toNat).length + 1)).length : Int), r2P__3, r2S__4, r2D__5, r2Q__6, vP2__7, vS2__8, vD2__9, vQ2__10, wA2__11, fA2__12, (congrArg iI (by unfold R_line; (repeat' split) <;> omega)), rfl⟩ dX6_line_60
    · skip
      refine g_bipush C dX6_line_22 (by decide) ?_
      exact g_iret C hr (ws' := [oX6 h a ft pn ra rm rP rS rD rQ al rw rc tr, cA G (a 2) 4 kd, cA G (a 3) 12 nu, cJ G (a 13) 8 vP, cJ G (a 14) 8 vS, cJ G (a 15) 8 vD, cJ G (a 16) 8 vQ, cA G (a 18) 17 wA, cA G (a 19) 17 fA]) hw [0, 1, 2, 3, 4, 5, 6, 7, 8] (by decide) rfl ⟨al, rw, rP, rS, rD, rQ, vP, vS, vD, vQ, wA, fA, (congrArg iI (by unfold R_line; (repeat' split) <;> omega)), rfl⟩ dX6_line_24
  · skip
    refine g_bipush C dX6_line_12 (by decide) ?_
    exact g_iret C hr (ws' := [oX6 h a ft pn ra rm rP rS rD rQ al rw rc tr, cA G (a 2) 4 kd, cA G (a 3) 12 nu, cJ G (a 13) 8 vP, cJ G (a 14) 8 vS, cJ G (a 15) 8 vD, cJ G (a 16) 8 vQ, cA G (a 18) 17 wA, cA G (a 19) 17 fA]) hw [0, 1, 2, 3, 4, 5, 6, 7, 8] (by decide) rfl ⟨al, rw, rP, rS, rD, rQ, vP, vS, vD, vQ, wA, fA, (congrArg iI (by unfold R_line; (repeat' split) <;> omega)), rfl⟩ dX6_line_14

set_option maxRecDepth 20000 in
theorem cn_X6_signIn_117 : Jvm.Cond.constantLong RX6 117 (2) ∈ wsX6_signIn := List.mem_cons_of_mem _ (List.mem_append_left _ (List.mem_append_left _ (List.mem_of_getElem? (i := 0) rfl)))
set_option maxRecDepth 20000 in
theorem hin_X6_signIn_X6 : ∀ w ∈ u_ws RX6 TX6 30, w ∈ wsX6_signIn := by
  intro w h
  exact List.mem_cons_of_mem _ (List.mem_append_right _ (h))
set_option maxRecDepth 20000 in
theorem lk_X6_signIn_167 : Cond.fieldLink RX6 167 (TX6 12).1 (TX6 12).2.1 (TX6 12).2.2.1 ∈ wsX6_signIn := List.mem_cons_of_mem _ (List.mem_append_left _ (List.mem_append_left _ (List.mem_of_getElem? (i := 1) rfl)))
set_option maxRecDepth 100000 in
set_option maxHeartbeats 8000000 in
theorem m_X6_signIn (l : Launch) (D : va_G) (G : gT) (h : Nat) (a : Nat → Nat) (ft : Int) (pn : Int) (ra : Int) (rm : Int) (rP : Int) (rS : Int) (rD : Int) (rQ : Int) (al : Int) (rw : Int) (rc : Int) (tr : Int) (kd : Int → Int) (nu : Int → Int) (vP : Int → Int) (vS : Int → Int) (vD : Int → Int) (vQ : Int → Int) (kk : Int) (pp : Int) (hkd : kdOK kd) (hnu : nuOK nu) (hn : 0 ≤ pn ∧ pn ≤ 4) (hp : -2147483648 ≤ pp ∧ pp ≤ 2147483647) (hk : -2147483648 ≤ kk ∧ kk ≤ 2147483647) : gMi l yX6_signIn wsX6_signIn ({ frames := 5, cells := 0, slots := 0, locals := 125 }) D G [.ref h, .int (iI kk), .int (iI pp)] [oX6 h a ft pn ra rm rP rS rD rQ al rw rc tr, cA G (a 2) 4 kd, cA G (a 3) 12 nu, cJ G (a 13) 8 vP, cJ G (a 14) 8 vS, cJ G (a 15) 8 vD, cJ G (a 16) 8 vQ] 0 0 (fun (r : Int32) (w : va_W) => ∃ (al2 : Int) (r2P : Int) (r2S : Int) (r2D : Int) (r2Q : Int) (vP2 : Int → Int) (vS2 : Int → Int) (vD2 : Int → Int) (vQ2 : Int → Int), r = (iI (R_sin pn (exT pn kd nu) (ALn (exT pn kd nu) pn.toNat) kk pp)) ∧ w = [oX6 h a ft pn ra rm r2P r2S r2D r2Q al2 rw rc tr, cA G (a 2) 4 kd, cA G (a 3) 12 nu, cJ G (a 13) 8 vP2, cJ G (a 14) 8 vS2, cJ G (a 15) 8 vD2, cJ G (a 16) 8 vQ2]) := by
  refine g_start_i (cc := cX6_signIn) (nL := 3) (own := RX6) (ret := some .int) (by decide +kernel) rfl rfl (Nat.le_of_ble_eq_true rfl) ?_
  intro p e s m below meth c A ls C hr hnm hw hl
  have hl : lv_has ls 3 [(0, .ref h), (1, .int (iI kk)), (2, .int (iI pp))] := hl
  have hE := exT_B pn kd hnu
  have hlen := ALn_len (exT pn kd nu) pn.toNat
  have hsb := sSp_r (exT pn kd nu) (ALn (exT pn kd nu) pn.toNat) kk pp
  refine g_aload_n C hl 0 rfl rfl dX6_signIn_0 ?_
  refine g_iload_n C hl 2 rfl rfl dX6_signIn_1 ?_
  refine g_callVi C hw (wr := [cA G (a 2) 4 kd, cA G (a 3) 12 nu, cJ G (a 13) 8 vP, cJ G (a 14) 8 vS, cJ G (a 15) 8 vD, cJ G (a 16) 8 vQ]) (As := [.int (iI pp)]) (rest := []) (m_X6_noPolynomial l D G (h := h) (a := a) (ft := ft) (pn := pn) (ra := ra) (rm := rm) (rP := rP) (rS := rS) (rD := rD) (rQ := rQ) (al := al) (rw := rw) (rc := rc) (tr := tr) (pp := pp) (by first | assumption | omega) (by first | assumption | omega)) (cwV 1 C.1.2.2.2.2 gX6_signIn_X6_noPolynomial rfl rfl rfl (by decide +kernel) ⟨Nat.le_of_ble_eq_true rfl, Nat.le_of_ble_eq_true rfl⟩) [0] [1, 2, 3, 4, 5, 6] rfl rfl (by decide) (by decide) (by decide) 0 rfl rfl rfl hl.1 _ rfl (Nat.le_of_ble_eq_true rfl) dX6_signIn_2 ⟨Nat.le_of_ble_eq_true rfl, Nat.le_of_ble_eq_true rfl⟩ ?_
  clear hw
  rintro _ _ H locs ⟨rfl, rfl⟩ hw
  have hw : gW D A s.heap [cA G (a 2) 4 kd, cA G (a 3) 12 nu, cJ G (a 13) 8 vP, cJ G (a 14) 8 vS, cJ G (a 15) 8 vD, cJ G (a 16) 8 vQ, oX6 h a ft pn ra rm rP rS rD rQ al rw rc tr] H locs := hw
  refine g_ifb_eq C 10 dX6_signIn_5 (by decide) (fun c_1 => ?_) (fun c_1 => ?_)
  · skip
    refine g_aload_n C hl 0 rfl rfl dX6_signIn_10 ?_
    refine g_callVv C hw (wr := []) (As := []) (rest := []) (m_X6_gathers l D G (h := h) (a := a) (ft := ft) (pn := pn) (ra := ra) (rm := rm) (rP := rP) (rS := rS) (rD := rD) (rQ := rQ) (al := al) (rw := rw) (rc := rc) (tr := tr) (kd := kd) (nu := nu) (vP := vP) (vS := vS) (vD := vD) (vQ := vQ) (by first | assumption | omega) (by first | assumption | omega) (by first | assumption | omega)) (cwV 0 C.1.2.2.2.2 gX6_signIn_X6_gathers rfl rfl rfl (by decide +kernel) ⟨Nat.le_of_ble_eq_true rfl, Nat.le_of_ble_eq_true rfl⟩) [6, 0, 1, 2, 3, 4, 5] [] rfl rfl (by decide) (by decide) (by decide) 0 rfl rfl rfl hl.1 _ rfl (Nat.le_of_ble_eq_true rfl) dX6_signIn_11 ⟨Nat.le_of_ble_eq_true rfl, Nat.le_of_ble_eq_true rfl⟩ ?_
    clear hw
    rintro _ H locs ⟨r2P__2, r2S__3, r2D__4, r2Q__5, vP2__6, vS2__7, vD2__8, vQ2__9, rfl, hp_10⟩ hw
    have hw : gW D A s.heap [oX6 h a ft pn ra rm r2P__2 r2S__3 r2D__4 r2Q__5 ((ALn (exT pn kd nu) pn.toNat).length : Int) rw rc tr, cA G (a 2) 4 kd, cA G (a 3) 12 nu, cJ G (a 13) 8 vP2__6, cJ G (a 14) 8 vS2__7, cJ G (a 15) 8 vD2__8, cJ G (a 16) 8 vQ2__9] H locs := hw
    have hp_10 : MR (exT pn kd nu) (ALn (exT pn kd nu) pn.toNat) vP2__6 vS2__7 vD2__8 vQ2__9 := hp_10
    have hM := hp_10
    refine g_iload_n C hl 1 rfl rfl dX6_signIn_14 ?_
    refine g_i2l C dX6_signIn_15 (by omega) ?_
    refine g_lconst0 C dX6_signIn_16 ?_
    refine g_ldc2 C (2) cn_X6_signIn_117 (by decide +kernel) dX6_signIn_17 ?_
    refine g_aload_n C hl 0 rfl rfl dX6_signIn_20 ?_
    refine g_get C hw hin_X6_signIn_X6 0 rfl rfl 12 (by decide) lk_X6_signIn_167 rfl dX6_signIn_21 ?_
    refine g_i2l C dX6_signIn_24 (by omega) ?_
    refine g_lmul C dX6_signIn_25 ?_
    refine g_callSi C hw (wr := [oX6 h a ft pn ra rm r2P__2 r2S__3 r2D__4 r2Q__5 ((ALn (exT pn kd nu) pn.toNat).length : Int) rw rc tr, cA G (a 2) 4 kd, cA G (a 3) 12 nu, cJ G (a 13) 8 vP2__6, cJ G (a 14) 8 vS2__7, cJ G (a 15) 8 vD2__8, cJ G (a 16) 8 vQ2__9]) (As := [.long (lI (kk)), .long (lI (0)), .long (lI (2 * ((ALn (exT pn kd nu) pn.toNat).length : Int)))]) (rest := []) (m_X6_in l D G (va := kk) (vb := 0) (vc := (2 * ((ALn (exT pn kd nu) pn.toNat).length : Int))) (by first | assumption | omega) (by first | assumption | omega) (by first | assumption | omega)) (va_cwS 3 C.1.2.2.2.2 gX6_signIn_X6_in rfl rfl rfl (by decide +kernel) ⟨Nat.le_of_ble_eq_true rfl, Nat.le_of_ble_eq_true rfl⟩) [] [0, 1, 2, 3, 4, 5, 6] rfl rfl (by decide) (by decide) (by decide) rfl hl.1 _ rfl (Nat.le_of_ble_eq_true rfl) dX6_signIn_26 ⟨Nat.le_of_ble_eq_true rfl, Nat.le_of_ble_eq_true rfl⟩ ?_
    clear hw
    rintro _ _ H locs ⟨rfl, rfl⟩ hw
    have hw : gW D A s.heap [oX6 h a ft pn ra rm r2P__2 r2S__3 r2D__4 r2Q__5 ((ALn (exT pn kd nu) pn.toNat).length : Int) rw rc tr, cA G (a 2) 4 kd, cA G (a 3) 12 nu, cJ G (a 13) 8 vP2__6, cJ G (a 14) 8 vS2__7, cJ G (a 15) 8 vD2__8, cJ G (a 16) 8 vQ2__9] H locs := hw
    refine g_ifb_eq C 43 dX6_signIn_29 (by decide) (fun c_11 => ?_) (fun c_11 => ?_)
    · skip
      refine g_iconst C dX6_signIn_43 ?_
      exact g_iret C hr (ws' := [oX6 h a ft pn ra rm r2P__2 r2S__3 r2D__4 r2Q__5 ((ALn (exT pn kd nu) pn.toNat).length : Int) rw rc tr, cA G (a 2) 4 kd, cA G (a 3) 12 nu, cJ G (a 13) 8 vP2__6, cJ G (a 14) 8 vS2__7, cJ G (a 15) 8 vD2__8, cJ G (a 16) 8 vQ2__9]) hw [0, 1, 2, 3, 4, 5, 6] (by decide) rfl ⟨((ALn (exT pn kd nu) pn.toNat).length : Int), r2P__2, r2S__3, r2D__4, r2Q__5, vP2__6, vS2__7, vD2__8, vQ2__9, (congrArg iI (by unfold R_sin; (repeat' split) <;> omega)), rfl⟩ dX6_signIn_44
    · skip
      refine g_aload_n C hl 0 rfl rfl dX6_signIn_32 ?_
      refine g_iload_n C hl 1 rfl rfl dX6_signIn_33 ?_
      refine g_iload_n C hl 2 rfl rfl dX6_signIn_34 ?_
      refine g_callVi C hw (wr := []) (As := [.int (iI kk), .int (iI pp)]) (rest := []) (m_X6_signInSpot l D G (h := h) (a := a) (ft := ft) (pn := pn) (ra := ra) (rm := rm) (rP := r2P__2) (rS := r2S__3) (rD := r2D__4) (rQ := r2Q__5) (al := ((ALn (exT pn kd nu) pn.toNat).length : Int)) (rw := rw) (rc := rc) (tr := tr) (kd := kd) (nu := nu) (vP := vP2__6) (vS := vS2__7) (vD := vD2__8) (vQ := vQ2__9) (kk := kk) (pp := pp) (by first | assumption | omega) (by first | assumption | omega) (by first | assumption | omega) (by first | assumption | omega) (by rfl) (by exact hM) (by first | assumption | omega)) (cwV 2 C.1.2.2.2.2 gX6_signIn_X6_signInSpot rfl rfl rfl (by decide +kernel) ⟨Nat.le_of_ble_eq_true rfl, Nat.le_of_ble_eq_true rfl⟩) [0, 1, 2, 3, 4, 5, 6] [] rfl rfl (by decide) (by decide) (by decide) 0 rfl rfl rfl hl.1 _ rfl (Nat.le_of_ble_eq_true rfl) dX6_signIn_35 ⟨Nat.le_of_ble_eq_true rfl, Nat.le_of_ble_eq_true rfl⟩ ?_
      clear hw
      rintro _ _ H locs ⟨r2P__12, r2S__13, r2D__14, r2Q__15, rfl, rfl⟩ hw
      have hw : gW D A s.heap [oX6 h a ft pn ra rm r2P__12 r2S__13 r2D__14 r2Q__15 ((ALn (exT pn kd nu) pn.toNat).length : Int) rw rc tr, cA G (a 2) 4 kd, cA G (a 3) 12 nu, cJ G (a 13) 8 vP2__6, cJ G (a 14) 8 vS2__7, cJ G (a 15) 8 vD2__8, cJ G (a 16) 8 vQ2__9] H locs := hw
      refine g_iconst C dX6_signIn_38 ?_
      refine g_iadd C dX6_signIn_39 ?_
      refine g_goto C 44 dX6_signIn_40 (by decide) ?_
      exact g_iret C hr (ws' := [oX6 h a ft pn ra rm r2P__12 r2S__13 r2D__14 r2Q__15 ((ALn (exT pn kd nu) pn.toNat).length : Int) rw rc tr, cA G (a 2) 4 kd, cA G (a 3) 12 nu, cJ G (a 13) 8 vP2__6, cJ G (a 14) 8 vS2__7, cJ G (a 15) 8 vD2__8, cJ G (a 16) 8 vQ2__9]) hw [0, 1, 2, 3, 4, 5, 6] (by decide) rfl ⟨((ALn (exT pn kd nu) pn.toNat).length : Int), r2P__12, r2S__13, r2D__14, r2Q__15, vP2__6, vS2__7, vD2__8, vQ2__9, (congrArg iI (by unfold R_sin; (repeat' split) <;> omega)), rfl⟩ dX6_signIn_44
  · skip
    refine g_iconst C dX6_signIn_8 ?_
    exact g_iret C hr (ws' := [oX6 h a ft pn ra rm rP rS rD rQ al rw rc tr, cA G (a 2) 4 kd, cA G (a 3) 12 nu, cJ G (a 13) 8 vP, cJ G (a 14) 8 vS, cJ G (a 15) 8 vD, cJ G (a 16) 8 vQ]) hw [6, 0, 1, 2, 3, 4, 5] (by decide) rfl ⟨al, rP, rS, rD, rQ, vP, vS, vD, vQ, (congrArg iI (by unfold R_sin; (repeat' split) <;> omega)), rfl⟩ dX6_signIn_9

set_option maxRecDepth 20000 in
theorem hin_X6_ofRow_X6 : ∀ w ∈ u_ws RX6 TX6 30, w ∈ wsX6_ofRow := by
  intro w h
  exact List.mem_cons_of_mem _ (List.mem_append_right _ (h))
set_option maxRecDepth 20000 in
theorem lk_X6_ofRow_75 : Cond.fieldLink RX6 75 (TX6 1).1 (TX6 1).2.1 (TX6 1).2.2.1 ∈ wsX6_ofRow := List.mem_cons_of_mem _ (List.mem_append_left _ (List.mem_append_left _ (List.mem_of_getElem? (i := 0) rfl)))
set_option maxRecDepth 20000 in
theorem lk_X6_ofRow_213 : Cond.fieldLink RX6 213 (TX6 20).1 (TX6 20).2.1 (TX6 20).2.2.1 ∈ wsX6_ofRow := List.mem_cons_of_mem _ (List.mem_append_left _ (List.mem_append_left _ (List.mem_of_getElem? (i := 1) rfl)))
set_option maxRecDepth 20000 in
theorem lk_X6_ofRow_41 : Cond.fieldLink RX6 41 (TX6 19).1 (TX6 19).2.1 (TX6 19).2.2.1 ∈ wsX6_ofRow := List.mem_cons_of_mem _ (List.mem_append_left _ (List.mem_append_left _ (List.mem_of_getElem? (i := 2) rfl)))
set_option maxRecDepth 20000 in
theorem cn_X6_ofRow_196 : Jvm.Cond.constantLong RX6 196 (10) ∈ wsX6_ofRow := List.mem_cons_of_mem _ (List.mem_append_left _ (List.mem_append_left _ (List.mem_of_getElem? (i := 3) rfl)))
set_option maxRecDepth 20000 in
theorem cn_X6_ofRow_233 : Jvm.Cond.constantLong RX6 233 (13) ∈ wsX6_ofRow := List.mem_cons_of_mem _ (List.mem_append_left _ (List.mem_append_left _ (List.mem_of_getElem? (i := 4) rfl)))
set_option maxRecDepth 20000 in
theorem lk_X6_ofRow_167 : Cond.fieldLink RX6 167 (TX6 12).1 (TX6 12).2.1 (TX6 12).2.2.1 ∈ wsX6_ofRow := List.mem_cons_of_mem _ (List.mem_append_left _ (List.mem_append_left _ (List.mem_of_getElem? (i := 5) rfl)))
set_option maxRecDepth 20000 in
theorem lk_X6_ofRow_38 : Cond.fieldLink RX6 38 (TX6 18).1 (TX6 18).2.1 (TX6 18).2.2.1 ∈ wsX6_ofRow := List.mem_cons_of_mem _ (List.mem_append_left _ (List.mem_append_left _ (List.mem_of_getElem? (i := 6) rfl)))
set_option maxRecDepth 100000 in
set_option maxHeartbeats 8000000 in
theorem m_X6_ofRow (l : Launch) (D : va_G) (G : gT) (h : Nat) (a : Nat → Nat) (ft : Int) (pn : Int) (ra : Int) (rm : Int) (rP : Int) (rS : Int) (rD : Int) (rQ : Int) (al : Int) (rw : Int) (rc : Int) (tr : Int) (kd : Int → Int) (nu : Int → Int) (vP : Int → Int) (vS : Int → Int) (vD : Int → Int) (vQ : Int → Int) (wA : Int → Int) (fA : Int → Int) (rr : Int) (wh : Int) (hkd : kdOK kd) (hnu : nuOK nu) (hn : 0 ≤ pn ∧ pn ≤ 4) (hr1 : -2147483648 ≤ rr ∧ rr ≤ 2147483647) (hw1 : -2147483648 ≤ wh ∧ wh ≤ 2147483647) : gMi l yX6_ofRow wsX6_ofRow ({ frames := 6, cells := 0, slots := 0, locals := 149 }) D G [.ref h, .int (iI rr), .int (iI wh)] [oX6 h a ft pn ra rm rP rS rD rQ al rw rc tr, cA G (a 2) 4 kd, cA G (a 3) 12 nu, cJ G (a 13) 8 vP, cJ G (a 14) 8 vS, cJ G (a 15) 8 vD, cJ G (a 16) 8 vQ, cA G (a 18) 17 wA, cA G (a 19) 17 fA] 0 0 (fun (r : Int32) (w : va_W) => ∃ (al2 : Int) (rw2 : Int) (r2P : Int) (r2S : Int) (r2D : Int) (r2Q : Int) (vP2 : Int → Int) (vS2 : Int → Int) (vD2 : Int → Int) (vQ2 : Int → Int) (wA2 : Int → Int) (fA2 : Int → Int), r = (iI (R_row pn (exT pn kd nu) (ALn (exT pn kd nu) pn.toNat) rr wh)) ∧ w = [oX6 h a ft pn ra rm r2P r2S r2D r2Q al2 rw2 rc tr, cA G (a 2) 4 kd, cA G (a 3) 12 nu, cJ G (a 13) 8 vP2, cJ G (a 14) 8 vS2, cJ G (a 15) 8 vD2, cJ G (a 16) 8 vQ2, cA G (a 18) 17 wA2, cA G (a 19) 17 fA2]) := by
  refine g_start_i (cc := cX6_ofRow) (nL := 6) (own := RX6) (ret := some .int) (by decide +kernel) rfl rfl (Nat.le_of_ble_eq_true rfl) ?_
  intro p e s m below meth c A ls C hr hnm hw hl
  have hl : lv_has ls 6 [(0, .ref h), (1, .int (iI rr)), (2, .int (iI wh))] := hl
  have hE := exT_B pn kd hnu
  have hlen := ALn_len (exT pn kd nu) pn.toNat
  have hfl := fsL_len (exT pn kd nu) (ALn (exT pn kd nu) pn.toNat) pn (2 * (ALn (exT pn kd nu) pn.toNat).length + 1)
  refine g_aload_n C hl 0 rfl rfl dX6_ofRow_0 ?_
  refine g_get C hw hin_X6_ofRow_X6 0 rfl rfl 1 (by decide) lk_X6_ofRow_75 rfl dX6_ofRow_1 ?_
  refine g_if_ne C 9 dX6_ofRow_4 (by decide) (by omega) (fun c_1 => ?_) (fun c_1 => ?_)
  · skip
    refine g_aload_n C hl 0 rfl rfl dX6_ofRow_9 ?_
    refine g_callVv C hw (wr := []) (As := []) (rest := []) (m_X6_rowsOf l D G (h := h) (a := a) (ft := ft) (pn := pn) (ra := ra) (rm := rm) (rP := rP) (rS := rS) (rD := rD) (rQ := rQ) (al := al) (rw := rw) (rc := rc) (tr := tr) (kd := kd) (nu := nu) (vP := vP) (vS := vS) (vD := vD) (vQ := vQ) (wA := wA) (fA := fA) (by first | assumption | omega) (by first | assumption | omega) (by first | assumption | omega)) (cwV 0 C.1.2.2.2.2 gX6_ofRow_X6_rowsOf rfl rfl rfl (by decide +kernel) ⟨Nat.le_of_ble_eq_true rfl, Nat.le_of_ble_eq_true rfl⟩) [0, 1, 2, 3, 4, 5, 6, 7, 8] [] rfl rfl (by decide) (by decide) (by decide) 0 rfl rfl rfl hl.1 _ rfl (Nat.le_of_ble_eq_true rfl) dX6_ofRow_10 ⟨Nat.le_of_ble_eq_true rfl, Nat.le_of_ble_eq_true rfl⟩ ?_
    clear hw
    rintro _ H locs ⟨r2P__2, r2S__3, r2D__4, r2Q__5, vP2__6, vS2__7, vD2__8, vQ2__9, wN, fN, rfl, hp_10, hp_11, hp_12⟩ hw
    have hw : gW D A s.heap [oX6 h a ft pn ra rm r2P__2 r2S__3 r2D__4 r2Q__5 ((ALn (exT pn kd nu) pn.toNat).length : Int) ((fsL (exT pn kd nu) (ALn (exT pn kd nu) pn.toNat) pn (2 * (ALn (exT pn kd nu) pn.toNat).length + 1)).length : Int) rc tr, cA G (a 2) 4 kd, cA G (a 3) 12 nu, cJ G (a 13) 8 vP2__6, cJ G (a 14) 8 vS2__7, cJ G (a 15) 8 vD2__8, cJ G (a 16) 8 vQ2__9, cA G (a 18) 17 wN, cA G (a 19) 17 fN] H locs := hw
    have hp_10 : MR (exT pn kd nu) (ALn (exT pn kd nu) pn.toNat) vP2__6 vS2__7 vD2__8 vQ2__9 := hp_10
    have hp_11 : ∀ j : Nat, (j : Int) ≤ 2 * ((ALn (exT pn kd nu) pn.toNat).length : Int) → wN j = rwN (exT pn kd nu) (ALn (exT pn kd nu) pn.toNat) pn j := hp_11
    have hp_12 : hasL fN (fsL (exT pn kd nu) (ALn (exT pn kd nu) pn.toNat) pn (2 * (ALn (exT pn kd nu) pn.toNat).length + 1)) := hp_12
    have hM := hp_10
    have hW9 := hp_11
    have hF9 := hp_12
    refine g_iload_n C hl 1 rfl rfl dX6_ofRow_13 ?_
    refine g_i2l C dX6_ofRow_14 (by omega) ?_
    refine g_lconst0 C dX6_ofRow_15 ?_
    refine g_aload_n C hl 0 rfl rfl dX6_ofRow_16 ?_
    refine g_get C hw hin_X6_ofRow_X6 0 rfl rfl 20 (by decide) lk_X6_ofRow_213 rfl dX6_ofRow_17 ?_
    refine g_i2l C dX6_ofRow_20 (by omega) ?_
    refine g_lconst1 C dX6_ofRow_21 ?_
    refine g_lsub C dX6_ofRow_22 ?_
    refine g_callSi C hw (wr := [oX6 h a ft pn ra rm r2P__2 r2S__3 r2D__4 r2Q__5 ((ALn (exT pn kd nu) pn.toNat).length : Int) ((fsL (exT pn kd nu) (ALn (exT pn kd nu) pn.toNat) pn (2 * (ALn (exT pn kd nu) pn.toNat).length + 1)).length : Int) rc tr, cA G (a 2) 4 kd, cA G (a 3) 12 nu, cJ G (a 13) 8 vP2__6, cJ G (a 14) 8 vS2__7, cJ G (a 15) 8 vD2__8, cJ G (a 16) 8 vQ2__9, cA G (a 18) 17 wN, cA G (a 19) 17 fN]) (As := [.long (lI (rr)), .long (lI (0)), .long (lI (((fsL (exT pn kd nu) (ALn (exT pn kd nu) pn.toNat) pn (2 * (ALn (exT pn kd nu) pn.toNat).length + 1)).length : Int) - 1))]) (rest := []) (m_X6_in l D G (va := rr) (vb := 0) (vc := (((fsL (exT pn kd nu) (ALn (exT pn kd nu) pn.toNat) pn (2 * (ALn (exT pn kd nu) pn.toNat).length + 1)).length : Int) - 1)) (by first | assumption | omega) (by first | assumption | omega) (by first | assumption | omega)) (va_cwS 3 C.1.2.2.2.2 gX6_ofRow_X6_in rfl rfl rfl (by decide +kernel) ⟨Nat.le_of_ble_eq_true rfl, Nat.le_of_ble_eq_true rfl⟩) [] [0, 1, 2, 3, 4, 5, 6, 7, 8] rfl rfl (by decide) (by decide) (by decide) rfl hl.1 _ rfl (Nat.le_of_ble_eq_true rfl) dX6_ofRow_23 ⟨Nat.le_of_ble_eq_true rfl, Nat.le_of_ble_eq_true rfl⟩ ?_
    clear hw
    rintro _ _ H locs ⟨rfl, rfl⟩ hw
    have hw : gW D A s.heap [oX6 h a ft pn ra rm r2P__2 r2S__3 r2D__4 r2Q__5 ((ALn (exT pn kd nu) pn.toNat).length : Int) ((fsL (exT pn kd nu) (ALn (exT pn kd nu) pn.toNat) pn (2 * (ALn (exT pn kd nu) pn.toNat).length + 1)).length : Int) rc tr, cA G (a 2) 4 kd, cA G (a 3) 12 nu, cJ G (a 13) 8 vP2__6, cJ G (a 14) 8 vS2__7, cJ G (a 15) 8 vD2__8, cJ G (a 16) 8 vQ2__9, cA G (a 18) 17 wN, cA G (a 19) 17 fN] H locs := hw
    refine g_ifb_ne C 31 dX6_ofRow_26 (by decide) (fun c_13 => ?_) (fun c_13 => ?_)
    · skip
      obtain ⟨hx1, hx2⟩ := hasL_at hF9 (k := rr) ⟨by omega, by omega⟩
      have hx3 := fsL_mem (exT pn kd nu) (ALn (exT pn kd nu) pn.toNat) pn (2 * (ALn (exT pn kd nu) pn.toNat).length + 1) _ hx2
      have hgd : (fsL (exT pn kd nu) (ALn (exT pn kd nu) pn.toNat) pn (2 * (ALn (exT pn kd nu) pn.toNat).length + 1)).getD rr.toNat 0 = fN rr := by rw [List.getD_eq_getElem?_getD, hx1]; rfl
      have hsb := sSp_r (exT pn kd nu) (ALn (exT pn kd nu) pn.toNat) (fN rr) (wh - 10)
      refine g_aload_n C hl 0 rfl rfl dX6_ofRow_31 ?_
      refine g_get C hw hin_X6_ofRow_X6 0 rfl rfl 19 (by decide) lk_X6_ofRow_41 rfl dX6_ofRow_32 ?_
      refine g_iload_n C hl 1 rfl rfl dX6_ofRow_35 ?_
      refine g_iald C hw 8 rfl (by omega) (Nat.le_of_ble_eq_true rfl) dX6_ofRow_36 ?_
      refine g_istore_n C [(3, .int (iI (fN rr))), (0, .ref h), (1, .int (iI rr)), (2, .int (iI wh))] dX6_ofRow_37 rfl hl (by decide) rfl ?_
      clear hl
      intro ls hl
      refine g_iload_n C hl 3 rfl rfl dX6_ofRow_38 ?_
      refine g_i2l C dX6_ofRow_39 (by omega) ?_
      refine g_ldc2 C (10) cn_X6_ofRow_196 (by decide +kernel) dX6_ofRow_40 ?_
      refine g_ldc2 C (13) cn_X6_ofRow_233 (by decide +kernel) dX6_ofRow_43 ?_
      refine g_callSi C hw (wr := [oX6 h a ft pn ra rm r2P__2 r2S__3 r2D__4 r2Q__5 ((ALn (exT pn kd nu) pn.toNat).length : Int) ((fsL (exT pn kd nu) (ALn (exT pn kd nu) pn.toNat) pn (2 * (ALn (exT pn kd nu) pn.toNat).length + 1)).length : Int) rc tr, cA G (a 2) 4 kd, cA G (a 3) 12 nu, cJ G (a 13) 8 vP2__6, cJ G (a 14) 8 vS2__7, cJ G (a 15) 8 vD2__8, cJ G (a 16) 8 vQ2__9, cA G (a 18) 17 wN, cA G (a 19) 17 fN]) (As := [.long (lI (wh)), .long (lI (10)), .long (lI (13))]) (rest := []) (m_X6_in l D G (va := wh) (vb := 10) (vc := 13) (by first | assumption | omega) (by first | assumption | omega) (by first | assumption | omega)) (va_cwS 3 C.1.2.2.2.2 gX6_ofRow_X6_in rfl rfl rfl (by decide +kernel) ⟨Nat.le_of_ble_eq_true rfl, Nat.le_of_ble_eq_true rfl⟩) [] [0, 1, 2, 3, 4, 5, 6, 7, 8] rfl rfl (by decide) (by decide) (by decide) rfl hl.1 _ rfl (Nat.le_of_ble_eq_true rfl) dX6_ofRow_46 ⟨Nat.le_of_ble_eq_true rfl, Nat.le_of_ble_eq_true rfl⟩ ?_
      clear hw
      rintro _ _ H locs ⟨rfl, rfl⟩ hw
      have hw : gW D A s.heap [oX6 h a ft pn ra rm r2P__2 r2S__3 r2D__4 r2Q__5 ((ALn (exT pn kd nu) pn.toNat).length : Int) ((fsL (exT pn kd nu) (ALn (exT pn kd nu) pn.toNat) pn (2 * (ALn (exT pn kd nu) pn.toNat).length + 1)).length : Int) rc tr, cA G (a 2) 4 kd, cA G (a 3) 12 nu, cJ G (a 13) 8 vP2__6, cJ G (a 14) 8 vS2__7, cJ G (a 15) 8 vD2__8, cJ G (a 16) 8 vQ2__9, cA G (a 18) 17 wN, cA G (a 19) 17 fN] H locs := hw
      refine g_ifb_eq C 80 dX6_ofRow_49 (by decide) (fun c_14 => ?_) (fun c_14 => ?_)
      · skip
        refine g_iconst C dX6_ofRow_80 ?_
        refine g_istore C [(4, .int (iI 0)), (3, .int (iI (fN rr))), (0, .ref h), (1, .int (iI rr)), (2, .int (iI wh))] dX6_ofRow_81 hl (by decide) rfl ?_
        clear hl
        intro ls hl
        refine g_iconst C dX6_ofRow_83 ?_
        refine g_istore C [(5, .int (iI 0)), (4, .int (iI 0)), (3, .int (iI (fN rr))), (0, .ref h), (1, .int (iI rr)), (2, .int (iI wh))] dX6_ofRow_84 hl (by decide) rfl ?_
        clear hl
        intro ls hl
        refine g_loop (σ := (Int) × (Int)) (fun z_ => [oX6 h a ft pn ra rm r2P__2 r2S__3 r2D__4 r2Q__5 ((ALn (exT pn kd nu) pn.toNat).length : Int) ((fsL (exT pn kd nu) (ALn (exT pn kd nu) pn.toNat) pn (2 * (ALn (exT pn kd nu) pn.toNat).length + 1)).length : Int) rc tr, cA G (a 2) 4 kd, cA G (a 3) 12 nu, cJ G (a 13) 8 vP2__6, cJ G (a 14) 8 vS2__7, cJ G (a 15) 8 vD2__8, cJ G (a 16) 8 vQ2__9, cA G (a 18) 17 wN, cA G (a 19) 17 fN]) (fun z_ => [(5, .int (iI (z_.2))), (4, .int (iI (z_.1))), (3, .int (iI ((fN rr)))), (0, .ref h), (1, .int (iI rr)), (2, .int (iI wh))]) (fun z_ => (0 ≤ z_.2 ∧ z_.2 ≤ 2 * ((ALn (exT pn kd nu) pn.toNat).length : Int) + 1) ∧ (z_.1 = cnF (fun k => rwN (exT pn kd nu) (ALn (exT pn kd nu) pn.toNat) pn k == rwN (exT pn kd nu) (ALn (exT pn kd nu) pn.toNat) pn (fN rr)) z_.2.toNat)) (fun z_ => (2 * ((ALn (exT pn kd nu) pn.toNat).length : Int) + 1 - z_.2).toNat) (0, 0) ⟨by (try dsimp only); omega, by (try dsimp only); rfl⟩ hw (lv_sub hl [0, 1, 2, 3, 4, 5] rfl) ?_
        clear hw hl
        rintro ⟨mn, kk⟩ ⟨hkk, hmn⟩ H locs ls hw hl ih_15
        replace hkk : 0 ≤ kk ∧ kk ≤ 2 * ((ALn (exT pn kd nu) pn.toNat).length : Int) + 1 := hkk
        replace hmn : mn = cnF (fun k => rwN (exT pn kd nu) (ALn (exT pn kd nu) pn.toNat) pn k == rwN (exT pn kd nu) (ALn (exT pn kd nu) pn.toNat) pn (fN rr)) kk.toNat := hmn
        replace hw : gW D A s.heap [oX6 h a ft pn ra rm r2P__2 r2S__3 r2D__4 r2Q__5 ((ALn (exT pn kd nu) pn.toNat).length : Int) ((fsL (exT pn kd nu) (ALn (exT pn kd nu) pn.toNat) pn (2 * (ALn (exT pn kd nu) pn.toNat).length + 1)).length : Int) rc tr, cA G (a 2) 4 kd, cA G (a 3) 12 nu, cJ G (a 13) 8 vP2__6, cJ G (a 14) 8 vS2__7, cJ G (a 15) 8 vD2__8, cJ G (a 16) 8 vQ2__9, cA G (a 18) 17 wN, cA G (a 19) 17 fN] H locs := hw
        replace hl : lv_has ls 6 [(5, .int (iI kk)), (4, .int (iI mn)), (3, .int (iI (fN rr))), (0, .ref h), (1, .int (iI rr)), (2, .int (iI wh))] := hl
        replace ih_15 : ∀ (mn' : Int) (kk' : Int), ((0 ≤ kk' ∧ kk' ≤ 2 * ((ALn (exT pn kd nu) pn.toNat).length : Int) + 1) ∧ (mn' = cnF (fun k => rwN (exT pn kd nu) (ALn (exT pn kd nu) pn.toNat) pn k == rwN (exT pn kd nu) (ALn (exT pn kd nu) pn.toNat) pn (fN rr)) kk'.toNat)) → ((2 * ((ALn (exT pn kd nu) pn.toNat).length : Int) + 1 - kk').toNat) < ((2 * ((ALn (exT pn kd nu) pn.toNat).length : Int) + 1 - kk).toNat) → ∀ (H : Heap) (locs : List Loc) (ls : Array Slot), gW D A s.heap [oX6 h a ft pn ra rm r2P__2 r2S__3 r2D__4 r2Q__5 ((ALn (exT pn kd nu) pn.toNat).length : Int) ((fsL (exT pn kd nu) (ALn (exT pn kd nu) pn.toNat) pn (2 * (ALn (exT pn kd nu) pn.toNat).length + 1)).length : Int) rc tr, cA G (a 2) 4 kd, cA G (a 3) 12 nu, cJ G (a 13) 8 vP2__6, cJ G (a 14) 8 vS2__7, cJ G (a 15) 8 vD2__8, cJ G (a 16) 8 vQ2__9, cA G (a 18) 17 wN, cA G (a 19) 17 fN] H locs → lv_has ls 6 [(5, .int (iI (kk'))), (4, .int (iI (mn'))), (3, .int (iI ((fN rr)))), (0, .ref h), (1, .int (iI rr)), (2, .int (iI wh))] → W p l e _ s m _ below meth c H locs _ _ _ (F0 m 86 ls []) := fun mn' kk' => ih_15 (mn', kk')
        have hcn := cnF_r (fun k => rwN (exT pn kd nu) (ALn (exT pn kd nu) pn.toNat) pn k == rwN (exT pn kd nu) (ALn (exT pn kd nu) pn.toNat) pn (fN rr)) kk.toNat
        have hk9 := hW9 kk.toNat
        rw [show ((kk.toNat : Nat) : Int) = kk by omega] at hk9
        have hf9 := hW9 (fN rr).toNat (by omega)
        rw [show (((fN rr).toNat : Nat) : Int) = fN rr by omega] at hf9
        have hb1 := rnF_r (exT pn kd nu) (ALn (exT pn kd nu) pn.toNat) kk (p := pn.toNat) (by omega)
        replace hb1 : 0 ≤ rwN (exT pn kd nu) (ALn (exT pn kd nu) pn.toNat) pn kk ∧ rwN (exT pn kd nu) (ALn (exT pn kd nu) pn.toNat) pn kk ≤ 80 := hb1
        have hb2 := rnF_r (exT pn kd nu) (ALn (exT pn kd nu) pn.toNat) (fN rr) (p := pn.toNat) (by omega)
        replace hb2 : 0 ≤ rwN (exT pn kd nu) (ALn (exT pn kd nu) pn.toNat) pn (fN rr) ∧ rwN (exT pn kd nu) (ALn (exT pn kd nu) pn.toNat) pn (fN rr) ≤ 80 := hb2
        refine g_iload C hl 0 rfl dX6_ofRow_86 ?_
        refine g_iconst C dX6_ofRow_88 ?_
        refine g_aload_n C hl 3 rfl rfl dX6_ofRow_89 ?_
        refine g_get C hw hin_X6_ofRow_X6 0 rfl rfl 12 (by decide) lk_X6_ofRow_167 rfl dX6_ofRow_90 ?_
        refine g_imul C dX6_ofRow_93 ?_
        refine g_icmp_gt C 129 dX6_ofRow_94 (by decide) (by omega) (by omega) (fun c_16 => ?_) (fun c_16 => ?_)
        · skip
          have hke : kk.toNat = 2 * (ALn (exT pn kd nu) pn.toNat).length + 1 := by omega
          rw [hke] at hmn
          refine g_iload_n C hl 5 rfl rfl dX6_ofRow_129 ?_
          refine g_if_ne C 137 dX6_ofRow_130 (by decide) (by omega) (fun c_17 => ?_) (fun c_17 => ?_)
          · skip
            refine g_iload_n C hl 5 rfl rfl dX6_ofRow_137 ?_
            refine g_iconst C dX6_ofRow_138 ?_
            refine g_icmp_ne C 147 dX6_ofRow_139 (by decide) (by omega) (by omega) (fun c_18 => ?_) (fun c_18 => ?_)
            · skip
              refine g_bipush C dX6_ofRow_147 (by decide) ?_
              exact g_iret C hr (ws' := [oX6 h a ft pn ra rm r2P__2 r2S__3 r2D__4 r2Q__5 ((ALn (exT pn kd nu) pn.toNat).length : Int) ((fsL (exT pn kd nu) (ALn (exT pn kd nu) pn.toNat) pn (2 * (ALn (exT pn kd nu) pn.toNat).length + 1)).length : Int) rc tr, cA G (a 2) 4 kd, cA G (a 3) 12 nu, cJ G (a 13) 8 vP2__6, cJ G (a 14) 8 vS2__7, cJ G (a 15) 8 vD2__8, cJ G (a 16) 8 vQ2__9, cA G (a 18) 17 wN, cA G (a 19) 17 fN]) hw [0, 1, 2, 3, 4, 5, 6, 7, 8] (by decide) rfl ⟨((ALn (exT pn kd nu) pn.toNat).length : Int), ((fsL (exT pn kd nu) (ALn (exT pn kd nu) pn.toNat) pn (2 * (ALn (exT pn kd nu) pn.toNat).length + 1)).length : Int), r2P__2, r2S__3, r2D__4, r2Q__5, vP2__6, vS2__7, vD2__8, vQ2__9, wN, fN, (congrArg iI (by unfold R_row; (try rw [hgd]); (repeat' split) <;> omega)), rfl⟩ dX6_ofRow_149
            · skip
              refine g_iload C hl 1 rfl dX6_ofRow_142 ?_
              refine g_goto C 149 dX6_ofRow_144 (by decide) ?_
              exact g_iret C hr (ws' := [oX6 h a ft pn ra rm r2P__2 r2S__3 r2D__4 r2Q__5 ((ALn (exT pn kd nu) pn.toNat).length : Int) ((fsL (exT pn kd nu) (ALn (exT pn kd nu) pn.toNat) pn (2 * (ALn (exT pn kd nu) pn.toNat).length + 1)).length : Int) rc tr, cA G (a 2) 4 kd, cA G (a 3) 12 nu, cJ G (a 13) 8 vP2__6, cJ G (a 14) 8 vS2__7, cJ G (a 15) 8 vD2__8, cJ G (a 16) 8 vQ2__9, cA G (a 18) 17 wN, cA G (a 19) 17 fN]) hw [0, 1, 2, 3, 4, 5, 6, 7, 8] (by decide) rfl ⟨((ALn (exT pn kd nu) pn.toNat).length : Int), ((fsL (exT pn kd nu) (ALn (exT pn kd nu) pn.toNat) pn (2 * (ALn (exT pn kd nu) pn.toNat).length + 1)).length : Int), r2P__2, r2S__3, r2D__4, r2Q__5, vP2__6, vS2__7, vD2__8, vQ2__9, wN, fN, (congrArg iI (by unfold R_row; (try rw [hgd]); (repeat' split) <;> omega)), rfl⟩ dX6_ofRow_149
          · skip
            refine g_iload_n C hl 2 rfl rfl dX6_ofRow_133 ?_
            refine g_goto C 149 dX6_ofRow_134 (by decide) ?_
            exact g_iret C hr (ws' := [oX6 h a ft pn ra rm r2P__2 r2S__3 r2D__4 r2Q__5 ((ALn (exT pn kd nu) pn.toNat).length : Int) ((fsL (exT pn kd nu) (ALn (exT pn kd nu) pn.toNat) pn (2 * (ALn (exT pn kd nu) pn.toNat).length + 1)).length : Int) rc tr, cA G (a 2) 4 kd, cA G (a 3) 12 nu, cJ G (a 13) 8 vP2__6, cJ G (a 14) 8 vS2__7, cJ G (a 15) 8 vD2__8, cJ G (a 16) 8 vQ2__9, cA G (a 18) 17 wN, cA G (a 19) 17 fN]) hw [0, 1, 2, 3, 4, 5, 6, 7, 8] (by decide) rfl ⟨((ALn (exT pn kd nu) pn.toNat).length : Int), ((fsL (exT pn kd nu) (ALn (exT pn kd nu) pn.toNat) pn (2 * (ALn (exT pn kd nu) pn.toNat).length + 1)).length : Int), r2P__2, r2S__3, r2D__4, r2Q__5, vP2__6, vS2__7, vD2__8, vQ2__9, wN, fN, (congrArg iI (by unfold R_row; (try rw [hgd]); (repeat' split) <;> omega)), rfl⟩ dX6_ofRow_149
        · skip
          refine g_iload C hl 1 rfl dX6_ofRow_97 ?_
          refine g_aload_n C hl 3 rfl rfl dX6_ofRow_99 ?_
          refine g_get C hw hin_X6_ofRow_X6 0 rfl rfl 18 (by decide) lk_X6_ofRow_38 rfl dX6_ofRow_100 ?_
          refine g_iload C hl 0 rfl dX6_ofRow_103 ?_
          refine g_iald C hw 7 rfl (by omega) (Nat.le_of_ble_eq_true rfl) dX6_ofRow_105 ?_
          refine g_aload_n C hl 3 rfl rfl dX6_ofRow_106 ?_
          refine g_get C hw hin_X6_ofRow_X6 0 rfl rfl 18 (by decide) lk_X6_ofRow_38 rfl dX6_ofRow_107 ?_
          refine g_iload_n C hl 2 rfl rfl dX6_ofRow_110 ?_
          refine g_iald C hw 7 rfl (by omega) (Nat.le_of_ble_eq_true rfl) dX6_ofRow_111 ?_
          refine g_icmp_ne C 119 dX6_ofRow_112 (by decide) (by omega) (by omega) (fun c_19 => ?_) (fun c_19 => ?_)
          · skip
            refine g_iconst C dX6_ofRow_119 ?_
            refine g_iadd C dX6_ofRow_120 ?_
            refine g_istore C [(4, .int (iI (mn + 0))), (5, .int (iI kk)), (3, .int (iI (fN rr))), (0, .ref h), (1, .int (iI rr)), (2, .int (iI wh))] dX6_ofRow_121 hl (by decide) rfl ?_
            clear hl
            intro ls hl
            refine g_iinc C [(5, .int (iI (kk + 1))), (4, .int (iI (mn + 0))), (3, .int (iI (fN rr))), (0, .ref h), (1, .int (iI rr)), (2, .int (iI wh))] 1 dX6_ofRow_123 hl rfl (by decide) rfl ?_
            clear hl
            intro ls hl
            refine g_goto C 86 dX6_ofRow_126 (by decide) ?_
            have hw : gW D A s.heap [oX6 h a ft pn ra rm r2P__2 r2S__3 r2D__4 r2Q__5 ((ALn (exT pn kd nu) pn.toNat).length : Int) ((fsL (exT pn kd nu) (ALn (exT pn kd nu) pn.toNat) pn (2 * (ALn (exT pn kd nu) pn.toNat).length + 1)).length : Int) rc tr, cA G (a 2) 4 kd, cA G (a 3) 12 nu, cJ G (a 13) 8 vP2__6, cJ G (a 14) 8 vS2__7, cJ G (a 15) 8 vD2__8, cJ G (a 16) 8 vQ2__9, cA G (a 18) 17 wN, cA G (a 19) 17 fN] H locs := g_perm hw [0, 1, 2, 3, 4, 5, 6, 7, 8] (by decide) rfl
            exact ih_15 (mn + 0) (kk + 1) ⟨by omega, by rw [cnF_s hkk.1, hmn]; first | (rw [if_pos (by simp; omega)]; done) | (rw [if_neg (by simp; omega)]; done)⟩ (by omega) H locs ls hw (lv_sub hl [0, 1, 2, 3, 4, 5] rfl)
          · skip
            refine g_iconst C dX6_ofRow_115 ?_
            refine g_goto C 120 dX6_ofRow_116 (by decide) ?_
            refine g_iadd C dX6_ofRow_120 ?_
            refine g_istore C [(4, .int (iI (mn + 1))), (5, .int (iI kk)), (3, .int (iI (fN rr))), (0, .ref h), (1, .int (iI rr)), (2, .int (iI wh))] dX6_ofRow_121 hl (by decide) rfl ?_
            clear hl
            intro ls hl
            refine g_iinc C [(5, .int (iI (kk + 1))), (4, .int (iI (mn + 1))), (3, .int (iI (fN rr))), (0, .ref h), (1, .int (iI rr)), (2, .int (iI wh))] 1 dX6_ofRow_123 hl rfl (by decide) rfl ?_
            clear hl
            intro ls hl
            refine g_goto C 86 dX6_ofRow_126 (by decide) ?_
            have hw : gW D A s.heap [oX6 h a ft pn ra rm r2P__2 r2S__3 r2D__4 r2Q__5 ((ALn (exT pn kd nu) pn.toNat).length : Int) ((fsL (exT pn kd nu) (ALn (exT pn kd nu) pn.toNat) pn (2 * (ALn (exT pn kd nu) pn.toNat).length + 1)).length : Int) rc tr, cA G (a 2) 4 kd, cA G (a 3) 12 nu, cJ G (a 13) 8 vP2__6, cJ G (a 14) 8 vS2__7, cJ G (a 15) 8 vD2__8, cJ G (a 16) 8 vQ2__9, cA G (a 18) 17 wN, cA G (a 19) 17 fN] H locs := g_perm hw [0, 1, 2, 3, 4, 5, 6, 7, 8] (by decide) rfl
            exact ih_15 (mn + 1) (kk + 1) ⟨by omega, by rw [cnF_s hkk.1, hmn]; first | (rw [if_pos (by simp; omega)]; done) | (rw [if_neg (by simp; omega)]; done)⟩ (by omega) H locs ls hw (lv_sub hl [0, 1, 2, 3, 4, 5] rfl)
      · skip
        refine g_aload_n C hl 1 rfl rfl dX6_ofRow_52 ?_
        refine g_iload_n C hl 3 rfl rfl dX6_ofRow_53 ?_
        refine g_bipush C dX6_ofRow_54 (by decide) ?_
        refine g_isub C dX6_ofRow_56 ?_
        refine g_callVi C hw (wr := [cA G (a 2) 4 kd, cA G (a 3) 12 nu, cJ G (a 13) 8 vP2__6, cJ G (a 14) 8 vS2__7, cJ G (a 15) 8 vD2__8, cJ G (a 16) 8 vQ2__9, cA G (a 18) 17 wN, cA G (a 19) 17 fN]) (As := [.int (iI (wh - 10))]) (rest := []) (m_X6_noPolynomial l D G (h := h) (a := a) (ft := ft) (pn := pn) (ra := ra) (rm := rm) (rP := r2P__2) (rS := r2S__3) (rD := r2D__4) (rQ := r2Q__5) (al := ((ALn (exT pn kd nu) pn.toNat).length : Int)) (rw := ((fsL (exT pn kd nu) (ALn (exT pn kd nu) pn.toNat) pn (2 * (ALn (exT pn kd nu) pn.toNat).length + 1)).length : Int)) (rc := rc) (tr := tr) (pp := (wh - 10)) (by first | assumption | omega) (by first | assumption | omega)) (cwV 1 C.1.2.2.2.2 gX6_ofRow_X6_noPolynomial rfl rfl rfl (by decide +kernel) ⟨Nat.le_of_ble_eq_true rfl, Nat.le_of_ble_eq_true rfl⟩) [0] [1, 2, 3, 4, 5, 6, 7, 8] rfl rfl (by decide) (by decide) (by decide) 0 rfl rfl rfl hl.1 _ rfl (Nat.le_of_ble_eq_true rfl) dX6_ofRow_57 ⟨Nat.le_of_ble_eq_true rfl, Nat.le_of_ble_eq_true rfl⟩ ?_
        clear hw
        rintro _ _ H locs ⟨rfl, rfl⟩ hw
        have hw : gW D A s.heap [cA G (a 2) 4 kd, cA G (a 3) 12 nu, cJ G (a 13) 8 vP2__6, cJ G (a 14) 8 vS2__7, cJ G (a 15) 8 vD2__8, cJ G (a 16) 8 vQ2__9, cA G (a 18) 17 wN, cA G (a 19) 17 fN, oX6 h a ft pn ra rm r2P__2 r2S__3 r2D__4 r2Q__5 ((ALn (exT pn kd nu) pn.toNat).length : Int) ((fsL (exT pn kd nu) (ALn (exT pn kd nu) pn.toNat) pn (2 * (ALn (exT pn kd nu) pn.toNat).length + 1)).length : Int) rc tr] H locs := hw
        refine g_ifb_eq C 68 dX6_ofRow_60 (by decide) (fun c_20 => ?_) (fun c_20 => ?_)
        · skip
          refine g_aload_n C hl 1 rfl rfl dX6_ofRow_68 ?_
          refine g_iload_n C hl 0 rfl rfl dX6_ofRow_69 ?_
          refine g_iload_n C hl 3 rfl rfl dX6_ofRow_70 ?_
          refine g_bipush C dX6_ofRow_71 (by decide) ?_
          refine g_isub C dX6_ofRow_73 ?_
          refine g_callVi C hw (wr := [cA G (a 18) 17 wN, cA G (a 19) 17 fN]) (As := [.int (iI (fN rr)), .int (iI (wh - 10))]) (rest := []) (m_X6_signInSpot l D G (h := h) (a := a) (ft := ft) (pn := pn) (ra := ra) (rm := rm) (rP := r2P__2) (rS := r2S__3) (rD := r2D__4) (rQ := r2Q__5) (al := ((ALn (exT pn kd nu) pn.toNat).length : Int)) (rw := ((fsL (exT pn kd nu) (ALn (exT pn kd nu) pn.toNat) pn (2 * (ALn (exT pn kd nu) pn.toNat).length + 1)).length : Int)) (rc := rc) (tr := tr) (kd := kd) (nu := nu) (vP := vP2__6) (vS := vS2__7) (vD := vD2__8) (vQ := vQ2__9) (kk := (fN rr)) (pp := (wh - 10)) (by first | assumption | omega) (by first | assumption | omega) (by first | assumption | omega) (by first | assumption | omega) (by rfl) (by exact hM) (by first | assumption | omega)) (cwV 2 C.1.2.2.2.2 gX6_ofRow_X6_signInSpot rfl rfl rfl (by decide +kernel) ⟨Nat.le_of_ble_eq_true rfl, Nat.le_of_ble_eq_true rfl⟩) [8, 0, 1, 2, 3, 4, 5] [6, 7] rfl rfl (by decide) (by decide) (by decide) 0 rfl rfl rfl hl.1 _ rfl (Nat.le_of_ble_eq_true rfl) dX6_ofRow_74 ⟨Nat.le_of_ble_eq_true rfl, Nat.le_of_ble_eq_true rfl⟩ ?_
          clear hw
          rintro _ _ H locs ⟨r2P__21, r2S__22, r2D__23, r2Q__24, rfl, rfl⟩ hw
          have hw : gW D A s.heap [cA G (a 18) 17 wN, cA G (a 19) 17 fN, oX6 h a ft pn ra rm r2P__21 r2S__22 r2D__23 r2Q__24 ((ALn (exT pn kd nu) pn.toNat).length : Int) ((fsL (exT pn kd nu) (ALn (exT pn kd nu) pn.toNat) pn (2 * (ALn (exT pn kd nu) pn.toNat).length + 1)).length : Int) rc tr, cA G (a 2) 4 kd, cA G (a 3) 12 nu, cJ G (a 13) 8 vP2__6, cJ G (a 14) 8 vS2__7, cJ G (a 15) 8 vD2__8, cJ G (a 16) 8 vQ2__9] H locs := hw
          refine g_iconst C dX6_ofRow_77 ?_
          refine g_iadd C dX6_ofRow_78 ?_
          exact g_iret C hr (ws' := [oX6 h a ft pn ra rm r2P__21 r2S__22 r2D__23 r2Q__24 ((ALn (exT pn kd nu) pn.toNat).length : Int) ((fsL (exT pn kd nu) (ALn (exT pn kd nu) pn.toNat) pn (2 * (ALn (exT pn kd nu) pn.toNat).length + 1)).length : Int) rc tr, cA G (a 2) 4 kd, cA G (a 3) 12 nu, cJ G (a 13) 8 vP2__6, cJ G (a 14) 8 vS2__7, cJ G (a 15) 8 vD2__8, cJ G (a 16) 8 vQ2__9, cA G (a 18) 17 wN, cA G (a 19) 17 fN]) hw [2, 3, 4, 5, 6, 7, 8, 0, 1] (by decide) rfl ⟨((ALn (exT pn kd nu) pn.toNat).length : Int), ((fsL (exT pn kd nu) (ALn (exT pn kd nu) pn.toNat) pn (2 * (ALn (exT pn kd nu) pn.toNat).length + 1)).length : Int), r2P__21, r2S__22, r2D__23, r2Q__24, vP2__6, vS2__7, vD2__8, vQ2__9, wN, fN, (congrArg iI (by unfold R_row; (try rw [hgd]); (repeat' split) <;> omega)), rfl⟩ dX6_ofRow_79
        · skip
          refine g_bipush C dX6_ofRow_63 (by decide) ?_
          refine g_goto C 79 dX6_ofRow_65 (by decide) ?_
          exact g_iret C hr (ws' := [oX6 h a ft pn ra rm r2P__2 r2S__3 r2D__4 r2Q__5 ((ALn (exT pn kd nu) pn.toNat).length : Int) ((fsL (exT pn kd nu) (ALn (exT pn kd nu) pn.toNat) pn (2 * (ALn (exT pn kd nu) pn.toNat).length + 1)).length : Int) rc tr, cA G (a 2) 4 kd, cA G (a 3) 12 nu, cJ G (a 13) 8 vP2__6, cJ G (a 14) 8 vS2__7, cJ G (a 15) 8 vD2__8, cJ G (a 16) 8 vQ2__9, cA G (a 18) 17 wN, cA G (a 19) 17 fN]) hw [8, 0, 1, 2, 3, 4, 5, 6, 7] (by decide) rfl ⟨((ALn (exT pn kd nu) pn.toNat).length : Int), ((fsL (exT pn kd nu) (ALn (exT pn kd nu) pn.toNat) pn (2 * (ALn (exT pn kd nu) pn.toNat).length + 1)).length : Int), r2P__2, r2S__3, r2D__4, r2Q__5, vP2__6, vS2__7, vD2__8, vQ2__9, wN, fN, (congrArg iI (by unfold R_row; (try rw [hgd]); (repeat' split) <;> omega)), rfl⟩ dX6_ofRow_79
    · skip
      refine g_iconst C dX6_ofRow_29 ?_
      exact g_iret C hr (ws' := [oX6 h a ft pn ra rm r2P__2 r2S__3 r2D__4 r2Q__5 ((ALn (exT pn kd nu) pn.toNat).length : Int) ((fsL (exT pn kd nu) (ALn (exT pn kd nu) pn.toNat) pn (2 * (ALn (exT pn kd nu) pn.toNat).length + 1)).length : Int) rc tr, cA G (a 2) 4 kd, cA G (a 3) 12 nu, cJ G (a 13) 8 vP2__6, cJ G (a 14) 8 vS2__7, cJ G (a 15) 8 vD2__8, cJ G (a 16) 8 vQ2__9, cA G (a 18) 17 wN, cA G (a 19) 17 fN]) hw [0, 1, 2, 3, 4, 5, 6, 7, 8] (by decide) rfl ⟨((ALn (exT pn kd nu) pn.toNat).length : Int), ((fsL (exT pn kd nu) (ALn (exT pn kd nu) pn.toNat) pn (2 * (ALn (exT pn kd nu) pn.toNat).length + 1)).length : Int), r2P__2, r2S__3, r2D__4, r2Q__5, vP2__6, vS2__7, vD2__8, vQ2__9, wN, fN, (congrArg iI (by unfold R_row; (try rw [hgd]); (repeat' split) <;> omega)), rfl⟩ dX6_ofRow_30
  · skip
    refine g_iconst C dX6_ofRow_7 ?_
    exact g_iret C hr (ws' := [oX6 h a ft pn ra rm rP rS rD rQ al rw rc tr, cA G (a 2) 4 kd, cA G (a 3) 12 nu, cJ G (a 13) 8 vP, cJ G (a 14) 8 vS, cJ G (a 15) 8 vD, cJ G (a 16) 8 vQ, cA G (a 18) 17 wA, cA G (a 19) 17 fA]) hw [0, 1, 2, 3, 4, 5, 6, 7, 8] (by decide) rfl ⟨al, rw, rP, rS, rD, rQ, vP, vS, vD, vQ, wA, fA, (congrArg iI (by unfold R_row; (try rw [hgd]); (repeat' split) <;> omega)), rfl⟩ dX6_ofRow_8
