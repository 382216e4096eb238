set_option maxRecDepth 20000 in
theorem hin_X6_meets_X6 : ∀ w ∈ u_ws RX6 TX6 30, w ∈ wsX6_meets := by
  intro w h
  exact List.mem_cons_of_mem _ (List.mem_append_right _ (h))
set_option maxRecDepth 20000 in
theorem lk_X6_meets_75 : Cond.fieldLink RX6 75 (TX6 1).1 (TX6 1).2.1 (TX6 1).2.2.1 ∈ wsX6_meets := List.mem_cons_of_mem _ (List.mem_append_left _ (List.mem_append_left _ (List.mem_of_getElem? (i := 0) rfl)))
set_option maxRecDepth 20000 in
theorem lk_X6_meets_59 : Cond.fieldLink RX6 59 (TX6 27).1 (TX6 27).2.1 (TX6 27).2.2.1 ∈ wsX6_meets := List.mem_cons_of_mem _ (List.mem_append_left _ (List.mem_append_left _ (List.mem_of_getElem? (i := 1) rfl)))
set_option maxRecDepth 100000 in
set_option maxHeartbeats 8000000 in
theorem m_X6_meets (l : Launch) (D : va_G) (G : gT) (h : Nat) (a : Nat → Nat) (ft : Int) (pn : Int) (ra : Int) (rm : Int) (rP : Int) (rS : Int) (rD : Int) (rQ : Int) (al : Int) (rw : Int) (rc : Int) (tr : Int) (kd : Int → Int) (nu : Int → Int) (vP : Int → Int) (vS : Int → Int) (vD : Int → Int) (vQ : Int → Int) (ce : Int → Int) (kk : Int) (fr : Int) (hkd : kdOK kd) (hnu : nuOK nu) (hn : 0 ≤ pn ∧ pn ≤ 4) (hal : al = ((ALn (exT pn kd nu) pn.toNat).length : Int)) (hM : MR (exT pn kd nu) (ALn (exT pn kd nu) pn.toNat) vP vS vD vQ) (hkk : 0 ≤ kk ∧ kk ≤ 2 * al) (hce : ∀ j, -2147483648 ≤ ce j ∧ ce j ≤ 2147483647) (hf : 0 ≤ fr ∧ fr + pn ≤ 240) : gMi l yX6_meets wsX6_meets ({ frames := 5, cells := 0, slots := 0, locals := 125 }) D G [.ref h, .int (iI kk), .int (iI fr)] [oX6 h a ft pn ra rm rP rS rD rQ al rw rc tr, cA G (a 2) 4 kd, cA G (a 3) 12 nu, cJ G (a 13) 8 vP, cJ G (a 14) 8 vS, cJ G (a 15) 8 vD, cJ G (a 16) 8 vQ, cA G (a 27) 240 ce] 0 0 (fun (r : Int32) (w : va_W) => ∃ (r2P : Int) (r2S : Int) (r2D : Int) (r2Q : Int), r = (iI (bI (mtB (exT pn kd nu) (ALn (exT pn kd nu) pn.toNat) pn ce fr kk = true))) ∧ w = [oX6 h a ft pn ra rm r2P r2S r2D r2Q al rw rc tr, cA G (a 2) 4 kd, cA G (a 3) 12 nu, cJ G (a 13) 8 vP, cJ G (a 14) 8 vS, cJ G (a 15) 8 vD, cJ G (a 16) 8 vQ, cA G (a 27) 240 ce]) := by
  refine g_start_i (cc := cX6_meets) (nL := 5) (own := RX6) (ret := some .boolean) (by decide +kernel) rfl rfl (Nat.le_of_ble_eq_true rfl) ?_
  intro p e s m below meth c A ls C hr hnm hw hl
  have hl : lv_has ls 5 [(0, .ref h), (1, .int (iI kk)), (2, .int (iI fr))] := hl
  have hE := exT_B pn kd hnu
  have hlen := ALn_len (exT pn kd nu) pn.toNat
  refine g_iconst C dX6_meets_0 ?_
  refine g_istore_n C [(3, .int (iI 1)), (0, .ref h), (1, .int (iI kk)), (2, .int (iI fr))] dX6_meets_1 rfl hl (by decide) rfl ?_
  clear hl
  intro ls hl
  refine g_iconst C dX6_meets_2 ?_
  refine g_istore C [(4, .int (iI 0)), (3, .int (iI 1)), (0, .ref h), (1, .int (iI kk)), (2, .int (iI fr))] dX6_meets_3 hl (by decide) rfl ?_
  clear hl
  intro ls hl
  refine g_loop (σ := (Int) × (Int) × (Int) × (Int) × (Int) × (Int)) (fun z_ => [oX6 h a ft pn ra rm z_.2.2.1 z_.2.2.2.1 z_.2.2.2.2.1 z_.2.2.2.2.2 al rw rc tr, cA G (a 2) 4 kd, cA G (a 3) 12 nu, cJ G (a 13) 8 vP, cJ G (a 14) 8 vS, cJ G (a 15) 8 vD, cJ G (a 16) 8 vQ, cA G (a 27) 240 ce]) (fun z_ => [(4, .int (iI (z_.2.1))), (3, .int (iI (z_.1))), (0, .ref h), (1, .int (iI kk)), (2, .int (iI fr))]) (fun z_ => (0 ≤ z_.2.1 ∧ z_.2.1 ≤ pn) ∧ (z_.1 = if allB (mtP (exT pn kd nu) (ALn (exT pn kd nu) pn.toNat) ce fr kk) z_.2.1.toNat = true then 1 else 0)) (fun z_ => (pn - z_.2.1).toNat) (1, 0, rP, rS, rD, rQ) ⟨by (try dsimp only); omega, by (try dsimp only); rfl⟩ hw (lv_sub hl [0, 1, 2, 3, 4] rfl) ?_
  clear hw hl
  rintro ⟨ds, pp, gP, gS, gD, gQ⟩ ⟨hpp, hds⟩ H locs ls hw hl ih_1
  replace hpp : 0 ≤ pp ∧ pp ≤ pn := hpp
  replace hds : ds = if allB (mtP (exT pn kd nu) (ALn (exT pn kd nu) pn.toNat) ce fr kk) pp.toNat = true then 1 else 0 := hds
  replace hw : gW D A s.heap [oX6 h a ft pn ra rm gP gS gD gQ al rw rc tr, cA G (a 2) 4 kd, cA G (a 3) 12 nu, cJ G (a 13) 8 vP, cJ G (a 14) 8 vS, cJ G (a 15) 8 vD, cJ G (a 16) 8 vQ, cA G (a 27) 240 ce] H locs := hw
  replace hl : lv_has ls 5 [(4, .int (iI pp)), (3, .int (iI ds)), (0, .ref h), (1, .int (iI kk)), (2, .int (iI fr))] := hl
  replace ih_1 : ∀ (ds' : Int) (pp' : Int) (gP' : Int) (gS' : Int) (gD' : Int) (gQ' : Int), ((0 ≤ pp' ∧ pp' ≤ pn) ∧ (ds' = if allB (mtP (exT pn kd nu) (ALn (exT pn kd nu) pn.toNat) ce fr kk) pp'.toNat = true then 1 else 0)) → ((pn - pp').toNat) < ((pn - pp).toNat) → ∀ (H : Heap) (locs : List Loc) (ls : Array Slot), gW D A s.heap [oX6 h a ft pn ra rm gP' gS' gD' gQ' al rw rc tr, cA G (a 2) 4 kd, cA G (a 3) 12 nu, cJ G (a 13) 8 vP, cJ G (a 14) 8 vS, cJ G (a 15) 8 vD, cJ G (a 16) 8 vQ, cA G (a 27) 240 ce] H locs → lv_has ls 5 [(4, .int (iI (pp'))), (3, .int (iI (ds'))), (0, .ref h), (1, .int (iI kk)), (2, .int (iI fr))] → W p l e _ s m _ below meth c H locs _ _ _ (F0 m 5 ls []) := fun ds' pp' gP' gS' gD' gQ' => ih_1 (ds', pp', gP', gS', gD', gQ')
  have hd9 : 0 ≤ ds ∧ ds ≤ 1 := by rw [hds]; split <;> omega
  have hc9 := hce (fr + pp)
  have hsb := sSp_r (exT pn kd nu) (ALn (exT pn kd nu) pn.toNat) kk pp
  refine g_iload C hl 0 rfl dX6_meets_5 ?_
  refine g_aload_n C hl 2 rfl rfl dX6_meets_7 ?_
  refine g_get C hw hin_X6_meets_X6 0 rfl rfl 1 (by decide) lk_X6_meets_75 rfl dX6_meets_8 ?_
  refine g_icmp_ge C 64 dX6_meets_11 (by decide) (by omega) (by omega) (fun c_2 => ?_) (fun c_2 => ?_)
  · skip
    refine g_iload_n C hl 1 rfl rfl dX6_meets_64 ?_
    exact g_zret C hr (ws' := [oX6 h a ft pn ra rm gP gS gD gQ al rw rc tr, cA G (a 2) 4 kd, cA G (a 3) 12 nu, cJ G (a 13) 8 vP, cJ G (a 14) 8 vS, cJ G (a 15) 8 vD, cJ G (a 16) 8 vQ, cA G (a 27) 240 ce]) hw [0, 1, 2, 3, 4, 5, 6, 7] (by decide) rfl (by rcases (by omega : ds = 0 ∨ ds = 1) with q | q; exact Or.inl (congrArg iI q); exact Or.inr (congrArg iI q)) ⟨gP, gS, gD, gQ, (congrArg iI (by unfold mtB; rw [hds, show pp = pn by omega]; simp only [bI])), rfl⟩ dX6_meets_65
  · skip
    refine g_iload_n C hl 1 rfl rfl dX6_meets_14 ?_
    refine g_if_eq C 56 dX6_meets_15 (by decide) (by omega) (fun c_3 => ?_) (fun c_3 => ?_)
    · skip
      refine g_iconst C dX6_meets_56 ?_
      refine g_istore_n C [(3, .int (iI 0)), (4, .int (iI pp)), (0, .ref h), (1, .int (iI kk)), (2, .int (iI fr))] dX6_meets_57 rfl hl (by decide) rfl ?_
      clear hl
      intro ls hl
      refine g_iinc C [(4, .int (iI (pp + 1))), (3, .int (iI 0)), (0, .ref h), (1, .int (iI kk)), (2, .int (iI fr))] 1 dX6_meets_58 hl rfl (by decide) rfl ?_
      clear hl
      intro ls hl
      refine g_goto C 5 dX6_meets_61 (by decide) ?_
      have hw : gW D A s.heap [oX6 h a ft pn ra rm gP gS gD gQ al rw rc tr, cA G (a 2) 4 kd, cA G (a 3) 12 nu, cJ G (a 13) 8 vP, cJ G (a 14) 8 vS, cJ G (a 15) 8 vD, cJ G (a 16) 8 vQ, cA G (a 27) 240 ce] H locs := g_perm hw [0, 1, 2, 3, 4, 5, 6, 7] (by decide) rfl
      exact ih_1 0 (pp + 1) gP gS gD gQ ⟨by omega, by rw [allB_s hpp.1]; first | (rw [mtP_t (by omega)]; split at hds <;> simp_all; done) | (rw [mtP_f (by omega)]; simp_all; done) | (split at hds <;> simp_all; done)⟩ (by omega) H locs ls hw (lv_sub hl [0, 1, 2, 3, 4] rfl)
    · skip
      refine g_aload_n C hl 2 rfl rfl dX6_meets_18 ?_
      refine g_get C hw hin_X6_meets_X6 0 rfl rfl 27 (by decide) lk_X6_meets_59 rfl dX6_meets_19 ?_
      refine g_iload_n C hl 4 rfl rfl dX6_meets_22 ?_
      refine g_iload C hl 0 rfl dX6_meets_23 ?_
      refine g_iadd C dX6_meets_25 ?_
      refine g_iald C hw 7 rfl (by omega) (Nat.le_of_ble_eq_true rfl) dX6_meets_26 ?_
      refine g_iconst C dX6_meets_27 ?_
      refine g_icmp_eq C 52 dX6_meets_28 (by decide) (by omega) (by omega) (fun c_4 => ?_) (fun c_4 => ?_)
      · skip
        refine g_iconst C dX6_meets_52 ?_
        refine g_goto C 57 dX6_meets_53 (by decide) ?_
        refine g_istore_n C [(3, .int (iI 1)), (4, .int (iI pp)), (0, .ref h), (1, .int (iI kk)), (2, .int (iI fr))] dX6_meets_57 rfl hl (by decide) rfl ?_
        clear hl
        intro ls hl
        refine g_iinc C [(4, .int (iI (pp + 1))), (3, .int (iI 1)), (0, .ref h), (1, .int (iI kk)), (2, .int (iI fr))] 1 dX6_meets_58 hl rfl (by decide) rfl ?_
        clear hl
        intro ls hl
        refine g_goto C 5 dX6_meets_61 (by decide) ?_
        have hw : gW D A s.heap [oX6 h a ft pn ra rm gP gS gD gQ al rw rc tr, cA G (a 2) 4 kd, cA G (a 3) 12 nu, cJ G (a 13) 8 vP, cJ G (a 14) 8 vS, cJ G (a 15) 8 vD, cJ G (a 16) 8 vQ, cA G (a 27) 240 ce] H locs := g_perm hw [0, 1, 2, 3, 4, 5, 6, 7] (by decide) rfl
        exact ih_1 1 (pp + 1) gP gS gD gQ ⟨by omega, by rw [allB_s hpp.1]; first | (rw [mtP_t (by omega)]; split at hds <;> simp_all; done) | (rw [mtP_f (by omega)]; simp_all; done) | (split at hds <;> simp_all; done)⟩ (by omega) H locs ls hw (lv_sub hl [0, 1, 2, 3, 4] rfl)
      · skip
        refine g_aload_n C hl 2 rfl rfl dX6_meets_31 ?_
        refine g_get C hw hin_X6_meets_X6 0 rfl rfl 27 (by decide) lk_X6_meets_59 rfl dX6_meets_32 ?_
        refine g_iload_n C hl 4 rfl rfl dX6_meets_35 ?_
        refine g_iload C hl 0 rfl dX6_meets_36 ?_
        refine g_iadd C dX6_meets_38 ?_
        refine g_iald C hw 7 rfl (by omega) (Nat.le_of_ble_eq_true rfl) dX6_meets_39 ?_
        refine g_aload_n C hl 2 rfl rfl dX6_meets_40 ?_
        refine g_iload_n C hl 3 rfl rfl dX6_meets_41 ?_
        refine g_iload C hl 0 rfl dX6_meets_42 ?_
        refine g_callVi C hw (wr := [cA G (a 27) 240 ce]) (As := [.int (iI kk), .int (iI pp)]) (rest := [.int (iI (ce (fr + pp)))]) (m_X6_signInSpot l D G (h := h) (a := a) (ft := ft) (pn := pn) (ra := ra) (rm := rm) (rP := gP) (rS := gS) (rD := gD) (rQ := gQ) (al := al) (rw := rw) (rc := rc) (tr := tr) (kd := kd) (nu := nu) (vP := vP) (vS := vS) (vD := vD) (vQ := vQ) (kk := kk) (pp := pp) (by first | assumption | omega) (by first | assumption | omega) (by first | assumption | omega) (by first | assumption | omega) (by first | assumption | omega) (by first | assumption | omega) (by first | assumption | omega)) (cwV 2 C.1.2.2.2.2 gX6_meets_X6_signInSpot rfl rfl rfl (by decide +kernel) ⟨Nat.le_of_ble_eq_true rfl, Nat.le_of_ble_eq_true rfl⟩) [0, 1, 2, 3, 4, 5, 6] [7] rfl rfl (by decide) (by decide) (by decide) 0 rfl rfl rfl hl.1 _ rfl (Nat.le_of_ble_eq_true rfl) dX6_meets_44 ⟨Nat.le_of_ble_eq_true rfl, Nat.le_of_ble_eq_true rfl⟩ ?_
        clear hw
        rintro _ _ H locs ⟨r2P__5, r2S__6, r2D__7, r2Q__8, rfl, rfl⟩ hw
        have hw : gW D A s.heap [cA G (a 27) 240 ce, oX6 h a ft pn ra rm r2P__5 r2S__6 r2D__7 r2Q__8 al rw rc tr, cA G (a 2) 4 kd, cA G (a 3) 12 nu, cJ G (a 13) 8 vP, cJ G (a 14) 8 vS, cJ G (a 15) 8 vD, cJ G (a 16) 8 vQ] H locs := hw
        refine g_iconst C dX6_meets_47 ?_
        refine g_iadd C dX6_meets_48 ?_
        refine g_icmp_ne C 56 dX6_meets_49 (by decide) (by omega) (by omega) (fun c_9 => ?_) (fun c_9 => ?_)
        · skip
          refine g_iconst C dX6_meets_56 ?_
          refine g_istore_n C [(3, .int (iI 0)), (4, .int (iI pp)), (0, .ref h), (1, .int (iI kk)), (2, .int (iI fr))] dX6_meets_57 rfl hl (by decide) rfl ?_
          clear hl
          intro ls hl
          refine g_iinc C [(4, .int (iI (pp + 1))), (3, .int (iI 0)), (0, .ref h), (1, .int (iI kk)), (2, .int (iI fr))] 1 dX6_meets_58 hl rfl (by decide) rfl ?_
          clear hl
          intro ls hl
          refine g_goto C 5 dX6_meets_61 (by decide) ?_
          have hw : gW D A s.heap [oX6 h a ft pn ra rm r2P__5 r2S__6 r2D__7 r2Q__8 al rw rc tr, cA G (a 2) 4 kd, cA G (a 3) 12 nu, cJ G (a 13) 8 vP, cJ G (a 14) 8 vS, cJ G (a 15) 8 vD, cJ G (a 16) 8 vQ, cA G (a 27) 240 ce] H locs := g_perm hw [1, 2, 3, 4, 5, 6, 7, 0] (by decide) rfl
          exact ih_1 0 (pp + 1) r2P__5 r2S__6 r2D__7 r2Q__8 ⟨by omega, by rw [allB_s hpp.1]; first | (rw [mtP_t (by omega)]; split at hds <;> simp_all; done) | (rw [mtP_f (by omega)]; simp_all; done) | (split at hds <;> simp_all; done)⟩ (by omega) H locs ls hw (lv_sub hl [0, 1, 2, 3, 4] rfl)
        · skip
          refine g_iconst C dX6_meets_52 ?_
          refine g_goto C 57 dX6_meets_53 (by decide) ?_
          refine g_istore_n C [(3, .int (iI 1)), (4, .int (iI pp)), (0, .ref h), (1, .int (iI kk)), (2, .int (iI fr))] dX6_meets_57 rfl hl (by decide) rfl ?_
          clear hl
          intro ls hl
          refine g_iinc C [(4, .int (iI (pp + 1))), (3, .int (iI 1)), (0, .ref h), (1, .int (iI kk)), (2, .int (iI fr))] 1 dX6_meets_58 hl rfl (by decide) rfl ?_
          clear hl
          intro ls hl
          refine g_goto C 5 dX6_meets_61 (by decide) ?_
          have hw : gW D A s.heap [oX6 h a ft pn ra rm r2P__5 r2S__6 r2D__7 r2Q__8 al rw rc tr, cA G (a 2) 4 kd, cA G (a 3) 12 nu, cJ G (a 13) 8 vP, cJ G (a 14) 8 vS, cJ G (a 15) 8 vD, cJ G (a 16) 8 vQ, cA G (a 27) 240 ce] H locs := g_perm hw [1, 2, 3, 4, 5, 6, 7, 0] (by decide) rfl
          exact ih_1 1 (pp + 1) r2P__5 r2S__6 r2D__7 r2Q__8 ⟨by omega, by rw [allB_s hpp.1]; first | (rw [mtP_t (by omega)]; split at hds <;> simp_all; done) | (rw [mtP_f (by omega)]; simp_all; done) | (split at hds <;> simp_all; done)⟩ (by omega) H locs ls hw (lv_sub hl [0, 1, 2, 3, 4] rfl)

set_option maxRecDepth 20000 in
theorem hin_X6_wish_X6 : ∀ w ∈ u_ws RX6 TX6 30, w ∈ wsX6_wish := by
  intro w h
  exact List.mem_cons_of_mem _ (List.mem_append_right _ (h))
set_option maxRecDepth 20000 in
theorem lk_X6_wish_75 : Cond.fieldLink RX6 75 (TX6 1).1 (TX6 1).2.1 (TX6 1).2.2.1 ∈ wsX6_wish := List.mem_cons_of_mem _ (List.mem_append_left _ (List.mem_append_left _ (List.mem_of_getElem? (i := 0) rfl)))
set_option maxRecDepth 20000 in
theorem cn_X6_wish_117 : Jvm.Cond.constantLong RX6 117 (2) ∈ wsX6_wish := List.mem_cons_of_mem _ (List.mem_append_left _ (List.mem_append_left _ (List.mem_of_getElem? (i := 1) rfl)))
set_option maxRecDepth 20000 in
theorem lk_X6_wish_167 : Cond.fieldLink RX6 167 (TX6 12).1 (TX6 12).2.1 (TX6 12).2.2.1 ∈ wsX6_wish := List.mem_cons_of_mem _ (List.mem_append_left _ (List.mem_append_left _ (List.mem_of_getElem? (i := 4) rfl)))
set_option maxRecDepth 20000 in
theorem lk_X6_wish_59 : Cond.fieldLink RX6 59 (TX6 27).1 (TX6 27).2.1 (TX6 27).2.2.1 ∈ wsX6_wish := List.mem_cons_of_mem _ (List.mem_append_left _ (List.mem_append_left _ (List.mem_of_getElem? (i := 2) rfl)))
set_option maxRecDepth 20000 in
theorem cn_X6_wish_235 : Jvm.Cond.constantLong RX6 235 (3) ∈ wsX6_wish := List.mem_cons_of_mem _ (List.mem_append_left _ (List.mem_append_left _ (List.mem_of_getElem? (i := 3) rfl)))
set_option maxRecDepth 100000 in
set_option maxHeartbeats 8000000 in
theorem m_X6_wish (l : Launch) (D : va_G) (G : gT) (h : Nat) (a : Nat → Nat) (ft : Int) (pn : Int) (ra : Int) (rm : Int) (rP : Int) (rS : Int) (rD : Int) (rQ : Int) (al : Int) (rw : Int) (rc : Int) (tr : Int) (kd : Int → Int) (nu : Int → Int) (vP : Int → Int) (vS : Int → Int) (vD : Int → Int) (vQ : Int → Int) (sz : Int → Int) (ln : Int → Int) (ce : Int → Int) (kk : Int) (lv : Int) (ii : Int) (hkd : kdOK kd) (hnu : nuOK nu) (hn : 0 ≤ pn ∧ pn ≤ 4) (hk : -2147483648 ≤ kk ∧ kk ≤ 2147483647) (hla : -2147483648 ≤ lv ∧ lv ≤ 2147483647) (hi : -2147483648 ≤ ii ∧ ii ≤ 2147483647) (hsh : shOK sz ln ce) : gMi l yX6_wish wsX6_wish ({ frames := 6, cells := 0, slots := 0, locals := 149 }) D G [.ref h, .int (iI kk), .int (iI lv), .int (iI ii)] [oX6 h a ft pn ra rm rP rS rD rQ al rw rc tr, cA G (a 2) 4 kd, cA G (a 3) 12 nu, cJ G (a 13) 8 vP, cJ G (a 14) 8 vS, cJ G (a 15) 8 vD, cJ G (a 16) 8 vQ, cA G (a 25) 4 sz, cA G (a 26) 4 ln, cA G (a 27) 240 ce] 0 0 (fun (r : Int32) (w : va_W) => ∃ (al2 : Int) (r2P : Int) (r2S : Int) (r2D : Int) (r2Q : Int) (vP2 : Int → Int) (vS2 : Int → Int) (vD2 : Int → Int) (vQ2 : Int → Int), r = (iI (R_wsh pn (exT pn kd nu) (ALn (exT pn kd nu) pn.toNat) sz ln ce kk lv ii)) ∧ w = [oX6 h a (F_wsh pn sz ln kk lv ii) pn ra rm r2P r2S r2D r2Q al2 rw rc tr, cA G (a 2) 4 kd, cA G (a 3) 12 nu, cJ G (a 13) 8 vP2, cJ G (a 14) 8 vS2, cJ G (a 15) 8 vD2, cJ G (a 16) 8 vQ2, cA G (a 25) 4 sz, cA G (a 26) 4 ln, cA G (a 27) 240 ce]) := by
  refine g_start_i (cc := cX6_wish) (nL := 8) (own := RX6) (ret := some .int) (by decide +kernel) rfl rfl (Nat.le_of_ble_eq_true rfl) ?_
  intro p e s m below meth c A ls C hr hnm hw hl
  have hl : lv_has ls 8 [(0, .ref h), (1, .int (iI kk)), (2, .int (iI lv)), (3, .int (iI ii))] := hl
  have hE := exT_B pn kd hnu
  have hlen := ALn_len (exT pn kd nu) pn.toNat
  obtain ⟨hsz, hln, hce⟩ := id hsh
  have s0 := hsz kk
  have l0 := hln kk
  have hbr := R_bar_r sz ln kk lv ii pn
  refine g_aload_n C hl 0 rfl rfl dX6_wish_0 ?_
  refine g_get C hw hin_X6_wish_X6 0 rfl rfl 1 (by decide) lk_X6_wish_75 rfl dX6_wish_1 ?_
  refine g_if_ne C 14 dX6_wish_4 (by decide) (by omega) (fun c_1 => ?_) (fun c_1 => ?_)
  · skip
    refine g_iload_n C hl 1 rfl rfl dX6_wish_14 ?_
    refine g_callSi C hw (wr := [oX6 h a ft pn ra rm rP rS rD rQ al rw rc tr, cA G (a 2) 4 kd, cA G (a 3) 12 nu, cJ G (a 13) 8 vP, cJ G (a 14) 8 vS, cJ G (a 15) 8 vD, cJ G (a 16) 8 vQ, cA G (a 25) 4 sz, cA G (a 26) 4 ln, cA G (a 27) 240 ce]) (As := [.int (iI kk)]) (rest := []) (m_X6_noSheet l D G (kk := kk) (by first | assumption | omega)) (va_cwS 1 C.1.2.2.2.2 gX6_wish_X6_noSheet rfl rfl rfl (by decide +kernel) ⟨Nat.le_of_ble_eq_true rfl, Nat.le_of_ble_eq_true rfl⟩) [] [0, 1, 2, 3, 4, 5, 6, 7, 8, 9] rfl rfl (by decide) (by decide) (by decide) rfl hl.1 _ rfl (Nat.le_of_ble_eq_true rfl) dX6_wish_15 ⟨Nat.le_of_ble_eq_true rfl, Nat.le_of_ble_eq_true rfl⟩ ?_
    clear hw
    rintro _ _ H locs ⟨rfl, rfl⟩ hw
    have hw : gW D A s.heap [oX6 h a ft pn ra rm rP rS rD rQ al rw rc tr, cA G (a 2) 4 kd, cA G (a 3) 12 nu, cJ G (a 13) 8 vP, cJ G (a 14) 8 vS, cJ G (a 15) 8 vD, cJ G (a 16) 8 vQ, cA G (a 25) 4 sz, cA G (a 26) 4 ln, cA G (a 27) 240 ce] H locs := hw
    refine g_ifb_eq C 27 dX6_wish_18 (by decide) (fun c_2 => ?_) (fun c_2 => ?_)
    · skip
      refine g_iload_n C hl 2 rfl rfl dX6_wish_27 ?_
      refine g_i2l C dX6_wish_28 (by omega) ?_
      refine g_lconst0 C dX6_wish_29 ?_
      refine g_ldc2 C (2) cn_X6_wish_117 (by decide +kernel) dX6_wish_30 ?_
      refine g_callSi C hw (wr := [oX6 h a ft pn ra rm rP rS rD rQ al rw rc tr, cA G (a 2) 4 kd, cA G (a 3) 12 nu, cJ G (a 13) 8 vP, cJ G (a 14) 8 vS, cJ G (a 15) 8 vD, cJ G (a 16) 8 vQ, cA G (a 25) 4 sz, cA G (a 26) 4 ln, cA G (a 27) 240 ce]) (As := [.long (lI (lv)), .long (lI (0)), .long (lI (2))]) (rest := []) (m_X6_in l D G (va := lv) (vb := 0) (vc := 2) (by first | assumption | omega) (by first | assumption | omega) (by first | assumption | omega)) (va_cwS 3 C.1.2.2.2.2 gX6_wish_X6_in rfl rfl rfl (by decide +kernel) ⟨Nat.le_of_ble_eq_true rfl, Nat.le_of_ble_eq_true rfl⟩) [] [0, 1, 2, 3, 4, 5, 6, 7, 8, 9] rfl rfl (by decide) (by decide) (by decide) rfl hl.1 _ rfl (Nat.le_of_ble_eq_true rfl) dX6_wish_33 ⟨Nat.le_of_ble_eq_true rfl, Nat.le_of_ble_eq_true rfl⟩ ?_
      clear hw
      rintro _ _ H locs ⟨rfl, rfl⟩ hw
      have hw : gW D A s.heap [oX6 h a ft pn ra rm rP rS rD rQ al rw rc tr, cA G (a 2) 4 kd, cA G (a 3) 12 nu, cJ G (a 13) 8 vP, cJ G (a 14) 8 vS, cJ G (a 15) 8 vD, cJ G (a 16) 8 vQ, cA G (a 25) 4 sz, cA G (a 26) 4 ln, cA G (a 27) 240 ce] H locs := hw
      refine g_ifb_ne C 46 dX6_wish_36 (by decide) (fun c_3 => ?_) (fun c_3 => ?_)
      · skip
        refine g_aload_n C hl 0 rfl rfl dX6_wish_46 ?_
        refine g_iload_n C hl 1 rfl rfl dX6_wish_47 ?_
        refine g_iload_n C hl 2 rfl rfl dX6_wish_48 ?_
        refine g_iload_n C hl 3 rfl rfl dX6_wish_49 ?_
        refine g_aload_n C hl 0 rfl rfl dX6_wish_50 ?_
        refine g_get C hw hin_X6_wish_X6 0 rfl rfl 1 (by decide) lk_X6_wish_75 rfl dX6_wish_51 ?_
        refine g_i2l C dX6_wish_54 (by omega) ?_
        refine g_callVi C hw (wr := [cA G (a 2) 4 kd, cA G (a 3) 12 nu, cJ G (a 13) 8 vP, cJ G (a 14) 8 vS, cJ G (a 15) 8 vD, cJ G (a 16) 8 vQ, cA G (a 27) 240 ce]) (As := [.int (iI kk), .int (iI lv), .int (iI ii), .long (lI (pn))]) (rest := []) (m_X6_cellsBarred l D G (h := h) (a := a) (ft := ft) (pn := pn) (ra := ra) (rm := rm) (rP := rP) (rS := rS) (rD := rD) (rQ := rQ) (al := al) (rw := rw) (rc := rc) (tr := tr) (sz := sz) (ln := ln) (kk := kk) (lv := lv) (ii := ii) (nn := pn) (by first | assumption | omega) (by first | assumption | omega) (by first | assumption | omega) (by first | assumption | omega) (by first | assumption | omega) (by first | assumption | omega)) (cwV 4 C.1.2.2.2.2 gX6_wish_X6_cellsBarred rfl rfl rfl (by decide +kernel) ⟨Nat.le_of_ble_eq_true rfl, Nat.le_of_ble_eq_true rfl⟩) [0, 7, 8] [1, 2, 3, 4, 5, 6, 9] rfl rfl (by decide) (by decide) (by decide) 0 rfl rfl rfl hl.1 _ rfl (Nat.le_of_ble_eq_true rfl) dX6_wish_55 ⟨Nat.le_of_ble_eq_true rfl, Nat.le_of_ble_eq_true rfl⟩ ?_
        clear hw
        rintro _ _ H locs ⟨rfl, rfl⟩ hw
        have hw : gW D A s.heap [cA G (a 2) 4 kd, cA G (a 3) 12 nu, cJ G (a 13) 8 vP, cJ G (a 14) 8 vS, cJ G (a 15) 8 vD, cJ G (a 16) 8 vQ, cA G (a 27) 240 ce, oX6 h a (F_bar sz ln ft kk lv ii pn) pn ra rm rP rS rD rQ al rw rc tr, cA G (a 25) 4 sz, cA G (a 26) 4 ln] H locs := hw
        refine g_istore C [(4, .int (iI ((R_bar sz ln kk lv ii pn)))), (0, .ref h), (1, .int (iI kk)), (2, .int (iI lv)), (3, .int (iI ii))] dX6_wish_58 hl (by decide) rfl ?_
        clear hl
        intro ls hl
        refine g_iload C hl 0 rfl dX6_wish_60 ?_
        refine g_if_ge C 68 dX6_wish_62 (by decide) (by omega) (fun c_4 => ?_) (fun c_4 => ?_)
        · skip
          obtain ⟨b1, b2, b3⟩ := R_bar_0 (by omega : ¬ R_bar sz ln kk lv ii pn < 0)
          have b4 := b2 ft
          refine g_bipush C dX6_wish_68 (by decide) ?_
          refine g_iload_n C hl 2 rfl rfl dX6_wish_70 ?_
          refine g_imul C dX6_wish_71 ?_
          refine g_iload_n C hl 4 rfl rfl dX6_wish_72 ?_
          refine g_iadd C dX6_wish_73 ?_
          refine g_istore C [(5, .int (iI ((60 * kk) + ii))), (4, .int (iI ((R_bar sz ln kk lv ii pn)))), (0, .ref h), (1, .int (iI kk)), (2, .int (iI lv)), (3, .int (iI ii))] dX6_wish_74 hl (by decide) rfl ?_
          clear hl
          intro ls hl
          refine g_iconst C dX6_wish_76 ?_
          refine g_istore C [(6, .int (iI 0)), (5, .int (iI ((60 * kk) + ii))), (4, .int (iI ((R_bar sz ln kk lv ii pn)))), (0, .ref h), (1, .int (iI kk)), (2, .int (iI lv)), (3, .int (iI ii))] dX6_wish_77 hl (by decide) rfl ?_
          clear hl
          intro ls hl
          refine g_loop (σ := (Int)) (fun z_ => [cA G (a 2) 4 kd, cA G (a 3) 12 nu, cJ G (a 13) 8 vP, cJ G (a 14) 8 vS, cJ G (a 15) 8 vD, cJ G (a 16) 8 vQ, cA G (a 27) 240 ce, oX6 h a (F_bar sz ln ft kk lv ii pn) pn ra rm rP rS rD rQ al rw rc tr, cA G (a 25) 4 sz, cA G (a 26) 4 ln]) (fun z_ => [(6, .int (iI z_)), (5, .int (iI (((60 * kk) + ii)))), (4, .int (iI ((R_bar sz ln kk lv ii pn)))), (0, .ref h), (1, .int (iI kk)), (2, .int (iI lv)), (3, .int (iI ii))]) (fun z_ => (0 ≤ z_ ∧ z_ ≤ pn) ∧ (allX (wcP ce (60 * kk + ii)) z_)) (fun z_ => (pn - z_).toNat) 0 ⟨by (try dsimp only); omega, by (try dsimp only); intro x h1 h2; omega⟩ hw (lv_sub hl [0, 1, 2, 3, 4, 5, 6] rfl) ?_
          clear hw hl
          rintro pp ⟨hpp, hwc⟩ H locs ls hw hl ih_5
          replace hpp : 0 ≤ pp ∧ pp ≤ pn := hpp
          replace hwc : allX (wcP ce (60 * kk + ii)) pp := hwc
          replace hw : gW D A s.heap [cA G (a 2) 4 kd, cA G (a 3) 12 nu, cJ G (a 13) 8 vP, cJ G (a 14) 8 vS, cJ G (a 15) 8 vD, cJ G (a 16) 8 vQ, cA G (a 27) 240 ce, oX6 h a (F_bar sz ln ft kk lv ii pn) pn ra rm rP rS rD rQ al rw rc tr, cA G (a 25) 4 sz, cA G (a 26) 4 ln] H locs := hw
          replace hl : lv_has ls 8 [(6, .int (iI pp)), (5, .int (iI ((60 * kk) + ii))), (4, .int (iI ((R_bar sz ln kk lv ii pn)))), (0, .ref h), (1, .int (iI kk)), (2, .int (iI lv)), (3, .int (iI ii))] := hl
          replace ih_5 : ∀ (pp' : Int), ((0 ≤ pp' ∧ pp' ≤ pn) ∧ (allX (wcP ce (60 * kk + ii)) pp')) → ((pn - pp').toNat) < ((pn - pp).toNat) → ∀ (H : Heap) (locs : List Loc) (ls : Array Slot), gW D A s.heap [cA G (a 2) 4 kd, cA G (a 3) 12 nu, cJ G (a 13) 8 vP, cJ G (a 14) 8 vS, cJ G (a 15) 8 vD, cJ G (a 16) 8 vQ, cA G (a 27) 240 ce, oX6 h a (F_bar sz ln ft kk lv ii pn) pn ra rm rP rS rD rQ al rw rc tr, cA G (a 25) 4 sz, cA G (a 26) 4 ln] H locs → lv_has ls 8 [(6, .int (iI (pp'))), (5, .int (iI (((60 * kk) + ii)))), (4, .int (iI ((R_bar sz ln kk lv ii pn)))), (0, .ref h), (1, .int (iI kk)), (2, .int (iI lv)), (3, .int (iI ii))] → W p l e _ s m _ below meth c H locs _ _ _ (F0 m 79 ls []) := fun pp' => ih_5 pp'
          have hc9 := hce (60 * kk + ii + pp)
          refine g_iload C hl 0 rfl dX6_wish_79 ?_
          refine g_aload_n C hl 3 rfl rfl dX6_wish_81 ?_
          refine g_get C hw hin_X6_wish_X6 7 rfl rfl 1 (by decide) lk_X6_wish_75 rfl dX6_wish_82 ?_
          refine g_icmp_ge C 122 dX6_wish_85 (by decide) (by omega) (by omega) (fun c_6 => ?_) (fun c_6 => ?_)
          · skip
            refine g_aload_n C hl 3 rfl rfl dX6_wish_122 ?_
            refine g_callVv C hw (wr := [cA G (a 27) 240 ce, cA G (a 25) 4 sz, cA G (a 26) 4 ln]) (As := []) (rest := []) (m_X6_gathers l D G (h := h) (a := a) (ft := (F_bar sz ln ft kk lv ii pn)) (pn := pn) (ra := ra) (rm := rm) (rP := rP) (rS := rS) (rD := rD) (rQ := rQ) (al := al) (rw := rw) (rc := rc) (tr := tr) (kd := kd) (nu := nu) (vP := vP) (vS := vS) (vD := vD) (vQ := vQ) (by first | assumption | omega) (by first | assumption | omega) (by first | assumption | omega)) (cwV 0 C.1.2.2.2.2 gX6_wish_X6_gathers rfl rfl rfl (by decide +kernel) ⟨Nat.le_of_ble_eq_true rfl, Nat.le_of_ble_eq_true rfl⟩) [7, 0, 1, 2, 3, 4, 5] [6, 8, 9] rfl rfl (by decide) (by decide) (by decide) 0 rfl rfl rfl hl.1 _ rfl (Nat.le_of_ble_eq_true rfl) dX6_wish_123 ⟨Nat.le_of_ble_eq_true rfl, Nat.le_of_ble_eq_true rfl⟩ ?_
            clear hw
            rintro _ H locs ⟨r2P__7, r2S__8, r2D__9, r2Q__10, vP2__11, vS2__12, vD2__13, vQ2__14, rfl, hp_15⟩ hw
            have hw : gW D A s.heap [cA G (a 27) 240 ce, cA G (a 25) 4 sz, cA G (a 26) 4 ln, oX6 h a (F_bar sz ln ft kk lv ii pn) pn ra rm r2P__7 r2S__8 r2D__9 r2Q__10 ((ALn (exT pn kd nu) pn.toNat).length : Int) rw rc tr, cA G (a 2) 4 kd, cA G (a 3) 12 nu, cJ G (a 13) 8 vP2__11, cJ G (a 14) 8 vS2__12, cJ G (a 15) 8 vD2__13, cJ G (a 16) 8 vQ2__14] H locs := hw
            have hp_15 : MR (exT pn kd nu) (ALn (exT pn kd nu) pn.toNat) vP2__11 vS2__12 vD2__13 vQ2__14 := hp_15
            have hM := hp_15
            refine g_bipush C dX6_wish_126 (by decide) ?_
            refine g_istore C [(6, .int (iI ((-9)))), (5, .int (iI ((60 * kk) + ii))), (4, .int (iI ((R_bar sz ln kk lv ii pn)))), (0, .ref h), (1, .int (iI kk)), (2, .int (iI lv)), (3, .int (iI ii))] dX6_wish_128 hl (by decide) rfl ?_
            clear hl
            intro ls hl
            refine g_iconst C dX6_wish_130 ?_
            refine g_aload_n C hl 3 rfl rfl dX6_wish_131 ?_
            refine g_get C hw hin_X6_wish_X6 3 rfl rfl 12 (by decide) lk_X6_wish_167 rfl dX6_wish_132 ?_
            refine g_imul C dX6_wish_135 ?_
            refine g_istore C [(7, .int (iI (2 * ((ALn (exT pn kd nu) pn.toNat).length : Int)))), (6, .int (iI ((-9)))), (5, .int (iI ((60 * kk) + ii))), (4, .int (iI ((R_bar sz ln kk lv ii pn)))), (0, .ref h), (1, .int (iI kk)), (2, .int (iI lv)), (3, .int (iI ii))] dX6_wish_136 hl (by decide) rfl ?_
            clear hl
            intro ls hl
            refine g_loop (σ := (Int) × (Int) × (Int) × (Int) × (Int) × (Int)) (fun z_ => [cA G (a 27) 240 ce, cA G (a 25) 4 sz, cA G (a 26) 4 ln, oX6 h a (F_bar sz ln ft kk lv ii pn) pn ra rm z_.2.2.1 z_.2.2.2.1 z_.2.2.2.2.1 z_.2.2.2.2.2 ((ALn (exT pn kd nu) pn.toNat).length : Int) rw rc tr, cA G (a 2) 4 kd, cA G (a 3) 12 nu, cJ G (a 13) 8 vP2__11, cJ G (a 14) 8 vS2__12, cJ G (a 15) 8 vD2__13, cJ G (a 16) 8 vQ2__14]) (fun z_ => [(7, .int (iI (z_.2.1))), (6, .int (iI (z_.1))), (5, .int (iI (((60 * kk) + ii)))), (4, .int (iI ((R_bar sz ln kk lv ii pn)))), (0, .ref h), (1, .int (iI kk)), (2, .int (iI lv)), (3, .int (iI ii))]) (fun z_ => (-1 ≤ z_.2.1 ∧ z_.2.1 ≤ 2 * ((ALn (exT pn kd nu) pn.toNat).length : Int)) ∧ (z_.1 = lsF (mtB (exT pn kd nu) (ALn (exT pn kd nu) pn.toNat) pn ce (60 * kk + ii)) (z_.2.1 + 1) (2 * ((ALn (exT pn kd nu) pn.toNat).length : Int) - z_.2.1).toNat)) (fun z_ => (z_.2.1 + 1).toNat) ((-9), (2 * ((ALn (exT pn kd nu) pn.toNat).length : Int)), r2P__7, r2S__8, r2D__9, r2Q__10) ⟨by (try dsimp only); omega, by (try dsimp only); rw [show (2 * ((ALn (exT pn kd nu) pn.toNat).length : Int) - 2 * ((ALn (exT pn kd nu) pn.toNat).length : Int)).toNat = 0 by omega]; rfl⟩ hw (lv_sub hl [0, 1, 2, 3, 4, 5, 6, 7] rfl) ?_
            clear hw hl
            rintro ⟨fi, xx, gP, gS, gD, gQ⟩ ⟨hxx, hfi⟩ H locs ls hw hl ih_16
            replace hxx : -1 ≤ xx ∧ xx ≤ 2 * ((ALn (exT pn kd nu) pn.toNat).length : Int) := hxx
            replace hfi : fi = lsF (mtB (exT pn kd nu) (ALn (exT pn kd nu) pn.toNat) pn ce (60 * kk + ii)) (xx + 1) (2 * ((ALn (exT pn kd nu) pn.toNat).length : Int) - xx).toNat := hfi
            replace hw : gW D A s.heap [cA G (a 27) 240 ce, cA G (a 25) 4 sz, cA G (a 26) 4 ln, oX6 h a (F_bar sz ln ft kk lv ii pn) pn ra rm gP gS gD gQ ((ALn (exT pn kd nu) pn.toNat).length : Int) rw rc tr, cA G (a 2) 4 kd, cA G (a 3) 12 nu, cJ G (a 13) 8 vP2__11, cJ G (a 14) 8 vS2__12, cJ G (a 15) 8 vD2__13, cJ G (a 16) 8 vQ2__14] H locs := hw
            replace hl : lv_has ls 8 [(7, .int (iI xx)), (6, .int (iI fi)), (5, .int (iI ((60 * kk) + ii))), (4, .int (iI ((R_bar sz ln kk lv ii pn)))), (0, .ref h), (1, .int (iI kk)), (2, .int (iI lv)), (3, .int (iI ii))] := hl
            replace ih_16 : ∀ (fi' : Int) (xx' : Int) (gP' : Int) (gS' : Int) (gD' : Int) (gQ' : Int), ((-1 ≤ xx' ∧ xx' ≤ 2 * ((ALn (exT pn kd nu) pn.toNat).length : Int)) ∧ (fi' = lsF (mtB (exT pn kd nu) (ALn (exT pn kd nu) pn.toNat) pn ce (60 * kk + ii)) (xx' + 1) (2 * ((ALn (exT pn kd nu) pn.toNat).length : Int) - xx').toNat)) → ((xx' + 1).toNat) < ((xx + 1).toNat) → ∀ (H : Heap) (locs : List Loc) (ls : Array Slot), gW D A s.heap [cA G (a 27) 240 ce, cA G (a 25) 4 sz, cA G (a 26) 4 ln, oX6 h a (F_bar sz ln ft kk lv ii pn) pn ra rm gP' gS' gD' gQ' ((ALn (exT pn kd nu) pn.toNat).length : Int) rw rc tr, cA G (a 2) 4 kd, cA G (a 3) 12 nu, cJ G (a 13) 8 vP2__11, cJ G (a 14) 8 vS2__12, cJ G (a 15) 8 vD2__13, cJ G (a 16) 8 vQ2__14] H locs → lv_has ls 8 [(7, .int (iI (xx'))), (6, .int (iI (fi'))), (5, .int (iI (((60 * kk) + ii)))), (4, .int (iI ((R_bar sz ln kk lv ii pn)))), (0, .ref h), (1, .int (iI kk)), (2, .int (iI lv)), (3, .int (iI ii))] → W p l e _ s m _ below meth c H locs _ _ _ (F0 m 138 ls []) := fun fi' xx' gP' gS' gD' gQ' => ih_16 (fi', xx', gP', gS', gD', gQ')
            refine g_iload C hl 0 rfl dX6_wish_138 ?_
            refine g_if_lt C 169 dX6_wish_140 (by decide) (by omega) (fun c_17 => ?_) (fun c_17 => ?_)
            · skip
              refine g_aload_n C hl 4 rfl rfl dX6_wish_169 ?_
              refine g_iload C hl 1 rfl dX6_wish_170 ?_
              refine g_callVi C hw (wr := [cA G (a 27) 240 ce, cA G (a 25) 4 sz, cA G (a 26) 4 ln, cA G (a 2) 4 kd, cA G (a 3) 12 nu, cJ G (a 13) 8 vP2__11, cJ G (a 14) 8 vS2__12, cJ G (a 15) 8 vD2__13, cJ G (a 16) 8 vQ2__14]) (As := [.int (iI fi)]) (rest := []) (m_X6_refused l D G (h := h) (a := a) (ft := (F_bar sz ln ft kk lv ii pn)) (pn := pn) (ra := ra) (rm := rm) (rP := gP) (rS := gS) (rD := gD) (rQ := gQ) (al := ((ALn (exT pn kd nu) pn.toNat).length : Int)) (rw := rw) (rc := rc) (tr := tr) (cd := fi) ) (cwV 1 C.1.2.2.2.2 gX6_wish_X6_refused rfl rfl rfl (by decide +kernel) ⟨Nat.le_of_ble_eq_true rfl, Nat.le_of_ble_eq_true rfl⟩) [3] [0, 1, 2, 4, 5, 6, 7, 8, 9] rfl rfl (by decide) (by decide) (by decide) 0 rfl rfl rfl hl.1 _ rfl (Nat.le_of_ble_eq_true rfl) dX6_wish_172 ⟨Nat.le_of_ble_eq_true rfl, Nat.le_of_ble_eq_true rfl⟩ ?_
              clear hw
              rintro _ _ H locs ⟨rfl, rfl⟩ hw
              have hw : gW D A s.heap [cA G (a 27) 240 ce, cA G (a 25) 4 sz, cA G (a 26) 4 ln, cA G (a 2) 4 kd, cA G (a 3) 12 nu, cJ G (a 13) 8 vP2__11, cJ G (a 14) 8 vS2__12, cJ G (a 15) 8 vD2__13, cJ G (a 16) 8 vQ2__14, oX6 h a 0 pn ra rm gP gS gD gQ ((ALn (exT pn kd nu) pn.toNat).length : Int) rw rc tr] H locs := hw
              have w9 : W_st pn kk lv = 0 := by unfold W_st; (repeat' split) <;> omega
              obtain ⟨wr9, wf9⟩ := R_wsh_4 (n := pn) (E := (exT pn kd nu)) (L := (ALn (exT pn kd nu) pn.toNat)) (sz := sz) (ln := ln) (ce := ce) (k := kk) (lane := lv) (i := ii) w9 b1 (by rw [show pn = pp by omega]; exact hwc)
              exact g_iret C hr (ws' := [oX6 h a 0 pn ra rm gP gS gD gQ ((ALn (exT pn kd nu) pn.toNat).length : Int) rw rc tr, cA G (a 2) 4 kd, cA G (a 3) 12 nu, cJ G (a 13) 8 vP2__11, cJ G (a 14) 8 vS2__12, cJ G (a 15) 8 vD2__13, cJ G (a 16) 8 vQ2__14, cA G (a 25) 4 sz, cA G (a 26) 4 ln, cA G (a 27) 240 ce]) hw [9, 3, 4, 5, 6, 7, 8, 1, 2, 0] (by decide) rfl ⟨((ALn (exT pn kd nu) pn.toNat).length : Int), gP, gS, gD, gQ, vP2__11, vS2__12, vD2__13, vQ2__14, (congrArg iI (by rw [wr9, hfi, show xx + 1 = 0 by omega, show (2 * ((ALn (exT pn kd nu) pn.toNat).length : Int) - xx).toNat = 2 * (ALn (exT pn kd nu) pn.toNat).length + 1 by omega])), (by rw [wf9])⟩ dX6_wish_175
            · skip
              refine g_aload_n C hl 4 rfl rfl dX6_wish_143 ?_
              refine g_iload C hl 0 rfl dX6_wish_144 ?_
              refine g_iload C hl 2 rfl dX6_wish_146 ?_
              refine g_callVi C hw (wr := [cA G (a 25) 4 sz, cA G (a 26) 4 ln]) (As := [.int (iI xx), .int (iI ((60 * kk) + ii))]) (rest := []) (m_X6_meets l D G (h := h) (a := a) (ft := (F_bar sz ln ft kk lv ii pn)) (pn := pn) (ra := ra) (rm := rm) (rP := gP) (rS := gS) (rD := gD) (rQ := gQ) (al := ((ALn (exT pn kd nu) pn.toNat).length : Int)) (rw := rw) (rc := rc) (tr := tr) (kd := kd) (nu := nu) (vP := vP2__11) (vS := vS2__12) (vD := vD2__13) (vQ := vQ2__14) (ce := ce) (kk := xx) (fr := ((60 * kk) + ii)) (by first | assumption | omega) (by first | assumption | omega) (by first | assumption | omega) (by rfl) (by exact hM) (by first | assumption | omega) (by first | assumption | omega) (by first | assumption | omega)) (cwV 2 C.1.2.2.2.2 gX6_wish_X6_meets rfl rfl rfl (by decide +kernel) ⟨Nat.le_of_ble_eq_true rfl, Nat.le_of_ble_eq_true rfl⟩) [3, 4, 5, 6, 7, 8, 9, 0] [1, 2] rfl rfl (by decide) (by decide) (by decide) 0 rfl rfl rfl hl.1 _ rfl (Nat.le_of_ble_eq_true rfl) dX6_wish_148 ⟨Nat.le_of_ble_eq_true rfl, Nat.le_of_ble_eq_true rfl⟩ ?_
              clear hw
              rintro _ _ H locs ⟨r2P__18, r2S__19, r2D__20, r2Q__21, rfl, rfl⟩ hw
              have hw : gW D A s.heap [cA G (a 25) 4 sz, cA G (a 26) 4 ln, oX6 h a (F_bar sz ln ft kk lv ii pn) pn ra rm r2P__18 r2S__19 r2D__20 r2Q__21 ((ALn (exT pn kd nu) pn.toNat).length : Int) rw rc tr, cA G (a 2) 4 kd, cA G (a 3) 12 nu, cJ G (a 13) 8 vP2__11, cJ G (a 14) 8 vS2__12, cJ G (a 15) 8 vD2__13, cJ G (a 16) 8 vQ2__14, cA G (a 27) 240 ce] H locs := hw
              refine g_ifb_eq C 159 dX6_wish_151 (by decide) (fun c_22 => ?_) (fun c_22 => ?_)
              · skip
                refine g_iload C hl 1 rfl dX6_wish_159 ?_
                refine g_istore C [(6, .int (iI fi)), (7, .int (iI xx)), (5, .int (iI ((60 * kk) + ii))), (4, .int (iI ((R_bar sz ln kk lv ii pn)))), (0, .ref h), (1, .int (iI kk)), (2, .int (iI lv)), (3, .int (iI ii))] dX6_wish_161 hl (by decide) rfl ?_
                clear hl
                intro ls hl
                refine g_iinc C [(7, .int (iI (xx + (-1)))), (6, .int (iI fi)), (5, .int (iI ((60 * kk) + ii))), (4, .int (iI ((R_bar sz ln kk lv ii pn)))), (0, .ref h), (1, .int (iI kk)), (2, .int (iI lv)), (3, .int (iI ii))] 1 dX6_wish_163 hl rfl (by decide) rfl ?_
                clear hl
                intro ls hl
                refine g_goto C 138 dX6_wish_166 (by decide) ?_
                have hw : gW D A s.heap [cA G (a 27) 240 ce, cA G (a 25) 4 sz, cA G (a 26) 4 ln, oX6 h a (F_bar sz ln ft kk lv ii pn) pn ra rm r2P__18 r2S__19 r2D__20 r2Q__21 ((ALn (exT pn kd nu) pn.toNat).length : Int) rw rc tr, cA G (a 2) 4 kd, cA G (a 3) 12 nu, cJ G (a 13) 8 vP2__11, cJ G (a 14) 8 vS2__12, cJ G (a 15) 8 vD2__13, cJ G (a 16) 8 vQ2__14] H locs := g_perm hw [9, 0, 1, 2, 3, 4, 5, 6, 7, 8] (by decide) rfl
                exact ih_16 fi (xx + (-1)) r2P__18 r2S__19 r2D__20 r2Q__21 ⟨by omega, by rw [show 2 * ((ALn (exT pn kd nu) pn.toNat).length : Int) - (xx + (-1)) = (2 * ((ALn (exT pn kd nu) pn.toNat).length : Int) - xx) + 1 by omega, show xx + (-1) + 1 = xx by omega, lsF_s (by omega)]; first | (rw [if_pos (by assumption)]; done) | (rw [if_neg (by assumption), hfi]; done)⟩ (by omega) H locs ls hw (lv_sub hl [0, 1, 2, 3, 4, 5, 6, 7] rfl)
              · skip
                refine g_iload C hl 0 rfl dX6_wish_154 ?_
                refine g_goto C 161 dX6_wish_156 (by decide) ?_
                refine g_istore C [(6, .int (iI xx)), (7, .int (iI xx)), (5, .int (iI ((60 * kk) + ii))), (4, .int (iI ((R_bar sz ln kk lv ii pn)))), (0, .ref h), (1, .int (iI kk)), (2, .int (iI lv)), (3, .int (iI ii))] dX6_wish_161 hl (by decide) rfl ?_
                clear hl
                intro ls hl
                refine g_iinc C [(7, .int (iI (xx + (-1)))), (6, .int (iI xx)), (5, .int (iI ((60 * kk) + ii))), (4, .int (iI ((R_bar sz ln kk lv ii pn)))), (0, .ref h), (1, .int (iI kk)), (2, .int (iI lv)), (3, .int (iI ii))] 1 dX6_wish_163 hl rfl (by decide) rfl ?_
                clear hl
                intro ls hl
                refine g_goto C 138 dX6_wish_166 (by decide) ?_
                have hw : gW D A s.heap [cA G (a 27) 240 ce, cA G (a 25) 4 sz, cA G (a 26) 4 ln, oX6 h a (F_bar sz ln ft kk lv ii pn) pn ra rm r2P__18 r2S__19 r2D__20 r2Q__21 ((ALn (exT pn kd nu) pn.toNat).length : Int) rw rc tr, cA G (a 2) 4 kd, cA G (a 3) 12 nu, cJ G (a 13) 8 vP2__11, cJ G (a 14) 8 vS2__12, cJ G (a 15) 8 vD2__13, cJ G (a 16) 8 vQ2__14] H locs := g_perm hw [9, 0, 1, 2, 3, 4, 5, 6, 7, 8] (by decide) rfl
                exact ih_16 xx (xx + (-1)) r2P__18 r2S__19 r2D__20 r2Q__21 ⟨by omega, by rw [show 2 * ((ALn (exT pn kd nu) pn.toNat).length : Int) - (xx + (-1)) = (2 * ((ALn (exT pn kd nu) pn.toNat).length : Int) - xx) + 1 by omega, show xx + (-1) + 1 = xx by omega, lsF_s (by omega)]; first | (rw [if_pos (by assumption)]; done) | (rw [if_neg (by assumption), hfi]; done)⟩ (by omega) H locs ls hw (lv_sub hl [0, 1, 2, 3, 4, 5, 6, 7] rfl)
          · skip
            refine g_aload_n C hl 3 rfl rfl dX6_wish_88 ?_
            refine g_get C hw hin_X6_wish_X6 7 rfl rfl 27 (by decide) lk_X6_wish_59 rfl dX6_wish_89 ?_
            refine g_iload C hl 1 rfl dX6_wish_92 ?_
            refine g_iload C hl 0 rfl dX6_wish_94 ?_
            refine g_iadd C dX6_wish_96 ?_
            refine g_iald C hw 6 rfl (by omega) (Nat.le_of_ble_eq_true rfl) dX6_wish_97 ?_
            refine g_i2l C dX6_wish_98 (by omega) ?_
            refine g_lconst0 C dX6_wish_99 ?_
            refine g_ldc2 C (3) cn_X6_wish_235 (by decide +kernel) dX6_wish_100 ?_
            refine g_callSi C hw (wr := [cA G (a 2) 4 kd, cA G (a 3) 12 nu, cJ G (a 13) 8 vP, cJ G (a 14) 8 vS, cJ G (a 15) 8 vD, cJ G (a 16) 8 vQ, cA G (a 27) 240 ce, oX6 h a (F_bar sz ln ft kk lv ii pn) pn ra rm rP rS rD rQ al rw rc tr, cA G (a 25) 4 sz, cA G (a 26) 4 ln]) (As := [.long (lI (ce (((60 * kk) + ii) + pp))), .long (lI (0)), .long (lI (3))]) (rest := []) (m_X6_in l D G (va := (ce (((60 * kk) + ii) + pp))) (vb := 0) (vc := 3) (by first | assumption | omega) (by first | assumption | omega) (by first | assumption | omega)) (va_cwS 3 C.1.2.2.2.2 gX6_wish_X6_in rfl rfl rfl (by decide +kernel) ⟨Nat.le_of_ble_eq_true rfl, Nat.le_of_ble_eq_true rfl⟩) [] [0, 1, 2, 3, 4, 5, 6, 7, 8, 9] rfl rfl (by decide) (by decide) (by decide) rfl hl.1 _ rfl (Nat.le_of_ble_eq_true rfl) dX6_wish_103 ⟨Nat.le_of_ble_eq_true rfl, Nat.le_of_ble_eq_true rfl⟩ ?_
            clear hw
            rintro _ _ H locs ⟨rfl, rfl⟩ hw
            have hw : gW D A s.heap [cA G (a 2) 4 kd, cA G (a 3) 12 nu, cJ G (a 13) 8 vP, cJ G (a 14) 8 vS, cJ G (a 15) 8 vD, cJ G (a 16) 8 vQ, cA G (a 27) 240 ce, oX6 h a (F_bar sz ln ft kk lv ii pn) pn ra rm rP rS rD rQ al rw rc tr, cA G (a 25) 4 sz, cA G (a 26) 4 ln] H locs := hw
            refine g_ifb_ne C 116 dX6_wish_106 (by decide) (fun c_23 => ?_) (fun c_23 => ?_)
            · skip
              refine g_iinc C [(6, .int (iI (pp + 1))), (5, .int (iI ((60 * kk) + ii))), (4, .int (iI ((R_bar sz ln kk lv ii pn)))), (0, .ref h), (1, .int (iI kk)), (2, .int (iI lv)), (3, .int (iI ii))] 0 dX6_wish_116 hl rfl (by decide) rfl ?_
              clear hl
              intro ls hl
              refine g_goto C 79 dX6_wish_119 (by decide) ?_
              have hw : gW D A s.heap [cA G (a 2) 4 kd, cA G (a 3) 12 nu, cJ G (a 13) 8 vP, cJ G (a 14) 8 vS, cJ G (a 15) 8 vD, cJ G (a 16) 8 vQ, cA G (a 27) 240 ce, oX6 h a (F_bar sz ln ft kk lv ii pn) pn ra rm rP rS rD rQ al rw rc tr, cA G (a 25) 4 sz, cA G (a 26) 4 ln] H locs := g_perm hw [0, 1, 2, 3, 4, 5, 6, 7, 8, 9] (by decide) rfl
              exact ih_5 (pp + 1) ⟨by omega, by exact allX_s hwc (wcP_t (by omega))⟩ (by omega) H locs ls hw (lv_sub hl [0, 1, 2, 3, 4, 5, 6] rfl)
            · skip
              refine g_aload_n C hl 3 rfl rfl dX6_wish_109 ?_
              refine g_bipush C dX6_wish_110 (by decide) ?_
              refine g_callVi C hw (wr := [cA G (a 2) 4 kd, cA G (a 3) 12 nu, cJ G (a 13) 8 vP, cJ G (a 14) 8 vS, cJ G (a 15) 8 vD, cJ G (a 16) 8 vQ, cA G (a 27) 240 ce, cA G (a 25) 4 sz, cA G (a 26) 4 ln]) (As := [.int (iI ((-2)))]) (rest := []) (m_X6_refused l D G (h := h) (a := a) (ft := (F_bar sz ln ft kk lv ii pn)) (pn := pn) (ra := ra) (rm := rm) (rP := rP) (rS := rS) (rD := rD) (rQ := rQ) (al := al) (rw := rw) (rc := rc) (tr := tr) (cd := (-2)) ) (cwV 1 C.1.2.2.2.2 gX6_wish_X6_refused rfl rfl rfl (by decide +kernel) ⟨Nat.le_of_ble_eq_true rfl, Nat.le_of_ble_eq_true rfl⟩) [7] [0, 1, 2, 3, 4, 5, 6, 8, 9] rfl rfl (by decide) (by decide) (by decide) 0 rfl rfl rfl hl.1 _ rfl (Nat.le_of_ble_eq_true rfl) dX6_wish_112 ⟨Nat.le_of_ble_eq_true rfl, Nat.le_of_ble_eq_true rfl⟩ ?_
              clear hw
              rintro _ _ H locs ⟨rfl, rfl⟩ hw
              have hw : gW D A s.heap [cA G (a 2) 4 kd, cA G (a 3) 12 nu, cJ G (a 13) 8 vP, cJ G (a 14) 8 vS, cJ G (a 15) 8 vD, cJ G (a 16) 8 vQ, cA G (a 27) 240 ce, cA G (a 25) 4 sz, cA G (a 26) 4 ln, oX6 h a 0 pn ra rm rP rS rD rQ al rw rc tr] H locs := hw
              have w9 : W_st pn kk lv = 0 := by unfold W_st; (repeat' split) <;> omega
              obtain ⟨wr9, wf9⟩ := R_wsh_3 (n := pn) (E := (exT pn kd nu)) (L := (ALn (exT pn kd nu) pn.toNat)) (sz := sz) (ln := ln) (ce := ce) (k := kk) (lane := lv) (i := ii) w9 b1 (fun q => absurd (q pp (by omega) (by omega)) (by rw [wcP_f (by omega)]; exact Bool.false_ne_true))
              exact g_iret C hr (ws' := [oX6 h a 0 pn ra rm rP rS rD rQ al rw rc tr, cA G (a 2) 4 kd, cA G (a 3) 12 nu, cJ G (a 13) 8 vP, cJ G (a 14) 8 vS, cJ G (a 15) 8 vD, cJ G (a 16) 8 vQ, cA G (a 25) 4 sz, cA G (a 26) 4 ln, cA G (a 27) 240 ce]) hw [9, 0, 1, 2, 3, 4, 5, 7, 8, 6] (by decide) rfl ⟨al, rP, rS, rD, rQ, vP, vS, vD, vQ, (congrArg iI (by exact wr9.symm)), (by rw [wf9])⟩ dX6_wish_115
        · skip
          refine g_iload C hl 0 rfl dX6_wish_65 ?_
          obtain ⟨b1, b2, b3⟩ := R_bar_c (by omega : R_bar sz ln kk lv ii pn < 0)
          have w9 : W_st pn kk lv = 0 := by unfold W_st; (repeat' split) <;> omega
          obtain ⟨wr9, wf9⟩ := R_wsh_2 (n := pn) (E := (exT pn kd nu)) (L := (ALn (exT pn kd nu) pn.toNat)) (sz := sz) (ln := ln) (ce := ce) (k := kk) (lane := lv) (i := ii) w9 b1
          rw [← b2] at wr9
          have b4 := b3 ft
          rw [← b4] at wf9
          exact g_iret C hr (ws' := [oX6 h a (F_bar sz ln ft kk lv ii pn) pn ra rm rP rS rD rQ al rw rc tr, cA G (a 2) 4 kd, cA G (a 3) 12 nu, cJ G (a 13) 8 vP, cJ G (a 14) 8 vS, cJ G (a 15) 8 vD, cJ G (a 16) 8 vQ, cA G (a 25) 4 sz, cA G (a 26) 4 ln, cA G (a 27) 240 ce]) hw [7, 0, 1, 2, 3, 4, 5, 8, 9, 6] (by decide) rfl ⟨al, rP, rS, rD, rQ, vP, vS, vD, vQ, (congrArg iI (by exact wr9.symm)), (by rw [wf9])⟩ dX6_wish_67
      · skip
        refine g_aload_n C hl 0 rfl rfl dX6_wish_39 ?_
        refine g_bipush C dX6_wish_40 (by decide) ?_
        refine g_callVi C hw (wr := [cA G (a 2) 4 kd, cA G (a 3) 12 nu, cJ G (a 13) 8 vP, cJ G (a 14) 8 vS, cJ G (a 15) 8 vD, cJ G (a 16) 8 vQ, cA G (a 25) 4 sz, cA G (a 26) 4 ln, cA G (a 27) 240 ce]) (As := [.int (iI ((-2)))]) (rest := []) (m_X6_refused l D G (h := h) (a := a) (ft := ft) (pn := pn) (ra := ra) (rm := rm) (rP := rP) (rS := rS) (rD := rD) (rQ := rQ) (al := al) (rw := rw) (rc := rc) (tr := tr) (cd := (-2)) ) (cwV 1 C.1.2.2.2.2 gX6_wish_X6_refused rfl rfl rfl (by decide +kernel) ⟨Nat.le_of_ble_eq_true rfl, Nat.le_of_ble_eq_true rfl⟩) [0] [1, 2, 3, 4, 5, 6, 7, 8, 9] rfl rfl (by decide) (by decide) (by decide) 0 rfl rfl rfl hl.1 _ rfl (Nat.le_of_ble_eq_true rfl) dX6_wish_42 ⟨Nat.le_of_ble_eq_true rfl, Nat.le_of_ble_eq_true rfl⟩ ?_
        clear hw
        rintro _ _ H locs ⟨rfl, rfl⟩ hw
        have hw : gW D A s.heap [cA G (a 2) 4 kd, cA G (a 3) 12 nu, cJ G (a 13) 8 vP, cJ G (a 14) 8 vS, cJ G (a 15) 8 vD, cJ G (a 16) 8 vQ, cA G (a 25) 4 sz, cA G (a 26) 4 ln, cA G (a 27) 240 ce, oX6 h a 0 pn ra rm rP rS rD rQ al rw rc tr] H locs := hw
        have w9 : W_st pn kk lv = -2 := by unfold W_st; (repeat' split) <;> omega
        obtain ⟨wr9, wf9⟩ := R_wsh_1 (n := pn) (E := (exT pn kd nu)) (L := (ALn (exT pn kd nu) pn.toNat)) (sz := sz) (ln := ln) (ce := ce) (k := kk) (lane := lv) (i := ii) (by rw [w9]; decide)
        rw [w9] at wr9
        exact g_iret C hr (ws' := [oX6 h a 0 pn ra rm rP rS rD rQ al rw rc tr, cA G (a 2) 4 kd, cA G (a 3) 12 nu, cJ G (a 13) 8 vP, cJ G (a 14) 8 vS, cJ G (a 15) 8 vD, cJ G (a 16) 8 vQ, cA G (a 25) 4 sz, cA G (a 26) 4 ln, cA G (a 27) 240 ce]) hw [9, 0, 1, 2, 3, 4, 5, 6, 7, 8] (by decide) rfl ⟨al, rP, rS, rD, rQ, vP, vS, vD, vQ, (congrArg iI (by exact wr9.symm)), (by rw [wf9])⟩ dX6_wish_45
    · skip
      refine g_aload_n C hl 0 rfl rfl dX6_wish_21 ?_
      refine g_iconst C dX6_wish_22 ?_
      refine g_callVi C hw (wr := [cA G (a 2) 4 kd, cA G (a 3) 12 nu, cJ G (a 13) 8 vP, cJ G (a 14) 8 vS, cJ G (a 15) 8 vD, cJ G (a 16) 8 vQ, cA G (a 25) 4 sz, cA G (a 26) 4 ln, cA G (a 27) 240 ce]) (As := [.int (iI ((-1)))]) (rest := []) (m_X6_refused l D G (h := h) (a := a) (ft := ft) (pn := pn) (ra := ra) (rm := rm) (rP := rP) (rS := rS) (rD := rD) (rQ := rQ) (al := al) (rw := rw) (rc := rc) (tr := tr) (cd := (-1)) ) (cwV 1 C.1.2.2.2.2 gX6_wish_X6_refused rfl rfl rfl (by decide +kernel) ⟨Nat.le_of_ble_eq_true rfl, Nat.le_of_ble_eq_true rfl⟩) [0] [1, 2, 3, 4, 5, 6, 7, 8, 9] rfl rfl (by decide) (by decide) (by decide) 0 rfl rfl rfl hl.1 _ rfl (Nat.le_of_ble_eq_true rfl) dX6_wish_23 ⟨Nat.le_of_ble_eq_true rfl, Nat.le_of_ble_eq_true rfl⟩ ?_
      clear hw
      rintro _ _ H locs ⟨rfl, rfl⟩ hw
      have hw : gW D A s.heap [cA G (a 2) 4 kd, cA G (a 3) 12 nu, cJ G (a 13) 8 vP, cJ G (a 14) 8 vS, cJ G (a 15) 8 vD, cJ G (a 16) 8 vQ, cA G (a 25) 4 sz, cA G (a 26) 4 ln, cA G (a 27) 240 ce, oX6 h a 0 pn ra rm rP rS rD rQ al rw rc tr] H locs := hw
      have w9 : W_st pn kk lv = -1 := by unfold W_st; (repeat' split) <;> omega
      obtain ⟨wr9, wf9⟩ := R_wsh_1 (n := pn) (E := (exT pn kd nu)) (L := (ALn (exT pn kd nu) pn.toNat)) (sz := sz) (ln := ln) (ce := ce) (k := kk) (lane := lv) (i := ii) (by rw [w9]; decide)
      rw [w9] at wr9
      exact g_iret C hr (ws' := [oX6 h a 0 pn ra rm rP rS rD rQ al rw rc tr, cA G (a 2) 4 kd, cA G (a 3) 12 nu, cJ G (a 13) 8 vP, cJ G (a 14) 8 vS, cJ G (a 15) 8 vD, cJ G (a 16) 8 vQ, cA G (a 25) 4 sz, cA G (a 26) 4 ln, cA G (a 27) 240 ce]) hw [9, 0, 1, 2, 3, 4, 5, 6, 7, 8] (by decide) rfl ⟨al, rP, rS, rD, rQ, vP, vS, vD, vQ, (congrArg iI (by exact wr9.symm)), (by rw [wf9])⟩ dX6_wish_26
  · skip
    refine g_aload_n C hl 0 rfl rfl dX6_wish_7 ?_
    refine g_bipush C dX6_wish_8 (by decide) ?_
    refine g_callVi C hw (wr := [cA G (a 2) 4 kd, cA G (a 3) 12 nu, cJ G (a 13) 8 vP, cJ G (a 14) 8 vS, cJ G (a 15) 8 vD, cJ G (a 16) 8 vQ, cA G (a 25) 4 sz, cA G (a 26) 4 ln, cA G (a 27) 240 ce]) (As := [.int (iI ((-3)))]) (rest := []) (m_X6_refused l D G (h := h) (a := a) (ft := ft) (pn := pn) (ra := ra) (rm := rm) (rP := rP) (rS := rS) (rD := rD) (rQ := rQ) (al := al) (rw := rw) (rc := rc) (tr := tr) (cd := (-3)) ) (cwV 1 C.1.2.2.2.2 gX6_wish_X6_refused rfl rfl rfl (by decide +kernel) ⟨Nat.le_of_ble_eq_true rfl, Nat.le_of_ble_eq_true rfl⟩) [0] [1, 2, 3, 4, 5, 6, 7, 8, 9] rfl rfl (by decide) (by decide) (by decide) 0 rfl rfl rfl hl.1 _ rfl (Nat.le_of_ble_eq_true rfl) dX6_wish_10 ⟨Nat.le_of_ble_eq_true rfl, Nat.le_of_ble_eq_true rfl⟩ ?_
    clear hw
    rintro _ _ H locs ⟨rfl, rfl⟩ hw
    have hw : gW D A s.heap [cA G (a 2) 4 kd, cA G (a 3) 12 nu, cJ G (a 13) 8 vP, cJ G (a 14) 8 vS, cJ G (a 15) 8 vD, cJ G (a 16) 8 vQ, cA G (a 25) 4 sz, cA G (a 26) 4 ln, cA G (a 27) 240 ce, oX6 h a 0 pn ra rm rP rS rD rQ al rw rc tr] H locs := hw
    have w9 : W_st pn kk lv = -3 := by unfold W_st; (repeat' split) <;> omega
    obtain ⟨wr9, wf9⟩ := R_wsh_1 (n := pn) (E := (exT pn kd nu)) (L := (ALn (exT pn kd nu) pn.toNat)) (sz := sz) (ln := ln) (ce := ce) (k := kk) (lane := lv) (i := ii) (by rw [w9]; decide)
    rw [w9] at wr9
    exact g_iret C hr (ws' := [oX6 h a 0 pn ra rm rP rS rD rQ al rw rc tr, cA G (a 2) 4 kd, cA G (a 3) 12 nu, cJ G (a 13) 8 vP, cJ G (a 14) 8 vS, cJ G (a 15) 8 vD, cJ G (a 16) 8 vQ, cA G (a 25) 4 sz, cA G (a 26) 4 ln, cA G (a 27) 240 ce]) hw [9, 0, 1, 2, 3, 4, 5, 6, 7, 8] (by decide) rfl ⟨al, rP, rS, rD, rQ, vP, vS, vD, vQ, (congrArg iI (by exact wr9.symm)), (by rw [wf9])⟩ dX6_wish_13

set_option maxRecDepth 20000 in
theorem hin_X6_dayOf_X6 : ∀ w ∈ u_ws RX6 TX6 30, w ∈ wsX6_dayOf := by
  intro w h
  exact List.mem_cons_of_mem _ (List.mem_append_right _ (h))
set_option maxRecDepth 20000 in
theorem lk_X6_dayOf_213 : Cond.fieldLink RX6 213 (TX6 20).1 (TX6 20).2.1 (TX6 20).2.2.1 ∈ wsX6_dayOf := List.mem_cons_of_mem _ (List.mem_append_left _ (List.mem_append_left _ (List.mem_of_getElem? (i := 2) rfl)))
set_option maxRecDepth 20000 in
theorem lk_X6_dayOf_167 : Cond.fieldLink RX6 167 (TX6 12).1 (TX6 12).2.1 (TX6 12).2.2.1 ∈ wsX6_dayOf := List.mem_cons_of_mem _ (List.mem_append_left _ (List.mem_append_left _ (List.mem_of_getElem? (i := 1) rfl)))
set_option maxRecDepth 20000 in
theorem lk_X6_dayOf_59 : Cond.fieldLink RX6 59 (TX6 27).1 (TX6 27).2.1 (TX6 27).2.2.1 ∈ wsX6_dayOf := List.mem_cons_of_mem _ (List.mem_append_left _ (List.mem_append_left _ (List.mem_of_getElem? (i := 0) rfl)))
set_option maxRecDepth 100000 in
set_option maxHeartbeats 8000000 in
theorem m_X6_dayOf (l : Launch) (D : va_G) (G : gT) (h : Nat) (a : Nat → Nat) (ft : Int) (pn : Int) (ra : Int) (rm : Int) (rP : Int) (rS : Int) (rD : Int) (rQ : Int) (al : Int) (rw : Int) (rc : Int) (tr : Int) (kd : Int → Int) (nu : Int → Int) (vP : Int → Int) (vS : Int → Int) (vD : Int → Int) (vQ : Int → Int) (wA : Int → Int) (fA : Int → Int) (ce : Int → Int) (fr : Int) (mm : Int) (wh : Int) (hkd : kdOK kd) (hnu : nuOK nu) (hn : 0 ≤ pn ∧ pn ≤ 4) (hce : ∀ j, -2147483648 ≤ ce j ∧ ce j ≤ 2147483647) (hfr : 0 ≤ fr) (hmm : 0 ≤ mm ∧ mm ≤ 20) (hfm : fr + 3 * mm ≤ 240) (hwh : (0 ≤ wh ∧ wh ≤ 4) ∨ (10 ≤ wh ∧ wh ≤ 13)) (hdc : allX (dcP ce fr) mm) : gMi l yX6_dayOf wsX6_dayOf ({ frames := 6, cells := 0, slots := 0, locals := 149 }) D G [.ref h, .int (iI fr), .int (iI mm), .int (iI wh)] [oX6 h a ft pn ra rm rP rS rD rQ al rw rc tr, cA G (a 2) 4 kd, cA G (a 3) 12 nu, cJ G (a 13) 8 vP, cJ G (a 14) 8 vS, cJ G (a 15) 8 vD, cJ G (a 16) 8 vQ, cA G (a 18) 17 wA, cA G (a 19) 17 fA, cA G (a 27) 240 ce] 0 0 (fun (r : Int32) (w : va_W) => ∃ (al2 : Int) (rw2 : Int) (r2P : Int) (r2S : Int) (r2D : Int) (r2Q : Int) (vP2 : Int → Int) (vS2 : Int → Int) (vD2 : Int → Int) (vQ2 : Int → Int) (wA2 : Int → Int) (fA2 : Int → Int) (nu2 : Int → Int), r = (iI (R_dyo pn kd nu ce fr mm wh)) ∧ w = [oX6 h a ft pn ra rm r2P r2S r2D r2Q al2 rw2 rc tr, cA G (a 2) 4 kd, cA G (a 3) 12 nu2, cJ G (a 13) 8 vP2, cJ G (a 14) 8 vS2, cJ G (a 15) 8 vD2, cJ G (a 16) 8 vQ2, cA G (a 18) 17 wA2, cA G (a 19) 17 fA2, cA G (a 27) 240 ce] ∧ (∀ j, ¬ (0 ≤ j ∧ j < 3 * pn) → nu2 j = nu j)) := by
  refine g_start_i (cc := cX6_dayOf) (nL := 7) (own := RX6) (ret := some .int) (by decide +kernel) rfl rfl (Nat.le_of_ble_eq_true rfl) ?_
  intro p e s m below meth c A ls C hr hnm hw hl
  have hl : lv_has ls 7 [(0, .ref h), (1, .int (iI fr)), (2, .int (iI mm)), (3, .int (iI wh))] := hl
  have hls := lsF_r (fwP pn ce fr) mm.toNat 0
  refine g_bipush C dX6_dayOf_0 (by decide) ?_
  refine g_istore C [(4, .int (iI ((-9)))), (0, .ref h), (1, .int (iI fr)), (2, .int (iI mm)), (3, .int (iI wh))] dX6_dayOf_2 hl (by decide) rfl ?_
  clear hl
  intro ls hl
  refine g_iconst C dX6_dayOf_4 ?_
  refine g_istore C [(5, .int (iI 0)), (4, .int (iI ((-9)))), (0, .ref h), (1, .int (iI fr)), (2, .int (iI mm)), (3, .int (iI wh))] dX6_dayOf_5 hl (by decide) rfl ?_
  clear hl
  intro ls hl
  refine g_loop (σ := (Int) × (Int) × (Int → Int)) (fun z_ => [oX6 h a ft pn ra rm rP rS rD rQ al rw rc tr, cA G (a 2) 4 kd, cA G (a 3) 12 z_.2.2, cJ G (a 13) 8 vP, cJ G (a 14) 8 vS, cJ G (a 15) 8 vD, cJ G (a 16) 8 vQ, cA G (a 18) 17 wA, cA G (a 19) 17 fA, cA G (a 27) 240 ce]) (fun z_ => [(5, .int (iI (z_.2.1))), (4, .int (iI (z_.1))), (0, .ref h), (1, .int (iI fr)), (2, .int (iI mm)), (3, .int (iI wh))]) (fun z_ => (0 ≤ z_.2.1 ∧ z_.2.1 ≤ mm) ∧ (nuOK z_.2.2) ∧ (∀ j, ¬ (0 ≤ j ∧ j < 3 * pn) → z_.2.2 j = nu j) ∧ ((z_.1 = -9 ∧ lsF (fwP pn ce fr) 0 mm.toNat = lsF (fwP pn ce fr) z_.2.1 (mm - z_.2.1).toNat ∧ z_.2.2 = dyF pn nu ce fr z_.2.1.toNat) ∨ (0 ≤ z_.1 ∧ z_.1 < z_.2.1 ∧ z_.1 = lsF (fwP pn ce fr) 0 mm.toNat))) (fun z_ => (mm - z_.2.1).toNat) ((-9), 0, nu) ⟨by (try dsimp only); omega, by (try dsimp only); exact hnu, by (try dsimp only); exact fun _ _ => rfl, by (try dsimp only); exact Or.inl ⟨rfl, by rw [show mm - 0 = mm by omega], rfl⟩⟩ hw (lv_sub hl [0, 1, 2, 3, 4, 5] rfl) ?_
  clear hw hl
  rintro ⟨wr, xx, nu1⟩ ⟨hxx, hok, hout, hst⟩ H locs ls hw hl ih_1
  replace hxx : 0 ≤ xx ∧ xx ≤ mm := hxx
  replace hok : nuOK nu1 := hok
  replace hout : ∀ j, ¬ (0 ≤ j ∧ j < 3 * pn) → nu1 j = nu j := hout
  replace hst : (wr = -9 ∧ lsF (fwP pn ce fr) 0 mm.toNat = lsF (fwP pn ce fr) xx (mm - xx).toNat ∧ nu1 = dyF pn nu ce fr xx.toNat) ∨ (0 ≤ wr ∧ wr < xx ∧ wr = lsF (fwP pn ce fr) 0 mm.toNat) := hst
  replace hw : gW D A s.heap [oX6 h a ft pn ra rm rP rS rD rQ al rw rc tr, cA G (a 2) 4 kd, cA G (a 3) 12 nu1, cJ G (a 13) 8 vP, cJ G (a 14) 8 vS, cJ G (a 15) 8 vD, cJ G (a 16) 8 vQ, cA G (a 18) 17 wA, cA G (a 19) 17 fA, cA G (a 27) 240 ce] H locs := hw
  replace hl : lv_has ls 7 [(5, .int (iI xx)), (4, .int (iI wr)), (0, .ref h), (1, .int (iI fr)), (2, .int (iI mm)), (3, .int (iI wh))] := hl
  replace ih_1 : ∀ (wr' : Int) (xx' : Int) (nu1' : Int → Int), ((0 ≤ xx' ∧ xx' ≤ mm) ∧ (nuOK nu1') ∧ (∀ j, ¬ (0 ≤ j ∧ j < 3 * pn) → nu1' j = nu j) ∧ ((wr' = -9 ∧ lsF (fwP pn ce fr) 0 mm.toNat = lsF (fwP pn ce fr) xx' (mm - xx').toNat ∧ nu1' = dyF pn nu ce fr xx'.toNat) ∨ (0 ≤ wr' ∧ wr' < xx' ∧ wr' = lsF (fwP pn ce fr) 0 mm.toNat))) → ((mm - xx').toNat) < ((mm - xx).toNat) → ∀ (H : Heap) (locs : List Loc) (ls : Array Slot), gW D A s.heap [oX6 h a ft pn ra rm rP rS rD rQ al rw rc tr, cA G (a 2) 4 kd, cA G (a 3) 12 nu1', cJ G (a 13) 8 vP, cJ G (a 14) 8 vS, cJ G (a 15) 8 vD, cJ G (a 16) 8 vQ, cA G (a 18) 17 wA, cA G (a 19) 17 fA, cA G (a 27) 240 ce] H locs → lv_has ls 7 [(5, .int (iI (xx'))), (4, .int (iI (wr'))), (0, .ref h), (1, .int (iI fr)), (2, .int (iI mm)), (3, .int (iI wh))] → W p l e _ s m _ below meth c H locs _ _ _ (F0 m 7 ls []) := fun wr' xx' nu1' => ih_1 (wr', xx', nu1')
  have c0 := hce (fr + 3 * xx)
  have c1 := hce (fr + 3 * xx + 1)
  have c2 := hce (fr + 3 * xx + 2)
  have hn0 := hok (3 * ce (fr + 3 * xx) + ce (fr + 3 * xx + 1))
  have hwb : wr = -9 ∨ (0 ≤ wr ∧ wr ≤ 20) := by rcases hst with ⟨q, -⟩ | ⟨q, q2, -⟩ <;> omega
  refine g_iload C hl 0 rfl dX6_dayOf_7 ?_
  refine g_iload_n C hl 4 rfl rfl dX6_dayOf_9 ?_
  refine g_icmp_ge C 73 dX6_dayOf_10 (by decide) (by omega) (by omega) (fun c_2 => ?_) (fun c_2 => ?_)
  · skip
    have hfin : wr = lsF (fwP pn ce fr) 0 mm.toNat := by
      rcases hst with ⟨q1, q2, -⟩ | ⟨-, -, q⟩
      · rw [q2, show (mm - xx).toNat = 0 by omega]; exact q1
      · exact q
    refine g_iload_n C hl 5 rfl rfl dX6_dayOf_73 ?_
    refine g_iconst C dX6_dayOf_74 ?_
    refine g_icmp_ne C 81 dX6_dayOf_75 (by decide) (by omega) (by omega) (fun c_3 => ?_) (fun c_3 => ?_)
    · skip
      refine g_iload C hl 1 rfl dX6_dayOf_81 ?_
      refine g_if_lt C 92 dX6_dayOf_83 (by decide) (by omega) (fun c_4 => ?_) (fun c_4 => ?_)
      · skip
        have hnu9 : nu1 = dyF pn nu ce fr mm.toNat := by
          rcases hst with ⟨q1, -, q3⟩ | ⟨q, -⟩
          · rw [q3, show xx = mm by omega]
          · omega
        have hnr := nR_r (exT pn kd nu1) (wh - 10)
        have hlen := ALn_len (exT pn kd nu1) pn.toNat
        refine g_iload_n C hl 5 rfl rfl dX6_dayOf_92 ?_
        refine g_bipush C dX6_dayOf_93 (by decide) ?_
        refine g_icmp_lt C 123 dX6_dayOf_95 (by decide) (by omega) (by omega) (fun c_5 => ?_) (fun c_5 => ?_)
        · skip
          refine g_aload_n C hl 2 rfl rfl dX6_dayOf_123 ?_
          refine g_callVv C hw (wr := [cA G (a 27) 240 ce]) (As := []) (rest := []) (m_X6_rowsOf l D G (h := h) (a := a) (ft := ft) (pn := pn) (ra := ra) (rm := rm) (rP := rP) (rS := rS) (rD := rD) (rQ := rQ) (al := al) (rw := rw) (rc := rc) (tr := tr) (kd := kd) (nu := nu1) (vP := vP) (vS := vS) (vD := vD) (vQ := vQ) (wA := wA) (fA := fA) (by first | assumption | omega) (by first | assumption | omega) (by first | assumption | omega)) (cwV 0 C.1.2.2.2.2 gX6_dayOf_X6_rowsOf rfl rfl rfl (by decide +kernel) ⟨Nat.le_of_ble_eq_true rfl, Nat.le_of_ble_eq_true rfl⟩) [0, 1, 2, 3, 4, 5, 6, 7, 8] [9] rfl rfl (by decide) (by decide) (by decide) 0 rfl rfl rfl hl.1 _ rfl (Nat.le_of_ble_eq_true rfl) dX6_dayOf_124 ⟨Nat.le_of_ble_eq_true rfl, Nat.le_of_ble_eq_true rfl⟩ ?_
          clear hw
          rintro _ H locs ⟨r2P__6, r2S__7, r2D__8, r2Q__9, vP2__10, vS2__11, vD2__12, vQ2__13, wA2__14, fA2__15, rfl, hp_16, hp_17, hp_18⟩ hw
          have hw : gW D A s.heap [cA G (a 27) 240 ce, oX6 h a ft pn ra rm r2P__6 r2S__7 r2D__8 r2Q__9 ((ALn (exT pn kd nu1) pn.toNat).length : Int) ((fsL (exT pn kd nu1) (ALn (exT pn kd nu1) pn.toNat) pn (2 * (ALn (exT pn kd nu1) pn.toNat).length + 1)).length : Int) rc tr, cA G (a 2) 4 kd, cA G (a 3) 12 nu1, cJ G (a 13) 8 vP2__10, cJ G (a 14) 8 vS2__11, cJ G (a 15) 8 vD2__12, cJ G (a 16) 8 vQ2__13, cA G (a 18) 17 wA2__14, cA G (a 19) 17 fA2__15] H locs := hw
          have hp_16 : MR (exT pn kd nu1) (ALn (exT pn kd nu1) pn.toNat) vP2__10 vS2__11 vD2__12 vQ2__13 := hp_16
          have hp_17 : ∀ j : Nat, (j : Int) ≤ 2 * ((ALn (exT pn kd nu1) pn.toNat).length : Int) → wA2__14 j = rwN (exT pn kd nu1) (ALn (exT pn kd nu1) pn.toNat) pn j := hp_17
          have hp_18 : hasL fA2__15 (fsL (exT pn kd nu1) (ALn (exT pn kd nu1) pn.toNat) pn (2 * (ALn (exT pn kd nu1) pn.toNat).length + 1)) := hp_18
          have hM := hp_16
          refine g_iload_n C hl 5 rfl rfl dX6_dayOf_127 ?_
          refine g_if_ne C 138 dX6_dayOf_128 (by decide) (by omega) (fun c_19 => ?_) (fun c_19 => ?_)
          · skip
            refine g_iload_n C hl 5 rfl rfl dX6_dayOf_138 ?_
            refine g_iconst C dX6_dayOf_139 ?_
            refine g_icmp_ne C 150 dX6_dayOf_140 (by decide) (by omega) (by omega) (fun c_20 => ?_) (fun c_20 => ?_)
            · skip
              refine g_iload_n C hl 5 rfl rfl dX6_dayOf_150 ?_
              refine g_iconst C dX6_dayOf_151 ?_
              refine g_icmp_ne C 162 dX6_dayOf_152 (by decide) (by omega) (by omega) (fun c_21 => ?_) (fun c_21 => ?_)
              · skip
                refine g_aload_n C hl 2 rfl rfl dX6_dayOf_162 ?_
                refine g_callVi C hw (wr := [cA G (a 27) 240 ce, cJ G (a 13) 8 vP2__10, cJ G (a 14) 8 vS2__11, cJ G (a 15) 8 vD2__12, cJ G (a 16) 8 vQ2__13, cA G (a 18) 17 wA2__14, cA G (a 19) 17 fA2__15]) (As := []) (rest := []) (m_X6_rootless l D G (h := h) (a := a) (ft := ft) (pn := pn) (ra := ra) (rm := rm) (rP := r2P__6) (rS := r2S__7) (rD := r2D__8) (rQ := r2Q__9) (al := ((ALn (exT pn kd nu1) pn.toNat).length : Int)) (rw := ((fsL (exT pn kd nu1) (ALn (exT pn kd nu1) pn.toNat) pn (2 * (ALn (exT pn kd nu1) pn.toNat).length + 1)).length : Int)) (rc := rc) (tr := tr) (kd := kd) (nu := nu1) (by first | assumption | omega) (by first | assumption | omega) (by first | assumption | omega)) (cwV 0 C.1.2.2.2.2 gX6_dayOf_X6_rootless rfl rfl rfl (by decide +kernel) ⟨Nat.le_of_ble_eq_true rfl, Nat.le_of_ble_eq_true rfl⟩) [1, 2, 3] [0, 4, 5, 6, 7, 8, 9] rfl rfl (by decide) (by decide) (by decide) 0 rfl rfl rfl hl.1 _ rfl (Nat.le_of_ble_eq_true rfl) dX6_dayOf_163 ⟨Nat.le_of_ble_eq_true rfl, Nat.le_of_ble_eq_true rfl⟩ ?_
                clear hw
                rintro _ _ H locs ⟨rfl, rfl⟩ hw
                have hw : gW D A s.heap [cA G (a 27) 240 ce, cJ G (a 13) 8 vP2__10, cJ G (a 14) 8 vS2__11, cJ G (a 15) 8 vD2__12, cJ G (a 16) 8 vQ2__13, cA G (a 18) 17 wA2__14, cA G (a 19) 17 fA2__15, oX6 h a ft pn ra rm r2P__6 r2S__7 r2D__8 r2Q__9 ((ALn (exT pn kd nu1) pn.toNat).length : Int) ((fsL (exT pn kd nu1) (ALn (exT pn kd nu1) pn.toNat) pn (2 * (ALn (exT pn kd nu1) pn.toNat).length + 1)).length : Int) rc tr, cA G (a 2) 4 kd, cA G (a 3) 12 nu1] H locs := hw
                exact g_iret C hr (ws' := [oX6 h a ft pn ra rm r2P__6 r2S__7 r2D__8 r2Q__9 ((ALn (exT pn kd nu1) pn.toNat).length : Int) ((fsL (exT pn kd nu1) (ALn (exT pn kd nu1) pn.toNat) pn (2 * (ALn (exT pn kd nu1) pn.toNat).length + 1)).length : Int) rc tr, cA G (a 2) 4 kd, cA G (a 3) 12 nu1, cJ G (a 13) 8 vP2__10, cJ G (a 14) 8 vS2__11, cJ G (a 15) 8 vD2__12, cJ G (a 16) 8 vQ2__13, cA G (a 18) 17 wA2__14, cA G (a 19) 17 fA2__15, cA G (a 27) 240 ce]) hw [7, 8, 9, 1, 2, 3, 4, 5, 6, 0] (by decide) rfl ⟨((ALn (exT pn kd nu1) pn.toNat).length : Int), ((fsL (exT pn kd nu1) (ALn (exT pn kd nu1) pn.toNat) pn (2 * (ALn (exT pn kd nu1) pn.toNat).length + 1)).length : Int), r2P__6, r2S__7, r2D__8, r2Q__9, vP2__10, vS2__11, vD2__12, vQ2__13, wA2__14, fA2__15, nu1, (congrArg iI (by unfold R_dyo; first | (rw [if_pos (by omega)]; exact hfin) | (rw [if_neg (by omega), if_pos (by omega)]; omega) | (rw [if_neg (by omega), if_neg (by omega), ← hnu9]; unfold R_end; (repeat' split) <;> omega))), rfl, (by exact hout)⟩ dX6_dayOf_166
              · skip
                refine g_aload_n C hl 2 rfl rfl dX6_dayOf_155 ?_
                refine g_callVi C hw (wr := [cA G (a 27) 240 ce, cA G (a 18) 17 wA2__14, cA G (a 19) 17 fA2__15]) (As := []) (rest := []) (m_X6_allAbove l D G (h := h) (a := a) (ft := ft) (pn := pn) (ra := ra) (rm := rm) (rP := r2P__6) (rS := r2S__7) (rD := r2D__8) (rQ := r2Q__9) (al := ((ALn (exT pn kd nu1) pn.toNat).length : Int)) (rw := ((fsL (exT pn kd nu1) (ALn (exT pn kd nu1) pn.toNat) pn (2 * (ALn (exT pn kd nu1) pn.toNat).length + 1)).length : Int)) (rc := rc) (tr := tr) (kd := kd) (nu := nu1) (vP := vP2__10) (vS := vS2__11) (vD := vD2__12) (vQ := vQ2__13) (by first | assumption | omega) (by first | assumption | omega) (by first | assumption | omega) (by rfl) (by exact hM)) (cwV 0 C.1.2.2.2.2 gX6_dayOf_X6_allAbove rfl rfl rfl (by decide +kernel) ⟨Nat.le_of_ble_eq_true rfl, Nat.le_of_ble_eq_true rfl⟩) [1, 2, 3, 4, 5, 6, 7] [0, 8, 9] rfl rfl (by decide) (by decide) (by decide) 0 rfl rfl rfl hl.1 _ rfl (Nat.le_of_ble_eq_true rfl) dX6_dayOf_156 ⟨Nat.le_of_ble_eq_true rfl, Nat.le_of_ble_eq_true rfl⟩ ?_
                clear hw
                rintro _ _ H locs ⟨r2P__22, r2S__23, r2D__24, r2Q__25, rfl, rfl⟩ hw
                have hw : gW D A s.heap [cA G (a 27) 240 ce, cA G (a 18) 17 wA2__14, cA G (a 19) 17 fA2__15, oX6 h a ft pn ra rm r2P__22 r2S__23 r2D__24 r2Q__25 ((ALn (exT pn kd nu1) pn.toNat).length : Int) ((fsL (exT pn kd nu1) (ALn (exT pn kd nu1) pn.toNat) pn (2 * (ALn (exT pn kd nu1) pn.toNat).length + 1)).length : Int) rc tr, cA G (a 2) 4 kd, cA G (a 3) 12 nu1, cJ G (a 13) 8 vP2__10, cJ G (a 14) 8 vS2__11, cJ G (a 15) 8 vD2__12, cJ G (a 16) 8 vQ2__13] H locs := hw
                refine g_goto C 166 dX6_dayOf_159 (by decide) ?_
                exact g_iret C hr (ws' := [oX6 h a ft pn ra rm r2P__22 r2S__23 r2D__24 r2Q__25 ((ALn (exT pn kd nu1) pn.toNat).length : Int) ((fsL (exT pn kd nu1) (ALn (exT pn kd nu1) pn.toNat) pn (2 * (ALn (exT pn kd nu1) pn.toNat).length + 1)).length : Int) rc tr, cA G (a 2) 4 kd, cA G (a 3) 12 nu1, cJ G (a 13) 8 vP2__10, cJ G (a 14) 8 vS2__11, cJ G (a 15) 8 vD2__12, cJ G (a 16) 8 vQ2__13, cA G (a 18) 17 wA2__14, cA G (a 19) 17 fA2__15, cA G (a 27) 240 ce]) hw [3, 4, 5, 6, 7, 8, 9, 1, 2, 0] (by decide) rfl ⟨((ALn (exT pn kd nu1) pn.toNat).length : Int), ((fsL (exT pn kd nu1) (ALn (exT pn kd nu1) pn.toNat) pn (2 * (ALn (exT pn kd nu1) pn.toNat).length + 1)).length : Int), r2P__22, r2S__23, r2D__24, r2Q__25, vP2__10, vS2__11, vD2__12, vQ2__13, wA2__14, fA2__15, nu1, (congrArg iI (by unfold R_dyo; first | (rw [if_pos (by omega)]; exact hfin) | (rw [if_neg (by omega), if_pos (by omega)]; omega) | (rw [if_neg (by omega), if_neg (by omega), ← hnu9]; unfold R_end; (repeat' split) <;> omega))), rfl, (by exact hout)⟩ dX6_dayOf_166
            · skip
              refine g_aload_n C hl 2 rfl rfl dX6_dayOf_143 ?_
              refine g_get C hw hin_X6_dayOf_X6 1 rfl rfl 20 (by decide) lk_X6_dayOf_213 rfl dX6_dayOf_144 ?_
              refine g_goto C 166 dX6_dayOf_147 (by decide) ?_
              exact g_iret C hr (ws' := [oX6 h a ft pn ra rm r2P__6 r2S__7 r2D__8 r2Q__9 ((ALn (exT pn kd nu1) pn.toNat).length : Int) ((fsL (exT pn kd nu1) (ALn (exT pn kd nu1) pn.toNat) pn (2 * (ALn (exT pn kd nu1) pn.toNat).length + 1)).length : Int) rc tr, cA G (a 2) 4 kd, cA G (a 3) 12 nu1, cJ G (a 13) 8 vP2__10, cJ G (a 14) 8 vS2__11, cJ G (a 15) 8 vD2__12, cJ G (a 16) 8 vQ2__13, cA G (a 18) 17 wA2__14, cA G (a 19) 17 fA2__15, cA G (a 27) 240 ce]) hw [1, 2, 3, 4, 5, 6, 7, 8, 9, 0] (by decide) rfl ⟨((ALn (exT pn kd nu1) pn.toNat).length : Int), ((fsL (exT pn kd nu1) (ALn (exT pn kd nu1) pn.toNat) pn (2 * (ALn (exT pn kd nu1) pn.toNat).length + 1)).length : Int), r2P__6, r2S__7, r2D__8, r2Q__9, vP2__10, vS2__11, vD2__12, vQ2__13, wA2__14, fA2__15, nu1, (congrArg iI (by unfold R_dyo; first | (rw [if_pos (by omega)]; exact hfin) | (rw [if_neg (by omega), if_pos (by omega)]; omega) | (rw [if_neg (by omega), if_neg (by omega), ← hnu9]; unfold R_end; (repeat' split) <;> omega))), rfl, (by exact hout)⟩ dX6_dayOf_166
          · skip
            refine g_aload_n C hl 2 rfl rfl dX6_dayOf_131 ?_
            refine g_get C hw hin_X6_dayOf_X6 1 rfl rfl 12 (by decide) lk_X6_dayOf_167 rfl dX6_dayOf_132 ?_
            refine g_goto C 166 dX6_dayOf_135 (by decide) ?_
            exact g_iret C hr (ws' := [oX6 h a ft pn ra rm r2P__6 r2S__7 r2D__8 r2Q__9 ((ALn (exT pn kd nu1) pn.toNat).length : Int) ((fsL (exT pn kd nu1) (ALn (exT pn kd nu1) pn.toNat) pn (2 * (ALn (exT pn kd nu1) pn.toNat).length + 1)).length : Int) rc tr, cA G (a 2) 4 kd, cA G (a 3) 12 nu1, cJ G (a 13) 8 vP2__10, cJ G (a 14) 8 vS2__11, cJ G (a 15) 8 vD2__12, cJ G (a 16) 8 vQ2__13, cA G (a 18) 17 wA2__14, cA G (a 19) 17 fA2__15, cA G (a 27) 240 ce]) hw [1, 2, 3, 4, 5, 6, 7, 8, 9, 0] (by decide) rfl ⟨((ALn (exT pn kd nu1) pn.toNat).length : Int), ((fsL (exT pn kd nu1) (ALn (exT pn kd nu1) pn.toNat) pn (2 * (ALn (exT pn kd nu1) pn.toNat).length + 1)).length : Int), r2P__6, r2S__7, r2D__8, r2Q__9, vP2__10, vS2__11, vD2__12, vQ2__13, wA2__14, fA2__15, nu1, (congrArg iI (by unfold R_dyo; first | (rw [if_pos (by omega)]; exact hfin) | (rw [if_neg (by omega), if_pos (by omega)]; omega) | (rw [if_neg (by omega), if_neg (by omega), ← hnu9]; unfold R_end; (repeat' split) <;> omega))), rfl, (by exact hout)⟩ dX6_dayOf_166
        · skip
          refine g_aload_n C hl 2 rfl rfl dX6_dayOf_98 ?_
          refine g_iload_n C hl 5 rfl rfl dX6_dayOf_99 ?_
          refine g_bipush C dX6_dayOf_100 (by decide) ?_
          refine g_isub C dX6_dayOf_102 ?_
          refine g_callVi C hw (wr := [cA G (a 2) 4 kd, cA G (a 3) 12 nu1, cJ G (a 13) 8 vP, cJ G (a 14) 8 vS, cJ G (a 15) 8 vD, cJ G (a 16) 8 vQ, cA G (a 18) 17 wA, cA G (a 19) 17 fA, cA G (a 27) 240 ce]) (As := [.int (iI (wh - 10))]) (rest := []) (m_X6_noPolynomial l D G (h := h) (a := a) (ft := ft) (pn := pn) (ra := ra) (rm := rm) (rP := rP) (rS := rS) (rD := rD) (rQ := rQ) (al := al) (rw := rw) (rc := rc) (tr := tr) (pp := (wh - 10)) (by first | assumption | omega) (by first | assumption | omega)) (cwV 1 C.1.2.2.2.2 gX6_dayOf_X6_noPolynomial rfl rfl rfl (by decide +kernel) ⟨Nat.le_of_ble_eq_true rfl, Nat.le_of_ble_eq_true rfl⟩) [0] [1, 2, 3, 4, 5, 6, 7, 8, 9] rfl rfl (by decide) (by decide) (by decide) 0 rfl rfl rfl hl.1 _ rfl (Nat.le_of_ble_eq_true rfl) dX6_dayOf_103 ⟨Nat.le_of_ble_eq_true rfl, Nat.le_of_ble_eq_true rfl⟩ ?_
          clear hw
          rintro _ _ H locs ⟨rfl, rfl⟩ hw
          have hw : gW D A s.heap [cA G (a 2) 4 kd, cA G (a 3) 12 nu1, cJ G (a 13) 8 vP, cJ G (a 14) 8 vS, cJ G (a 15) 8 vD, cJ G (a 16) 8 vQ, cA G (a 18) 17 wA, cA G (a 19) 17 fA, cA G (a 27) 240 ce, oX6 h a ft pn ra rm rP rS rD rQ al rw rc tr] H locs := hw
          refine g_ifb_eq C 114 dX6_dayOf_106 (by decide) (fun c_26 => ?_) (fun c_26 => ?_)
          · skip
            refine g_aload_n C hl 2 rfl rfl dX6_dayOf_114 ?_
            refine g_iload_n C hl 5 rfl rfl dX6_dayOf_115 ?_
            refine g_bipush C dX6_dayOf_116 (by decide) ?_
            refine g_isub C dX6_dayOf_118 ?_
            refine g_callVi C hw (wr := [cJ G (a 13) 8 vP, cJ G (a 14) 8 vS, cJ G (a 15) 8 vD, cJ G (a 16) 8 vQ, cA G (a 18) 17 wA, cA G (a 19) 17 fA, cA G (a 27) 240 ce]) (As := [.int (iI (wh - 10))]) (rest := []) (m_X6_rootsOf l D G (h := h) (a := a) (ft := ft) (pn := pn) (ra := ra) (rm := rm) (rP := rP) (rS := rS) (rD := rD) (rQ := rQ) (al := al) (rw := rw) (rc := rc) (tr := tr) (kd := kd) (nu := nu1) (pp := (wh - 10)) (by first | assumption | omega) (by first | assumption | omega) (by first | assumption | omega) (by first | assumption | omega)) (cwV 1 C.1.2.2.2.2 gX6_dayOf_X6_rootsOf rfl rfl rfl (by decide +kernel) ⟨Nat.le_of_ble_eq_true rfl, Nat.le_of_ble_eq_true rfl⟩) [9, 0, 1] [2, 3, 4, 5, 6, 7, 8] rfl rfl (by decide) (by decide) (by decide) 0 rfl rfl rfl hl.1 _ rfl (Nat.le_of_ble_eq_true rfl) dX6_dayOf_119 ⟨Nat.le_of_ble_eq_true rfl, Nat.le_of_ble_eq_true rfl⟩ ?_
            clear hw
            rintro _ _ H locs ⟨rfl, rfl⟩ hw
            have hw : gW D A s.heap [cJ G (a 13) 8 vP, cJ G (a 14) 8 vS, cJ G (a 15) 8 vD, cJ G (a 16) 8 vQ, cA G (a 18) 17 wA, cA G (a 19) 17 fA, cA G (a 27) 240 ce, oX6 h a ft pn ra rm rP rS rD rQ al rw rc tr, cA G (a 2) 4 kd, cA G (a 3) 12 nu1] H locs := hw
            exact g_iret C hr (ws' := [oX6 h a ft pn ra rm rP rS rD rQ al rw rc tr, cA G (a 2) 4 kd, cA G (a 3) 12 nu1, cJ G (a 13) 8 vP, cJ G (a 14) 8 vS, cJ G (a 15) 8 vD, cJ G (a 16) 8 vQ, cA G (a 18) 17 wA, cA G (a 19) 17 fA, cA G (a 27) 240 ce]) hw [7, 8, 9, 0, 1, 2, 3, 4, 5, 6] (by decide) rfl ⟨al, rw, rP, rS, rD, rQ, vP, vS, vD, vQ, wA, fA, nu1, (congrArg iI (by unfold R_dyo; first | (rw [if_pos (by omega)]; exact hfin) | (rw [if_neg (by omega), if_pos (by omega)]; omega) | (rw [if_neg (by omega), if_neg (by omega), ← hnu9]; unfold R_end; (repeat' split) <;> omega))), rfl, (by exact hout)⟩ dX6_dayOf_122
          · skip
            refine g_bipush C dX6_dayOf_109 (by decide) ?_
            refine g_goto C 122 dX6_dayOf_111 (by decide) ?_
            exact g_iret C hr (ws' := [oX6 h a ft pn ra rm rP rS rD rQ al rw rc tr, cA G (a 2) 4 kd, cA G (a 3) 12 nu1, cJ G (a 13) 8 vP, cJ G (a 14) 8 vS, cJ G (a 15) 8 vD, cJ G (a 16) 8 vQ, cA G (a 18) 17 wA, cA G (a 19) 17 fA, cA G (a 27) 240 ce]) hw [9, 0, 1, 2, 3, 4, 5, 6, 7, 8] (by decide) rfl ⟨al, rw, rP, rS, rD, rQ, vP, vS, vD, vQ, wA, fA, nu1, (congrArg iI (by unfold R_dyo; first | (rw [if_pos (by omega)]; exact hfin) | (rw [if_neg (by omega), if_pos (by omega)]; omega) | (rw [if_neg (by omega), if_neg (by omega), ← hnu9]; unfold R_end; (repeat' split) <;> omega))), rfl, (by exact hout)⟩ dX6_dayOf_122
      · skip
        refine g_bipush C dX6_dayOf_86 (by decide) ?_
        refine g_iload C hl 1 rfl dX6_dayOf_88 ?_
        refine g_isub C dX6_dayOf_90 ?_
        exact g_iret C hr (ws' := [oX6 h a ft pn ra rm rP rS rD rQ al rw rc tr, cA G (a 2) 4 kd, cA G (a 3) 12 nu1, cJ G (a 13) 8 vP, cJ G (a 14) 8 vS, cJ G (a 15) 8 vD, cJ G (a 16) 8 vQ, cA G (a 18) 17 wA, cA G (a 19) 17 fA, cA G (a 27) 240 ce]) hw [0, 1, 2, 3, 4, 5, 6, 7, 8, 9] (by decide) rfl ⟨al, rw, rP, rS, rD, rQ, vP, vS, vD, vQ, wA, fA, nu1, (congrArg iI (by unfold R_dyo; first | (rw [if_pos (by omega)]; exact hfin) | (rw [if_neg (by omega), if_pos (by omega)]; omega) | (rw [if_neg (by omega), if_neg (by omega), ← hnu9]; unfold R_end; (repeat' split) <;> omega))), rfl, (by exact hout)⟩ dX6_dayOf_91
    · skip
      refine g_iload C hl 1 rfl dX6_dayOf_78 ?_
      exact g_iret C hr (ws' := [oX6 h a ft pn ra rm rP rS rD rQ al rw rc tr, cA G (a 2) 4 kd, cA G (a 3) 12 nu1, cJ G (a 13) 8 vP, cJ G (a 14) 8 vS, cJ G (a 15) 8 vD, cJ G (a 16) 8 vQ, cA G (a 18) 17 wA, cA G (a 19) 17 fA, cA G (a 27) 240 ce]) hw [0, 1, 2, 3, 4, 5, 6, 7, 8, 9] (by decide) rfl ⟨al, rw, rP, rS, rD, rQ, vP, vS, vD, vQ, wA, fA, nu1, (congrArg iI (by unfold R_dyo; first | (rw [if_pos (by omega)]; exact hfin) | (rw [if_neg (by omega), if_pos (by omega)]; omega) | (rw [if_neg (by omega), if_neg (by omega), ← hnu9]; unfold R_end; (repeat' split) <;> omega))), rfl, (by exact hout)⟩ dX6_dayOf_80
  · skip
    refine g_iload C hl 1 rfl dX6_dayOf_13 ?_
    refine g_if_ge C 73 dX6_dayOf_15 (by decide) (by omega) (fun c_27 => ?_) (fun c_27 => ?_)
    · skip
      have hfin : wr = lsF (fwP pn ce fr) 0 mm.toNat := by
        rcases hst with ⟨q1, q2, -⟩ | ⟨-, -, q⟩
        · rw [q2, show (mm - xx).toNat = 0 by omega]; exact q1
        · exact q
      refine g_iload_n C hl 5 rfl rfl dX6_dayOf_73 ?_
      refine g_iconst C dX6_dayOf_74 ?_
      refine g_icmp_ne C 81 dX6_dayOf_75 (by decide) (by omega) (by omega) (fun c_28 => ?_) (fun c_28 => ?_)
      · skip
        refine g_iload C hl 1 rfl dX6_dayOf_81 ?_
        refine g_if_lt C 92 dX6_dayOf_83 (by decide) (by omega) (fun c_29 => ?_) (fun c_29 => ?_)
        · skip
          have hnu9 : nu1 = dyF pn nu ce fr mm.toNat := by
            rcases hst with ⟨q1, -, q3⟩ | ⟨q, -⟩
            · rw [q3, show xx = mm by omega]
            · omega
          have hnr := nR_r (exT pn kd nu1) (wh - 10)
          have hlen := ALn_len (exT pn kd nu1) pn.toNat
          refine g_iload_n C hl 5 rfl rfl dX6_dayOf_92 ?_
          refine g_bipush C dX6_dayOf_93 (by decide) ?_
          refine g_icmp_lt C 123 dX6_dayOf_95 (by decide) (by omega) (by omega) (fun c_30 => ?_) (fun c_30 => ?_)
          · skip
            refine g_aload_n C hl 2 rfl rfl dX6_dayOf_123 ?_
            refine g_callVv C hw (wr := [cA G (a 27) 240 ce]) (As := []) (rest := []) (m_X6_rowsOf l D G (h := h) (a := a) (ft := ft) (pn := pn) (ra := ra) (rm := rm) (rP := rP) (rS := rS) (rD := rD) (rQ := rQ) (al := al) (rw := rw) (rc := rc) (tr := tr) (kd := kd) (nu := nu1) (vP := vP) (vS := vS) (vD := vD) (vQ := vQ) (wA := wA) (fA := fA) (by first | assumption | omega) (by first | assumption | omega) (by first | assumption | omega)) (cwV 0 C.1.2.2.2.2 gX6_dayOf_X6_rowsOf rfl rfl rfl (by decide +kernel) ⟨Nat.le_of_ble_eq_true rfl, Nat.le_of_ble_eq_true rfl⟩) [0, 1, 2, 3, 4, 5, 6, 7, 8] [9] rfl rfl (by decide) (by decide) (by decide) 0 rfl rfl rfl hl.1 _ rfl (Nat.le_of_ble_eq_true rfl) dX6_dayOf_124 ⟨Nat.le_of_ble_eq_true rfl, Nat.le_of_ble_eq_true rfl⟩ ?_
            clear hw
            rintro _ H locs ⟨r2P__31, r2S__32, r2D__33, r2Q__34, vP2__35, vS2__36, vD2__37, vQ2__38, wA2__39, fA2__40, rfl, hp_41, hp_42, hp_43⟩ hw
            have hw : gW D A s.heap [cA G (a 27) 240 ce, oX6 h a ft pn ra rm r2P__31 r2S__32 r2D__33 r2Q__34 ((ALn (exT pn kd nu1) pn.toNat).length : Int) ((fsL (exT pn kd nu1) (ALn (exT pn kd nu1) pn.toNat) pn (2 * (ALn (exT pn kd nu1) pn.toNat).length + 1)).length : Int) rc tr, cA G (a 2) 4 kd, cA G (a 3) 12 nu1, cJ G (a 13) 8 vP2__35, cJ G (a 14) 8 vS2__36, cJ G (a 15) 8 vD2__37, cJ G (a 16) 8 vQ2__38, cA G (a 18) 17 wA2__39, cA G (a 19) 17 fA2__40] H locs := hw
            have hp_41 : MR (exT pn kd nu1) (ALn (exT pn kd nu1) pn.toNat) vP2__35 vS2__36 vD2__37 vQ2__38 := hp_41
            have hp_42 : ∀ j : Nat, (j : Int) ≤ 2 * ((ALn (exT pn kd nu1) pn.toNat).length : Int) → wA2__39 j = rwN (exT pn kd nu1) (ALn (exT pn kd nu1) pn.toNat) pn j := hp_42
            have hp_43 : hasL fA2__40 (fsL (exT pn kd nu1) (ALn (exT pn kd nu1) pn.toNat) pn (2 * (ALn (exT pn kd nu1) pn.toNat).length + 1)) := hp_43
            have hM := hp_41
            refine g_iload_n C hl 5 rfl rfl dX6_dayOf_127 ?_
            refine g_if_ne C 138 dX6_dayOf_128 (by decide) (by omega) (fun c_44 => ?_) (fun c_44 => ?_)
            · skip
              refine g_iload_n C hl 5 rfl rfl dX6_dayOf_138 ?_
              refine g_iconst C dX6_dayOf_139 ?_
              refine g_icmp_ne C 150 dX6_dayOf_140 (by decide) (by omega) (by omega) (fun c_45 => ?_) (fun c_45 => ?_)
              · skip
                refine g_iload_n C hl 5 rfl rfl dX6_dayOf_150 ?_
                refine g_iconst C dX6_dayOf_151 ?_
                refine g_icmp_ne C 162 dX6_dayOf_152 (by decide) (by omega) (by omega) (fun c_46 => ?_) (fun c_46 => ?_)
                · skip
                  refine g_aload_n C hl 2 rfl rfl dX6_dayOf_162 ?_
                  refine g_callVi C hw (wr := [cA G (a 27) 240 ce, cJ G (a 13) 8 vP2__35, cJ G (a 14) 8 vS2__36, cJ G (a 15) 8 vD2__37, cJ G (a 16) 8 vQ2__38, cA G (a 18) 17 wA2__39, cA G (a 19) 17 fA2__40]) (As := []) (rest := []) (m_X6_rootless l D G (h := h) (a := a) (ft := ft) (pn := pn) (ra := ra) (rm := rm) (rP := r2P__31) (rS := r2S__32) (rD := r2D__33) (rQ := r2Q__34) (al := ((ALn (exT pn kd nu1) pn.toNat).length : Int)) (rw := ((fsL (exT pn kd nu1) (ALn (exT pn kd nu1) pn.toNat) pn (2 * (ALn (exT pn kd nu1) pn.toNat).length + 1)).length : Int)) (rc := rc) (tr := tr) (kd := kd) (nu := nu1) (by first | assumption | omega) (by first | assumption | omega) (by first | assumption | omega)) (cwV 0 C.1.2.2.2.2 gX6_dayOf_X6_rootless rfl rfl rfl (by decide +kernel) ⟨Nat.le_of_ble_eq_true rfl, Nat.le_of_ble_eq_true rfl⟩) [1, 2, 3] [0, 4, 5, 6, 7, 8, 9] rfl rfl (by decide) (by decide) (by decide) 0 rfl rfl rfl hl.1 _ rfl (Nat.le_of_ble_eq_true rfl) dX6_dayOf_163 ⟨Nat.le_of_ble_eq_true rfl, Nat.le_of_ble_eq_true rfl⟩ ?_
                  clear hw
                  rintro _ _ H locs ⟨rfl, rfl⟩ hw
                  have hw : gW D A s.heap [cA G (a 27) 240 ce, cJ G (a 13) 8 vP2__35, cJ G (a 14) 8 vS2__36, cJ G (a 15) 8 vD2__37, cJ G (a 16) 8 vQ2__38, cA G (a 18) 17 wA2__39, cA G (a 19) 17 fA2__40, oX6 h a ft pn ra rm r2P__31 r2S__32 r2D__33 r2Q__34 ((ALn (exT pn kd nu1) pn.toNat).length : Int) ((fsL (exT pn kd nu1) (ALn (exT pn kd nu1) pn.toNat) pn (2 * (ALn (exT pn kd nu1) pn.toNat).length + 1)).length : Int) rc tr, cA G (a 2) 4 kd, cA G (a 3) 12 nu1] H locs := hw
                  exact g_iret C hr (ws' := [oX6 h a ft pn ra rm r2P__31 r2S__32 r2D__33 r2Q__34 ((ALn (exT pn kd nu1) pn.toNat).length : Int) ((fsL (exT pn kd nu1) (ALn (exT pn kd nu1) pn.toNat) pn (2 * (ALn (exT pn kd nu1) pn.toNat).length + 1)).length : Int) rc tr, cA G (a 2) 4 kd, cA G (a 3) 12 nu1, cJ G (a 13) 8 vP2__35, cJ G (a 14) 8 vS2__36, cJ G (a 15) 8 vD2__37, cJ G (a 16) 8 vQ2__38, cA G (a 18) 17 wA2__39, cA G (a 19) 17 fA2__40, cA G (a 27) 240 ce]) hw [7, 8, 9, 1, 2, 3, 4, 5, 6, 0] (by decide) rfl ⟨((ALn (exT pn kd nu1) pn.toNat).length : Int), ((fsL (exT pn kd nu1) (ALn (exT pn kd nu1) pn.toNat) pn (2 * (ALn (exT pn kd nu1) pn.toNat).length + 1)).length : Int), r2P__31, r2S__32, r2D__33, r2Q__34, vP2__35, vS2__36, vD2__37, vQ2__38, wA2__39, fA2__40, nu1, (congrArg iI (by unfold R_dyo; first | (rw [if_pos (by omega)]; exact hfin) | (rw [if_neg (by omega), if_pos (by omega)]; omega) | (rw [if_neg (by omega), if_neg (by omega), ← hnu9]; unfold R_end; (repeat' split) <;> omega))), rfl, (by exact hout)⟩ dX6_dayOf_166
                · skip
                  refine g_aload_n C hl 2 rfl rfl dX6_dayOf_155 ?_
                  refine g_callVi C hw (wr := [cA G (a 27) 240 ce, cA G (a 18) 17 wA2__39, cA G (a 19) 17 fA2__40]) (As := []) (rest := []) (m_X6_allAbove l D G (h := h) (a := a) (ft := ft) (pn := pn) (ra := ra) (rm := rm) (rP := r2P__31) (rS := r2S__32) (rD := r2D__33) (rQ := r2Q__34) (al := ((ALn (exT pn kd nu1) pn.toNat).length : Int)) (rw := ((fsL (exT pn kd nu1) (ALn (exT pn kd nu1) pn.toNat) pn (2 * (ALn (exT pn kd nu1) pn.toNat).length + 1)).length : Int)) (rc := rc) (tr := tr) (kd := kd) (nu := nu1) (vP := vP2__35) (vS := vS2__36) (vD := vD2__37) (vQ := vQ2__38) (by first | assumption | omega) (by first | assumption | omega) (by first | assumption | omega) (by rfl) (by exact hM)) (cwV 0 C.1.2.2.2.2 gX6_dayOf_X6_allAbove rfl rfl rfl (by decide +kernel) ⟨Nat.le_of_ble_eq_true rfl, Nat.le_of_ble_eq_true rfl⟩) [1, 2, 3, 4, 5, 6, 7] [0, 8, 9] rfl rfl (by decide) (by decide) (by decide) 0 rfl rfl rfl hl.1 _ rfl (Nat.le_of_ble_eq_true rfl) dX6_dayOf_156 ⟨Nat.le_of_ble_eq_true rfl, Nat.le_of_ble_eq_true rfl⟩ ?_
                  clear hw
                  rintro _ _ H locs ⟨r2P__47, r2S__48, r2D__49, r2Q__50, rfl, rfl⟩ hw
                  have hw : gW D A s.heap [cA G (a 27) 240 ce, cA G (a 18) 17 wA2__39, cA G (a 19) 17 fA2__40, oX6 h a ft pn ra rm r2P__47 r2S__48 r2D__49 r2Q__50 ((ALn (exT pn kd nu1) pn.toNat).length : Int) ((fsL (exT pn kd nu1) (ALn (exT pn kd nu1) pn.toNat) pn (2 * (ALn (exT pn kd nu1) pn.toNat).length + 1)).length : Int) rc tr, cA G (a 2) 4 kd, cA G (a 3) 12 nu1, cJ G (a 13) 8 vP2__35, cJ G (a 14) 8 vS2__36, cJ G (a 15) 8 vD2__37, cJ G (a 16) 8 vQ2__38] H locs := hw
                  refine g_goto C 166 dX6_dayOf_159 (by decide) ?_
                  exact g_iret C hr (ws' := [oX6 h a ft pn ra rm r2P__47 r2S__48 r2D__49 r2Q__50 ((ALn (exT pn kd nu1) pn.toNat).length : Int) ((fsL (exT pn kd nu1) (ALn (exT pn kd nu1) pn.toNat) pn (2 * (ALn (exT pn kd nu1) pn.toNat).length + 1)).length : Int) rc tr, cA G (a 2) 4 kd, cA G (a 3) 12 nu1, cJ G (a 13) 8 vP2__35, cJ G (a 14) 8 vS2__36, cJ G (a 15) 8 vD2__37, cJ G (a 16) 8 vQ2__38, cA G (a 18) 17 wA2__39, cA G (a 19) 17 fA2__40, cA G (a 27) 240 ce]) hw [3, 4, 5, 6, 7, 8, 9, 1, 2, 0] (by decide) rfl ⟨((ALn (exT pn kd nu1) pn.toNat).length : Int), ((fsL (exT pn kd nu1) (ALn (exT pn kd nu1) pn.toNat) pn (2 * (ALn (exT pn kd nu1) pn.toNat).length + 1)).length : Int), r2P__47, r2S__48, r2D__49, r2Q__50, vP2__35, vS2__36, vD2__37, vQ2__38, wA2__39, fA2__40, nu1, (congrArg iI (by unfold R_dyo; first | (rw [if_pos (by omega)]; exact hfin) | (rw [if_neg (by omega), if_pos (by omega)]; omega) | (rw [if_neg (by omega), if_neg (by omega), ← hnu9]; unfold R_end; (repeat' split) <;> omega))), rfl, (by exact hout)⟩ dX6_dayOf_166
              · skip
                refine g_aload_n C hl 2 rfl rfl dX6_dayOf_143 ?_
                refine g_get C hw hin_X6_dayOf_X6 1 rfl rfl 20 (by decide) lk_X6_dayOf_213 rfl dX6_dayOf_144 ?_
                refine g_goto C 166 dX6_dayOf_147 (by decide) ?_
                exact g_iret C hr (ws' := [oX6 h a ft pn ra rm r2P__31 r2S__32 r2D__33 r2Q__34 ((ALn (exT pn kd nu1) pn.toNat).length : Int) ((fsL (exT pn kd nu1) (ALn (exT pn kd nu1) pn.toNat) pn (2 * (ALn (exT pn kd nu1) pn.toNat).length + 1)).length : Int) rc tr, cA G (a 2) 4 kd, cA G (a 3) 12 nu1, cJ G (a 13) 8 vP2__35, cJ G (a 14) 8 vS2__36, cJ G (a 15) 8 vD2__37, cJ G (a 16) 8 vQ2__38, cA G (a 18) 17 wA2__39, cA G (a 19) 17 fA2__40, cA G (a 27) 240 ce]) hw [1, 2, 3, 4, 5, 6, 7, 8, 9, 0] (by decide) rfl ⟨((ALn (exT pn kd nu1) pn.toNat).length : Int), ((fsL (exT pn kd nu1) (ALn (exT pn kd nu1) pn.toNat) pn (2 * (ALn (exT pn kd nu1) pn.toNat).length + 1)).length : Int), r2P__31, r2S__32, r2D__33, r2Q__34, vP2__35, vS2__36, vD2__37, vQ2__38, wA2__39, fA2__40, nu1, (congrArg iI (by unfold R_dyo; first | (rw [if_pos (by omega)]; exact hfin) | (rw [if_neg (by omega), if_pos (by omega)]; omega) | (rw [if_neg (by omega), if_neg (by omega), ← hnu9]; unfold R_end; (repeat' split) <;> omega))), rfl, (by exact hout)⟩ dX6_dayOf_166
            · skip
              refine g_aload_n C hl 2 rfl rfl dX6_dayOf_131 ?_
              refine g_get C hw hin_X6_dayOf_X6 1 rfl rfl 12 (by decide) lk_X6_dayOf_167 rfl dX6_dayOf_132 ?_
              refine g_goto C 166 dX6_dayOf_135 (by decide) ?_
              exact g_iret C hr (ws' := [oX6 h a ft pn ra rm r2P__31 r2S__32 r2D__33 r2Q__34 ((ALn (exT pn kd nu1) pn.toNat).length : Int) ((fsL (exT pn kd nu1) (ALn (exT pn kd nu1) pn.toNat) pn (2 * (ALn (exT pn kd nu1) pn.toNat).length + 1)).length : Int) rc tr, cA G (a 2) 4 kd, cA G (a 3) 12 nu1, cJ G (a 13) 8 vP2__35, cJ G (a 14) 8 vS2__36, cJ G (a 15) 8 vD2__37, cJ G (a 16) 8 vQ2__38, cA G (a 18) 17 wA2__39, cA G (a 19) 17 fA2__40, cA G (a 27) 240 ce]) hw [1, 2, 3, 4, 5, 6, 7, 8, 9, 0] (by decide) rfl ⟨((ALn (exT pn kd nu1) pn.toNat).length : Int), ((fsL (exT pn kd nu1) (ALn (exT pn kd nu1) pn.toNat) pn (2 * (ALn (exT pn kd nu1) pn.toNat).length + 1)).length : Int), r2P__31, r2S__32, r2D__33, r2Q__34, vP2__35, vS2__36, vD2__37, vQ2__38, wA2__39, fA2__40, nu1, (congrArg iI (by unfold R_dyo; first | (rw [if_pos (by omega)]; exact hfin) | (rw [if_neg (by omega), if_pos (by omega)]; omega) | (rw [if_neg (by omega), if_neg (by omega), ← hnu9]; unfold R_end; (repeat' split) <;> omega))), rfl, (by exact hout)⟩ dX6_dayOf_166
          · skip
            refine g_aload_n C hl 2 rfl rfl dX6_dayOf_98 ?_
            refine g_iload_n C hl 5 rfl rfl dX6_dayOf_99 ?_
            refine g_bipush C dX6_dayOf_100 (by decide) ?_
            refine g_isub C dX6_dayOf_102 ?_
            refine g_callVi C hw (wr := [cA G (a 2) 4 kd, cA G (a 3) 12 nu1, cJ G (a 13) 8 vP, cJ G (a 14) 8 vS, cJ G (a 15) 8 vD, cJ G (a 16) 8 vQ, cA G (a 18) 17 wA, cA G (a 19) 17 fA, cA G (a 27) 240 ce]) (As := [.int (iI (wh - 10))]) (rest := []) (m_X6_noPolynomial l D G (h := h) (a := a) (ft := ft) (pn := pn) (ra := ra) (rm := rm) (rP := rP) (rS := rS) (rD := rD) (rQ := rQ) (al := al) (rw := rw) (rc := rc) (tr := tr) (pp := (wh - 10)) (by first | assumption | omega) (by first | assumption | omega)) (cwV 1 C.1.2.2.2.2 gX6_dayOf_X6_noPolynomial rfl rfl rfl (by decide +kernel) ⟨Nat.le_of_ble_eq_true rfl, Nat.le_of_ble_eq_true rfl⟩) [0] [1, 2, 3, 4, 5, 6, 7, 8, 9] rfl rfl (by decide) (by decide) (by decide) 0 rfl rfl rfl hl.1 _ rfl (Nat.le_of_ble_eq_true rfl) dX6_dayOf_103 ⟨Nat.le_of_ble_eq_true rfl, Nat.le_of_ble_eq_true rfl⟩ ?_
            clear hw
            rintro _ _ H locs ⟨rfl, rfl⟩ hw
            have hw : gW D A s.heap [cA G (a 2) 4 kd, cA G (a 3) 12 nu1, cJ G (a 13) 8 vP, cJ G (a 14) 8 vS, cJ G (a 15) 8 vD, cJ G (a 16) 8 vQ, cA G (a 18) 17 wA, cA G (a 19) 17 fA, cA G (a 27) 240 ce, oX6 h a ft pn ra rm rP rS rD rQ al rw rc tr] H locs := hw
            refine g_ifb_eq C 114 dX6_dayOf_106 (by decide) (fun c_51 => ?_) (fun c_51 => ?_)
            · skip
              refine g_aload_n C hl 2 rfl rfl dX6_dayOf_114 ?_
              refine g_iload_n C hl 5 rfl rfl dX6_dayOf_115 ?_
              refine g_bipush C dX6_dayOf_116 (by decide) ?_
              refine g_isub C dX6_dayOf_118 ?_
              refine g_callVi C hw (wr := [cJ G (a 13) 8 vP, cJ G (a 14) 8 vS, cJ G (a 15) 8 vD, cJ G (a 16) 8 vQ, cA G (a 18) 17 wA, cA G (a 19) 17 fA, cA G (a 27) 240 ce]) (As := [.int (iI (wh - 10))]) (rest := []) (m_X6_rootsOf l D G (h := h) (a := a) (ft := ft) (pn := pn) (ra := ra) (rm := rm) (rP := rP) (rS := rS) (rD := rD) (rQ := rQ) (al := al) (rw := rw) (rc := rc) (tr := tr) (kd := kd) (nu := nu1) (pp := (wh - 10)) (by first | assumption | omega) (by first | assumption | omega) (by first | assumption | omega) (by first | assumption | omega)) (cwV 1 C.1.2.2.2.2 gX6_dayOf_X6_rootsOf rfl rfl rfl (by decide +kernel) ⟨Nat.le_of_ble_eq_true rfl, Nat.le_of_ble_eq_true rfl⟩) [9, 0, 1] [2, 3, 4, 5, 6, 7, 8] rfl rfl (by decide) (by decide) (by decide) 0 rfl rfl rfl hl.1 _ rfl (Nat.le_of_ble_eq_true rfl) dX6_dayOf_119 ⟨Nat.le_of_ble_eq_true rfl, Nat.le_of_ble_eq_true rfl⟩ ?_
              clear hw
              rintro _ _ H locs ⟨rfl, rfl⟩ hw
              have hw : gW D A s.heap [cJ G (a 13) 8 vP, cJ G (a 14) 8 vS, cJ G (a 15) 8 vD, cJ G (a 16) 8 vQ, cA G (a 18) 17 wA, cA G (a 19) 17 fA, cA G (a 27) 240 ce, oX6 h a ft pn ra rm rP rS rD rQ al rw rc tr, cA G (a 2) 4 kd, cA G (a 3) 12 nu1] H locs := hw
              exact g_iret C hr (ws' := [oX6 h a ft pn ra rm rP rS rD rQ al rw rc tr, cA G (a 2) 4 kd, cA G (a 3) 12 nu1, cJ G (a 13) 8 vP, cJ G (a 14) 8 vS, cJ G (a 15) 8 vD, cJ G (a 16) 8 vQ, cA G (a 18) 17 wA, cA G (a 19) 17 fA, cA G (a 27) 240 ce]) hw [7, 8, 9, 0, 1, 2, 3, 4, 5, 6] (by decide) rfl ⟨al, rw, rP, rS, rD, rQ, vP, vS, vD, vQ, wA, fA, nu1, (congrArg iI (by unfold R_dyo; first | (rw [if_pos (by omega)]; exact hfin) | (rw [if_neg (by omega), if_pos (by omega)]; omega) | (rw [if_neg (by omega), if_neg (by omega), ← hnu9]; unfold R_end; (repeat' split) <;> omega))), rfl, (by exact hout)⟩ dX6_dayOf_122
            · skip
              refine g_bipush C dX6_dayOf_109 (by decide) ?_
              refine g_goto C 122 dX6_dayOf_111 (by decide) ?_
              exact g_iret C hr (ws' := [oX6 h a ft pn ra rm rP rS rD rQ al rw rc tr, cA G (a 2) 4 kd, cA G (a 3) 12 nu1, cJ G (a 13) 8 vP, cJ G (a 14) 8 vS, cJ G (a 15) 8 vD, cJ G (a 16) 8 vQ, cA G (a 18) 17 wA, cA G (a 19) 17 fA, cA G (a 27) 240 ce]) hw [9, 0, 1, 2, 3, 4, 5, 6, 7, 8] (by decide) rfl ⟨al, rw, rP, rS, rD, rQ, vP, vS, vD, vQ, wA, fA, nu1, (congrArg iI (by unfold R_dyo; first | (rw [if_pos (by omega)]; exact hfin) | (rw [if_neg (by omega), if_pos (by omega)]; omega) | (rw [if_neg (by omega), if_neg (by omega), ← hnu9]; unfold R_end; (repeat' split) <;> omega))), rfl, (by exact hout)⟩ dX6_dayOf_122
        · skip
          refine g_bipush C dX6_dayOf_86 (by decide) ?_
          refine g_iload C hl 1 rfl dX6_dayOf_88 ?_
          refine g_isub C dX6_dayOf_90 ?_
          exact g_iret C hr (ws' := [oX6 h a ft pn ra rm rP rS rD rQ al rw rc tr, cA G (a 2) 4 kd, cA G (a 3) 12 nu1, cJ G (a 13) 8 vP, cJ G (a 14) 8 vS, cJ G (a 15) 8 vD, cJ G (a 16) 8 vQ, cA G (a 18) 17 wA, cA G (a 19) 17 fA, cA G (a 27) 240 ce]) hw [0, 1, 2, 3, 4, 5, 6, 7, 8, 9] (by decide) rfl ⟨al, rw, rP, rS, rD, rQ, vP, vS, vD, vQ, wA, fA, nu1, (congrArg iI (by unfold R_dyo; first | (rw [if_pos (by omega)]; exact hfin) | (rw [if_neg (by omega), if_pos (by omega)]; omega) | (rw [if_neg (by omega), if_neg (by omega), ← hnu9]; unfold R_end; (repeat' split) <;> omega))), rfl, (by exact hout)⟩ dX6_dayOf_91
      · skip
        refine g_iload C hl 1 rfl dX6_dayOf_78 ?_
        exact g_iret C hr (ws' := [oX6 h a ft pn ra rm rP rS rD rQ al rw rc tr, cA G (a 2) 4 kd, cA G (a 3) 12 nu1, cJ G (a 13) 8 vP, cJ G (a 14) 8 vS, cJ G (a 15) 8 vD, cJ G (a 16) 8 vQ, cA G (a 18) 17 wA, cA G (a 19) 17 fA, cA G (a 27) 240 ce]) hw [0, 1, 2, 3, 4, 5, 6, 7, 8, 9] (by decide) rfl ⟨al, rw, rP, rS, rD, rQ, vP, vS, vD, vQ, wA, fA, nu1, (congrArg iI (by unfold R_dyo; first | (rw [if_pos (by omega)]; exact hfin) | (rw [if_neg (by omega), if_pos (by omega)]; omega) | (rw [if_neg (by omega), if_neg (by omega), ← hnu9]; unfold R_end; (repeat' split) <;> omega))), rfl, (by exact hout)⟩ dX6_dayOf_80
    · skip
      refine g_iload_n C hl 3 rfl rfl dX6_dayOf_18 ?_
      refine g_iconst C dX6_dayOf_19 ?_
      refine g_iload C hl 0 rfl dX6_dayOf_20 ?_
      refine g_imul C dX6_dayOf_22 ?_
      refine g_iadd C dX6_dayOf_23 ?_
      refine g_istore C [(6, .int (iI (fr + (3 * xx)))), (5, .int (iI xx)), (4, .int (iI wr)), (0, .ref h), (1, .int (iI fr)), (2, .int (iI mm)), (3, .int (iI wh))] dX6_dayOf_24 hl (by decide) rfl ?_
      clear hl
      intro ls hl
      refine g_aload_n C hl 3 rfl rfl dX6_dayOf_26 ?_
      refine g_aload_n C hl 3 rfl rfl dX6_dayOf_27 ?_
      refine g_get C hw hin_X6_dayOf_X6 0 rfl rfl 27 (by decide) lk_X6_dayOf_59 rfl dX6_dayOf_28 ?_
      refine g_iload C hl 0 rfl dX6_dayOf_31 ?_
      refine g_iald C hw 9 rfl (by omega) (Nat.le_of_ble_eq_true rfl) dX6_dayOf_33 ?_
      refine g_aload_n C hl 3 rfl rfl dX6_dayOf_34 ?_
      refine g_get C hw hin_X6_dayOf_X6 0 rfl rfl 27 (by decide) lk_X6_dayOf_59 rfl dX6_dayOf_35 ?_
      refine g_iload C hl 0 rfl dX6_dayOf_38 ?_
      refine g_iconst C dX6_dayOf_40 ?_
      refine g_iadd C dX6_dayOf_41 ?_
      refine g_iald C hw 9 rfl (by omega) (Nat.le_of_ble_eq_true rfl) dX6_dayOf_42 ?_
      refine g_aload_n C hl 3 rfl rfl dX6_dayOf_43 ?_
      refine g_get C hw hin_X6_dayOf_X6 0 rfl rfl 27 (by decide) lk_X6_dayOf_59 rfl dX6_dayOf_44 ?_
      refine g_iload C hl 0 rfl dX6_dayOf_47 ?_
      refine g_iconst C dX6_dayOf_49 ?_
      refine g_iadd C dX6_dayOf_50 ?_
      refine g_iald C hw 9 rfl (by omega) (Nat.le_of_ble_eq_true rfl) dX6_dayOf_51 ?_
      have hd9 := dcP_i (hdc xx (by omega) (by omega))
      have hR9 : R_tune pn nu1 (ce (fr + 3 * xx)) (ce (fr + 3 * xx + 1)) (ce (fr + 3 * xx + 2)) = if ¬ (0 ≤ ce (fr + 3 * xx) ∧ ce (fr + 3 * xx) < pn) then -1 else nu1 (3 * ce (fr + 3 * xx) + ce (fr + 3 * xx + 1)) + 9 := by unfold R_tune; (repeat' split) <;> omega
      refine g_callVi C hw (wr := [cJ G (a 13) 8 vP, cJ G (a 14) 8 vS, cJ G (a 15) 8 vD, cJ G (a 16) 8 vQ, cA G (a 18) 17 wA, cA G (a 19) 17 fA, cA G (a 27) 240 ce]) (As := [.int (iI (ce (fr + (3 * xx)))), .int (iI (ce ((fr + (3 * xx)) + 1))), .int (iI (ce ((fr + (3 * xx)) + 2)))]) (rest := []) (m_X6_tune l D G (h := h) (a := a) (ft := ft) (pn := pn) (ra := ra) (rm := rm) (rP := rP) (rS := rS) (rD := rD) (rQ := rQ) (al := al) (rw := rw) (rc := rc) (tr := tr) (kd := kd) (nu := nu1) (pp := (ce (fr + (3 * xx)))) (kk := (ce ((fr + (3 * xx)) + 1))) (vv := (ce ((fr + (3 * xx)) + 2))) (by first | assumption | omega) (by first | assumption | omega) (by first | assumption | omega) (by first | assumption | omega) (by first | assumption | omega) (by first | assumption | omega)) (cwV 3 C.1.2.2.2.2 gX6_dayOf_X6_tune rfl rfl rfl (by decide +kernel) ⟨Nat.le_of_ble_eq_true rfl, Nat.le_of_ble_eq_true rfl⟩) [0, 1, 2] [3, 4, 5, 6, 7, 8, 9] rfl rfl (by decide) (by decide) (by decide) 0 rfl rfl rfl hl.1 _ rfl (Nat.le_of_ble_eq_true rfl) dX6_dayOf_52 ⟨Nat.le_of_ble_eq_true rfl, Nat.le_of_ble_eq_true rfl⟩ ?_
      clear hw
      rintro _ _ H locs ⟨rfl, rfl⟩ hw
      have hw : gW D A s.heap [cJ G (a 13) 8 vP, cJ G (a 14) 8 vS, cJ G (a 15) 8 vD, cJ G (a 16) 8 vQ, cA G (a 18) 17 wA, cA G (a 19) 17 fA, cA G (a 27) 240 ce, oX6 h a ft pn ra rm rP rS rD rQ al rw rc tr, cA G (a 2) 4 kd, cA G (a 3) 12 (tuF pn nu1 (ce (fr + (3 * xx))) (ce ((fr + (3 * xx)) + 1)) (ce ((fr + (3 * xx)) + 2)))] H locs := hw
      refine g_if_lt C 63 dX6_dayOf_55 (by decide) (by (repeat' split at hR9) <;> omega) (fun c_52 => ?_) (fun c_52 => ?_)
      · skip
        have hbad : ¬ (0 ≤ ce (fr + 3 * xx) ∧ ce (fr + 3 * xx) < pn) := by (repeat' split at hR9) <;> omega
        refine g_iload C hl 1 rfl dX6_dayOf_63 ?_
        refine g_istore C [(4, .int (iI xx)), (6, .int (iI (fr + (3 * xx)))), (5, .int (iI xx)), (0, .ref h), (1, .int (iI fr)), (2, .int (iI mm)), (3, .int (iI wh))] dX6_dayOf_65 hl (by decide) rfl ?_
        clear hl
        intro ls hl
        refine g_iinc C [(5, .int (iI (xx + 1))), (4, .int (iI xx)), (6, .int (iI (fr + (3 * xx)))), (0, .ref h), (1, .int (iI fr)), (2, .int (iI mm)), (3, .int (iI wh))] 2 dX6_dayOf_67 hl rfl (by decide) rfl ?_
        clear hl
        intro ls hl
        refine g_goto C 7 dX6_dayOf_70 (by decide) ?_
        have hw : gW D A s.heap [oX6 h a ft pn ra rm rP rS rD rQ al rw rc tr, cA G (a 2) 4 kd, cA G (a 3) 12 (tuF pn nu1 (ce (fr + (3 * xx))) (ce ((fr + (3 * xx)) + 1)) (ce ((fr + (3 * xx)) + 2))), cJ G (a 13) 8 vP, cJ G (a 14) 8 vS, cJ G (a 15) 8 vD, cJ G (a 16) 8 vQ, cA G (a 18) 17 wA, cA G (a 19) 17 fA, cA G (a 27) 240 ce] H locs := g_perm hw [7, 8, 9, 0, 1, 2, 3, 4, 5, 6] (by decide) rfl
        exact ih_1 xx (xx + 1) (tuF pn nu1 (ce (fr + (3 * xx))) (ce ((fr + (3 * xx)) + 1)) (ce ((fr + (3 * xx)) + 2))) ⟨by omega, by exact nuOK_tu hok _ _ _ _, by intro j hj; rw [tuF_out hj]; exact hout j hj, by rcases hst with ⟨q1, q2, q3⟩ | ⟨q1, -⟩ <;> first | (exfalso; omega) | (refine Or.inl ⟨rfl, ?_, ?_⟩; rw [q2, show mm - xx = (mm - (xx + 1)) + 1 by omega, lsF_s (by omega), if_neg (fwP_f hgood)]; rw [dyF_s hxx.1, q3]; done) | (refine Or.inr ⟨hxx.1, by omega, ?_⟩; rw [q2, show mm - xx = (mm - (xx + 1)) + 1 by omega, lsF_s (by omega), if_pos (fwP_t hbad)]; done)⟩ (by omega) H locs ls hw (lv_sub hl [0, 1, 3, 4, 5, 6] rfl)
      · skip
        have hgood : 0 ≤ ce (fr + 3 * xx) ∧ ce (fr + 3 * xx) < pn := by (repeat' split at hR9) <;> omega
        refine g_bipush C dX6_dayOf_58 (by decide) ?_
        refine g_goto C 65 dX6_dayOf_60 (by decide) ?_
        refine g_istore C [(4, .int (iI ((-9)))), (6, .int (iI (fr + (3 * xx)))), (5, .int (iI xx)), (0, .ref h), (1, .int (iI fr)), (2, .int (iI mm)), (3, .int (iI wh))] dX6_dayOf_65 hl (by decide) rfl ?_
        clear hl
        intro ls hl
        refine g_iinc C [(5, .int (iI (xx + 1))), (4, .int (iI ((-9)))), (6, .int (iI (fr + (3 * xx)))), (0, .ref h), (1, .int (iI fr)), (2, .int (iI mm)), (3, .int (iI wh))] 2 dX6_dayOf_67 hl rfl (by decide) rfl ?_
        clear hl
        intro ls hl
        refine g_goto C 7 dX6_dayOf_70 (by decide) ?_
        have hw : gW D A s.heap [oX6 h a ft pn ra rm rP rS rD rQ al rw rc tr, cA G (a 2) 4 kd, cA G (a 3) 12 (tuF pn nu1 (ce (fr + (3 * xx))) (ce ((fr + (3 * xx)) + 1)) (ce ((fr + (3 * xx)) + 2))), cJ G (a 13) 8 vP, cJ G (a 14) 8 vS, cJ G (a 15) 8 vD, cJ G (a 16) 8 vQ, cA G (a 18) 17 wA, cA G (a 19) 17 fA, cA G (a 27) 240 ce] H locs := g_perm hw [7, 8, 9, 0, 1, 2, 3, 4, 5, 6] (by decide) rfl
        exact ih_1 (-9) (xx + 1) (tuF pn nu1 (ce (fr + (3 * xx))) (ce ((fr + (3 * xx)) + 1)) (ce ((fr + (3 * xx)) + 2))) ⟨by omega, by exact nuOK_tu hok _ _ _ _, by intro j hj; rw [tuF_out hj]; exact hout j hj, by rcases hst with ⟨q1, q2, q3⟩ | ⟨q1, -⟩ <;> first | (exfalso; omega) | (refine Or.inl ⟨rfl, ?_, ?_⟩; rw [q2, show mm - xx = (mm - (xx + 1)) + 1 by omega, lsF_s (by omega), if_neg (fwP_f hgood)]; rw [dyF_s hxx.1, q3]; done) | (refine Or.inr ⟨hxx.1, by omega, ?_⟩; rw [q2, show mm - xx = (mm - (xx + 1)) + 1 by omega, lsF_s (by omega), if_pos (fwP_t hbad)]; done)⟩ (by omega) H locs ls hw (lv_sub hl [0, 1, 3, 4, 5, 6] rfl)

set_option maxRecDepth 20000 in
theorem cn_X6_day_117 : Jvm.Cond.constantLong RX6 117 (2) ∈ wsX6_day := List.mem_cons_of_mem _ (List.mem_append_left _ (List.mem_append_left _ (List.mem_of_getElem? (i := 0) rfl)))
set_option maxRecDepth 20000 in
theorem cn_X6_day_200 : Jvm.Cond.constantLong RX6 200 (20) ∈ wsX6_day := List.mem_cons_of_mem _ (List.mem_append_left _ (List.mem_append_left _ (List.mem_of_getElem? (i := 1) rfl)))
set_option maxRecDepth 20000 in
theorem cn_X6_day_137 : Jvm.Cond.constantLong RX6 137 (4) ∈ wsX6_day := List.mem_cons_of_mem _ (List.mem_append_left _ (List.mem_append_left _ (List.mem_of_getElem? (i := 2) rfl)))
set_option maxRecDepth 20000 in
theorem hin_X6_day_X6 : ∀ w ∈ u_ws RX6 TX6 30, w ∈ wsX6_day := by
  intro w h
  exact List.mem_cons_of_mem _ (List.mem_append_right _ (h))
set_option maxRecDepth 20000 in
theorem lk_X6_day_75 : Cond.fieldLink RX6 75 (TX6 1).1 (TX6 1).2.1 (TX6 1).2.2.1 ∈ wsX6_day := List.mem_cons_of_mem _ (List.mem_append_left _ (List.mem_append_left _ (List.mem_of_getElem? (i := 5) rfl)))
set_option maxRecDepth 20000 in
theorem cn_X6_day_235 : Jvm.Cond.constantLong RX6 235 (3) ∈ wsX6_day := List.mem_cons_of_mem _ (List.mem_append_left _ (List.mem_append_left _ (List.mem_of_getElem? (i := 6) rfl)))
set_option maxRecDepth 20000 in
theorem lk_X6_day_13 : Cond.fieldLink RX6 13 (TX6 3).1 (TX6 3).2.1 (TX6 3).2.2.1 ∈ wsX6_day := List.mem_cons_of_mem _ (List.mem_append_left _ (List.mem_append_left _ (List.mem_of_getElem? (i := 9) rfl)))
set_option maxRecDepth 20000 in
theorem lk_X6_day_35 : Cond.fieldLink RX6 35 (TX6 17).1 (TX6 17).2.1 (TX6 17).2.2.1 ∈ wsX6_day := List.mem_cons_of_mem _ (List.mem_append_left _ (List.mem_append_left _ (List.mem_of_getElem? (i := 8) rfl)))
set_option maxRecDepth 20000 in
theorem lk_X6_day_59 : Cond.fieldLink RX6 59 (TX6 27).1 (TX6 27).2.1 (TX6 27).2.2.1 ∈ wsX6_day := List.mem_cons_of_mem _ (List.mem_append_left _ (List.mem_append_left _ (List.mem_of_getElem? (i := 7) rfl)))
set_option maxRecDepth 20000 in
theorem cn_X6_day_196 : Jvm.Cond.constantLong RX6 196 (10) ∈ wsX6_day := List.mem_cons_of_mem _ (List.mem_append_left _ (List.mem_append_left _ (List.mem_of_getElem? (i := 3) rfl)))
set_option maxRecDepth 20000 in
theorem cn_X6_day_233 : Jvm.Cond.constantLong RX6 233 (13) ∈ wsX6_day := List.mem_cons_of_mem _ (List.mem_append_left _ (List.mem_append_left _ (List.mem_of_getElem? (i := 4) rfl)))
set_option maxRecDepth 100000 in
set_option maxHeartbeats 8000000 in
theorem m_X6_day (l : Launch) (D : va_G) (G : gT) (h : Nat) (a : Nat → Nat) (ft : Int) (pn : Int) (ra : Int) (rm : Int) (rP : Int) (rS : Int) (rD : Int) (rQ : Int) (al : Int) (rw : Int) (rc : Int) (tr : Int) (kd : Int → Int) (nu : Int → Int) (vP : Int → Int) (vS : Int → Int) (vD : Int → Int) (vQ : Int → Int) (wA : Int → Int) (fA : Int → Int) (sz : Int → Int) (ln : Int → Int) (ce : Int → Int) (ht : Int → Int) (kk : Int) (lv : Int) (ii : Int) (mm : Int) (wh : Int) (hkd : kdOK kd) (hnu : nuOK nu) (hn : 0 ≤ pn ∧ pn ≤ 4) (hk : -2147483648 ≤ kk ∧ kk ≤ 2147483647) (hla : -2147483648 ≤ lv ∧ lv ≤ 2147483647) (hi : -2147483648 ≤ ii ∧ ii ≤ 2147483647) (hm9 : -2147483648 ≤ mm ∧ mm ≤ 2147483647) (hw1 : -2147483648 ≤ wh ∧ wh ≤ 2147483647) (hsh : shOK sz ln ce) : gMi l yX6_day wsX6_day ({ frames := 7, cells := 0, slots := 0, locals := 175 }) D G [.ref h, .int (iI kk), .int (iI lv), .int (iI ii), .int (iI mm), .int (iI wh)] [oX6 h a ft pn ra rm rP rS rD rQ al rw rc tr, cA G (a 2) 4 kd, cA G (a 3) 12 nu, cJ G (a 13) 8 vP, cJ G (a 14) 8 vS, cJ G (a 15) 8 vD, cJ G (a 16) 8 vQ, cA G (a 18) 17 wA, cA G (a 19) 17 fA, cA G (a 25) 4 sz, cA G (a 26) 4 ln, cA G (a 27) 240 ce, cA G (a 17) 12 ht] 0 0 (fun (r : Int32) (w : va_W) => ∃ (al2 : Int) (rw2 : Int) (r2P : Int) (r2S : Int) (r2D : Int) (r2Q : Int) (vP2 : Int → Int) (vS2 : Int → Int) (vD2 : Int → Int) (vQ2 : Int → Int) (wA2 : Int → Int) (fA2 : Int → Int) (ht2 : Int → Int), r = (iI (R_day pn kd nu sz ln ce kk lv ii mm wh)) ∧ w = [oX6 h a (F_day pn sz ln kk lv ii mm wh) pn ra rm r2P r2S r2D r2Q al2 rw2 rc tr, cA G (a 2) 4 kd, cA G (a 3) 12 nu, cJ G (a 13) 8 vP2, cJ G (a 14) 8 vS2, cJ G (a 15) 8 vD2, cJ G (a 16) 8 vQ2, cA G (a 18) 17 wA2, cA G (a 19) 17 fA2, cA G (a 25) 4 sz, cA G (a 26) 4 ln, cA G (a 27) 240 ce, cA G (a 17) 12 ht2]) := by
  refine g_start_i (cc := cX6_day) (nL := 10) (own := RX6) (ret := some .int) (by decide +kernel) rfl rfl (Nat.le_of_ble_eq_true rfl) ?_
  intro p e s m below meth c A ls C hr hnm hw hl
  have hl : lv_has ls 10 [(0, .ref h), (1, .int (iI kk)), (2, .int (iI lv)), (3, .int (iI ii)), (4, .int (iI mm)), (5, .int (iI wh))] := hl
  obtain ⟨hsz, hln, hce⟩ := id hsh
  have s0 := hsz kk
  have l0 := hln kk
  have hbr := R_bar_r sz ln kk lv ii (3 * mm)
  refine g_iload_n C hl 1 rfl rfl dX6_day_0 ?_
  refine g_callSi C hw (wr := [oX6 h a ft pn ra rm rP rS rD rQ al rw rc tr, cA G (a 2) 4 kd, cA G (a 3) 12 nu, cJ G (a 13) 8 vP, cJ G (a 14) 8 vS, cJ G (a 15) 8 vD, cJ G (a 16) 8 vQ, cA G (a 18) 17 wA, cA G (a 19) 17 fA, cA G (a 25) 4 sz, cA G (a 26) 4 ln, cA G (a 27) 240 ce, cA G (a 17) 12 ht]) (As := [.int (iI kk)]) (rest := []) (m_X6_noSheet l D G (kk := kk) (by first | assumption | omega)) (va_cwS 1 C.1.2.2.2.2 gX6_day_X6_noSheet rfl rfl rfl (by decide +kernel) ⟨Nat.le_of_ble_eq_true rfl, Nat.le_of_ble_eq_true rfl⟩) [] [0, 1, 2, 3, 4, 5, 6, 7, 8, 9, 10, 11, 12] rfl rfl (by decide) (by decide) (by decide) rfl hl.1 _ rfl (Nat.le_of_ble_eq_true rfl) dX6_day_1 ⟨Nat.le_of_ble_eq_true rfl, Nat.le_of_ble_eq_true rfl⟩ ?_
  clear hw
  rintro _ _ H locs ⟨rfl, rfl⟩ hw
  have hw : gW D A s.heap [oX6 h a ft pn ra rm rP rS rD rQ al rw rc tr, cA G (a 2) 4 kd, cA G (a 3) 12 nu, cJ G (a 13) 8 vP, cJ G (a 14) 8 vS, cJ G (a 15) 8 vD, cJ G (a 16) 8 vQ, cA G (a 18) 17 wA, cA G (a 19) 17 fA, cA G (a 25) 4 sz, cA G (a 26) 4 ln, cA G (a 27) 240 ce, cA G (a 17) 12 ht] H locs := hw
  refine g_ifb_eq C 13 dX6_day_4 (by decide) (fun c_1 => ?_) (fun c_1 => ?_)
  · skip
    refine g_iload_n C hl 2 rfl rfl dX6_day_13 ?_
    refine g_i2l C dX6_day_14 (by omega) ?_
    refine g_lconst0 C dX6_day_15 ?_
    refine g_ldc2 C (2) cn_X6_day_117 (by decide +kernel) dX6_day_16 ?_
    refine g_callSi C hw (wr := [oX6 h a ft pn ra rm rP rS rD rQ al rw rc tr, cA G (a 2) 4 kd, cA G (a 3) 12 nu, cJ G (a 13) 8 vP, cJ G (a 14) 8 vS, cJ G (a 15) 8 vD, cJ G (a 16) 8 vQ, cA G (a 18) 17 wA, cA G (a 19) 17 fA, cA G (a 25) 4 sz, cA G (a 26) 4 ln, cA G (a 27) 240 ce, cA G (a 17) 12 ht]) (As := [.long (lI (lv)), .long (lI (0)), .long (lI (2))]) (rest := []) (m_X6_in l D G (va := lv) (vb := 0) (vc := 2) (by first | assumption | omega) (by first | assumption | omega) (by first | assumption | omega)) (va_cwS 3 C.1.2.2.2.2 gX6_day_X6_in rfl rfl rfl (by decide +kernel) ⟨Nat.le_of_ble_eq_true rfl, Nat.le_of_ble_eq_true rfl⟩) [] [0, 1, 2, 3, 4, 5, 6, 7, 8, 9, 10, 11, 12] rfl rfl (by decide) (by decide) (by decide) rfl hl.1 _ rfl (Nat.le_of_ble_eq_true rfl) dX6_day_19 ⟨Nat.le_of_ble_eq_true rfl, Nat.le_of_ble_eq_true rfl⟩ ?_
    clear hw
    rintro _ _ H locs ⟨rfl, rfl⟩ hw
    have hw : gW D A s.heap [oX6 h a ft pn ra rm rP rS rD rQ al rw rc tr, cA G (a 2) 4 kd, cA G (a 3) 12 nu, cJ G (a 13) 8 vP, cJ G (a 14) 8 vS, cJ G (a 15) 8 vD, cJ G (a 16) 8 vQ, cA G (a 18) 17 wA, cA G (a 19) 17 fA, cA G (a 25) 4 sz, cA G (a 26) 4 ln, cA G (a 27) 240 ce, cA G (a 17) 12 ht] H locs := hw
    refine g_ifb_eq C 66 dX6_day_22 (by decide) (fun c_2 => ?_) (fun c_2 => ?_)
    · skip
      refine g_aload_n C hl 0 rfl rfl dX6_day_66 ?_
      refine g_bipush C dX6_day_67 (by decide) ?_
      refine g_callVi C hw (wr := [cA G (a 2) 4 kd, cA G (a 3) 12 nu, cJ G (a 13) 8 vP, cJ G (a 14) 8 vS, cJ G (a 15) 8 vD, cJ G (a 16) 8 vQ, cA G (a 18) 17 wA, cA G (a 19) 17 fA, cA G (a 25) 4 sz, cA G (a 26) 4 ln, cA G (a 27) 240 ce, cA G (a 17) 12 ht]) (As := [.int (iI ((-2)))]) (rest := []) (m_X6_refused l D G (h := h) (a := a) (ft := ft) (pn := pn) (ra := ra) (rm := rm) (rP := rP) (rS := rS) (rD := rD) (rQ := rQ) (al := al) (rw := rw) (rc := rc) (tr := tr) (cd := (-2)) ) (cwV 1 C.1.2.2.2.2 gX6_day_X6_refused rfl rfl rfl (by decide +kernel) ⟨Nat.le_of_ble_eq_true rfl, Nat.le_of_ble_eq_true rfl⟩) [0] [1, 2, 3, 4, 5, 6, 7, 8, 9, 10, 11, 12] rfl rfl (by decide) (by decide) (by decide) 0 rfl rfl rfl hl.1 _ rfl (Nat.le_of_ble_eq_true rfl) dX6_day_69 ⟨Nat.le_of_ble_eq_true rfl, Nat.le_of_ble_eq_true rfl⟩ ?_
      clear hw
      rintro _ _ H locs ⟨rfl, rfl⟩ hw
      have hw : gW D A s.heap [cA G (a 2) 4 kd, cA G (a 3) 12 nu, cJ G (a 13) 8 vP, cJ G (a 14) 8 vS, cJ G (a 15) 8 vD, cJ G (a 16) 8 vQ, cA G (a 18) 17 wA, cA G (a 19) 17 fA, cA G (a 25) 4 sz, cA G (a 26) 4 ln, cA G (a 27) 240 ce, cA G (a 17) 12 ht, oX6 h a 0 pn ra rm rP rS rD rQ al rw rc tr] H locs := hw
      have w9 : D_st pn kk lv mm wh = -2 := by unfold D_st; (repeat' split) <;> omega
      obtain ⟨wr9, wf9⟩ := R_day_1 (n := pn) (kd := kd) (nu := nu) (sz := sz) (ln := ln) (ce := ce) (k := kk) (lane := lv) (i := ii) (m := mm) (w := wh) (by rw [w9]; decide)
      rw [w9] at wr9
      exact g_iret C hr (ws' := [oX6 h a 0 pn ra rm rP rS rD rQ al rw rc tr, cA G (a 2) 4 kd, cA G (a 3) 12 nu, cJ G (a 13) 8 vP, cJ G (a 14) 8 vS, cJ G (a 15) 8 vD, cJ G (a 16) 8 vQ, cA G (a 18) 17 wA, cA G (a 19) 17 fA, cA G (a 25) 4 sz, cA G (a 26) 4 ln, cA G (a 27) 240 ce, cA G (a 17) 12 ht]) hw [12, 0, 1, 2, 3, 4, 5, 6, 7, 8, 9, 10, 11] (by decide) rfl ⟨al, rw, rP, rS, rD, rQ, vP, vS, vD, vQ, wA, fA, ht, (congrArg iI (by exact wr9.symm)), (by first | (rw [wf9, hn9]; done) | (rw [wf9]; done))⟩ dX6_day_72
    · skip
      refine g_iload C hl 4 rfl dX6_day_25 ?_
      refine g_i2l C dX6_day_27 (by omega) ?_
      refine g_lconst0 C dX6_day_28 ?_
      refine g_ldc2 C (20) cn_X6_day_200 (by decide +kernel) dX6_day_29 ?_
      refine g_callSi C hw (wr := [oX6 h a ft pn ra rm rP rS rD rQ al rw rc tr, cA G (a 2) 4 kd, cA G (a 3) 12 nu, cJ G (a 13) 8 vP, cJ G (a 14) 8 vS, cJ G (a 15) 8 vD, cJ G (a 16) 8 vQ, cA G (a 18) 17 wA, cA G (a 19) 17 fA, cA G (a 25) 4 sz, cA G (a 26) 4 ln, cA G (a 27) 240 ce, cA G (a 17) 12 ht]) (As := [.long (lI (mm)), .long (lI (0)), .long (lI (20))]) (rest := []) (m_X6_in l D G (va := mm) (vb := 0) (vc := 20) (by first | assumption | omega) (by first | assumption | omega) (by first | assumption | omega)) (va_cwS 3 C.1.2.2.2.2 gX6_day_X6_in rfl rfl rfl (by decide +kernel) ⟨Nat.le_of_ble_eq_true rfl, Nat.le_of_ble_eq_true rfl⟩) [] [0, 1, 2, 3, 4, 5, 6, 7, 8, 9, 10, 11, 12] rfl rfl (by decide) (by decide) (by decide) rfl hl.1 _ rfl (Nat.le_of_ble_eq_true rfl) dX6_day_32 ⟨Nat.le_of_ble_eq_true rfl, Nat.le_of_ble_eq_true rfl⟩ ?_
      clear hw
      rintro _ _ H locs ⟨rfl, rfl⟩ hw
      have hw : gW D A s.heap [oX6 h a ft pn ra rm rP rS rD rQ al rw rc tr, cA G (a 2) 4 kd, cA G (a 3) 12 nu, cJ G (a 13) 8 vP, cJ G (a 14) 8 vS, cJ G (a 15) 8 vD, cJ G (a 16) 8 vQ, cA G (a 18) 17 wA, cA G (a 19) 17 fA, cA G (a 25) 4 sz, cA G (a 26) 4 ln, cA G (a 27) 240 ce, cA G (a 17) 12 ht] H locs := hw
      refine g_ifb_eq C 66 dX6_day_35 (by decide) (fun c_3 => ?_) (fun c_3 => ?_)
      · skip
        refine g_aload_n C hl 0 rfl rfl dX6_day_66 ?_
        refine g_bipush C dX6_day_67 (by decide) ?_
        refine g_callVi C hw (wr := [cA G (a 2) 4 kd, cA G (a 3) 12 nu, cJ G (a 13) 8 vP, cJ G (a 14) 8 vS, cJ G (a 15) 8 vD, cJ G (a 16) 8 vQ, cA G (a 18) 17 wA, cA G (a 19) 17 fA, cA G (a 25) 4 sz, cA G (a 26) 4 ln, cA G (a 27) 240 ce, cA G (a 17) 12 ht]) (As := [.int (iI ((-2)))]) (rest := []) (m_X6_refused l D G (h := h) (a := a) (ft := ft) (pn := pn) (ra := ra) (rm := rm) (rP := rP) (rS := rS) (rD := rD) (rQ := rQ) (al := al) (rw := rw) (rc := rc) (tr := tr) (cd := (-2)) ) (cwV 1 C.1.2.2.2.2 gX6_day_X6_refused rfl rfl rfl (by decide +kernel) ⟨Nat.le_of_ble_eq_true rfl, Nat.le_of_ble_eq_true rfl⟩) [0] [1, 2, 3, 4, 5, 6, 7, 8, 9, 10, 11, 12] rfl rfl (by decide) (by decide) (by decide) 0 rfl rfl rfl hl.1 _ rfl (Nat.le_of_ble_eq_true rfl) dX6_day_69 ⟨Nat.le_of_ble_eq_true rfl, Nat.le_of_ble_eq_true rfl⟩ ?_
        clear hw
        rintro _ _ H locs ⟨rfl, rfl⟩ hw
        have hw : gW D A s.heap [cA G (a 2) 4 kd, cA G (a 3) 12 nu, cJ G (a 13) 8 vP, cJ G (a 14) 8 vS, cJ G (a 15) 8 vD, cJ G (a 16) 8 vQ, cA G (a 18) 17 wA, cA G (a 19) 17 fA, cA G (a 25) 4 sz, cA G (a 26) 4 ln, cA G (a 27) 240 ce, cA G (a 17) 12 ht, oX6 h a 0 pn ra rm rP rS rD rQ al rw rc tr] H locs := hw
        have w9 : D_st pn kk lv mm wh = -2 := by unfold D_st; (repeat' split) <;> omega
        obtain ⟨wr9, wf9⟩ := R_day_1 (n := pn) (kd := kd) (nu := nu) (sz := sz) (ln := ln) (ce := ce) (k := kk) (lane := lv) (i := ii) (m := mm) (w := wh) (by rw [w9]; decide)
        rw [w9] at wr9
        exact g_iret C hr (ws' := [oX6 h a 0 pn ra rm rP rS rD rQ al rw rc tr, cA G (a 2) 4 kd, cA G (a 3) 12 nu, cJ G (a 13) 8 vP, cJ G (a 14) 8 vS, cJ G (a 15) 8 vD, cJ G (a 16) 8 vQ, cA G (a 18) 17 wA, cA G (a 19) 17 fA, cA G (a 25) 4 sz, cA G (a 26) 4 ln, cA G (a 27) 240 ce, cA G (a 17) 12 ht]) hw [12, 0, 1, 2, 3, 4, 5, 6, 7, 8, 9, 10, 11] (by decide) rfl ⟨al, rw, rP, rS, rD, rQ, vP, vS, vD, vQ, wA, fA, ht, (congrArg iI (by exact wr9.symm)), (by first | (rw [wf9, hn9]; done) | (rw [wf9]; done))⟩ dX6_day_72
      · skip
        refine g_iload C hl 5 rfl dX6_day_38 ?_
        refine g_i2l C dX6_day_40 (by omega) ?_
        refine g_lconst0 C dX6_day_41 ?_
        refine g_ldc2 C (4) cn_X6_day_137 (by decide +kernel) dX6_day_42 ?_
        refine g_callSi C hw (wr := [oX6 h a ft pn ra rm rP rS rD rQ al rw rc tr, cA G (a 2) 4 kd, cA G (a 3) 12 nu, cJ G (a 13) 8 vP, cJ G (a 14) 8 vS, cJ G (a 15) 8 vD, cJ G (a 16) 8 vQ, cA G (a 18) 17 wA, cA G (a 19) 17 fA, cA G (a 25) 4 sz, cA G (a 26) 4 ln, cA G (a 27) 240 ce, cA G (a 17) 12 ht]) (As := [.long (lI (wh)), .long (lI (0)), .long (lI (4))]) (rest := []) (m_X6_in l D G (va := wh) (vb := 0) (vc := 4) (by first | assumption | omega) (by first | assumption | omega) (by first | assumption | omega)) (va_cwS 3 C.1.2.2.2.2 gX6_day_X6_in rfl rfl rfl (by decide +kernel) ⟨Nat.le_of_ble_eq_true rfl, Nat.le_of_ble_eq_true rfl⟩) [] [0, 1, 2, 3, 4, 5, 6, 7, 8, 9, 10, 11, 12] rfl rfl (by decide) (by decide) (by decide) rfl hl.1 _ rfl (Nat.le_of_ble_eq_true rfl) dX6_day_45 ⟨Nat.le_of_ble_eq_true rfl, Nat.le_of_ble_eq_true rfl⟩ ?_
        clear hw
        rintro _ _ H locs ⟨rfl, rfl⟩ hw
        have hw : gW D A s.heap [oX6 h a ft pn ra rm rP rS rD rQ al rw rc tr, cA G (a 2) 4 kd, cA G (a 3) 12 nu, cJ G (a 13) 8 vP, cJ G (a 14) 8 vS, cJ G (a 15) 8 vD, cJ G (a 16) 8 vQ, cA G (a 18) 17 wA, cA G (a 19) 17 fA, cA G (a 25) 4 sz, cA G (a 26) 4 ln, cA G (a 27) 240 ce, cA G (a 17) 12 ht] H locs := hw
        refine g_ifb_ne C 73 dX6_day_48 (by decide) (fun c_4 => ?_) (fun c_4 => ?_)
        · skip
          refine g_aload_n C hl 0 rfl rfl dX6_day_73 ?_
          refine g_get C hw hin_X6_day_X6 0 rfl rfl 1 (by decide) lk_X6_day_75 rfl dX6_day_74 ?_
          refine g_if_ne C 87 dX6_day_77 (by decide) (by omega) (fun c_5 => ?_) (fun c_5 => ?_)
          · skip
            refine g_aload_n C hl 0 rfl rfl dX6_day_87 ?_
            refine g_iload_n C hl 1 rfl rfl dX6_day_88 ?_
            refine g_iload_n C hl 2 rfl rfl dX6_day_89 ?_
            refine g_iload_n C hl 3 rfl rfl dX6_day_90 ?_
            refine g_ldc2 C (3) cn_X6_day_235 (by decide +kernel) dX6_day_91 ?_
            refine g_iload C hl 4 rfl dX6_day_94 ?_
            refine g_i2l C dX6_day_96 (by omega) ?_
            refine g_lmul C dX6_day_97 ?_
            refine g_callVi C hw (wr := [cA G (a 2) 4 kd, cA G (a 3) 12 nu, cJ G (a 13) 8 vP, cJ G (a 14) 8 vS, cJ G (a 15) 8 vD, cJ G (a 16) 8 vQ, cA G (a 18) 17 wA, cA G (a 19) 17 fA, cA G (a 27) 240 ce, cA G (a 17) 12 ht]) (As := [.int (iI kk), .int (iI lv), .int (iI ii), .long (lI (3 * mm))]) (rest := []) (m_X6_cellsBarred l D G (h := h) (a := a) (ft := ft) (pn := pn) (ra := ra) (rm := rm) (rP := rP) (rS := rS) (rD := rD) (rQ := rQ) (al := al) (rw := rw) (rc := rc) (tr := tr) (sz := sz) (ln := ln) (kk := kk) (lv := lv) (ii := ii) (nn := (3 * mm)) (by first | assumption | omega) (by first | assumption | omega) (by first | assumption | omega) (by first | assumption | omega) (by first | assumption | omega) (by first | assumption | omega)) (cwV 4 C.1.2.2.2.2 gX6_day_X6_cellsBarred rfl rfl rfl (by decide +kernel) ⟨Nat.le_of_ble_eq_true rfl, Nat.le_of_ble_eq_true rfl⟩) [0, 9, 10] [1, 2, 3, 4, 5, 6, 7, 8, 11, 12] rfl rfl (by decide) (by decide) (by decide) 0 rfl rfl rfl hl.1 _ rfl (Nat.le_of_ble_eq_true rfl) dX6_day_98 ⟨Nat.le_of_ble_eq_true rfl, Nat.le_of_ble_eq_true rfl⟩ ?_
            clear hw
            rintro _ _ H locs ⟨rfl, rfl⟩ hw
            have hw : gW D A s.heap [cA G (a 2) 4 kd, cA G (a 3) 12 nu, cJ G (a 13) 8 vP, cJ G (a 14) 8 vS, cJ G (a 15) 8 vD, cJ G (a 16) 8 vQ, cA G (a 18) 17 wA, cA G (a 19) 17 fA, cA G (a 27) 240 ce, cA G (a 17) 12 ht, oX6 h a (F_bar sz ln ft kk lv ii (3 * mm)) pn ra rm rP rS rD rQ al rw rc tr, cA G (a 25) 4 sz, cA G (a 26) 4 ln] H locs := hw
            refine g_istore C [(6, .int (iI ((R_bar sz ln kk lv ii (3 * mm))))), (0, .ref h), (1, .int (iI kk)), (2, .int (iI lv)), (3, .int (iI ii)), (4, .int (iI mm)), (5, .int (iI wh))] dX6_day_101 hl (by decide) rfl ?_
            clear hl
            intro ls hl
            refine g_iload C hl 0 rfl dX6_day_103 ?_
            refine g_if_ge C 111 dX6_day_105 (by decide) (by omega) (fun c_6 => ?_) (fun c_6 => ?_)
            · skip
              obtain ⟨b1, b2, b3⟩ := R_bar_0 (by omega : ¬ R_bar sz ln kk lv ii (3 * mm) < 0)
              have b4 := b2 ft
              refine g_bipush C dX6_day_111 (by decide) ?_
              refine g_iload_n C hl 2 rfl rfl dX6_day_113 ?_
              refine g_imul C dX6_day_114 ?_
              refine g_iload_n C hl 4 rfl rfl dX6_day_115 ?_
              refine g_iadd C dX6_day_116 ?_
              refine g_istore C [(7, .int (iI ((60 * kk) + ii))), (6, .int (iI ((R_bar sz ln kk lv ii (3 * mm))))), (0, .ref h), (1, .int (iI kk)), (2, .int (iI lv)), (3, .int (iI ii)), (4, .int (iI mm)), (5, .int (iI wh))] dX6_day_117 hl (by decide) rfl ?_
              clear hl
              intro ls hl
              refine g_iconst C dX6_day_119 ?_
              refine g_istore C [(8, .int (iI 0)), (7, .int (iI ((60 * kk) + ii))), (6, .int (iI ((R_bar sz ln kk lv ii (3 * mm))))), (0, .ref h), (1, .int (iI kk)), (2, .int (iI lv)), (3, .int (iI ii)), (4, .int (iI mm)), (5, .int (iI wh))] dX6_day_120 hl (by decide) rfl ?_
              clear hl
              intro ls hl
              refine g_loop (σ := (Int)) (fun z_ => [cA G (a 2) 4 kd, cA G (a 3) 12 nu, cJ G (a 13) 8 vP, cJ G (a 14) 8 vS, cJ G (a 15) 8 vD, cJ G (a 16) 8 vQ, cA G (a 18) 17 wA, cA G (a 19) 17 fA, cA G (a 27) 240 ce, cA G (a 17) 12 ht, oX6 h a (F_bar sz ln ft kk lv ii (3 * mm)) pn ra rm rP rS rD rQ al rw rc tr, cA G (a 25) 4 sz, cA G (a 26) 4 ln]) (fun z_ => [(8, .int (iI z_)), (7, .int (iI (((60 * kk) + ii)))), (6, .int (iI ((R_bar sz ln kk lv ii (3 * mm))))), (0, .ref h), (1, .int (iI kk)), (2, .int (iI lv)), (3, .int (iI ii)), (4, .int (iI mm)), (5, .int (iI wh))]) (fun z_ => (0 ≤ z_ ∧ z_ ≤ mm) ∧ (allX (dcP ce (60 * kk + ii)) z_)) (fun z_ => (mm - z_).toNat) 0 ⟨by (try dsimp only); omega, by (try dsimp only); intro x h1 h2; omega⟩ hw (lv_sub hl [0, 1, 2, 3, 4, 5, 6, 7, 8] rfl) ?_
              clear hw hl
              rintro xx ⟨hxx, hdc⟩ H locs ls hw hl ih_7
              replace hxx : 0 ≤ xx ∧ xx ≤ mm := hxx
              replace hdc : allX (dcP ce (60 * kk + ii)) xx := hdc
              replace hw : gW D A s.heap [cA G (a 2) 4 kd, cA G (a 3) 12 nu, cJ G (a 13) 8 vP, cJ G (a 14) 8 vS, cJ G (a 15) 8 vD, cJ G (a 16) 8 vQ, cA G (a 18) 17 wA, cA G (a 19) 17 fA, cA G (a 27) 240 ce, cA G (a 17) 12 ht, oX6 h a (F_bar sz ln ft kk lv ii (3 * mm)) pn ra rm rP rS rD rQ al rw rc tr, cA G (a 25) 4 sz, cA G (a 26) 4 ln] H locs := hw
              replace hl : lv_has ls 10 [(8, .int (iI xx)), (7, .int (iI ((60 * kk) + ii))), (6, .int (iI ((R_bar sz ln kk lv ii (3 * mm))))), (0, .ref h), (1, .int (iI kk)), (2, .int (iI lv)), (3, .int (iI ii)), (4, .int (iI mm)), (5, .int (iI wh))] := hl
              replace ih_7 : ∀ (xx' : Int), ((0 ≤ xx' ∧ xx' ≤ mm) ∧ (allX (dcP ce (60 * kk + ii)) xx')) → ((mm - xx').toNat) < ((mm - xx).toNat) → ∀ (H : Heap) (locs : List Loc) (ls : Array Slot), gW D A s.heap [cA G (a 2) 4 kd, cA G (a 3) 12 nu, cJ G (a 13) 8 vP, cJ G (a 14) 8 vS, cJ G (a 15) 8 vD, cJ G (a 16) 8 vQ, cA G (a 18) 17 wA, cA G (a 19) 17 fA, cA G (a 27) 240 ce, cA G (a 17) 12 ht, oX6 h a (F_bar sz ln ft kk lv ii (3 * mm)) pn ra rm rP rS rD rQ al rw rc tr, cA G (a 25) 4 sz, cA G (a 26) 4 ln] H locs → lv_has ls 10 [(8, .int (iI (xx'))), (7, .int (iI (((60 * kk) + ii)))), (6, .int (iI ((R_bar sz ln kk lv ii (3 * mm))))), (0, .ref h), (1, .int (iI kk)), (2, .int (iI lv)), (3, .int (iI ii)), (4, .int (iI mm)), (5, .int (iI wh))] → W p l e _ s m _ below meth c H locs _ _ _ (F0 m 122 ls []) := fun xx' => ih_7 xx'
              have c1 := hce (60 * kk + ii + 3 * xx + 1)
              have c2 := hce (60 * kk + ii + 3 * xx + 2)
              refine g_iload C hl 0 rfl dX6_day_122 ?_
              refine g_iload C hl 7 rfl dX6_day_124 ?_
              refine g_icmp_ge C 187 dX6_day_126 (by decide) (by omega) (by omega) (fun c_8 => ?_) (fun c_8 => ?_)
              · skip
                refine g_iconst C dX6_day_187 ?_
                refine g_istore C [(8, .int (iI 0)), (7, .int (iI ((60 * kk) + ii))), (6, .int (iI ((R_bar sz ln kk lv ii (3 * mm))))), (0, .ref h), (1, .int (iI kk)), (2, .int (iI lv)), (3, .int (iI ii)), (4, .int (iI mm)), (5, .int (iI wh))] dX6_day_188 hl (by decide) rfl ?_
                clear hl
                intro ls hl
                refine g_loop (σ := (Int) × (Int → Int)) (fun z_ => [cA G (a 2) 4 kd, cA G (a 3) 12 nu, cJ G (a 13) 8 vP, cJ G (a 14) 8 vS, cJ G (a 15) 8 vD, cJ G (a 16) 8 vQ, cA G (a 18) 17 wA, cA G (a 19) 17 fA, cA G (a 27) 240 ce, cA G (a 17) 12 z_.2, oX6 h a (F_bar sz ln ft kk lv ii (3 * mm)) pn ra rm rP rS rD rQ al rw rc tr, cA G (a 25) 4 sz, cA G (a 26) 4 ln]) (fun z_ => [(8, .int (iI (z_.1))), (7, .int (iI (((60 * kk) + ii)))), (6, .int (iI ((R_bar sz ln kk lv ii (3 * mm))))), (0, .ref h), (1, .int (iI kk)), (2, .int (iI lv)), (3, .int (iI ii)), (4, .int (iI mm)), (5, .int (iI wh))]) (fun z_ => (0 ≤ z_.1 ∧ z_.1 ≤ 3 * pn) ∧ (∀ j, 0 ≤ j → j < z_.1 → z_.2 j = nu j)) (fun z_ => (3 * pn - z_.1).toNat) (0, ht) ⟨by (try dsimp only); omega, by (try dsimp only); intro j a1 a2; omega⟩ hw (lv_sub hl [0, 1, 2, 3, 4, 5, 6, 7, 8] rfl) ?_
                clear hw hl
                rintro ⟨yy, h1⟩ ⟨hyy, hh1⟩ H locs ls hw hl ih_9
                replace hyy : 0 ≤ yy ∧ yy ≤ 3 * pn := hyy
                replace hh1 : ∀ j, 0 ≤ j → j < yy → h1 j = nu j := hh1
                replace hw : gW D A s.heap [cA G (a 2) 4 kd, cA G (a 3) 12 nu, cJ G (a 13) 8 vP, cJ G (a 14) 8 vS, cJ G (a 15) 8 vD, cJ G (a 16) 8 vQ, cA G (a 18) 17 wA, cA G (a 19) 17 fA, cA G (a 27) 240 ce, cA G (a 17) 12 h1, oX6 h a (F_bar sz ln ft kk lv ii (3 * mm)) pn ra rm rP rS rD rQ al rw rc tr, cA G (a 25) 4 sz, cA G (a 26) 4 ln] H locs := hw
                replace hl : lv_has ls 10 [(8, .int (iI yy)), (7, .int (iI ((60 * kk) + ii))), (6, .int (iI ((R_bar sz ln kk lv ii (3 * mm))))), (0, .ref h), (1, .int (iI kk)), (2, .int (iI lv)), (3, .int (iI ii)), (4, .int (iI mm)), (5, .int (iI wh))] := hl
                replace ih_9 : ∀ (yy' : Int) (h1' : Int → Int), ((0 ≤ yy' ∧ yy' ≤ 3 * pn) ∧ (∀ j, 0 ≤ j → j < yy' → h1' j = nu j)) → ((3 * pn - yy').toNat) < ((3 * pn - yy).toNat) → ∀ (H : Heap) (locs : List Loc) (ls : Array Slot), gW D A s.heap [cA G (a 2) 4 kd, cA G (a 3) 12 nu, cJ G (a 13) 8 vP, cJ G (a 14) 8 vS, cJ G (a 15) 8 vD, cJ G (a 16) 8 vQ, cA G (a 18) 17 wA, cA G (a 19) 17 fA, cA G (a 27) 240 ce, cA G (a 17) 12 h1', oX6 h a (F_bar sz ln ft kk lv ii (3 * mm)) pn ra rm rP rS rD rQ al rw rc tr, cA G (a 25) 4 sz, cA G (a 26) 4 ln] H locs → lv_has ls 10 [(8, .int (iI (yy'))), (7, .int (iI (((60 * kk) + ii)))), (6, .int (iI ((R_bar sz ln kk lv ii (3 * mm))))), (0, .ref h), (1, .int (iI kk)), (2, .int (iI lv)), (3, .int (iI ii)), (4, .int (iI mm)), (5, .int (iI wh))] → W p l e _ s m _ below meth c H locs _ _ _ (F0 m 190 ls []) := fun yy' h1' => ih_9 (yy', h1')
                refine g_iload C hl 0 rfl dX6_day_190 ?_
                refine g_iconst C dX6_day_192 ?_
                refine g_aload_n C hl 3 rfl rfl dX6_day_193 ?_
                refine g_get C hw hin_X6_day_X6 10 rfl rfl 1 (by decide) lk_X6_day_75 rfl dX6_day_194 ?_
                refine g_imul C dX6_day_197 ?_
                refine g_icmp_ge C 221 dX6_day_198 (by decide) (by omega) (by omega) (fun c_10 => ?_) (fun c_10 => ?_)
                · skip
                  have hdc9 : allX (dcP ce (60 * kk + ii)) mm := by rw [show mm = xx by omega]; exact hdc
                  refine g_aload_n C hl 3 rfl rfl dX6_day_221 ?_
                  refine g_iload C hl 1 rfl dX6_day_222 ?_
                  refine g_iload C hl 7 rfl dX6_day_224 ?_
                  refine g_iload C hl 8 rfl dX6_day_226 ?_
                  refine g_callVi C hw (wr := [cA G (a 17) 12 h1, cA G (a 25) 4 sz, cA G (a 26) 4 ln]) (As := [.int (iI ((60 * kk) + ii)), .int (iI mm), .int (iI wh)]) (rest := []) (m_X6_dayOf l D G (h := h) (a := a) (ft := (F_bar sz ln ft kk lv ii (3 * mm))) (pn := pn) (ra := ra) (rm := rm) (rP := rP) (rS := rS) (rD := rD) (rQ := rQ) (al := al) (rw := rw) (rc := rc) (tr := tr) (kd := kd) (nu := nu) (vP := vP) (vS := vS) (vD := vD) (vQ := vQ) (wA := wA) (fA := fA) (ce := ce) (fr := ((60 * kk) + ii)) (mm := mm) (wh := wh) (by first | assumption | omega) (by first | assumption | omega) (by first | assumption | omega) (by first | assumption | omega) (by first | assumption | omega) (by first | assumption | omega) (by first | assumption | omega) (by first | assumption | omega) (by first | assumption | omega)) (cwV 3 C.1.2.2.2.2 gX6_day_X6_dayOf rfl rfl rfl (by decide +kernel) ⟨Nat.le_of_ble_eq_true rfl, Nat.le_of_ble_eq_true rfl⟩) [10, 0, 1, 2, 3, 4, 5, 6, 7, 8] [9, 11, 12] rfl rfl (by decide) (by decide) (by decide) 0 rfl rfl rfl hl.1 _ rfl (Nat.le_of_ble_eq_true rfl) dX6_day_228 ⟨Nat.le_of_ble_eq_true rfl, Nat.le_of_ble_eq_true rfl⟩ ?_
                  clear hw
                  rintro _ _ H locs ⟨al2__11, rw2__12, r2P__13, r2S__14, r2D__15, r2Q__16, vP2__17, vS2__18, vD2__19, vQ2__20, wA2__21, fA2__22, nuD, rfl, rfl, hp_23⟩ hw
                  have hw : gW D A s.heap [cA G (a 17) 12 h1, cA G (a 25) 4 sz, cA G (a 26) 4 ln, oX6 h a (F_bar sz ln ft kk lv ii (3 * mm)) pn ra rm r2P__13 r2S__14 r2D__15 r2Q__16 al2__11 rw2__12 rc tr, cA G (a 2) 4 kd, cA G (a 3) 12 nuD, cJ G (a 13) 8 vP2__17, cJ G (a 14) 8 vS2__18, cJ G (a 15) 8 vD2__19, cJ G (a 16) 8 vQ2__20, cA G (a 18) 17 wA2__21, cA G (a 19) 17 fA2__22, cA G (a 27) 240 ce] H locs := hw
                  have hp_23 : ∀ j, ¬ (0 ≤ j ∧ j < 3 * pn) → nuD j = nu j := hp_23
                  have hout := hp_23
                  refine g_istore C [(8, .int (iI ((R_dyo pn kd nu ce ((60 * kk) + ii) mm wh)))), (7, .int (iI ((60 * kk) + ii))), (6, .int (iI ((R_bar sz ln kk lv ii (3 * mm))))), (0, .ref h), (1, .int (iI kk)), (2, .int (iI lv)), (3, .int (iI ii)), (4, .int (iI mm)), (5, .int (iI wh))] dX6_day_231 hl (by decide) rfl ?_
                  clear hl
                  intro ls hl
                  refine g_iconst C dX6_day_233 ?_
                  refine g_istore C [(9, .int (iI 0)), (8, .int (iI ((R_dyo pn kd nu ce ((60 * kk) + ii) mm wh)))), (7, .int (iI ((60 * kk) + ii))), (6, .int (iI ((R_bar sz ln kk lv ii (3 * mm))))), (0, .ref h), (1, .int (iI kk)), (2, .int (iI lv)), (3, .int (iI ii)), (4, .int (iI mm)), (5, .int (iI wh))] dX6_day_234 hl (by decide) rfl ?_
                  clear hl
                  intro ls hl
                  refine g_loop (σ := (Int) × (Int → Int)) (fun z_ => [cA G (a 17) 12 h1, cA G (a 25) 4 sz, cA G (a 26) 4 ln, oX6 h a (F_bar sz ln ft kk lv ii (3 * mm)) pn ra rm r2P__13 r2S__14 r2D__15 r2Q__16 al2__11 rw2__12 rc tr, cA G (a 2) 4 kd, cA G (a 3) 12 z_.2, cJ G (a 13) 8 vP2__17, cJ G (a 14) 8 vS2__18, cJ G (a 15) 8 vD2__19, cJ G (a 16) 8 vQ2__20, cA G (a 18) 17 wA2__21, cA G (a 19) 17 fA2__22, cA G (a 27) 240 ce]) (fun z_ => [(9, .int (iI (z_.1))), (8, .int (iI ((R_dyo pn kd nu ce ((60 * kk) + ii) mm wh)))), (7, .int (iI (((60 * kk) + ii)))), (6, .int (iI ((R_bar sz ln kk lv ii (3 * mm))))), (0, .ref h), (1, .int (iI kk)), (2, .int (iI lv)), (3, .int (iI ii)), (4, .int (iI mm)), (5, .int (iI wh))]) (fun z_ => (0 ≤ z_.1 ∧ z_.1 ≤ 3 * pn) ∧ (∀ j, 0 ≤ j → j < z_.1 → z_.2 j = nu j) ∧ (∀ j, ¬ (0 ≤ j ∧ j < z_.1) → z_.2 j = nuD j)) (fun z_ => (3 * pn - z_.1).toNat) (0, nuD) ⟨by (try dsimp only); omega, by (try dsimp only); intro j a1 a2; omega, by (try dsimp only); exact fun _ _ => rfl⟩ hw (lv_sub hl [0, 1, 2, 3, 4, 5, 6, 7, 8, 9] rfl) ?_
                  clear hw hl
                  rintro ⟨zz, t1⟩ ⟨hzz, ht1, ht2⟩ H locs ls hw hl ih_24
                  replace hzz : 0 ≤ zz ∧ zz ≤ 3 * pn := hzz
                  replace ht1 : ∀ j, 0 ≤ j → j < zz → t1 j = nu j := ht1
                  replace ht2 : ∀ j, ¬ (0 ≤ j ∧ j < zz) → t1 j = nuD j := ht2
                  replace hw : gW D A s.heap [cA G (a 17) 12 h1, cA G (a 25) 4 sz, cA G (a 26) 4 ln, oX6 h a (F_bar sz ln ft kk lv ii (3 * mm)) pn ra rm r2P__13 r2S__14 r2D__15 r2Q__16 al2__11 rw2__12 rc tr, cA G (a 2) 4 kd, cA G (a 3) 12 t1, cJ G (a 13) 8 vP2__17, cJ G (a 14) 8 vS2__18, cJ G (a 15) 8 vD2__19, cJ G (a 16) 8 vQ2__20, cA G (a 18) 17 wA2__21, cA G (a 19) 17 fA2__22, cA G (a 27) 240 ce] H locs := hw
                  replace hl : lv_has ls 10 [(9, .int (iI zz)), (8, .int (iI ((R_dyo pn kd nu ce ((60 * kk) + ii) mm wh)))), (7, .int (iI ((60 * kk) + ii))), (6, .int (iI ((R_bar sz ln kk lv ii (3 * mm))))), (0, .ref h), (1, .int (iI kk)), (2, .int (iI lv)), (3, .int (iI ii)), (4, .int (iI mm)), (5, .int (iI wh))] := hl
                  replace ih_24 : ∀ (zz' : Int) (t1' : Int → Int), ((0 ≤ zz' ∧ zz' ≤ 3 * pn) ∧ (∀ j, 0 ≤ j → j < zz' → t1' j = nu j) ∧ (∀ j, ¬ (0 ≤ j ∧ j < zz') → t1' j = nuD j)) → ((3 * pn - zz').toNat) < ((3 * pn - zz).toNat) → ∀ (H : Heap) (locs : List Loc) (ls : Array Slot), gW D A s.heap [cA G (a 17) 12 h1, cA G (a 25) 4 sz, cA G (a 26) 4 ln, oX6 h a (F_bar sz ln ft kk lv ii (3 * mm)) pn ra rm r2P__13 r2S__14 r2D__15 r2Q__16 al2__11 rw2__12 rc tr, cA G (a 2) 4 kd, cA G (a 3) 12 t1', cJ G (a 13) 8 vP2__17, cJ G (a 14) 8 vS2__18, cJ G (a 15) 8 vD2__19, cJ G (a 16) 8 vQ2__20, cA G (a 18) 17 wA2__21, cA G (a 19) 17 fA2__22, cA G (a 27) 240 ce] H locs → lv_has ls 10 [(9, .int (iI (zz'))), (8, .int (iI ((R_dyo pn kd nu ce ((60 * kk) + ii) mm wh)))), (7, .int (iI (((60 * kk) + ii)))), (6, .int (iI ((R_bar sz ln kk lv ii (3 * mm))))), (0, .ref h), (1, .int (iI kk)), (2, .int (iI lv)), (3, .int (iI ii)), (4, .int (iI mm)), (5, .int (iI wh))] → W p l e _ s m _ below meth c H locs _ _ _ (F0 m 236 ls []) := fun zz' t1' => ih_24 (zz', t1')
                  refine g_iload C hl 0 rfl dX6_day_236 ?_
                  refine g_iconst C dX6_day_238 ?_
                  refine g_aload_n C hl 4 rfl rfl dX6_day_239 ?_
                  refine g_get C hw hin_X6_day_X6 3 rfl rfl 1 (by decide) lk_X6_day_75 rfl dX6_day_240 ?_
                  refine g_imul C dX6_day_243 ?_
                  refine g_icmp_ge C 267 dX6_day_244 (by decide) (by omega) (by omega) (fun c_25 => ?_) (fun c_25 => ?_)
                  · skip
                    refine g_aload_n C hl 4 rfl rfl dX6_day_267 ?_
                    refine g_iload C hl 1 rfl dX6_day_268 ?_
                    refine g_callVi C hw (wr := [cA G (a 17) 12 h1, cA G (a 25) 4 sz, cA G (a 26) 4 ln, cA G (a 2) 4 kd, cA G (a 3) 12 t1, cJ G (a 13) 8 vP2__17, cJ G (a 14) 8 vS2__18, cJ G (a 15) 8 vD2__19, cJ G (a 16) 8 vQ2__20, cA G (a 18) 17 wA2__21, cA G (a 19) 17 fA2__22, cA G (a 27) 240 ce]) (As := [.int (iI ((R_dyo pn kd nu ce ((60 * kk) + ii) mm wh)))]) (rest := []) (m_X6_refused l D G (h := h) (a := a) (ft := (F_bar sz ln ft kk lv ii (3 * mm))) (pn := pn) (ra := ra) (rm := rm) (rP := r2P__13) (rS := r2S__14) (rD := r2D__15) (rQ := r2Q__16) (al := al2__11) (rw := rw2__12) (rc := rc) (tr := tr) (cd := (R_dyo pn kd nu ce ((60 * kk) + ii) mm wh)) ) (cwV 1 C.1.2.2.2.2 gX6_day_X6_refused rfl rfl rfl (by decide +kernel) ⟨Nat.le_of_ble_eq_true rfl, Nat.le_of_ble_eq_true rfl⟩) [3] [0, 1, 2, 4, 5, 6, 7, 8, 9, 10, 11, 12] rfl rfl (by decide) (by decide) (by decide) 0 rfl rfl rfl hl.1 _ rfl (Nat.le_of_ble_eq_true rfl) dX6_day_270 ⟨Nat.le_of_ble_eq_true rfl, Nat.le_of_ble_eq_true rfl⟩ ?_
                    clear hw
                    rintro _ _ H locs ⟨rfl, rfl⟩ hw
                    have hw : gW D A s.heap [cA G (a 17) 12 h1, cA G (a 25) 4 sz, cA G (a 26) 4 ln, cA G (a 2) 4 kd, cA G (a 3) 12 t1, cJ G (a 13) 8 vP2__17, cJ G (a 14) 8 vS2__18, cJ G (a 15) 8 vD2__19, cJ G (a 16) 8 vQ2__20, cA G (a 18) 17 wA2__21, cA G (a 19) 17 fA2__22, cA G (a 27) 240 ce, oX6 h a 0 pn ra rm r2P__13 r2S__14 r2D__15 r2Q__16 al2__11 rw2__12 rc tr] H locs := hw
                    have w9 : D_st pn kk lv mm wh = 0 := by unfold D_st; (repeat' split) <;> omega
                    obtain ⟨wr9, wf9⟩ := R_day_4 (n := pn) (kd := kd) (nu := nu) (sz := sz) (ln := ln) (ce := ce) (k := kk) (lane := lv) (i := ii) (m := mm) (w := wh) w9 b1 hdc9
                    have hn9 : t1 = nu := by
                      funext j
                      rcases Classical.em (0 ≤ j ∧ j < 3 * pn) with q | q
                      · exact ht1 j q.1 (by omega)
                      · rw [ht2 j (by omega)]; exact hout j q
                    exact g_iret C hr (ws' := [oX6 h a 0 pn ra rm r2P__13 r2S__14 r2D__15 r2Q__16 al2__11 rw2__12 rc tr, cA G (a 2) 4 kd, cA G (a 3) 12 t1, cJ G (a 13) 8 vP2__17, cJ G (a 14) 8 vS2__18, cJ G (a 15) 8 vD2__19, cJ G (a 16) 8 vQ2__20, cA G (a 18) 17 wA2__21, cA G (a 19) 17 fA2__22, cA G (a 25) 4 sz, cA G (a 26) 4 ln, cA G (a 27) 240 ce, cA G (a 17) 12 h1]) hw [12, 3, 4, 5, 6, 7, 8, 9, 10, 1, 2, 11, 0] (by decide) rfl ⟨al2__11, rw2__12, r2P__13, r2S__14, r2D__15, r2Q__16, vP2__17, vS2__18, vD2__19, vQ2__20, wA2__21, fA2__22, h1, (congrArg iI (by exact wr9.symm)), (by first | (rw [wf9, hn9]; done) | (rw [wf9]; done))⟩ dX6_day_273
                  · skip
                    refine g_aload_n C hl 4 rfl rfl dX6_day_247 ?_
                    refine g_get C hw hin_X6_day_X6 3 rfl rfl 3 (by decide) lk_X6_day_13 rfl dX6_day_248 ?_
                    refine g_iload C hl 0 rfl dX6_day_251 ?_
                    refine g_aload_n C hl 4 rfl rfl dX6_day_253 ?_
                    refine g_get C hw hin_X6_day_X6 3 rfl rfl 17 (by decide) lk_X6_day_35 rfl dX6_day_254 ?_
                    refine g_iload C hl 0 rfl dX6_day_257 ?_
                    refine g_iald C hw 0 rfl (by omega) (Nat.le_of_ble_eq_true rfl) dX6_day_259 ?_
                    refine g_iast C hw [cA G (a 17) 12 h1, cA G (a 25) 4 sz, cA G (a 26) 4 ln, oX6 h a (F_bar sz ln ft kk lv ii (3 * mm)) pn ra rm r2P__13 r2S__14 r2D__15 r2Q__16 al2__11 rw2__12 rc tr, cA G (a 2) 4 kd, cA G (a 3) 12 (up t1 zz (h1 zz)), cJ G (a 13) 8 vP2__17, cJ G (a 14) 8 vS2__18, cJ G (a 15) 8 vD2__19, cJ G (a 16) 8 vQ2__20, cA G (a 18) 17 wA2__21, cA G (a 19) 17 fA2__22, cA G (a 27) 240 ce] 5 rfl (by omega) (Nat.le_of_ble_eq_true rfl) rfl dX6_day_260 ?_
                    clear hw
                    intro H locs hw
                    refine g_iinc C [(9, .int (iI (zz + 1))), (8, .int (iI ((R_dyo pn kd nu ce ((60 * kk) + ii) mm wh)))), (7, .int (iI ((60 * kk) + ii))), (6, .int (iI ((R_bar sz ln kk lv ii (3 * mm))))), (0, .ref h), (1, .int (iI kk)), (2, .int (iI lv)), (3, .int (iI ii)), (4, .int (iI mm)), (5, .int (iI wh))] 0 dX6_day_261 hl rfl (by decide) rfl ?_
                    clear hl
                    intro ls hl
                    refine g_goto C 236 dX6_day_264 (by decide) ?_
                    have hw : gW D A s.heap [cA G (a 17) 12 h1, cA G (a 25) 4 sz, cA G (a 26) 4 ln, oX6 h a (F_bar sz ln ft kk lv ii (3 * mm)) pn ra rm r2P__13 r2S__14 r2D__15 r2Q__16 al2__11 rw2__12 rc tr, cA G (a 2) 4 kd, cA G (a 3) 12 (up t1 zz (h1 zz)), cJ G (a 13) 8 vP2__17, cJ G (a 14) 8 vS2__18, cJ G (a 15) 8 vD2__19, cJ G (a 16) 8 vQ2__20, cA G (a 18) 17 wA2__21, cA G (a 19) 17 fA2__22, cA G (a 27) 240 ce] H locs := g_perm hw [0, 1, 2, 3, 4, 5, 6, 7, 8, 9, 10, 11, 12] (by decide) rfl
                    exact ih_24 (zz + 1) (up t1 zz (h1 zz)) ⟨by omega, by intro j a1 a2; by_cases q : j = zz; rw [q, up_s]; exact hh1 zz (by omega) (by omega); rw [up_n q]; exact ht1 j a1 (by omega), by intro j a1; rw [up_n (by omega)]; exact ht2 j (by omega)⟩ (by omega) H locs ls hw (lv_sub hl [0, 1, 2, 3, 4, 5, 6, 7, 8, 9] rfl)
                · skip
                  refine g_aload_n C hl 3 rfl rfl dX6_day_201 ?_
                  refine g_get C hw hin_X6_day_X6 10 rfl rfl 17 (by decide) lk_X6_day_35 rfl dX6_day_202 ?_
                  refine g_iload C hl 0 rfl dX6_day_205 ?_
                  refine g_aload_n C hl 3 rfl rfl dX6_day_207 ?_
                  refine g_get C hw hin_X6_day_X6 10 rfl rfl 3 (by decide) lk_X6_day_13 rfl dX6_day_208 ?_
                  refine g_iload C hl 0 rfl dX6_day_211 ?_
                  refine g_iald C hw 1 rfl (by omega) (Nat.le_of_ble_eq_true rfl) dX6_day_213 ?_
                  refine g_iast C hw [cA G (a 2) 4 kd, cA G (a 3) 12 nu, cJ G (a 13) 8 vP, cJ G (a 14) 8 vS, cJ G (a 15) 8 vD, cJ G (a 16) 8 vQ, cA G (a 18) 17 wA, cA G (a 19) 17 fA, cA G (a 27) 240 ce, cA G (a 17) 12 (up h1 yy (nu yy)), oX6 h a (F_bar sz ln ft kk lv ii (3 * mm)) pn ra rm rP rS rD rQ al rw rc tr, cA G (a 25) 4 sz, cA G (a 26) 4 ln] 9 rfl (by omega) (Nat.le_of_ble_eq_true rfl) rfl dX6_day_214 ?_
                  clear hw
                  intro H locs hw
                  refine g_iinc C [(8, .int (iI (yy + 1))), (7, .int (iI ((60 * kk) + ii))), (6, .int (iI ((R_bar sz ln kk lv ii (3 * mm))))), (0, .ref h), (1, .int (iI kk)), (2, .int (iI lv)), (3, .int (iI ii)), (4, .int (iI mm)), (5, .int (iI wh))] 0 dX6_day_215 hl rfl (by decide) rfl ?_
                  clear hl
                  intro ls hl
                  refine g_goto C 190 dX6_day_218 (by decide) ?_
                  have hw : gW D A s.heap [cA G (a 2) 4 kd, cA G (a 3) 12 nu, cJ G (a 13) 8 vP, cJ G (a 14) 8 vS, cJ G (a 15) 8 vD, cJ G (a 16) 8 vQ, cA G (a 18) 17 wA, cA G (a 19) 17 fA, cA G (a 27) 240 ce, cA G (a 17) 12 (up h1 yy (nu yy)), oX6 h a (F_bar sz ln ft kk lv ii (3 * mm)) pn ra rm rP rS rD rQ al rw rc tr, cA G (a 25) 4 sz, cA G (a 26) 4 ln] H locs := g_perm hw [0, 1, 2, 3, 4, 5, 6, 7, 8, 9, 10, 11, 12] (by decide) rfl
                  exact ih_9 (yy + 1) (up h1 yy (nu yy)) ⟨by omega, by intro j a1 a2; by_cases q : j = yy; rw [q, up_s]; rw [up_n q]; exact hh1 j a1 (by omega)⟩ (by omega) H locs ls hw (lv_sub hl [0, 1, 2, 3, 4, 5, 6, 7, 8] rfl)
              · skip
                refine g_aload_n C hl 3 rfl rfl dX6_day_129 ?_
                refine g_get C hw hin_X6_day_X6 10 rfl rfl 27 (by decide) lk_X6_day_59 rfl dX6_day_130 ?_
                refine g_iload C hl 1 rfl dX6_day_133 ?_
                refine g_iconst C dX6_day_135 ?_
                refine g_iload C hl 0 rfl dX6_day_136 ?_
                refine g_imul C dX6_day_138 ?_
                refine g_iadd C dX6_day_139 ?_
                refine g_iconst C dX6_day_140 ?_
                refine g_iadd C dX6_day_141 ?_
                refine g_iald C hw 8 rfl (by omega) (Nat.le_of_ble_eq_true rfl) dX6_day_142 ?_
                refine g_i2l C dX6_day_143 (by omega) ?_
                refine g_lconst0 C dX6_day_144 ?_
                refine g_ldc2 C (2) cn_X6_day_117 (by decide +kernel) dX6_day_145 ?_
                refine g_callSi C hw (wr := [cA G (a 2) 4 kd, cA G (a 3) 12 nu, cJ G (a 13) 8 vP, cJ G (a 14) 8 vS, cJ G (a 15) 8 vD, cJ G (a 16) 8 vQ, cA G (a 18) 17 wA, cA G (a 19) 17 fA, cA G (a 27) 240 ce, cA G (a 17) 12 ht, oX6 h a (F_bar sz ln ft kk lv ii (3 * mm)) pn ra rm rP rS rD rQ al rw rc tr, cA G (a 25) 4 sz, cA G (a 26) 4 ln]) (As := [.long (lI (ce ((((60 * kk) + ii) + (3 * xx)) + 1))), .long (lI (0)), .long (lI (2))]) (rest := []) (m_X6_in l D G (va := (ce ((((60 * kk) + ii) + (3 * xx)) + 1))) (vb := 0) (vc := 2) (by first | assumption | omega) (by first | assumption | omega) (by first | assumption | omega)) (va_cwS 3 C.1.2.2.2.2 gX6_day_X6_in rfl rfl rfl (by decide +kernel) ⟨Nat.le_of_ble_eq_true rfl, Nat.le_of_ble_eq_true rfl⟩) [] [0, 1, 2, 3, 4, 5, 6, 7, 8, 9, 10, 11, 12] rfl rfl (by decide) (by decide) (by decide) rfl hl.1 _ rfl (Nat.le_of_ble_eq_true rfl) dX6_day_148 ⟨Nat.le_of_ble_eq_true rfl, Nat.le_of_ble_eq_true rfl⟩ ?_
                clear hw
                rintro _ _ H locs ⟨rfl, rfl⟩ hw
                have hw : gW D A s.heap [cA G (a 2) 4 kd, cA G (a 3) 12 nu, cJ G (a 13) 8 vP, cJ G (a 14) 8 vS, cJ G (a 15) 8 vD, cJ G (a 16) 8 vQ, cA G (a 18) 17 wA, cA G (a 19) 17 fA, cA G (a 27) 240 ce, cA G (a 17) 12 ht, oX6 h a (F_bar sz ln ft kk lv ii (3 * mm)) pn ra rm rP rS rD rQ al rw rc tr, cA G (a 25) 4 sz, cA G (a 26) 4 ln] H locs := hw
                refine g_ifb_eq C 174 dX6_day_151 (by decide) (fun c_26 => ?_) (fun c_26 => ?_)
                · skip
                  refine g_aload_n C hl 3 rfl rfl dX6_day_174 ?_
                  refine g_bipush C dX6_day_175 (by decide) ?_
                  refine g_callVi C hw (wr := [cA G (a 2) 4 kd, cA G (a 3) 12 nu, cJ G (a 13) 8 vP, cJ G (a 14) 8 vS, cJ G (a 15) 8 vD, cJ G (a 16) 8 vQ, cA G (a 18) 17 wA, cA G (a 19) 17 fA, cA G (a 27) 240 ce, cA G (a 17) 12 ht, cA G (a 25) 4 sz, cA G (a 26) 4 ln]) (As := [.int (iI ((-2)))]) (rest := []) (m_X6_refused l D G (h := h) (a := a) (ft := (F_bar sz ln ft kk lv ii (3 * mm))) (pn := pn) (ra := ra) (rm := rm) (rP := rP) (rS := rS) (rD := rD) (rQ := rQ) (al := al) (rw := rw) (rc := rc) (tr := tr) (cd := (-2)) ) (cwV 1 C.1.2.2.2.2 gX6_day_X6_refused rfl rfl rfl (by decide +kernel) ⟨Nat.le_of_ble_eq_true rfl, Nat.le_of_ble_eq_true rfl⟩) [10] [0, 1, 2, 3, 4, 5, 6, 7, 8, 9, 11, 12] rfl rfl (by decide) (by decide) (by decide) 0 rfl rfl rfl hl.1 _ rfl (Nat.le_of_ble_eq_true rfl) dX6_day_177 ⟨Nat.le_of_ble_eq_true rfl, Nat.le_of_ble_eq_true rfl⟩ ?_
                  clear hw
                  rintro _ _ H locs ⟨rfl, rfl⟩ hw
                  have hw : gW D A s.heap [cA G (a 2) 4 kd, cA G (a 3) 12 nu, cJ G (a 13) 8 vP, cJ G (a 14) 8 vS, cJ G (a 15) 8 vD, cJ G (a 16) 8 vQ, cA G (a 18) 17 wA, cA G (a 19) 17 fA, cA G (a 27) 240 ce, cA G (a 17) 12 ht, cA G (a 25) 4 sz, cA G (a 26) 4 ln, oX6 h a 0 pn ra rm rP rS rD rQ al rw rc tr] H locs := hw
                  have w9 : D_st pn kk lv mm wh = 0 := by unfold D_st; (repeat' split) <;> omega
                  obtain ⟨wr9, wf9⟩ := R_day_3 (n := pn) (kd := kd) (nu := nu) (sz := sz) (ln := ln) (ce := ce) (k := kk) (lane := lv) (i := ii) (m := mm) (w := wh) w9 b1 (fun q => absurd (dcP_i (q xx (by omega) (by omega))) (by omega))
                  exact g_iret C hr (ws' := [oX6 h a 0 pn ra rm rP rS rD rQ al rw rc tr, cA G (a 2) 4 kd, cA G (a 3) 12 nu, cJ G (a 13) 8 vP, cJ G (a 14) 8 vS, cJ G (a 15) 8 vD, cJ G (a 16) 8 vQ, cA G (a 18) 17 wA, cA G (a 19) 17 fA, cA G (a 25) 4 sz, cA G (a 26) 4 ln, cA G (a 27) 240 ce, cA G (a 17) 12 ht]) hw [12, 0, 1, 2, 3, 4, 5, 6, 7, 10, 11, 8, 9] (by decide) rfl ⟨al, rw, rP, rS, rD, rQ, vP, vS, vD, vQ, wA, fA, ht, (congrArg iI (by exact wr9.symm)), (by first | (rw [wf9, hn9]; done) | (rw [wf9]; done))⟩ dX6_day_180
                · skip
                  refine g_aload_n C hl 3 rfl rfl dX6_day_154 ?_
                  refine g_get C hw hin_X6_day_X6 10 rfl rfl 27 (by decide) lk_X6_day_59 rfl dX6_day_155 ?_
                  refine g_iload C hl 1 rfl dX6_day_158 ?_
                  refine g_iconst C dX6_day_160 ?_
                  refine g_iload C hl 0 rfl dX6_day_161 ?_
                  refine g_imul C dX6_day_163 ?_
                  refine g_iadd C dX6_day_164 ?_
                  refine g_iconst C dX6_day_165 ?_
                  refine g_iadd C dX6_day_166 ?_
                  refine g_iald C hw 8 rfl (by omega) (Nat.le_of_ble_eq_true rfl) dX6_day_167 ?_
                  refine g_callSi C hw (wr := [cA G (a 2) 4 kd, cA G (a 3) 12 nu, cJ G (a 13) 8 vP, cJ G (a 14) 8 vS, cJ G (a 15) 8 vD, cJ G (a 16) 8 vQ, cA G (a 18) 17 wA, cA G (a 19) 17 fA, cA G (a 27) 240 ce, cA G (a 17) 12 ht, oX6 h a (F_bar sz ln ft kk lv ii (3 * mm)) pn ra rm rP rS rD rQ al rw rc tr, cA G (a 25) 4 sz, cA G (a 26) 4 ln]) (As := [.int (iI (ce ((((60 * kk) + ii) + (3 * xx)) + 2)))]) (rest := []) (m_X6_isCoefficient l D G (vv := (ce ((((60 * kk) + ii) + (3 * xx)) + 2))) (by first | assumption | omega)) (va_cwS 1 C.1.2.2.2.2 gX6_day_X6_isCoefficient rfl rfl rfl (by decide +kernel) ⟨Nat.le_of_ble_eq_true rfl, Nat.le_of_ble_eq_true rfl⟩) [] [0, 1, 2, 3, 4, 5, 6, 7, 8, 9, 10, 11, 12] rfl rfl (by decide) (by decide) (by decide) rfl hl.1 _ rfl (Nat.le_of_ble_eq_true rfl) dX6_day_168 ⟨Nat.le_of_ble_eq_true rfl, Nat.le_of_ble_eq_true rfl⟩ ?_
                  clear hw
                  rintro _ _ H locs ⟨rfl, rfl⟩ hw
                  have hw : gW D A s.heap [cA G (a 2) 4 kd, cA G (a 3) 12 nu, cJ G (a 13) 8 vP, cJ G (a 14) 8 vS, cJ G (a 15) 8 vD, cJ G (a 16) 8 vQ, cA G (a 18) 17 wA, cA G (a 19) 17 fA, cA G (a 27) 240 ce, cA G (a 17) 12 ht, oX6 h a (F_bar sz ln ft kk lv ii (3 * mm)) pn ra rm rP rS rD rQ al rw rc tr, cA G (a 25) 4 sz, cA G (a 26) 4 ln] H locs := hw
                  refine g_ifb_ne C 181 dX6_day_171 (by decide) (fun c_27 => ?_) (fun c_27 => ?_)
                  · skip
                    refine g_iinc C [(8, .int (iI (xx + 1))), (7, .int (iI ((60 * kk) + ii))), (6, .int (iI ((R_bar sz ln kk lv ii (3 * mm))))), (0, .ref h), (1, .int (iI kk)), (2, .int (iI lv)), (3, .int (iI ii)), (4, .int (iI mm)), (5, .int (iI wh))] 0 dX6_day_181 hl rfl (by decide) rfl ?_
                    clear hl
                    intro ls hl
                    refine g_goto C 122 dX6_day_184 (by decide) ?_
                    have hw : gW D A s.heap [cA G (a 2) 4 kd, cA G (a 3) 12 nu, cJ G (a 13) 8 vP, cJ G (a 14) 8 vS, cJ G (a 15) 8 vD, cJ G (a 16) 8 vQ, cA G (a 18) 17 wA, cA G (a 19) 17 fA, cA G (a 27) 240 ce, cA G (a 17) 12 ht, oX6 h a (F_bar sz ln ft kk lv ii (3 * mm)) pn ra rm rP rS rD rQ al rw rc tr, cA G (a 25) 4 sz, cA G (a 26) 4 ln] H locs := g_perm hw [0, 1, 2, 3, 4, 5, 6, 7, 8, 9, 10, 11, 12] (by decide) rfl
                    exact ih_7 (xx + 1) ⟨by omega, by exact allX_s hdc (dcP_t (by omega))⟩ (by omega) H locs ls hw (lv_sub hl [0, 1, 2, 3, 4, 5, 6, 7, 8] rfl)
                  · skip
                    refine g_aload_n C hl 3 rfl rfl dX6_day_174 ?_
                    refine g_bipush C dX6_day_175 (by decide) ?_
                    refine g_callVi C hw (wr := [cA G (a 2) 4 kd, cA G (a 3) 12 nu, cJ G (a 13) 8 vP, cJ G (a 14) 8 vS, cJ G (a 15) 8 vD, cJ G (a 16) 8 vQ, cA G (a 18) 17 wA, cA G (a 19) 17 fA, cA G (a 27) 240 ce, cA G (a 17) 12 ht, cA G (a 25) 4 sz, cA G (a 26) 4 ln]) (As := [.int (iI ((-2)))]) (rest := []) (m_X6_refused l D G (h := h) (a := a) (ft := (F_bar sz ln ft kk lv ii (3 * mm))) (pn := pn) (ra := ra) (rm := rm) (rP := rP) (rS := rS) (rD := rD) (rQ := rQ) (al := al) (rw := rw) (rc := rc) (tr := tr) (cd := (-2)) ) (cwV 1 C.1.2.2.2.2 gX6_day_X6_refused rfl rfl rfl (by decide +kernel) ⟨Nat.le_of_ble_eq_true rfl, Nat.le_of_ble_eq_true rfl⟩) [10] [0, 1, 2, 3, 4, 5, 6, 7, 8, 9, 11, 12] rfl rfl (by decide) (by decide) (by decide) 0 rfl rfl rfl hl.1 _ rfl (Nat.le_of_ble_eq_true rfl) dX6_day_177 ⟨Nat.le_of_ble_eq_true rfl, Nat.le_of_ble_eq_true rfl⟩ ?_
                    clear hw
                    rintro _ _ H locs ⟨rfl, rfl⟩ hw
                    have hw : gW D A s.heap [cA G (a 2) 4 kd, cA G (a 3) 12 nu, cJ G (a 13) 8 vP, cJ G (a 14) 8 vS, cJ G (a 15) 8 vD, cJ G (a 16) 8 vQ, cA G (a 18) 17 wA, cA G (a 19) 17 fA, cA G (a 27) 240 ce, cA G (a 17) 12 ht, cA G (a 25) 4 sz, cA G (a 26) 4 ln, oX6 h a 0 pn ra rm rP rS rD rQ al rw rc tr] H locs := hw
                    have w9 : D_st pn kk lv mm wh = 0 := by unfold D_st; (repeat' split) <;> omega
                    obtain ⟨wr9, wf9⟩ := R_day_3 (n := pn) (kd := kd) (nu := nu) (sz := sz) (ln := ln) (ce := ce) (k := kk) (lane := lv) (i := ii) (m := mm) (w := wh) w9 b1 (fun q => absurd (dcP_i (q xx (by omega) (by omega))) (by omega))
                    exact g_iret C hr (ws' := [oX6 h a 0 pn ra rm rP rS rD rQ al rw rc tr, cA G (a 2) 4 kd, cA G (a 3) 12 nu, cJ G (a 13) 8 vP, cJ G (a 14) 8 vS, cJ G (a 15) 8 vD, cJ G (a 16) 8 vQ, cA G (a 18) 17 wA, cA G (a 19) 17 fA, cA G (a 25) 4 sz, cA G (a 26) 4 ln, cA G (a 27) 240 ce, cA G (a 17) 12 ht]) hw [12, 0, 1, 2, 3, 4, 5, 6, 7, 10, 11, 8, 9] (by decide) rfl ⟨al, rw, rP, rS, rD, rQ, vP, vS, vD, vQ, wA, fA, ht, (congrArg iI (by exact wr9.symm)), (by first | (rw [wf9, hn9]; done) | (rw [wf9]; done))⟩ dX6_day_180
            · skip
              refine g_iload C hl 0 rfl dX6_day_108 ?_
              obtain ⟨b1, b2, b3⟩ := R_bar_c (by omega : R_bar sz ln kk lv ii (3 * mm) < 0)
              have w9 : D_st pn kk lv mm wh = 0 := by unfold D_st; (repeat' split) <;> omega
              obtain ⟨wr9, wf9⟩ := R_day_2 (n := pn) (kd := kd) (nu := nu) (sz := sz) (ln := ln) (ce := ce) (k := kk) (lane := lv) (i := ii) (m := mm) (w := wh) w9 b1
              rw [← b2] at wr9
              have b4 := b3 ft
              rw [← b4] at wf9
              exact g_iret C hr (ws' := [oX6 h a (F_bar sz ln ft kk lv ii (3 * mm)) pn ra rm rP rS rD rQ al rw rc tr, cA G (a 2) 4 kd, cA G (a 3) 12 nu, cJ G (a 13) 8 vP, cJ G (a 14) 8 vS, cJ G (a 15) 8 vD, cJ G (a 16) 8 vQ, cA G (a 18) 17 wA, cA G (a 19) 17 fA, cA G (a 25) 4 sz, cA G (a 26) 4 ln, cA G (a 27) 240 ce, cA G (a 17) 12 ht]) hw [10, 0, 1, 2, 3, 4, 5, 6, 7, 11, 12, 8, 9] (by decide) rfl ⟨al, rw, rP, rS, rD, rQ, vP, vS, vD, vQ, wA, fA, ht, (congrArg iI (by exact wr9.symm)), (by first | (rw [wf9, hn9]; done) | (rw [wf9]; done))⟩ dX6_day_110
          · skip
            refine g_aload_n C hl 0 rfl rfl dX6_day_80 ?_
            refine g_bipush C dX6_day_81 (by decide) ?_
            refine g_callVi C hw (wr := [cA G (a 2) 4 kd, cA G (a 3) 12 nu, cJ G (a 13) 8 vP, cJ G (a 14) 8 vS, cJ G (a 15) 8 vD, cJ G (a 16) 8 vQ, cA G (a 18) 17 wA, cA G (a 19) 17 fA, cA G (a 25) 4 sz, cA G (a 26) 4 ln, cA G (a 27) 240 ce, cA G (a 17) 12 ht]) (As := [.int (iI ((-3)))]) (rest := []) (m_X6_refused l D G (h := h) (a := a) (ft := ft) (pn := pn) (ra := ra) (rm := rm) (rP := rP) (rS := rS) (rD := rD) (rQ := rQ) (al := al) (rw := rw) (rc := rc) (tr := tr) (cd := (-3)) ) (cwV 1 C.1.2.2.2.2 gX6_day_X6_refused rfl rfl rfl (by decide +kernel) ⟨Nat.le_of_ble_eq_true rfl, Nat.le_of_ble_eq_true rfl⟩) [0] [1, 2, 3, 4, 5, 6, 7, 8, 9, 10, 11, 12] rfl rfl (by decide) (by decide) (by decide) 0 rfl rfl rfl hl.1 _ rfl (Nat.le_of_ble_eq_true rfl) dX6_day_83 ⟨Nat.le_of_ble_eq_true rfl, Nat.le_of_ble_eq_true rfl⟩ ?_
            clear hw
            rintro _ _ H locs ⟨rfl, rfl⟩ hw
            have hw : gW D A s.heap [cA G (a 2) 4 kd, cA G (a 3) 12 nu, cJ G (a 13) 8 vP, cJ G (a 14) 8 vS, cJ G (a 15) 8 vD, cJ G (a 16) 8 vQ, cA G (a 18) 17 wA, cA G (a 19) 17 fA, cA G (a 25) 4 sz, cA G (a 26) 4 ln, cA G (a 27) 240 ce, cA G (a 17) 12 ht, oX6 h a 0 pn ra rm rP rS rD rQ al rw rc tr] H locs := hw
            have w9 : D_st pn kk lv mm wh = -3 := by unfold D_st; (repeat' split) <;> omega
            obtain ⟨wr9, wf9⟩ := R_day_1 (n := pn) (kd := kd) (nu := nu) (sz := sz) (ln := ln) (ce := ce) (k := kk) (lane := lv) (i := ii) (m := mm) (w := wh) (by rw [w9]; decide)
            rw [w9] at wr9
            exact g_iret C hr (ws' := [oX6 h a 0 pn ra rm rP rS rD rQ al rw rc tr, cA G (a 2) 4 kd, cA G (a 3) 12 nu, cJ G (a 13) 8 vP, cJ G (a 14) 8 vS, cJ G (a 15) 8 vD, cJ G (a 16) 8 vQ, cA G (a 18) 17 wA, cA G (a 19) 17 fA, cA G (a 25) 4 sz, cA G (a 26) 4 ln, cA G (a 27) 240 ce, cA G (a 17) 12 ht]) hw [12, 0, 1, 2, 3, 4, 5, 6, 7, 8, 9, 10, 11] (by decide) rfl ⟨al, rw, rP, rS, rD, rQ, vP, vS, vD, vQ, wA, fA, ht, (congrArg iI (by exact wr9.symm)), (by first | (rw [wf9, hn9]; done) | (rw [wf9]; done))⟩ dX6_day_86
        · skip
          refine g_iload C hl 5 rfl dX6_day_51 ?_
          refine g_i2l C dX6_day_53 (by omega) ?_
          refine g_ldc2 C (10) cn_X6_day_196 (by decide +kernel) dX6_day_54 ?_
          refine g_ldc2 C (13) cn_X6_day_233 (by decide +kernel) dX6_day_57 ?_
          refine g_callSi C hw (wr := [oX6 h a ft pn ra rm rP rS rD rQ al rw rc tr, cA G (a 2) 4 kd, cA G (a 3) 12 nu, cJ G (a 13) 8 vP, cJ G (a 14) 8 vS, cJ G (a 15) 8 vD, cJ G (a 16) 8 vQ, cA G (a 18) 17 wA, cA G (a 19) 17 fA, cA G (a 25) 4 sz, cA G (a 26) 4 ln, cA G (a 27) 240 ce, cA G (a 17) 12 ht]) (As := [.long (lI (wh)), .long (lI (10)), .long (lI (13))]) (rest := []) (m_X6_in l D G (va := wh) (vb := 10) (vc := 13) (by first | assumption | omega) (by first | assumption | omega) (by first | assumption | omega)) (va_cwS 3 C.1.2.2.2.2 gX6_day_X6_in rfl rfl rfl (by decide +kernel) ⟨Nat.le_of_ble_eq_true rfl, Nat.le_of_ble_eq_true rfl⟩) [] [0, 1, 2, 3, 4, 5, 6, 7, 8, 9, 10, 11, 12] rfl rfl (by decide) (by decide) (by decide) rfl hl.1 _ rfl (Nat.le_of_ble_eq_true rfl) dX6_day_60 ⟨Nat.le_of_ble_eq_true rfl, Nat.le_of_ble_eq_true rfl⟩ ?_
          clear hw
          rintro _ _ H locs ⟨rfl, rfl⟩ hw
          have hw : gW D A s.heap [oX6 h a ft pn ra rm rP rS rD rQ al rw rc tr, cA G (a 2) 4 kd, cA G (a 3) 12 nu, cJ G (a 13) 8 vP, cJ G (a 14) 8 vS, cJ G (a 15) 8 vD, cJ G (a 16) 8 vQ, cA G (a 18) 17 wA, cA G (a 19) 17 fA, cA G (a 25) 4 sz, cA G (a 26) 4 ln, cA G (a 27) 240 ce, cA G (a 17) 12 ht] H locs := hw
          refine g_ifb_ne C 73 dX6_day_63 (by decide) (fun c_28 => ?_) (fun c_28 => ?_)
          · skip
            refine g_aload_n C hl 0 rfl rfl dX6_day_73 ?_
            refine g_get C hw hin_X6_day_X6 0 rfl rfl 1 (by decide) lk_X6_day_75 rfl dX6_day_74 ?_
            refine g_if_ne C 87 dX6_day_77 (by decide) (by omega) (fun c_29 => ?_) (fun c_29 => ?_)
            · skip
              refine g_aload_n C hl 0 rfl rfl dX6_day_87 ?_
              refine g_iload_n C hl 1 rfl rfl dX6_day_88 ?_
              refine g_iload_n C hl 2 rfl rfl dX6_day_89 ?_
              refine g_iload_n C hl 3 rfl rfl dX6_day_90 ?_
              refine g_ldc2 C (3) cn_X6_day_235 (by decide +kernel) dX6_day_91 ?_
              refine g_iload C hl 4 rfl dX6_day_94 ?_
              refine g_i2l C dX6_day_96 (by omega) ?_
              refine g_lmul C dX6_day_97 ?_
              refine g_callVi C hw (wr := [cA G (a 2) 4 kd, cA G (a 3) 12 nu, cJ G (a 13) 8 vP, cJ G (a 14) 8 vS, cJ G (a 15) 8 vD, cJ G (a 16) 8 vQ, cA G (a 18) 17 wA, cA G (a 19) 17 fA, cA G (a 27) 240 ce, cA G (a 17) 12 ht]) (As := [.int (iI kk), .int (iI lv), .int (iI ii), .long (lI (3 * mm))]) (rest := []) (m_X6_cellsBarred l D G (h := h) (a := a) (ft := ft) (pn := pn) (ra := ra) (rm := rm) (rP := rP) (rS := rS) (rD := rD) (rQ := rQ) (al := al) (rw := rw) (rc := rc) (tr := tr) (sz := sz) (ln := ln) (kk := kk) (lv := lv) (ii := ii) (nn := (3 * mm)) (by first | assumption | omega) (by first | assumption | omega) (by first | assumption | omega) (by first | assumption | omega) (by first | assumption | omega) (by first | assumption | omega)) (cwV 4 C.1.2.2.2.2 gX6_day_X6_cellsBarred rfl rfl rfl (by decide +kernel) ⟨Nat.le_of_ble_eq_true rfl, Nat.le_of_ble_eq_true rfl⟩) [0, 9, 10] [1, 2, 3, 4, 5, 6, 7, 8, 11, 12] rfl rfl (by decide) (by decide) (by decide) 0 rfl rfl rfl hl.1 _ rfl (Nat.le_of_ble_eq_true rfl) dX6_day_98 ⟨Nat.le_of_ble_eq_true rfl, Nat.le_of_ble_eq_true rfl⟩ ?_
              clear hw
              rintro _ _ H locs ⟨rfl, rfl⟩ hw
              have hw : gW D A s.heap [cA G (a 2) 4 kd, cA G (a 3) 12 nu, cJ G (a 13) 8 vP, cJ G (a 14) 8 vS, cJ G (a 15) 8 vD, cJ G (a 16) 8 vQ, cA G (a 18) 17 wA, cA G (a 19) 17 fA, cA G (a 27) 240 ce, cA G (a 17) 12 ht, oX6 h a (F_bar sz ln ft kk lv ii (3 * mm)) pn ra rm rP rS rD rQ al rw rc tr, cA G (a 25) 4 sz, cA G (a 26) 4 ln] H locs := hw
              refine g_istore C [(6, .int (iI ((R_bar sz ln kk lv ii (3 * mm))))), (0, .ref h), (1, .int (iI kk)), (2, .int (iI lv)), (3, .int (iI ii)), (4, .int (iI mm)), (5, .int (iI wh))] dX6_day_101 hl (by decide) rfl ?_
              clear hl
              intro ls hl
              refine g_iload C hl 0 rfl dX6_day_103 ?_
              refine g_if_ge C 111 dX6_day_105 (by decide) (by omega) (fun c_30 => ?_) (fun c_30 => ?_)
              · skip
                obtain ⟨b1, b2, b3⟩ := R_bar_0 (by omega : ¬ R_bar sz ln kk lv ii (3 * mm) < 0)
                have b4 := b2 ft
                refine g_bipush C dX6_day_111 (by decide) ?_
                refine g_iload_n C hl 2 rfl rfl dX6_day_113 ?_
                refine g_imul C dX6_day_114 ?_
                refine g_iload_n C hl 4 rfl rfl dX6_day_115 ?_
                refine g_iadd C dX6_day_116 ?_
                refine g_istore C [(7, .int (iI ((60 * kk) + ii))), (6, .int (iI ((R_bar sz ln kk lv ii (3 * mm))))), (0, .ref h), (1, .int (iI kk)), (2, .int (iI lv)), (3, .int (iI ii)), (4, .int (iI mm)), (5, .int (iI wh))] dX6_day_117 hl (by decide) rfl ?_
                clear hl
                intro ls hl
                refine g_iconst C dX6_day_119 ?_
                refine g_istore C [(8, .int (iI 0)), (7, .int (iI ((60 * kk) + ii))), (6, .int (iI ((R_bar sz ln kk lv ii (3 * mm))))), (0, .ref h), (1, .int (iI kk)), (2, .int (iI lv)), (3, .int (iI ii)), (4, .int (iI mm)), (5, .int (iI wh))] dX6_day_120 hl (by decide) rfl ?_
                clear hl
                intro ls hl
                refine g_loop (σ := (Int)) (fun z_ => [cA G (a 2) 4 kd, cA G (a 3) 12 nu, cJ G (a 13) 8 vP, cJ G (a 14) 8 vS, cJ G (a 15) 8 vD, cJ G (a 16) 8 vQ, cA G (a 18) 17 wA, cA G (a 19) 17 fA, cA G (a 27) 240 ce, cA G (a 17) 12 ht, oX6 h a (F_bar sz ln ft kk lv ii (3 * mm)) pn ra rm rP rS rD rQ al rw rc tr, cA G (a 25) 4 sz, cA G (a 26) 4 ln]) (fun z_ => [(8, .int (iI z_)), (7, .int (iI (((60 * kk) + ii)))), (6, .int (iI ((R_bar sz ln kk lv ii (3 * mm))))), (0, .ref h), (1, .int (iI kk)), (2, .int (iI lv)), (3, .int (iI ii)), (4, .int (iI mm)), (5, .int (iI wh))]) (fun z_ => (0 ≤ z_ ∧ z_ ≤ mm) ∧ (allX (dcP ce (60 * kk + ii)) z_)) (fun z_ => (mm - z_).toNat) 0 ⟨by (try dsimp only); omega, by (try dsimp only); intro x h1 h2; omega⟩ hw (lv_sub hl [0, 1, 2, 3, 4, 5, 6, 7, 8] rfl) ?_
                clear hw hl
                rintro xx ⟨hxx, hdc⟩ H locs ls hw hl ih_31
                replace hxx : 0 ≤ xx ∧ xx ≤ mm := hxx
                replace hdc : allX (dcP ce (60 * kk + ii)) xx := hdc
                replace hw : gW D A s.heap [cA G (a 2) 4 kd, cA G (a 3) 12 nu, cJ G (a 13) 8 vP, cJ G (a 14) 8 vS, cJ G (a 15) 8 vD, cJ G (a 16) 8 vQ, cA G (a 18) 17 wA, cA G (a 19) 17 fA, cA G (a 27) 240 ce, cA G (a 17) 12 ht, oX6 h a (F_bar sz ln ft kk lv ii (3 * mm)) pn ra rm rP rS rD rQ al rw rc tr, cA G (a 25) 4 sz, cA G (a 26) 4 ln] H locs := hw
                replace hl : lv_has ls 10 [(8, .int (iI xx)), (7, .int (iI ((60 * kk) + ii))), (6, .int (iI ((R_bar sz ln kk lv ii (3 * mm))))), (0, .ref h), (1, .int (iI kk)), (2, .int (iI lv)), (3, .int (iI ii)), (4, .int (iI mm)), (5, .int (iI wh))] := hl
                replace ih_31 : ∀ (xx' : Int), ((0 ≤ xx' ∧ xx' ≤ mm) ∧ (allX (dcP ce (60 * kk + ii)) xx')) → ((mm - xx').toNat) < ((mm - xx).toNat) → ∀ (H : Heap) (locs : List Loc) (ls : Array Slot), gW D A s.heap [cA G (a 2) 4 kd, cA G (a 3) 12 nu, cJ G (a 13) 8 vP, cJ G (a 14) 8 vS, cJ G (a 15) 8 vD, cJ G (a 16) 8 vQ, cA G (a 18) 17 wA, cA G (a 19) 17 fA, cA G (a 27) 240 ce, cA G (a 17) 12 ht, oX6 h a (F_bar sz ln ft kk lv ii (3 * mm)) pn ra rm rP rS rD rQ al rw rc tr, cA G (a 25) 4 sz, cA G (a 26) 4 ln] H locs → lv_has ls 10 [(8, .int (iI (xx'))), (7, .int (iI (((60 * kk) + ii)))), (6, .int (iI ((R_bar sz ln kk lv ii (3 * mm))))), (0, .ref h), (1, .int (iI kk)), (2, .int (iI lv)), (3, .int (iI ii)), (4, .int (iI mm)), (5, .int (iI wh))] → W p l e _ s m _ below meth c H locs _ _ _ (F0 m 122 ls []) := fun xx' => ih_31 xx'
                have c1 := hce (60 * kk + ii + 3 * xx + 1)
                have c2 := hce (60 * kk + ii + 3 * xx + 2)
                refine g_iload C hl 0 rfl dX6_day_122 ?_
                refine g_iload C hl 7 rfl dX6_day_124 ?_
                refine g_icmp_ge C 187 dX6_day_126 (by decide) (by omega) (by omega) (fun c_32 => ?_) (fun c_32 => ?_)
                · skip
                  refine g_iconst C dX6_day_187 ?_
                  refine g_istore C [(8, .int (iI 0)), (7, .int (iI ((60 * kk) + ii))), (6, .int (iI ((R_bar sz ln kk lv ii (3 * mm))))), (0, .ref h), (1, .int (iI kk)), (2, .int (iI lv)), (3, .int (iI ii)), (4, .int (iI mm)), (5, .int (iI wh))] dX6_day_188 hl (by decide) rfl ?_
                  clear hl
                  intro ls hl
                  refine g_loop (σ := (Int) × (Int → Int)) (fun z_ => [cA G (a 2) 4 kd, cA G (a 3) 12 nu, cJ G (a 13) 8 vP, cJ G (a 14) 8 vS, cJ G (a 15) 8 vD, cJ G (a 16) 8 vQ, cA G (a 18) 17 wA, cA G (a 19) 17 fA, cA G (a 27) 240 ce, cA G (a 17) 12 z_.2, oX6 h a (F_bar sz ln ft kk lv ii (3 * mm)) pn ra rm rP rS rD rQ al rw rc tr, cA G (a 25) 4 sz, cA G (a 26) 4 ln]) (fun z_ => [(8, .int (iI (z_.1))), (7, .int (iI (((60 * kk) + ii)))), (6, .int (iI ((R_bar sz ln kk lv ii (3 * mm))))), (0, .ref h), (1, .int (iI kk)), (2, .int (iI lv)), (3, .int (iI ii)), (4, .int (iI mm)), (5, .int (iI wh))]) (fun z_ => (0 ≤ z_.1 ∧ z_.1 ≤ 3 * pn) ∧ (∀ j, 0 ≤ j → j < z_.1 → z_.2 j = nu j)) (fun z_ => (3 * pn - z_.1).toNat) (0, ht) ⟨by (try dsimp only); omega, by (try dsimp only); intro j a1 a2; omega⟩ hw (lv_sub hl [0, 1, 2, 3, 4, 5, 6, 7, 8] rfl) ?_
                  clear hw hl
                  rintro ⟨yy, h1⟩ ⟨hyy, hh1⟩ H locs ls hw hl ih_33
                  replace hyy : 0 ≤ yy ∧ yy ≤ 3 * pn := hyy
                  replace hh1 : ∀ j, 0 ≤ j → j < yy → h1 j = nu j := hh1
                  replace hw : gW D A s.heap [cA G (a 2) 4 kd, cA G (a 3) 12 nu, cJ G (a 13) 8 vP, cJ G (a 14) 8 vS, cJ G (a 15) 8 vD, cJ G (a 16) 8 vQ, cA G (a 18) 17 wA, cA G (a 19) 17 fA, cA G (a 27) 240 ce, cA G (a 17) 12 h1, oX6 h a (F_bar sz ln ft kk lv ii (3 * mm)) pn ra rm rP rS rD rQ al rw rc tr, cA G (a 25) 4 sz, cA G (a 26) 4 ln] H locs := hw
                  replace hl : lv_has ls 10 [(8, .int (iI yy)), (7, .int (iI ((60 * kk) + ii))), (6, .int (iI ((R_bar sz ln kk lv ii (3 * mm))))), (0, .ref h), (1, .int (iI kk)), (2, .int (iI lv)), (3, .int (iI ii)), (4, .int (iI mm)), (5, .int (iI wh))] := hl
                  replace ih_33 : ∀ (yy' : Int) (h1' : Int → Int), ((0 ≤ yy' ∧ yy' ≤ 3 * pn) ∧ (∀ j, 0 ≤ j → j < yy' → h1' j = nu j)) → ((3 * pn - yy').toNat) < ((3 * pn - yy).toNat) → ∀ (H : Heap) (locs : List Loc) (ls : Array Slot), gW D A s.heap [cA G (a 2) 4 kd, cA G (a 3) 12 nu, cJ G (a 13) 8 vP, cJ G (a 14) 8 vS, cJ G (a 15) 8 vD, cJ G (a 16) 8 vQ, cA G (a 18) 17 wA, cA G (a 19) 17 fA, cA G (a 27) 240 ce, cA G (a 17) 12 h1', oX6 h a (F_bar sz ln ft kk lv ii (3 * mm)) pn ra rm rP rS rD rQ al rw rc tr, cA G (a 25) 4 sz, cA G (a 26) 4 ln] H locs → lv_has ls 10 [(8, .int (iI (yy'))), (7, .int (iI (((60 * kk) + ii)))), (6, .int (iI ((R_bar sz ln kk lv ii (3 * mm))))), (0, .ref h), (1, .int (iI kk)), (2, .int (iI lv)), (3, .int (iI ii)), (4, .int (iI mm)), (5, .int (iI wh))] → W p l e _ s m _ below meth c H locs _ _ _ (F0 m 190 ls []) := fun yy' h1' => ih_33 (yy', h1')
                  refine g_iload C hl 0 rfl dX6_day_190 ?_
                  refine g_iconst C dX6_day_192 ?_
                  refine g_aload_n C hl 3 rfl rfl dX6_day_193 ?_
                  refine g_get C hw hin_X6_day_X6 10 rfl rfl 1 (by decide) lk_X6_day_75 rfl dX6_day_194 ?_
                  refine g_imul C dX6_day_197 ?_
                  refine g_icmp_ge C 221 dX6_day_198 (by decide) (by omega) (by omega) (fun c_34 => ?_) (fun c_34 => ?_)
                  · skip
                    have hdc9 : allX (dcP ce (60 * kk + ii)) mm := by rw [show mm = xx by omega]; exact hdc
                    refine g_aload_n C hl 3 rfl rfl dX6_day_221 ?_
                    refine g_iload C hl 1 rfl dX6_day_222 ?_
                    refine g_iload C hl 7 rfl dX6_day_224 ?_
                    refine g_iload C hl 8 rfl dX6_day_226 ?_
                    refine g_callVi C hw (wr := [cA G (a 17) 12 h1, cA G (a 25) 4 sz, cA G (a 26) 4 ln]) (As := [.int (iI ((60 * kk) + ii)), .int (iI mm), .int (iI wh)]) (rest := []) (m_X6_dayOf l D G (h := h) (a := a) (ft := (F_bar sz ln ft kk lv ii (3 * mm))) (pn := pn) (ra := ra) (rm := rm) (rP := rP) (rS := rS) (rD := rD) (rQ := rQ) (al := al) (rw := rw) (rc := rc) (tr := tr) (kd := kd) (nu := nu) (vP := vP) (vS := vS) (vD := vD) (vQ := vQ) (wA := wA) (fA := fA) (ce := ce) (fr := ((60 * kk) + ii)) (mm := mm) (wh := wh) (by first | assumption | omega) (by first | assumption | omega) (by first | assumption | omega) (by first | assumption | omega) (by first | assumption | omega) (by first | assumption | omega) (by first | assumption | omega) (by first | assumption | omega) (by first | assumption | omega)) (cwV 3 C.1.2.2.2.2 gX6_day_X6_dayOf rfl rfl rfl (by decide +kernel) ⟨Nat.le_of_ble_eq_true rfl, Nat.le_of_ble_eq_true rfl⟩) [10, 0, 1, 2, 3, 4, 5, 6, 7, 8] [9, 11, 12] rfl rfl (by decide) (by decide) (by decide) 0 rfl rfl rfl hl.1 _ rfl (Nat.le_of_ble_eq_true rfl) dX6_day_228 ⟨Nat.le_of_ble_eq_true rfl, Nat.le_of_ble_eq_true rfl⟩ ?_
                    clear hw
                    rintro _ _ H locs ⟨al2__35, rw2__36, r2P__37, r2S__38, r2D__39, r2Q__40, vP2__41, vS2__42, vD2__43, vQ2__44, wA2__45, fA2__46, nuD, rfl, rfl, hp_47⟩ hw
                    have hw : gW D A s.heap [cA G (a 17) 12 h1, cA G (a 25) 4 sz, cA G (a 26) 4 ln, oX6 h a (F_bar sz ln ft kk lv ii (3 * mm)) pn ra rm r2P__37 r2S__38 r2D__39 r2Q__40 al2__35 rw2__36 rc tr, cA G (a 2) 4 kd, cA G (a 3) 12 nuD, cJ G (a 13) 8 vP2__41, cJ G (a 14) 8 vS2__42, cJ G (a 15) 8 vD2__43, cJ G (a 16) 8 vQ2__44, cA G (a 18) 17 wA2__45, cA G (a 19) 17 fA2__46, cA G (a 27) 240 ce] H locs := hw
                    have hp_47 : ∀ j, ¬ (0 ≤ j ∧ j < 3 * pn) → nuD j = nu j := hp_47
                    have hout := hp_47
                    refine g_istore C [(8, .int (iI ((R_dyo pn kd nu ce ((60 * kk) + ii) mm wh)))), (7, .int (iI ((60 * kk) + ii))), (6, .int (iI ((R_bar sz ln kk lv ii (3 * mm))))), (0, .ref h), (1, .int (iI kk)), (2, .int (iI lv)), (3, .int (iI ii)), (4, .int (iI mm)), (5, .int (iI wh))] dX6_day_231 hl (by decide) rfl ?_
                    clear hl
                    intro ls hl
                    refine g_iconst C dX6_day_233 ?_
                    refine g_istore C [(9, .int (iI 0)), (8, .int (iI ((R_dyo pn kd nu ce ((60 * kk) + ii) mm wh)))), (7, .int (iI ((60 * kk) + ii))), (6, .int (iI ((R_bar sz ln kk lv ii (3 * mm))))), (0, .ref h), (1, .int (iI kk)), (2, .int (iI lv)), (3, .int (iI ii)), (4, .int (iI mm)), (5, .int (iI wh))] dX6_day_234 hl (by decide) rfl ?_
                    clear hl
                    intro ls hl
                    refine g_loop (σ := (Int) × (Int → Int)) (fun z_ => [cA G (a 17) 12 h1, cA G (a 25) 4 sz, cA G (a 26) 4 ln, oX6 h a (F_bar sz ln ft kk lv ii (3 * mm)) pn ra rm r2P__37 r2S__38 r2D__39 r2Q__40 al2__35 rw2__36 rc tr, cA G (a 2) 4 kd, cA G (a 3) 12 z_.2, cJ G (a 13) 8 vP2__41, cJ G (a 14) 8 vS2__42, cJ G (a 15) 8 vD2__43, cJ G (a 16) 8 vQ2__44, cA G (a 18) 17 wA2__45, cA G (a 19) 17 fA2__46, cA G (a 27) 240 ce]) (fun z_ => [(9, .int (iI (z_.1))), (8, .int (iI ((R_dyo pn kd nu ce ((60 * kk) + ii) mm wh)))), (7, .int (iI (((60 * kk) + ii)))), (6, .int (iI ((R_bar sz ln kk lv ii (3 * mm))))), (0, .ref h), (1, .int (iI kk)), (2, .int (iI lv)), (3, .int (iI ii)), (4, .int (iI mm)), (5, .int (iI wh))]) (fun z_ => (0 ≤ z_.1 ∧ z_.1 ≤ 3 * pn) ∧ (∀ j, 0 ≤ j → j < z_.1 → z_.2 j = nu j) ∧ (∀ j, ¬ (0 ≤ j ∧ j < z_.1) → z_.2 j = nuD j)) (fun z_ => (3 * pn - z_.1).toNat) (0, nuD) ⟨by (try dsimp only); omega, by (try dsimp only); intro j a1 a2; omega, by (try dsimp only); exact fun _ _ => rfl⟩ hw (lv_sub hl [0, 1, 2, 3, 4, 5, 6, 7, 8, 9] rfl) ?_
                    clear hw hl
                    rintro ⟨zz, t1⟩ ⟨hzz, ht1, ht2⟩ H locs ls hw hl ih_48
                    replace hzz : 0 ≤ zz ∧ zz ≤ 3 * pn := hzz
                    replace ht1 : ∀ j, 0 ≤ j → j < zz → t1 j = nu j := ht1
                    replace ht2 : ∀ j, ¬ (0 ≤ j ∧ j < zz) → t1 j = nuD j := ht2
                    replace hw : gW D A s.heap [cA G (a 17) 12 h1, cA G (a 25) 4 sz, cA G (a 26) 4 ln, oX6 h a (F_bar sz ln ft kk lv ii (3 * mm)) pn ra rm r2P__37 r2S__38 r2D__39 r2Q__40 al2__35 rw2__36 rc tr, cA G (a 2) 4 kd, cA G (a 3) 12 t1, cJ G (a 13) 8 vP2__41, cJ G (a 14) 8 vS2__42, cJ G (a 15) 8 vD2__43, cJ G (a 16) 8 vQ2__44, cA G (a 18) 17 wA2__45, cA G (a 19) 17 fA2__46, cA G (a 27) 240 ce] H locs := hw
                    replace hl : lv_has ls 10 [(9, .int (iI zz)), (8, .int (iI ((R_dyo pn kd nu ce ((60 * kk) + ii) mm wh)))), (7, .int (iI ((60 * kk) + ii))), (6, .int (iI ((R_bar sz ln kk lv ii (3 * mm))))), (0, .ref h), (1, .int (iI kk)), (2, .int (iI lv)), (3, .int (iI ii)), (4, .int (iI mm)), (5, .int (iI wh))] := hl
                    replace ih_48 : ∀ (zz' : Int) (t1' : Int → Int), ((0 ≤ zz' ∧ zz' ≤ 3 * pn) ∧ (∀ j, 0 ≤ j → j < zz' → t1' j = nu j) ∧ (∀ j, ¬ (0 ≤ j ∧ j < zz') → t1' j = nuD j)) → ((3 * pn - zz').toNat) < ((3 * pn - zz).toNat) → ∀ (H : Heap) (locs : List Loc) (ls : Array Slot), gW D A s.heap [cA G (a 17) 12 h1, cA G (a 25) 4 sz, cA G (a 26) 4 ln, oX6 h a (F_bar sz ln ft kk lv ii (3 * mm)) pn ra rm r2P__37 r2S__38 r2D__39 r2Q__40 al2__35 rw2__36 rc tr, cA G (a 2) 4 kd, cA G (a 3) 12 t1', cJ G (a 13) 8 vP2__41, cJ G (a 14) 8 vS2__42, cJ G (a 15) 8 vD2__43, cJ G (a 16) 8 vQ2__44, cA G (a 18) 17 wA2__45, cA G (a 19) 17 fA2__46, cA G (a 27) 240 ce] H locs → lv_has ls 10 [(9, .int (iI (zz'))), (8, .int (iI ((R_dyo pn kd nu ce ((60 * kk) + ii) mm wh)))), (7, .int (iI (((60 * kk) + ii)))), (6, .int (iI ((R_bar sz ln kk lv ii (3 * mm))))), (0, .ref h), (1, .int (iI kk)), (2, .int (iI lv)), (3, .int (iI ii)), (4, .int (iI mm)), (5, .int (iI wh))] → W p l e _ s m _ below meth c H locs _ _ _ (F0 m 236 ls []) := fun zz' t1' => ih_48 (zz', t1')
                    refine g_iload C hl 0 rfl dX6_day_236 ?_
                    refine g_iconst C dX6_day_238 ?_
                    refine g_aload_n C hl 4 rfl rfl dX6_day_239 ?_
                    refine g_get C hw hin_X6_day_X6 3 rfl rfl 1 (by decide) lk_X6_day_75 rfl dX6_day_240 ?_
                    refine g_imul C dX6_day_243 ?_
                    refine g_icmp_ge C 267 dX6_day_244 (by decide) (by omega) (by omega) (fun c_49 => ?_) (fun c_49 => ?_)
                    · skip
                      refine g_aload_n C hl 4 rfl rfl dX6_day_267 ?_
                      refine g_iload C hl 1 rfl dX6_day_268 ?_
                      refine g_callVi C hw (wr := [cA G (a 17) 12 h1, cA G (a 25) 4 sz, cA G (a 26) 4 ln, cA G (a 2) 4 kd, cA G (a 3) 12 t1, cJ G (a 13) 8 vP2__41, cJ G (a 14) 8 vS2__42, cJ G (a 15) 8 vD2__43, cJ G (a 16) 8 vQ2__44, cA G (a 18) 17 wA2__45, cA G (a 19) 17 fA2__46, cA G (a 27) 240 ce]) (As := [.int (iI ((R_dyo pn kd nu ce ((60 * kk) + ii) mm wh)))]) (rest := []) (m_X6_refused l D G (h := h) (a := a) (ft := (F_bar sz ln ft kk lv ii (3 * mm))) (pn := pn) (ra := ra) (rm := rm) (rP := r2P__37) (rS := r2S__38) (rD := r2D__39) (rQ := r2Q__40) (al := al2__35) (rw := rw2__36) (rc := rc) (tr := tr) (cd := (R_dyo pn kd nu ce ((60 * kk) + ii) mm wh)) ) (cwV 1 C.1.2.2.2.2 gX6_day_X6_refused rfl rfl rfl (by decide +kernel) ⟨Nat.le_of_ble_eq_true rfl, Nat.le_of_ble_eq_true rfl⟩) [3] [0, 1, 2, 4, 5, 6, 7, 8, 9, 10, 11, 12] rfl rfl (by decide) (by decide) (by decide) 0 rfl rfl rfl hl.1 _ rfl (Nat.le_of_ble_eq_true rfl) dX6_day_270 ⟨Nat.le_of_ble_eq_true rfl, Nat.le_of_ble_eq_true rfl⟩ ?_
                      clear hw
                      rintro _ _ H locs ⟨rfl, rfl⟩ hw
                      have hw : gW D A s.heap [cA G (a 17) 12 h1, cA G (a 25) 4 sz, cA G (a 26) 4 ln, cA G (a 2) 4 kd, cA G (a 3) 12 t1, cJ G (a 13) 8 vP2__41, cJ G (a 14) 8 vS2__42, cJ G (a 15) 8 vD2__43, cJ G (a 16) 8 vQ2__44, cA G (a 18) 17 wA2__45, cA G (a 19) 17 fA2__46, cA G (a 27) 240 ce, oX6 h a 0 pn ra rm r2P__37 r2S__38 r2D__39 r2Q__40 al2__35 rw2__36 rc tr] H locs := hw
                      have w9 : D_st pn kk lv mm wh = 0 := by unfold D_st; (repeat' split) <;> omega
                      obtain ⟨wr9, wf9⟩ := R_day_4 (n := pn) (kd := kd) (nu := nu) (sz := sz) (ln := ln) (ce := ce) (k := kk) (lane := lv) (i := ii) (m := mm) (w := wh) w9 b1 hdc9
                      have hn9 : t1 = nu := by
                        funext j
                        rcases Classical.em (0 ≤ j ∧ j < 3 * pn) with q | q
                        · exact ht1 j q.1 (by omega)
                        · rw [ht2 j (by omega)]; exact hout j q
                      exact g_iret C hr (ws' := [oX6 h a 0 pn ra rm r2P__37 r2S__38 r2D__39 r2Q__40 al2__35 rw2__36 rc tr, cA G (a 2) 4 kd, cA G (a 3) 12 t1, cJ G (a 13) 8 vP2__41, cJ G (a 14) 8 vS2__42, cJ G (a 15) 8 vD2__43, cJ G (a 16) 8 vQ2__44, cA G (a 18) 17 wA2__45, cA G (a 19) 17 fA2__46, cA G (a 25) 4 sz, cA G (a 26) 4 ln, cA G (a 27) 240 ce, cA G (a 17) 12 h1]) hw [12, 3, 4, 5, 6, 7, 8, 9, 10, 1, 2, 11, 0] (by decide) rfl ⟨al2__35, rw2__36, r2P__37, r2S__38, r2D__39, r2Q__40, vP2__41, vS2__42, vD2__43, vQ2__44, wA2__45, fA2__46, h1, (congrArg iI (by exact wr9.symm)), (by first | (rw [wf9, hn9]; done) | (rw [wf9]; done))⟩ dX6_day_273
                    · skip
                      refine g_aload_n C hl 4 rfl rfl dX6_day_247 ?_
                      refine g_get C hw hin_X6_day_X6 3 rfl rfl 3 (by decide) lk_X6_day_13 rfl dX6_day_248 ?_
                      refine g_iload C hl 0 rfl dX6_day_251 ?_
                      refine g_aload_n C hl 4 rfl rfl dX6_day_253 ?_
                      refine g_get C hw hin_X6_day_X6 3 rfl rfl 17 (by decide) lk_X6_day_35 rfl dX6_day_254 ?_
                      refine g_iload C hl 0 rfl dX6_day_257 ?_
                      refine g_iald C hw 0 rfl (by omega) (Nat.le_of_ble_eq_true rfl) dX6_day_259 ?_
                      refine g_iast C hw [cA G (a 17) 12 h1, cA G (a 25) 4 sz, cA G (a 26) 4 ln, oX6 h a (F_bar sz ln ft kk lv ii (3 * mm)) pn ra rm r2P__37 r2S__38 r2D__39 r2Q__40 al2__35 rw2__36 rc tr, cA G (a 2) 4 kd, cA G (a 3) 12 (up t1 zz (h1 zz)), cJ G (a 13) 8 vP2__41, cJ G (a 14) 8 vS2__42, cJ G (a 15) 8 vD2__43, cJ G (a 16) 8 vQ2__44, cA G (a 18) 17 wA2__45, cA G (a 19) 17 fA2__46, cA G (a 27) 240 ce] 5 rfl (by omega) (Nat.le_of_ble_eq_true rfl) rfl dX6_day_260 ?_
                      clear hw
                      intro H locs hw
                      refine g_iinc C [(9, .int (iI (zz + 1))), (8, .int (iI ((R_dyo pn kd nu ce ((60 * kk) + ii) mm wh)))), (7, .int (iI ((60 * kk) + ii))), (6, .int (iI ((R_bar sz ln kk lv ii (3 * mm))))), (0, .ref h), (1, .int (iI kk)), (2, .int (iI lv)), (3, .int (iI ii)), (4, .int (iI mm)), (5, .int (iI wh))] 0 dX6_day_261 hl rfl (by decide) rfl ?_
                      clear hl
                      intro ls hl
                      refine g_goto C 236 dX6_day_264 (by decide) ?_
                      have hw : gW D A s.heap [cA G (a 17) 12 h1, cA G (a 25) 4 sz, cA G (a 26) 4 ln, oX6 h a (F_bar sz ln ft kk lv ii (3 * mm)) pn ra rm r2P__37 r2S__38 r2D__39 r2Q__40 al2__35 rw2__36 rc tr, cA G (a 2) 4 kd, cA G (a 3) 12 (up t1 zz (h1 zz)), cJ G (a 13) 8 vP2__41, cJ G (a 14) 8 vS2__42, cJ G (a 15) 8 vD2__43, cJ G (a 16) 8 vQ2__44, cA G (a 18) 17 wA2__45, cA G (a 19) 17 fA2__46, cA G (a 27) 240 ce] H locs := g_perm hw [0, 1, 2, 3, 4, 5, 6, 7, 8, 9, 10, 11, 12] (by decide) rfl
                      exact ih_48 (zz + 1) (up t1 zz (h1 zz)) ⟨by omega, by intro j a1 a2; by_cases q : j = zz; rw [q, up_s]; exact hh1 zz (by omega) (by omega); rw [up_n q]; exact ht1 j a1 (by omega), by intro j a1; rw [up_n (by omega)]; exact ht2 j (by omega)⟩ (by omega) H locs ls hw (lv_sub hl [0, 1, 2, 3, 4, 5, 6, 7, 8, 9] rfl)
                  · skip
                    refine g_aload_n C hl 3 rfl rfl dX6_day_201 ?_
                    refine g_get C hw hin_X6_day_X6 10 rfl rfl 17 (by decide) lk_X6_day_35 rfl dX6_day_202 ?_
                    refine g_iload C hl 0 rfl dX6_day_205 ?_
                    refine g_aload_n C hl 3 rfl rfl dX6_day_207 ?_
                    refine g_get C hw hin_X6_day_X6 10 rfl rfl 3 (by decide) lk_X6_day_13 rfl dX6_day_208 ?_
                    refine g_iload C hl 0 rfl dX6_day_211 ?_
                    refine g_iald C hw 1 rfl (by omega) (Nat.le_of_ble_eq_true rfl) dX6_day_213 ?_
                    refine g_iast C hw [cA G (a 2) 4 kd, cA G (a 3) 12 nu, cJ G (a 13) 8 vP, cJ G (a 14) 8 vS, cJ G (a 15) 8 vD, cJ G (a 16) 8 vQ, cA G (a 18) 17 wA, cA G (a 19) 17 fA, cA G (a 27) 240 ce, cA G (a 17) 12 (up h1 yy (nu yy)), oX6 h a (F_bar sz ln ft kk lv ii (3 * mm)) pn ra rm rP rS rD rQ al rw rc tr, cA G (a 25) 4 sz, cA G (a 26) 4 ln] 9 rfl (by omega) (Nat.le_of_ble_eq_true rfl) rfl dX6_day_214 ?_
                    clear hw
                    intro H locs hw
                    refine g_iinc C [(8, .int (iI (yy + 1))), (7, .int (iI ((60 * kk) + ii))), (6, .int (iI ((R_bar sz ln kk lv ii (3 * mm))))), (0, .ref h), (1, .int (iI kk)), (2, .int (iI lv)), (3, .int (iI ii)), (4, .int (iI mm)), (5, .int (iI wh))] 0 dX6_day_215 hl rfl (by decide) rfl ?_
                    clear hl
                    intro ls hl
                    refine g_goto C 190 dX6_day_218 (by decide) ?_
                    have hw : gW D A s.heap [cA G (a 2) 4 kd, cA G (a 3) 12 nu, cJ G (a 13) 8 vP, cJ G (a 14) 8 vS, cJ G (a 15) 8 vD, cJ G (a 16) 8 vQ, cA G (a 18) 17 wA, cA G (a 19) 17 fA, cA G (a 27) 240 ce, cA G (a 17) 12 (up h1 yy (nu yy)), oX6 h a (F_bar sz ln ft kk lv ii (3 * mm)) pn ra rm rP rS rD rQ al rw rc tr, cA G (a 25) 4 sz, cA G (a 26) 4 ln] H locs := g_perm hw [0, 1, 2, 3, 4, 5, 6, 7, 8, 9, 10, 11, 12] (by decide) rfl
                    exact ih_33 (yy + 1) (up h1 yy (nu yy)) ⟨by omega, by intro j a1 a2; by_cases q : j = yy; rw [q, up_s]; rw [up_n q]; exact hh1 j a1 (by omega)⟩ (by omega) H locs ls hw (lv_sub hl [0, 1, 2, 3, 4, 5, 6, 7, 8] rfl)
                · skip
                  refine g_aload_n C hl 3 rfl rfl dX6_day_129 ?_
                  refine g_get C hw hin_X6_day_X6 10 rfl rfl 27 (by decide) lk_X6_day_59 rfl dX6_day_130 ?_
                  refine g_iload C hl 1 rfl dX6_day_133 ?_
                  refine g_iconst C dX6_day_135 ?_
                  refine g_iload C hl 0 rfl dX6_day_136 ?_
                  refine g_imul C dX6_day_138 ?_
                  refine g_iadd C dX6_day_139 ?_
                  refine g_iconst C dX6_day_140 ?_
                  refine g_iadd C dX6_day_141 ?_
                  refine g_iald C hw 8 rfl (by omega) (Nat.le_of_ble_eq_true rfl) dX6_day_142 ?_
                  refine g_i2l C dX6_day_143 (by omega) ?_
                  refine g_lconst0 C dX6_day_144 ?_
                  refine g_ldc2 C (2) cn_X6_day_117 (by decide +kernel) dX6_day_145 ?_
                  refine g_callSi C hw (wr := [cA G (a 2) 4 kd, cA G (a 3) 12 nu, cJ G (a 13) 8 vP, cJ G (a 14) 8 vS, cJ G (a 15) 8 vD, cJ G (a 16) 8 vQ, cA G (a 18) 17 wA, cA G (a 19) 17 fA, cA G (a 27) 240 ce, cA G (a 17) 12 ht, oX6 h a (F_bar sz ln ft kk lv ii (3 * mm)) pn ra rm rP rS rD rQ al rw rc tr, cA G (a 25) 4 sz, cA G (a 26) 4 ln]) (As := [.long (lI (ce ((((60 * kk) + ii) + (3 * xx)) + 1))), .long (lI (0)), .long (lI (2))]) (rest := []) (m_X6_in l D G (va := (ce ((((60 * kk) + ii) + (3 * xx)) + 1))) (vb := 0) (vc := 2) (by first | assumption | omega) (by first | assumption | omega) (by first | assumption | omega)) (va_cwS 3 C.1.2.2.2.2 gX6_day_X6_in rfl rfl rfl (by decide +kernel) ⟨Nat.le_of_ble_eq_true rfl, Nat.le_of_ble_eq_true rfl⟩) [] [0, 1, 2, 3, 4, 5, 6, 7, 8, 9, 10, 11, 12] rfl rfl (by decide) (by decide) (by decide) rfl hl.1 _ rfl (Nat.le_of_ble_eq_true rfl) dX6_day_148 ⟨Nat.le_of_ble_eq_true rfl, Nat.le_of_ble_eq_true rfl⟩ ?_
                  clear hw
                  rintro _ _ H locs ⟨rfl, rfl⟩ hw
                  have hw : gW D A s.heap [cA G (a 2) 4 kd, cA G (a 3) 12 nu, cJ G (a 13) 8 vP, cJ G (a 14) 8 vS, cJ G (a 15) 8 vD, cJ G (a 16) 8 vQ, cA G (a 18) 17 wA, cA G (a 19) 17 fA, cA G (a 27) 240 ce, cA G (a 17) 12 ht, oX6 h a (F_bar sz ln ft kk lv ii (3 * mm)) pn ra rm rP rS rD rQ al rw rc tr, cA G (a 25) 4 sz, cA G (a 26) 4 ln] H locs := hw
                  refine g_ifb_eq C 174 dX6_day_151 (by decide) (fun c_50 => ?_) (fun c_50 => ?_)
                  · skip
                    refine g_aload_n C hl 3 rfl rfl dX6_day_174 ?_
                    refine g_bipush C dX6_day_175 (by decide) ?_
                    refine g_callVi C hw (wr := [cA G (a 2) 4 kd, cA G (a 3) 12 nu, cJ G (a 13) 8 vP, cJ G (a 14) 8 vS, cJ G (a 15) 8 vD, cJ G (a 16) 8 vQ, cA G (a 18) 17 wA, cA G (a 19) 17 fA, cA G (a 27) 240 ce, cA G (a 17) 12 ht, cA G (a 25) 4 sz, cA G (a 26) 4 ln]) (As := [.int (iI ((-2)))]) (rest := []) (m_X6_refused l D G (h := h) (a := a) (ft := (F_bar sz ln ft kk lv ii (3 * mm))) (pn := pn) (ra := ra) (rm := rm) (rP := rP) (rS := rS) (rD := rD) (rQ := rQ) (al := al) (rw := rw) (rc := rc) (tr := tr) (cd := (-2)) ) (cwV 1 C.1.2.2.2.2 gX6_day_X6_refused rfl rfl rfl (by decide +kernel) ⟨Nat.le_of_ble_eq_true rfl, Nat.le_of_ble_eq_true rfl⟩) [10] [0, 1, 2, 3, 4, 5, 6, 7, 8, 9, 11, 12] rfl rfl (by decide) (by decide) (by decide) 0 rfl rfl rfl hl.1 _ rfl (Nat.le_of_ble_eq_true rfl) dX6_day_177 ⟨Nat.le_of_ble_eq_true rfl, Nat.le_of_ble_eq_true rfl⟩ ?_
                    clear hw
                    rintro _ _ H locs ⟨rfl, rfl⟩ hw
                    have hw : gW D A s.heap [cA G (a 2) 4 kd, cA G (a 3) 12 nu, cJ G (a 13) 8 vP, cJ G (a 14) 8 vS, cJ G (a 15) 8 vD, cJ G (a 16) 8 vQ, cA G (a 18) 17 wA, cA G (a 19) 17 fA, cA G (a 27) 240 ce, cA G (a 17) 12 ht, cA G (a 25) 4 sz, cA G (a 26) 4 ln, oX6 h a 0 pn ra rm rP rS rD rQ al rw rc tr] H locs := hw
                    have w9 : D_st pn kk lv mm wh = 0 := by unfold D_st; (repeat' split) <;> omega
                    obtain ⟨wr9, wf9⟩ := R_day_3 (n := pn) (kd := kd) (nu := nu) (sz := sz) (ln := ln) (ce := ce) (k := kk) (lane := lv) (i := ii) (m := mm) (w := wh) w9 b1 (fun q => absurd (dcP_i (q xx (by omega) (by omega))) (by omega))
                    exact g_iret C hr (ws' := [oX6 h a 0 pn ra rm rP rS rD rQ al rw rc tr, cA G (a 2) 4 kd, cA G (a 3) 12 nu, cJ G (a 13) 8 vP, cJ G (a 14) 8 vS, cJ G (a 15) 8 vD, cJ G (a 16) 8 vQ, cA G (a 18) 17 wA, cA G (a 19) 17 fA, cA G (a 25) 4 sz, cA G (a 26) 4 ln, cA G (a 27) 240 ce, cA G (a 17) 12 ht]) hw [12, 0, 1, 2, 3, 4, 5, 6, 7, 10, 11, 8, 9] (by decide) rfl ⟨al, rw, rP, rS, rD, rQ, vP, vS, vD, vQ, wA, fA, ht, (congrArg iI (by exact wr9.symm)), (by first | (rw [wf9, hn9]; done) | (rw [wf9]; done))⟩ dX6_day_180
                  · skip
                    refine g_aload_n C hl 3 rfl rfl dX6_day_154 ?_
                    refine g_get C hw hin_X6_day_X6 10 rfl rfl 27 (by decide) lk_X6_day_59 rfl dX6_day_155 ?_
                    refine g_iload C hl 1 rfl dX6_day_158 ?_
                    refine g_iconst C dX6_day_160 ?_
                    refine g_iload C hl 0 rfl dX6_day_161 ?_
                    refine g_imul C dX6_day_163 ?_
                    refine g_iadd C dX6_day_164 ?_
                    refine g_iconst C dX6_day_165 ?_
                    refine g_iadd C dX6_day_166 ?_
                    refine g_iald C hw 8 rfl (by omega) (Nat.le_of_ble_eq_true rfl) dX6_day_167 ?_
                    refine g_callSi C hw (wr := [cA G (a 2) 4 kd, cA G (a 3) 12 nu, cJ G (a 13) 8 vP, cJ G (a 14) 8 vS, cJ G (a 15) 8 vD, cJ G (a 16) 8 vQ, cA G (a 18) 17 wA, cA G (a 19) 17 fA, cA G (a 27) 240 ce, cA G (a 17) 12 ht, oX6 h a (F_bar sz ln ft kk lv ii (3 * mm)) pn ra rm rP rS rD rQ al rw rc tr, cA G (a 25) 4 sz, cA G (a 26) 4 ln]) (As := [.int (iI (ce ((((60 * kk) + ii) + (3 * xx)) + 2)))]) (rest := []) (m_X6_isCoefficient l D G (vv := (ce ((((60 * kk) + ii) + (3 * xx)) + 2))) (by first | assumption | omega)) (va_cwS 1 C.1.2.2.2.2 gX6_day_X6_isCoefficient rfl rfl rfl (by decide +kernel) ⟨Nat.le_of_ble_eq_true rfl, Nat.le_of_ble_eq_true rfl⟩) [] [0, 1, 2, 3, 4, 5, 6, 7, 8, 9, 10, 11, 12] rfl rfl (by decide) (by decide) (by decide) rfl hl.1 _ rfl (Nat.le_of_ble_eq_true rfl) dX6_day_168 ⟨Nat.le_of_ble_eq_true rfl, Nat.le_of_ble_eq_true rfl⟩ ?_
                    clear hw
                    rintro _ _ H locs ⟨rfl, rfl⟩ hw
                    have hw : gW D A s.heap [cA G (a 2) 4 kd, cA G (a 3) 12 nu, cJ G (a 13) 8 vP, cJ G (a 14) 8 vS, cJ G (a 15) 8 vD, cJ G (a 16) 8 vQ, cA G (a 18) 17 wA, cA G (a 19) 17 fA, cA G (a 27) 240 ce, cA G (a 17) 12 ht, oX6 h a (F_bar sz ln ft kk lv ii (3 * mm)) pn ra rm rP rS rD rQ al rw rc tr, cA G (a 25) 4 sz, cA G (a 26) 4 ln] H locs := hw
                    refine g_ifb_ne C 181 dX6_day_171 (by decide) (fun c_51 => ?_) (fun c_51 => ?_)
                    · skip
                      refine g_iinc C [(8, .int (iI (xx + 1))), (7, .int (iI ((60 * kk) + ii))), (6, .int (iI ((R_bar sz ln kk lv ii (3 * mm))))), (0, .ref h), (1, .int (iI kk)), (2, .int (iI lv)), (3, .int (iI ii)), (4, .int (iI mm)), (5, .int (iI wh))] 0 dX6_day_181 hl rfl (by decide) rfl ?_
                      clear hl
                      intro ls hl
                      refine g_goto C 122 dX6_day_184 (by decide) ?_
                      have hw : gW D A s.heap [cA G (a 2) 4 kd, cA G (a 3) 12 nu, cJ G (a 13) 8 vP, cJ G (a 14) 8 vS, cJ G (a 15) 8 vD, cJ G (a 16) 8 vQ, cA G (a 18) 17 wA, cA G (a 19) 17 fA, cA G (a 27) 240 ce, cA G (a 17) 12 ht, oX6 h a (F_bar sz ln ft kk lv ii (3 * mm)) pn ra rm rP rS rD rQ al rw rc tr, cA G (a 25) 4 sz, cA G (a 26) 4 ln] H locs := g_perm hw [0, 1, 2, 3, 4, 5, 6, 7, 8, 9, 10, 11, 12] (by decide) rfl
                      exact ih_31 (xx + 1) ⟨by omega, by exact allX_s hdc (dcP_t (by omega))⟩ (by omega) H locs ls hw (lv_sub hl [0, 1, 2, 3, 4, 5, 6, 7, 8] rfl)
                    · skip
                      refine g_aload_n C hl 3 rfl rfl dX6_day_174 ?_
                      refine g_bipush C dX6_day_175 (by decide) ?_
                      refine g_callVi C hw (wr := [cA G (a 2) 4 kd, cA G (a 3) 12 nu, cJ G (a 13) 8 vP, cJ G (a 14) 8 vS, cJ G (a 15) 8 vD, cJ G (a 16) 8 vQ, cA G (a 18) 17 wA, cA G (a 19) 17 fA, cA G (a 27) 240 ce, cA G (a 17) 12 ht, cA G (a 25) 4 sz, cA G (a 26) 4 ln]) (As := [.int (iI ((-2)))]) (rest := []) (m_X6_refused l D G (h := h) (a := a) (ft := (F_bar sz ln ft kk lv ii (3 * mm))) (pn := pn) (ra := ra) (rm := rm) (rP := rP) (rS := rS) (rD := rD) (rQ := rQ) (al := al) (rw := rw) (rc := rc) (tr := tr) (cd := (-2)) ) (cwV 1 C.1.2.2.2.2 gX6_day_X6_refused rfl rfl rfl (by decide +kernel) ⟨Nat.le_of_ble_eq_true rfl, Nat.le_of_ble_eq_true rfl⟩) [10] [0, 1, 2, 3, 4, 5, 6, 7, 8, 9, 11, 12] rfl rfl (by decide) (by decide) (by decide) 0 rfl rfl rfl hl.1 _ rfl (Nat.le_of_ble_eq_true rfl) dX6_day_177 ⟨Nat.le_of_ble_eq_true rfl, Nat.le_of_ble_eq_true rfl⟩ ?_
                      clear hw
                      rintro _ _ H locs ⟨rfl, rfl⟩ hw
                      have hw : gW D A s.heap [cA G (a 2) 4 kd, cA G (a 3) 12 nu, cJ G (a 13) 8 vP, cJ G (a 14) 8 vS, cJ G (a 15) 8 vD, cJ G (a 16) 8 vQ, cA G (a 18) 17 wA, cA G (a 19) 17 fA, cA G (a 27) 240 ce, cA G (a 17) 12 ht, cA G (a 25) 4 sz, cA G (a 26) 4 ln, oX6 h a 0 pn ra rm rP rS rD rQ al rw rc tr] H locs := hw
                      have w9 : D_st pn kk lv mm wh = 0 := by unfold D_st; (repeat' split) <;> omega
                      obtain ⟨wr9, wf9⟩ := R_day_3 (n := pn) (kd := kd) (nu := nu) (sz := sz) (ln := ln) (ce := ce) (k := kk) (lane := lv) (i := ii) (m := mm) (w := wh) w9 b1 (fun q => absurd (dcP_i (q xx (by omega) (by omega))) (by omega))
                      exact g_iret C hr (ws' := [oX6 h a 0 pn ra rm rP rS rD rQ al rw rc tr, cA G (a 2) 4 kd, cA G (a 3) 12 nu, cJ G (a 13) 8 vP, cJ G (a 14) 8 vS, cJ G (a 15) 8 vD, cJ G (a 16) 8 vQ, cA G (a 18) 17 wA, cA G (a 19) 17 fA, cA G (a 25) 4 sz, cA G (a 26) 4 ln, cA G (a 27) 240 ce, cA G (a 17) 12 ht]) hw [12, 0, 1, 2, 3, 4, 5, 6, 7, 10, 11, 8, 9] (by decide) rfl ⟨al, rw, rP, rS, rD, rQ, vP, vS, vD, vQ, wA, fA, ht, (congrArg iI (by exact wr9.symm)), (by first | (rw [wf9, hn9]; done) | (rw [wf9]; done))⟩ dX6_day_180
              · skip
                refine g_iload C hl 0 rfl dX6_day_108 ?_
                obtain ⟨b1, b2, b3⟩ := R_bar_c (by omega : R_bar sz ln kk lv ii (3 * mm) < 0)
                have w9 : D_st pn kk lv mm wh = 0 := by unfold D_st; (repeat' split) <;> omega
                obtain ⟨wr9, wf9⟩ := R_day_2 (n := pn) (kd := kd) (nu := nu) (sz := sz) (ln := ln) (ce := ce) (k := kk) (lane := lv) (i := ii) (m := mm) (w := wh) w9 b1
                rw [← b2] at wr9
                have b4 := b3 ft
                rw [← b4] at wf9
                exact g_iret C hr (ws' := [oX6 h a (F_bar sz ln ft kk lv ii (3 * mm)) pn ra rm rP rS rD rQ al rw rc tr, cA G (a 2) 4 kd, cA G (a 3) 12 nu, cJ G (a 13) 8 vP, cJ G (a 14) 8 vS, cJ G (a 15) 8 vD, cJ G (a 16) 8 vQ, cA G (a 18) 17 wA, cA G (a 19) 17 fA, cA G (a 25) 4 sz, cA G (a 26) 4 ln, cA G (a 27) 240 ce, cA G (a 17) 12 ht]) hw [10, 0, 1, 2, 3, 4, 5, 6, 7, 11, 12, 8, 9] (by decide) rfl ⟨al, rw, rP, rS, rD, rQ, vP, vS, vD, vQ, wA, fA, ht, (congrArg iI (by exact wr9.symm)), (by first | (rw [wf9, hn9]; done) | (rw [wf9]; done))⟩ dX6_day_110
            · skip
              refine g_aload_n C hl 0 rfl rfl dX6_day_80 ?_
              refine g_bipush C dX6_day_81 (by decide) ?_
              refine g_callVi C hw (wr := [cA G (a 2) 4 kd, cA G (a 3) 12 nu, cJ G (a 13) 8 vP, cJ G (a 14) 8 vS, cJ G (a 15) 8 vD, cJ G (a 16) 8 vQ, cA G (a 18) 17 wA, cA G (a 19) 17 fA, cA G (a 25) 4 sz, cA G (a 26) 4 ln, cA G (a 27) 240 ce, cA G (a 17) 12 ht]) (As := [.int (iI ((-3)))]) (rest := []) (m_X6_refused l D G (h := h) (a := a) (ft := ft) (pn := pn) (ra := ra) (rm := rm) (rP := rP) (rS := rS) (rD := rD) (rQ := rQ) (al := al) (rw := rw) (rc := rc) (tr := tr) (cd := (-3)) ) (cwV 1 C.1.2.2.2.2 gX6_day_X6_refused rfl rfl rfl (by decide +kernel) ⟨Nat.le_of_ble_eq_true rfl, Nat.le_of_ble_eq_true rfl⟩) [0] [1, 2, 3, 4, 5, 6, 7, 8, 9, 10, 11, 12] rfl rfl (by decide) (by decide) (by decide) 0 rfl rfl rfl hl.1 _ rfl (Nat.le_of_ble_eq_true rfl) dX6_day_83 ⟨Nat.le_of_ble_eq_true rfl, Nat.le_of_ble_eq_true rfl⟩ ?_
              clear hw
              rintro _ _ H locs ⟨rfl, rfl⟩ hw
              have hw : gW D A s.heap [cA G (a 2) 4 kd, cA G (a 3) 12 nu, cJ G (a 13) 8 vP, cJ G (a 14) 8 vS, cJ G (a 15) 8 vD, cJ G (a 16) 8 vQ, cA G (a 18) 17 wA, cA G (a 19) 17 fA, cA G (a 25) 4 sz, cA G (a 26) 4 ln, cA G (a 27) 240 ce, cA G (a 17) 12 ht, oX6 h a 0 pn ra rm rP rS rD rQ al rw rc tr] H locs := hw
              have w9 : D_st pn kk lv mm wh = -3 := by unfold D_st; (repeat' split) <;> omega
              obtain ⟨wr9, wf9⟩ := R_day_1 (n := pn) (kd := kd) (nu := nu) (sz := sz) (ln := ln) (ce := ce) (k := kk) (lane := lv) (i := ii) (m := mm) (w := wh) (by rw [w9]; decide)
              rw [w9] at wr9
              exact g_iret C hr (ws' := [oX6 h a 0 pn ra rm rP rS rD rQ al rw rc tr, cA G (a 2) 4 kd, cA G (a 3) 12 nu, cJ G (a 13) 8 vP, cJ G (a 14) 8 vS, cJ G (a 15) 8 vD, cJ G (a 16) 8 vQ, cA G (a 18) 17 wA, cA G (a 19) 17 fA, cA G (a 25) 4 sz, cA G (a 26) 4 ln, cA G (a 27) 240 ce, cA G (a 17) 12 ht]) hw [12, 0, 1, 2, 3, 4, 5, 6, 7, 8, 9, 10, 11] (by decide) rfl ⟨al, rw, rP, rS, rD, rQ, vP, vS, vD, vQ, wA, fA, ht, (congrArg iI (by exact wr9.symm)), (by first | (rw [wf9, hn9]; done) | (rw [wf9]; done))⟩ dX6_day_86
          · skip
            refine g_aload_n C hl 0 rfl rfl dX6_day_66 ?_
            refine g_bipush C dX6_day_67 (by decide) ?_
            refine g_callVi C hw (wr := [cA G (a 2) 4 kd, cA G (a 3) 12 nu, cJ G (a 13) 8 vP, cJ G (a 14) 8 vS, cJ G (a 15) 8 vD, cJ G (a 16) 8 vQ, cA G (a 18) 17 wA, cA G (a 19) 17 fA, cA G (a 25) 4 sz, cA G (a 26) 4 ln, cA G (a 27) 240 ce, cA G (a 17) 12 ht]) (As := [.int (iI ((-2)))]) (rest := []) (m_X6_refused l D G (h := h) (a := a) (ft := ft) (pn := pn) (ra := ra) (rm := rm) (rP := rP) (rS := rS) (rD := rD) (rQ := rQ) (al := al) (rw := rw) (rc := rc) (tr := tr) (cd := (-2)) ) (cwV 1 C.1.2.2.2.2 gX6_day_X6_refused rfl rfl rfl (by decide +kernel) ⟨Nat.le_of_ble_eq_true rfl, Nat.le_of_ble_eq_true rfl⟩) [0] [1, 2, 3, 4, 5, 6, 7, 8, 9, 10, 11, 12] rfl rfl (by decide) (by decide) (by decide) 0 rfl rfl rfl hl.1 _ rfl (Nat.le_of_ble_eq_true rfl) dX6_day_69 ⟨Nat.le_of_ble_eq_true rfl, Nat.le_of_ble_eq_true rfl⟩ ?_
            clear hw
            rintro _ _ H locs ⟨rfl, rfl⟩ hw
            have hw : gW D A s.heap [cA G (a 2) 4 kd, cA G (a 3) 12 nu, cJ G (a 13) 8 vP, cJ G (a 14) 8 vS, cJ G (a 15) 8 vD, cJ G (a 16) 8 vQ, cA G (a 18) 17 wA, cA G (a 19) 17 fA, cA G (a 25) 4 sz, cA G (a 26) 4 ln, cA G (a 27) 240 ce, cA G (a 17) 12 ht, oX6 h a 0 pn ra rm rP rS rD rQ al rw rc tr] H locs := hw
            have w9 : D_st pn kk lv mm wh = -2 := by unfold D_st; (repeat' split) <;> omega
            obtain ⟨wr9, wf9⟩ := R_day_1 (n := pn) (kd := kd) (nu := nu) (sz := sz) (ln := ln) (ce := ce) (k := kk) (lane := lv) (i := ii) (m := mm) (w := wh) (by rw [w9]; decide)
            rw [w9] at wr9
            exact g_iret C hr (ws' := [oX6 h a 0 pn ra rm rP rS rD rQ al rw rc tr, cA G (a 2) 4 kd, cA G (a 3) 12 nu, cJ G (a 13) 8 vP, cJ G (a 14) 8 vS, cJ G (a 15) 8 vD, cJ G (a 16) 8 vQ, cA G (a 18) 17 wA, cA G (a 19) 17 fA, cA G (a 25) 4 sz, cA G (a 26) 4 ln, cA G (a 27) 240 ce, cA G (a 17) 12 ht]) hw [12, 0, 1, 2, 3, 4, 5, 6, 7, 8, 9, 10, 11] (by decide) rfl ⟨al, rw, rP, rS, rD, rQ, vP, vS, vD, vQ, wA, fA, ht, (congrArg iI (by exact wr9.symm)), (by first | (rw [wf9, hn9]; done) | (rw [wf9]; done))⟩ dX6_day_72
  · skip
    refine g_aload_n C hl 0 rfl rfl dX6_day_7 ?_
    refine g_iconst C dX6_day_8 ?_
    refine g_callVi C hw (wr := [cA G (a 2) 4 kd, cA G (a 3) 12 nu, cJ G (a 13) 8 vP, cJ G (a 14) 8 vS, cJ G (a 15) 8 vD, cJ G (a 16) 8 vQ, cA G (a 18) 17 wA, cA G (a 19) 17 fA, cA G (a 25) 4 sz, cA G (a 26) 4 ln, cA G (a 27) 240 ce, cA G (a 17) 12 ht]) (As := [.int (iI ((-1)))]) (rest := []) (m_X6_refused l D G (h := h) (a := a) (ft := ft) (pn := pn) (ra := ra) (rm := rm) (rP := rP) (rS := rS) (rD := rD) (rQ := rQ) (al := al) (rw := rw) (rc := rc) (tr := tr) (cd := (-1)) ) (cwV 1 C.1.2.2.2.2 gX6_day_X6_refused rfl rfl rfl (by decide +kernel) ⟨Nat.le_of_ble_eq_true rfl, Nat.le_of_ble_eq_true rfl⟩) [0] [1, 2, 3, 4, 5, 6, 7, 8, 9, 10, 11, 12] rfl rfl (by decide) (by decide) (by decide) 0 rfl rfl rfl hl.1 _ rfl (Nat.le_of_ble_eq_true rfl) dX6_day_9 ⟨Nat.le_of_ble_eq_true rfl, Nat.le_of_ble_eq_true rfl⟩ ?_
    clear hw
    rintro _ _ H locs ⟨rfl, rfl⟩ hw
    have hw : gW D A s.heap [cA G (a 2) 4 kd, cA G (a 3) 12 nu, cJ G (a 13) 8 vP, cJ G (a 14) 8 vS, cJ G (a 15) 8 vD, cJ G (a 16) 8 vQ, cA G (a 18) 17 wA, cA G (a 19) 17 fA, cA G (a 25) 4 sz, cA G (a 26) 4 ln, cA G (a 27) 240 ce, cA G (a 17) 12 ht, oX6 h a 0 pn ra rm rP rS rD rQ al rw rc tr] H locs := hw
    have w9 : D_st pn kk lv mm wh = -1 := by unfold D_st; (repeat' split) <;> omega
    obtain ⟨wr9, wf9⟩ := R_day_1 (n := pn) (kd := kd) (nu := nu) (sz := sz) (ln := ln) (ce := ce) (k := kk) (lane := lv) (i := ii) (m := mm) (w := wh) (by rw [w9]; decide)
    rw [w9] at wr9
    exact g_iret C hr (ws' := [oX6 h a 0 pn ra rm rP rS rD rQ al rw rc tr, cA G (a 2) 4 kd, cA G (a 3) 12 nu, cJ G (a 13) 8 vP, cJ G (a 14) 8 vS, cJ G (a 15) 8 vD, cJ G (a 16) 8 vQ, cA G (a 18) 17 wA, cA G (a 19) 17 fA, cA G (a 25) 4 sz, cA G (a 26) 4 ln, cA G (a 27) 240 ce, cA G (a 17) 12 ht]) hw [12, 0, 1, 2, 3, 4, 5, 6, 7, 8, 9, 10, 11] (by decide) rfl ⟨al, rw, rP, rS, rD, rQ, vP, vS, vD, vQ, wA, fA, ht, (congrArg iI (by exact wr9.symm)), (by first | (rw [wf9, hn9]; done) | (rw [wf9]; done))⟩ dX6_day_12
