set_option maxRecDepth 20000 in
theorem hin_X6_sharers_X6 : ∀ w ∈ u_ws RX6 TX6 30, w ∈ wsX6_sharers := by
  intro w h
  exact List.mem_cons_of_mem _ (List.mem_append_right _ (h))
set_option maxRecDepth 20000 in
theorem lk_X6_sharers_75 : Cond.fieldLink RX6 75 (TX6 1).1 (TX6 1).2.1 (TX6 1).2.2.1 ∈ wsX6_sharers := List.mem_cons_of_mem _ (List.mem_append_left _ (List.mem_append_left _ (List.mem_of_getElem? (i := 0) rfl)))
set_option maxRecDepth 20000 in
theorem lk_X6_sharers_167 : Cond.fieldLink RX6 167 (TX6 12).1 (TX6 12).2.1 (TX6 12).2.2.1 ∈ wsX6_sharers := List.mem_cons_of_mem _ (List.mem_append_left _ (List.mem_append_left _ (List.mem_of_getElem? (i := 1) rfl)))
set_option maxRecDepth 100000 in
set_option maxHeartbeats 8000000 in
theorem m_X6_sharers (l : Launch) (D : va_G) (G : gT) (h : Nat) (a : Nat → Nat) (ft : Int) (pn : Int) (ra : Int) (rm : Int) (rP : Int) (rS : Int) (rD : Int) (rQ : Int) (al : Int) (rw : Int) (rc : Int) (tr : Int) (kd : Int → Int) (nu : Int → Int) (vP : Int → Int) (vS : Int → Int) (vD : Int → Int) (vQ : Int → Int) (kk : Int) (hkd : kdOK kd) (hnu : nuOK nu) (hn : 0 ≤ pn ∧ pn ≤ 4) (hk : -2147483648 ≤ kk ∧ kk ≤ 2147483647) : gMi l yX6_sharers wsX6_sharers ({ frames := 4, cells := 0, slots := 0, locals := 103 }) D G [.ref h, .int (iI kk)] [oX6 h a ft pn ra rm rP rS rD rQ al rw rc tr, cA G (a 2) 4 kd, cA G (a 3) 12 nu, cJ G (a 13) 8 vP, cJ G (a 14) 8 vS, cJ G (a 15) 8 vD, cJ G (a 16) 8 vQ] 0 0 (fun (r : Int32) (w : va_W) => ∃ (al2 : Int) (r2P : Int) (r2S : Int) (r2D : Int) (r2Q : Int) (vP2 : Int → Int) (vS2 : Int → Int) (vD2 : Int → Int) (vQ2 : Int → Int), r = (R_sha pn (exT pn kd nu) (ALn (exT pn kd nu) pn.toNat) kk) ∧ w = [oX6 h a ft pn ra rm r2P r2S r2D r2Q al2 rw rc tr, cA G (a 2) 4 kd, cA G (a 3) 12 nu, cJ G (a 13) 8 vP2, cJ G (a 14) 8 vS2, cJ G (a 15) 8 vD2, cJ G (a 16) 8 vQ2]) := by
  refine g_start_i (cc := cX6_sharers) (nL := 4) (own := RX6) (ret := some .int) (by decide +kernel) rfl rfl (Nat.le_of_ble_eq_true rfl) ?_
  intro p e s m below meth c A ls C hr hnm hw hl
  have hl : lv_has ls 4 [(0, .ref h), (1, .int (iI kk))] := hl
  have hE := exT_B pn kd hnu
  have hlen := ALn_len (exT pn kd nu) pn.toNat
  refine g_aload_n C hl 0 rfl rfl dX6_sharers_0 ?_
  refine g_get C hw hin_X6_sharers_X6 0 rfl rfl 1 (by decide) lk_X6_sharers_75 rfl dX6_sharers_1 ?_
  refine g_if_ne C 10 dX6_sharers_4 (by decide) (by omega) (fun c_1 => ?_) (fun c_1 => ?_)
  · skip
    refine g_aload_n C hl 0 rfl rfl dX6_sharers_10 ?_
    refine g_callVv C hw (wr := []) (As := []) (rest := []) (m_X6_gathers l D G (h := h) (a := a) (ft := ft) (pn := pn) (ra := ra) (rm := rm) (rP := rP) (rS := rS) (rD := rD) (rQ := rQ) (al := al) (rw := rw) (rc := rc) (tr := tr) (kd := kd) (nu := nu) (vP := vP) (vS := vS) (vD := vD) (vQ := vQ) (by first | assumption | omega) (by first | assumption | omega) (by first | assumption | omega)) (cwV 0 C.1.2.2.2.2 gX6_sharers_X6_gathers rfl rfl rfl (by decide +kernel) ⟨Nat.le_of_ble_eq_true rfl, Nat.le_of_ble_eq_true rfl⟩) [0, 1, 2, 3, 4, 5, 6] [] rfl rfl (by decide) (by decide) (by decide) 0 rfl rfl rfl hl.1 _ rfl (Nat.le_of_ble_eq_true rfl) dX6_sharers_11 ⟨Nat.le_of_ble_eq_true rfl, Nat.le_of_ble_eq_true rfl⟩ ?_
    clear hw
    rintro _ H locs ⟨r2P__2, r2S__3, r2D__4, r2Q__5, uP, uS, uD, uQ, rfl, hp_6⟩ hw
    have hw : gW D A s.heap [oX6 h a ft pn ra rm r2P__2 r2S__3 r2D__4 r2Q__5 ((ALn (exT pn kd nu) pn.toNat).length : Int) rw rc tr, cA G (a 2) 4 kd, cA G (a 3) 12 nu, cJ G (a 13) 8 uP, cJ G (a 14) 8 uS, cJ G (a 15) 8 uD, cJ G (a 16) 8 uQ] H locs := hw
    have hp_6 : MR (exT pn kd nu) (ALn (exT pn kd nu) pn.toNat) uP uS uD uQ := hp_6
    have hM := hp_6
    refine g_iload_n C hl 1 rfl rfl dX6_sharers_14 ?_
    refine g_i2l C dX6_sharers_15 (by omega) ?_
    refine g_lconst0 C dX6_sharers_16 ?_
    refine g_aload_n C hl 0 rfl rfl dX6_sharers_17 ?_
    refine g_get C hw hin_X6_sharers_X6 0 rfl rfl 12 (by decide) lk_X6_sharers_167 rfl dX6_sharers_18 ?_
    refine g_i2l C dX6_sharers_21 (by omega) ?_
    refine g_lconst1 C dX6_sharers_22 ?_
    refine g_lsub C dX6_sharers_23 ?_
    refine g_callSi C hw (wr := [oX6 h a ft pn ra rm r2P__2 r2S__3 r2D__4 r2Q__5 ((ALn (exT pn kd nu) pn.toNat).length : Int) rw rc tr, cA G (a 2) 4 kd, cA G (a 3) 12 nu, cJ G (a 13) 8 uP, cJ G (a 14) 8 uS, cJ G (a 15) 8 uD, cJ G (a 16) 8 uQ]) (As := [.long (lI (kk)), .long (lI (0)), .long (lI (((ALn (exT pn kd nu) pn.toNat).length : Int) - 1))]) (rest := []) (m_X6_in l D G (va := kk) (vb := 0) (vc := (((ALn (exT pn kd nu) pn.toNat).length : Int) - 1)) (by first | assumption | omega) (by first | assumption | omega) (by first | assumption | omega)) (va_cwS 3 C.1.2.2.2.2 gX6_sharers_X6_in rfl rfl rfl (by decide +kernel) ⟨Nat.le_of_ble_eq_true rfl, Nat.le_of_ble_eq_true rfl⟩) [] [0, 1, 2, 3, 4, 5, 6] rfl rfl (by decide) (by decide) (by decide) rfl hl.1 _ rfl (Nat.le_of_ble_eq_true rfl) dX6_sharers_24 ⟨Nat.le_of_ble_eq_true rfl, Nat.le_of_ble_eq_true rfl⟩ ?_
    clear hw
    rintro _ _ H locs ⟨rfl, rfl⟩ hw
    have hw : gW D A s.heap [oX6 h a ft pn ra rm r2P__2 r2S__3 r2D__4 r2Q__5 ((ALn (exT pn kd nu) pn.toNat).length : Int) rw rc tr, cA G (a 2) 4 kd, cA G (a 3) 12 nu, cJ G (a 13) 8 uP, cJ G (a 14) 8 uS, cJ G (a 15) 8 uD, cJ G (a 16) 8 uQ] H locs := hw
    refine g_ifb_ne C 32 dX6_sharers_27 (by decide) (fun c_7 => ?_) (fun c_7 => ?_)
    · skip
      obtain ⟨t, ht, htm, hte⟩ := MR_at hM (k := kk) ⟨by omega, by omega⟩
      have hrt0 := isRt_ok hE (ALn_mem (exT pn kd nu) pn.toNat t htm)
      have hrt : rtOK (uP kk) (uS kk) (uD kk) (uQ kk) := by rw [hte.1, hte.2.1, hte.2.2.1, hte.2.2.2]; exact hrt0
      have hgd : (ALn (exT pn kd nu) pn.toNat).getD kk.toNat 0 = t := by rw [List.getD_eq_getElem?_getD, ht]; rfl
      refine g_aload_n C hl 0 rfl rfl dX6_sharers_32 ?_
      refine g_iload_n C hl 1 rfl rfl dX6_sharers_33 ?_
      refine g_callVv C hw (wr := [cA G (a 2) 4 kd, cA G (a 3) 12 nu]) (As := [.int (iI kk)]) (rest := []) (m_X6_takesOf l D G (h := h) (a := a) (ft := ft) (pn := pn) (ra := ra) (rm := rm) (rP := r2P__2) (rS := r2S__3) (rD := r2D__4) (rQ := r2Q__5) (al := ((ALn (exT pn kd nu) pn.toNat).length : Int)) (rw := rw) (rc := rc) (tr := tr) (vP := uP) (vS := uS) (vD := uD) (vQ := uQ) (kk := kk) (by first | assumption | omega)) (cwV 1 C.1.2.2.2.2 gX6_sharers_X6_takesOf rfl rfl rfl (by decide +kernel) ⟨Nat.le_of_ble_eq_true rfl, Nat.le_of_ble_eq_true rfl⟩) [0, 3, 4, 5, 6] [1, 2] rfl rfl (by decide) (by decide) (by decide) 0 rfl rfl rfl hl.1 _ rfl (Nat.le_of_ble_eq_true rfl) dX6_sharers_34 ⟨Nat.le_of_ble_eq_true rfl, Nat.le_of_ble_eq_true rfl⟩ ?_
      clear hw
      rintro _ H locs rfl hw
      have hw : gW D A s.heap [cA G (a 2) 4 kd, cA G (a 3) 12 nu, oX6 h a ft pn ra rm (uP kk) (uS kk) (uD kk) (uQ kk) ((ALn (exT pn kd nu) pn.toNat).length : Int) rw rc tr, cJ G (a 13) 8 uP, cJ G (a 14) 8 uS, cJ G (a 15) 8 uD, cJ G (a 16) 8 uQ] H locs := hw
      refine g_iconst C dX6_sharers_37 ?_
      refine g_istore_n C [(2, .int (iI 0)), (0, .ref h), (1, .int (iI kk))] dX6_sharers_38 rfl hl (by decide) rfl ?_
      clear hl
      intro ls hl
      refine g_iconst C dX6_sharers_39 ?_
      refine g_istore_n C [(3, .int (iI 0)), (2, .int (iI 0)), (0, .ref h), (1, .int (iI kk))] dX6_sharers_40 rfl hl (by decide) rfl ?_
      clear hl
      intro ls hl
      refine g_loop (σ := (Int32) × (Int)) (fun z_ => [cA G (a 2) 4 kd, cA G (a 3) 12 nu, oX6 h a ft pn ra rm (uP kk) (uS kk) (uD kk) (uQ kk) ((ALn (exT pn kd nu) pn.toNat).length : Int) rw rc tr, cJ G (a 13) 8 uP, cJ G (a 14) 8 uS, cJ G (a 15) 8 uD, cJ G (a 16) 8 uQ]) (fun z_ => [(3, .int (iI (z_.2))), (2, .int (z_.1)), (0, .ref h), (1, .int (iI kk))]) (fun z_ => (0 ≤ z_.2 ∧ z_.2 ≤ pn) ∧ (z_.1 = shM (exT pn kd nu) t z_.2.toNat)) (fun z_ => (pn - z_.2).toNat) ((iI 0), 0) ⟨by (try dsimp only); omega, by (try dsimp only); rfl⟩ hw (lv_sub hl [0, 1, 2, 3] rfl) ?_
      clear hw hl
      rintro ⟨se, pp⟩ ⟨hpp, hse⟩ H locs ls hw hl ih_8
      replace hpp : 0 ≤ pp ∧ pp ≤ pn := hpp
      replace hse : se = shM (exT pn kd nu) t pp.toNat := hse
      replace hw : gW D A s.heap [cA G (a 2) 4 kd, cA G (a 3) 12 nu, oX6 h a ft pn ra rm (uP kk) (uS kk) (uD kk) (uQ kk) ((ALn (exT pn kd nu) pn.toNat).length : Int) rw rc tr, cJ G (a 13) 8 uP, cJ G (a 14) 8 uS, cJ G (a 15) 8 uD, cJ G (a 16) 8 uQ] H locs := hw
      replace hl : lv_has ls 4 [(3, .int (iI pp)), (2, .int (se)), (0, .ref h), (1, .int (iI kk))] := hl
      replace ih_8 : ∀ (se' : Int32) (pp' : Int), ((0 ≤ pp' ∧ pp' ≤ pn) ∧ (se' = shM (exT pn kd nu) t pp'.toNat)) → ((pn - pp').toNat) < ((pn - pp).toNat) → ∀ (H : Heap) (locs : List Loc) (ls : Array Slot), gW D A s.heap [cA G (a 2) 4 kd, cA G (a 3) 12 nu, oX6 h a ft pn ra rm (uP kk) (uS kk) (uD kk) (uQ kk) ((ALn (exT pn kd nu) pn.toNat).length : Int) rw rc tr, cJ G (a 13) 8 uP, cJ G (a 14) 8 uS, cJ G (a 15) 8 uD, cJ G (a 16) 8 uQ] H locs → lv_has ls 4 [(3, .int (iI (pp'))), (2, .int (se')), (0, .ref h), (1, .int (iI kk))] → W p l e _ s m _ below meth c H locs _ _ _ (F0 m 41 ls []) := fun se' pp' => ih_8 (se', pp')
      have hr9 := sRt_r (exT pn kd nu) t pp
      refine g_iload_n C hl 0 rfl rfl dX6_sharers_41 ?_
      refine g_aload_n C hl 2 rfl rfl dX6_sharers_42 ?_
      refine g_get C hw hin_X6_sharers_X6 2 rfl rfl 1 (by decide) lk_X6_sharers_75 rfl dX6_sharers_43 ?_
      refine g_icmp_ge C 81 dX6_sharers_46 (by decide) (by omega) (by omega) (fun c_9 => ?_) (fun c_9 => ?_)
      · skip
        refine g_iload_n C hl 1 rfl rfl dX6_sharers_81 ?_
        exact g_iret C hr (ws' := [oX6 h a ft pn ra rm (uP kk) (uS kk) (uD kk) (uQ kk) ((ALn (exT pn kd nu) pn.toNat).length : Int) rw rc tr, cA G (a 2) 4 kd, cA G (a 3) 12 nu, cJ G (a 13) 8 uP, cJ G (a 14) 8 uS, cJ G (a 15) 8 uD, cJ G (a 16) 8 uQ]) hw [2, 0, 1, 3, 4, 5, 6] (by decide) rfl ⟨((ALn (exT pn kd nu) pn.toNat).length : Int), (uP kk), (uS kk), (uD kk), (uQ kk), uP, uS, uD, uQ, (by unfold R_sha; rw [if_neg (by omega), if_neg (by omega), hgd, hse, show pp = pn by omega]), rfl⟩ dX6_sharers_82
      · skip
        refine g_iload_n C hl 1 rfl rfl dX6_sharers_49 ?_
        refine g_aload_n C hl 2 rfl rfl dX6_sharers_50 ?_
        refine g_iload_n C hl 0 rfl rfl dX6_sharers_51 ?_
        refine g_callVi C hw (wr := [cJ G (a 13) 8 uP, cJ G (a 14) 8 uS, cJ G (a 15) 8 uD, cJ G (a 16) 8 uQ]) (As := [.int (iI pp)]) (rest := [.int (se)]) (m_X6_isNothing l D G (h := h) (a := a) (ft := ft) (pn := pn) (ra := ra) (rm := rm) (rP := (uP kk)) (rS := (uS kk)) (rD := (uD kk)) (rQ := (uQ kk)) (al := ((ALn (exT pn kd nu) pn.toNat).length : Int)) (rw := rw) (rc := rc) (tr := tr) (kd := kd) (nu := nu) (pp := pp) (by first | assumption | omega) (by first | assumption | omega) (by first | assumption | omega) (by first | assumption | omega)) (cwV 1 C.1.2.2.2.2 gX6_sharers_X6_isNothing rfl rfl rfl (by decide +kernel) ⟨Nat.le_of_ble_eq_true rfl, Nat.le_of_ble_eq_true rfl⟩) [2, 0, 1] [3, 4, 5, 6] rfl rfl (by decide) (by decide) (by decide) 0 rfl rfl rfl hl.1 _ rfl (Nat.le_of_ble_eq_true rfl) dX6_sharers_52 ⟨Nat.le_of_ble_eq_true rfl, Nat.le_of_ble_eq_true rfl⟩ ?_
        clear hw
        rintro _ _ H locs ⟨rfl, rfl⟩ hw
        have hw : gW D A s.heap [cJ G (a 13) 8 uP, cJ G (a 14) 8 uS, cJ G (a 15) 8 uD, cJ G (a 16) 8 uQ, oX6 h a ft pn ra rm (uP kk) (uS kk) (uD kk) (uQ kk) ((ALn (exT pn kd nu) pn.toNat).length : Int) rw rc tr, cA G (a 2) 4 kd, cA G (a 3) 12 nu] H locs := hw
        refine g_ifb_ne C 72 dX6_sharers_55 (by decide) (fun c_10 => ?_) (fun c_10 => ?_)
        · skip
          refine g_iconst C dX6_sharers_72 ?_
          refine g_ior C dX6_sharers_73 ?_
          refine g_istore_n C [(2, .int (((se)) ||| ((iI 0)))), (3, .int (iI pp)), (0, .ref h), (1, .int (iI kk))] dX6_sharers_74 rfl hl (by decide) rfl ?_
          clear hl
          intro ls hl
          refine g_iinc C [(3, .int (iI (pp + 1))), (2, .int (((se)) ||| ((iI 0)))), (0, .ref h), (1, .int (iI kk))] 1 dX6_sharers_75 hl rfl (by decide) rfl ?_
          clear hl
          intro ls hl
          refine g_goto C 41 dX6_sharers_78 (by decide) ?_
          have hw : gW D A s.heap [cA G (a 2) 4 kd, cA G (a 3) 12 nu, oX6 h a ft pn ra rm (uP kk) (uS kk) (uD kk) (uQ kk) ((ALn (exT pn kd nu) pn.toNat).length : Int) rw rc tr, cJ G (a 13) 8 uP, cJ G (a 14) 8 uS, cJ G (a 15) 8 uD, cJ G (a 16) 8 uQ] H locs := g_perm hw [5, 6, 4, 0, 1, 2, 3] (by decide) rfl
          exact ih_8 (((se)) ||| ((iI 0))) (pp + 1) ⟨by omega, by rw [shM_s hpp.1, hse]; first | (rw [if_pos ⟨noB_f (by assumption), by assumption⟩]; done) | (rw [or_i0, if_neg]; intro q; first | exact absurd (noB_t (by assumption)) q.1 | exact absurd q.2 (by assumption))⟩ (by omega) H locs ls hw (lv_sub hl [0, 1, 2, 3] rfl)
        · skip
          refine g_aload_n C hl 2 rfl rfl dX6_sharers_58 ?_
          refine g_iload_n C hl 0 rfl rfl dX6_sharers_59 ?_
          refine g_callVi C hw (wr := [cJ G (a 13) 8 uP, cJ G (a 14) 8 uS, cJ G (a 15) 8 uD, cJ G (a 16) 8 uQ]) (As := [.int (iI pp)]) (rest := [.int (se)]) (m_X6_signOfAt l D G (h := h) (a := a) (ft := ft) (pn := pn) (ra := ra) (rm := rm) (rP := (uP kk)) (rS := (uS kk)) (rD := (uD kk)) (rQ := (uQ kk)) (al := ((ALn (exT pn kd nu) pn.toNat).length : Int)) (rw := rw) (rc := rc) (tr := tr) (kd := kd) (nu := nu) (pp := pp) (by first | assumption | omega) (by first | assumption | omega) (by first | assumption | omega) (by first | assumption | omega) (by first | assumption | omega)) (cwV 1 C.1.2.2.2.2 gX6_sharers_X6_signOfAt rfl rfl rfl (by decide +kernel) ⟨Nat.le_of_ble_eq_true rfl, Nat.le_of_ble_eq_true rfl⟩) [4, 5, 6] [0, 1, 2, 3] rfl rfl (by decide) (by decide) (by decide) 0 rfl rfl rfl hl.1 _ rfl (Nat.le_of_ble_eq_true rfl) dX6_sharers_60 ⟨Nat.le_of_ble_eq_true rfl, Nat.le_of_ble_eq_true rfl⟩ ?_
          clear hw
          rintro _ _ H locs ⟨rfl, rfl⟩ hw
          have hw : gW D A s.heap [cJ G (a 13) 8 uP, cJ G (a 14) 8 uS, cJ G (a 15) 8 uD, cJ G (a 16) 8 uQ, oX6 h a ft pn ra rm (uP kk) (uS kk) (uD kk) (uQ kk) ((ALn (exT pn kd nu) pn.toNat).length : Int) rw rc tr, cA G (a 2) 4 kd, cA G (a 3) 12 nu] H locs := hw
          refine g_nI (show ((sAt (exT pn kd nu pp 0) (exT pn kd nu pp 1) (exT pn kd nu pp 2) (uP kk) (uS kk) (uD kk) (uQ kk)) : Int) = sRt (exT pn kd nu) t pp by rw [hte.1, hte.2.1, hte.2.2.1, hte.2.2.2]; rfl) ?_
          refine g_if_ne C 72 dX6_sharers_63 (by decide) (by omega) (fun c_11 => ?_) (fun c_11 => ?_)
          · skip
            refine g_iconst C dX6_sharers_72 ?_
            refine g_ior C dX6_sharers_73 ?_
            refine g_istore_n C [(2, .int (((se)) ||| ((iI 0)))), (3, .int (iI pp)), (0, .ref h), (1, .int (iI kk))] dX6_sharers_74 rfl hl (by decide) rfl ?_
            clear hl
            intro ls hl
            refine g_iinc C [(3, .int (iI (pp + 1))), (2, .int (((se)) ||| ((iI 0)))), (0, .ref h), (1, .int (iI kk))] 1 dX6_sharers_75 hl rfl (by decide) rfl ?_
            clear hl
            intro ls hl
            refine g_goto C 41 dX6_sharers_78 (by decide) ?_
            have hw : gW D A s.heap [cA G (a 2) 4 kd, cA G (a 3) 12 nu, oX6 h a ft pn ra rm (uP kk) (uS kk) (uD kk) (uQ kk) ((ALn (exT pn kd nu) pn.toNat).length : Int) rw rc tr, cJ G (a 13) 8 uP, cJ G (a 14) 8 uS, cJ G (a 15) 8 uD, cJ G (a 16) 8 uQ] H locs := g_perm hw [5, 6, 4, 0, 1, 2, 3] (by decide) rfl
            exact ih_8 (((se)) ||| ((iI 0))) (pp + 1) ⟨by omega, by rw [shM_s hpp.1, hse]; first | (rw [if_pos ⟨noB_f (by assumption), by assumption⟩]; done) | (rw [or_i0, if_neg]; intro q; first | exact absurd (noB_t (by assumption)) q.1 | exact absurd q.2 (by assumption))⟩ (by omega) H locs ls hw (lv_sub hl [0, 1, 2, 3] rfl)
          · skip
            refine g_iconst C dX6_sharers_66 ?_
            refine g_iload_n C hl 0 rfl rfl dX6_sharers_67 ?_
            refine g_ishl C dX6_sharers_68 ?_
            refine g_goto C 73 dX6_sharers_69 (by decide) ?_
            refine g_ior C dX6_sharers_73 ?_
            refine g_istore_n C [(2, .int (((se)) ||| (((iI 1) <<< ((iI pp) &&& 31))))), (3, .int (iI pp)), (0, .ref h), (1, .int (iI kk))] dX6_sharers_74 rfl hl (by decide) rfl ?_
            clear hl
            intro ls hl
            refine g_iinc C [(3, .int (iI (pp + 1))), (2, .int (((se)) ||| (((iI 1) <<< ((iI pp) &&& 31))))), (0, .ref h), (1, .int (iI kk))] 1 dX6_sharers_75 hl rfl (by decide) rfl ?_
            clear hl
            intro ls hl
            refine g_goto C 41 dX6_sharers_78 (by decide) ?_
            have hw : gW D A s.heap [cA G (a 2) 4 kd, cA G (a 3) 12 nu, oX6 h a ft pn ra rm (uP kk) (uS kk) (uD kk) (uQ kk) ((ALn (exT pn kd nu) pn.toNat).length : Int) rw rc tr, cJ G (a 13) 8 uP, cJ G (a 14) 8 uS, cJ G (a 15) 8 uD, cJ G (a 16) 8 uQ] H locs := g_perm hw [5, 6, 4, 0, 1, 2, 3] (by decide) rfl
            exact ih_8 (((se)) ||| (((iI 1) <<< ((iI pp) &&& 31)))) (pp + 1) ⟨by omega, by rw [shM_s hpp.1, hse]; first | (rw [if_pos ⟨noB_f (by assumption), by assumption⟩]; done) | (rw [or_i0, if_neg]; intro q; first | exact absurd (noB_t (by assumption)) q.1 | exact absurd q.2 (by assumption))⟩ (by omega) H locs ls hw (lv_sub hl [0, 1, 2, 3] rfl)
    · skip
      refine g_iconst C dX6_sharers_30 ?_
      exact g_iret C hr (ws' := [oX6 h a ft pn ra rm r2P__2 r2S__3 r2D__4 r2Q__5 ((ALn (exT pn kd nu) pn.toNat).length : Int) rw rc tr, cA G (a 2) 4 kd, cA G (a 3) 12 nu, cJ G (a 13) 8 uP, cJ G (a 14) 8 uS, cJ G (a 15) 8 uD, cJ G (a 16) 8 uQ]) hw [0, 1, 2, 3, 4, 5, 6] (by decide) rfl ⟨((ALn (exT pn kd nu) pn.toNat).length : Int), r2P__2, r2S__3, r2D__4, r2Q__5, uP, uS, uD, uQ, (by unfold R_sha; rw [if_neg (by omega), if_pos (by omega)]), rfl⟩ dX6_sharers_31
  · skip
    refine g_bipush C dX6_sharers_7 (by decide) ?_
    exact g_iret C hr (ws' := [oX6 h a ft pn ra rm rP rS rD rQ al rw rc tr, cA G (a 2) 4 kd, cA G (a 3) 12 nu, cJ G (a 13) 8 vP, cJ G (a 14) 8 vS, cJ G (a 15) 8 vD, cJ G (a 16) 8 vQ]) hw [0, 1, 2, 3, 4, 5, 6] (by decide) rfl ⟨al, rP, rS, rD, rQ, vP, vS, vD, vQ, (by unfold R_sha; rw [if_pos (by omega)]), rfl⟩ dX6_sharers_9

set_option maxRecDepth 20000 in
theorem hin_X6_areSo_X6 : ∀ w ∈ u_ws RX6 TX6 30, w ∈ wsX6_areSo := by
  intro w h
  exact List.mem_cons_of_mem _ (List.mem_append_right _ (h))
set_option maxRecDepth 20000 in
theorem lk_X6_areSo_126 : Cond.fieldLink RX6 126 (TX6 21).1 (TX6 21).2.1 (TX6 21).2.2.1 ∈ wsX6_areSo := List.mem_cons_of_mem _ (List.mem_append_left _ (List.mem_append_left _ (List.mem_of_getElem? (i := 0) rfl)))
set_option maxRecDepth 20000 in
theorem lk_X6_areSo_44 : Cond.fieldLink RX6 44 (TX6 22).1 (TX6 22).2.1 (TX6 22).2.2.1 ∈ wsX6_areSo := List.mem_cons_of_mem _ (List.mem_append_left _ (List.mem_append_left _ (List.mem_of_getElem? (i := 1) rfl)))
set_option maxRecDepth 20000 in
theorem lk_X6_areSo_167 : Cond.fieldLink RX6 167 (TX6 12).1 (TX6 12).2.1 (TX6 12).2.2.1 ∈ wsX6_areSo := List.mem_cons_of_mem _ (List.mem_append_left _ (List.mem_append_left _ (List.mem_of_getElem? (i := 2) rfl)))
set_option maxRecDepth 20000 in
theorem lk_X6_areSo_47 : Cond.fieldLink RX6 47 (TX6 23).1 (TX6 23).2.1 (TX6 23).2.2.1 ∈ wsX6_areSo := List.mem_cons_of_mem _ (List.mem_append_left _ (List.mem_append_left _ (List.mem_of_getElem? (i := 3) rfl)))
set_option maxRecDepth 20000 in
theorem lk_X6_areSo_50 : Cond.fieldLink RX6 50 (TX6 24).1 (TX6 24).2.1 (TX6 24).2.2.1 ∈ wsX6_areSo := List.mem_cons_of_mem _ (List.mem_append_left _ (List.mem_append_left _ (List.mem_of_getElem? (i := 4) rfl)))
set_option maxRecDepth 100000 in
set_option maxHeartbeats 8000000 in
theorem m_X6_areSo (l : Launch) (D : va_G) (G : gT) (h : Nat) (a : Nat → Nat) (ft : Int) (pn : Int) (ra : Int) (rm : Int) (rP : Int) (rS : Int) (rD : Int) (rQ : Int) (al : Int) (rw : Int) (rc : Int) (tr : Int) (kd : Int → Int) (nu : Int → Int) (vP : Int → Int) (vS : Int → Int) (vD : Int → Int) (vQ : Int → Int) (r1 : Int → Int) (r2 : Int → Int) (r3 : Int → Int) (hkd : kdOK kd) (hnu : nuOK nu) (hn : 0 ≤ pn ∧ pn ≤ 4) (hrd : rdOK pn rc r1 r2 r3) : gMi l yX6_areSo wsX6_areSo ({ frames := 5, cells := 0, slots := 0, locals := 125 }) D G [.ref h] [oX6 h a ft pn ra rm rP rS rD rQ al rw rc tr, cA G (a 2) 4 kd, cA G (a 3) 12 nu, cJ G (a 13) 8 vP, cJ G (a 14) 8 vS, cJ G (a 15) 8 vD, cJ G (a 16) 8 vQ, cA G (a 22) 8 r1, cA G (a 23) 8 r2, cA G (a 24) 8 r3] 0 0 (fun (r : Int32) (w : va_W) => ∃ (al2 : Int) (r2P : Int) (r2S : Int) (r2D : Int) (r2Q : Int) (vP2 : Int → Int) (vS2 : Int → Int) (vD2 : Int → Int) (vQ2 : Int → Int), r = (iI (bI (soB (exT pn kd nu) pn rc r1 r2 r3 = true))) ∧ w = [oX6 h a ft pn ra rm r2P r2S r2D r2Q al2 rw rc tr, cA G (a 2) 4 kd, cA G (a 3) 12 nu, cJ G (a 13) 8 vP2, cJ G (a 14) 8 vS2, cJ G (a 15) 8 vD2, cJ G (a 16) 8 vQ2, cA G (a 22) 8 r1, cA G (a 23) 8 r2, cA G (a 24) 8 r3]) := by
  refine g_start_i (cc := cX6_areSo) (nL := 4) (own := RX6) (ret := some .boolean) (by decide +kernel) rfl rfl (Nat.le_of_ble_eq_true rfl) ?_
  intro p e s m below meth c A ls C hr hnm hw hl
  have hl : lv_has ls 4 [(0, .ref h)] := hl
  have hE := exT_B pn kd hnu
  have hlen := ALn_len (exT pn kd nu) pn.toNat
  obtain ⟨hrc, hrx⟩ := id hrd
  refine g_aload_n C hl 0 rfl rfl dX6_areSo_0 ?_
  refine g_callVv C hw (wr := [cA G (a 22) 8 r1, cA G (a 23) 8 r2, cA G (a 24) 8 r3]) (As := []) (rest := []) (m_X6_gathers l D G (h := h) (a := a) (ft := ft) (pn := pn) (ra := ra) (rm := rm) (rP := rP) (rS := rS) (rD := rD) (rQ := rQ) (al := al) (rw := rw) (rc := rc) (tr := tr) (kd := kd) (nu := nu) (vP := vP) (vS := vS) (vD := vD) (vQ := vQ) (by first | assumption | omega) (by first | assumption | omega) (by first | assumption | omega)) (cwV 0 C.1.2.2.2.2 gX6_areSo_X6_gathers rfl rfl rfl (by decide +kernel) ⟨Nat.le_of_ble_eq_true rfl, Nat.le_of_ble_eq_true rfl⟩) [0, 1, 2, 3, 4, 5, 6] [7, 8, 9] rfl rfl (by decide) (by decide) (by decide) 0 rfl rfl rfl hl.1 _ rfl (Nat.le_of_ble_eq_true rfl) dX6_areSo_1 ⟨Nat.le_of_ble_eq_true rfl, Nat.le_of_ble_eq_true rfl⟩ ?_
  clear hw
  rintro _ H locs ⟨r2P__1, r2S__2, r2D__3, r2Q__4, vP2__5, vS2__6, vD2__7, vQ2__8, rfl, hp_9⟩ hw
  have hw : gW D A s.heap [cA G (a 22) 8 r1, cA G (a 23) 8 r2, cA G (a 24) 8 r3, oX6 h a ft pn ra rm r2P__1 r2S__2 r2D__3 r2Q__4 ((ALn (exT pn kd nu) pn.toNat).length : Int) rw rc tr, cA G (a 2) 4 kd, cA G (a 3) 12 nu, cJ G (a 13) 8 vP2__5, cJ G (a 14) 8 vS2__6, cJ G (a 15) 8 vD2__7, cJ G (a 16) 8 vQ2__8] H locs := hw
  have hp_9 : MR (exT pn kd nu) (ALn (exT pn kd nu) pn.toNat) vP2__5 vS2__6 vD2__7 vQ2__8 := hp_9
  have hM := hp_9
  refine g_iconst C dX6_areSo_4 ?_
  refine g_istore_n C [(1, .int (iI 1)), (0, .ref h)] dX6_areSo_5 rfl hl (by decide) rfl ?_
  clear hl
  intro ls hl
  refine g_iconst C dX6_areSo_6 ?_
  refine g_istore_n C [(2, .int (iI 0)), (1, .int (iI 1)), (0, .ref h)] dX6_areSo_7 rfl hl (by decide) rfl ?_
  clear hl
  intro ls hl
  refine g_loop (σ := (Int) × (Int) × (Int) × (Int) × (Int) × (Int)) (fun z_ => [cA G (a 22) 8 r1, cA G (a 23) 8 r2, cA G (a 24) 8 r3, oX6 h a ft pn ra rm z_.2.2.1 z_.2.2.2.1 z_.2.2.2.2.1 z_.2.2.2.2.2 ((ALn (exT pn kd nu) pn.toNat).length : Int) rw rc tr, cA G (a 2) 4 kd, cA G (a 3) 12 nu, cJ G (a 13) 8 vP2__5, cJ G (a 14) 8 vS2__6, cJ G (a 15) 8 vD2__7, cJ G (a 16) 8 vQ2__8]) (fun z_ => [(2, .int (iI (z_.2.1))), (1, .int (iI (z_.1))), (0, .ref h)]) (fun z_ => (0 ≤ z_.2.1 ∧ z_.2.1 ≤ rc) ∧ (z_.1 = if allB (soP (exT pn kd nu) (ALn (exT pn kd nu) pn.toNat) r1 r2 r3) z_.2.1.toNat = true then 1 else 0)) (fun z_ => (rc - z_.2.1).toNat) (1, 0, r2P__1, r2S__2, r2D__3, r2Q__4) ⟨by (try dsimp only); omega, by (try dsimp only); rfl⟩ hw (lv_sub hl [0, 1, 2] rfl) ?_
  clear hw hl
  rintro ⟨ar, xx, gP, gS, gD, gQ⟩ ⟨hxx, har⟩ H locs ls hw hl ih_10
  replace hxx : 0 ≤ xx ∧ xx ≤ rc := hxx
  replace har : ar = if allB (soP (exT pn kd nu) (ALn (exT pn kd nu) pn.toNat) r1 r2 r3) xx.toNat = true then 1 else 0 := har
  replace hw : gW D A s.heap [cA G (a 22) 8 r1, cA G (a 23) 8 r2, cA G (a 24) 8 r3, oX6 h a ft pn ra rm gP gS gD gQ ((ALn (exT pn kd nu) pn.toNat).length : Int) rw rc tr, cA G (a 2) 4 kd, cA G (a 3) 12 nu, cJ G (a 13) 8 vP2__5, cJ G (a 14) 8 vS2__6, cJ G (a 15) 8 vD2__7, cJ G (a 16) 8 vQ2__8] H locs := hw
  replace hl : lv_has ls 4 [(2, .int (iI xx)), (1, .int (iI ar)), (0, .ref h)] := hl
  replace ih_10 : ∀ (ar' : Int) (xx' : Int) (gP' : Int) (gS' : Int) (gD' : Int) (gQ' : Int), ((0 ≤ xx' ∧ xx' ≤ rc) ∧ (ar' = if allB (soP (exT pn kd nu) (ALn (exT pn kd nu) pn.toNat) r1 r2 r3) xx'.toNat = true then 1 else 0)) → ((rc - xx').toNat) < ((rc - xx).toNat) → ∀ (H : Heap) (locs : List Loc) (ls : Array Slot), gW D A s.heap [cA G (a 22) 8 r1, cA G (a 23) 8 r2, cA G (a 24) 8 r3, oX6 h a ft pn ra rm gP' gS' gD' gQ' ((ALn (exT pn kd nu) pn.toNat).length : Int) rw rc tr, cA G (a 2) 4 kd, cA G (a 3) 12 nu, cJ G (a 13) 8 vP2__5, cJ G (a 14) 8 vS2__6, cJ G (a 15) 8 vD2__7, cJ G (a 16) 8 vQ2__8] H locs → lv_has ls 4 [(2, .int (iI (xx'))), (1, .int (iI (ar'))), (0, .ref h)] → W p l e _ s m _ below meth c H locs _ _ _ (F0 m 8 ls []) := fun ar' xx' gP' gS' gD' gQ' => ih_10 (ar', xx', gP', gS', gD', gQ')
  have har9 : 0 ≤ ar ∧ ar ≤ 1 := by rw [har]; split <;> omega
  have hx9 := hrx xx hxx.1
  refine g_iload_n C hl 0 rfl rfl dX6_areSo_8 ?_
  refine g_aload_n C hl 2 rfl rfl dX6_areSo_9 ?_
  refine g_get C hw hin_X6_areSo_X6 3 rfl rfl 21 (by decide) lk_X6_areSo_126 rfl dX6_areSo_10 ?_
  refine g_icmp_ge C 84 dX6_areSo_13 (by decide) (by omega) (by omega) (fun c_11 => ?_) (fun c_11 => ?_)
  · skip
    refine g_iload_n C hl 1 rfl rfl dX6_areSo_84 ?_
    exact g_zret C hr (ws' := [oX6 h a ft pn ra rm gP gS gD gQ ((ALn (exT pn kd nu) pn.toNat).length : Int) rw rc tr, cA G (a 2) 4 kd, cA G (a 3) 12 nu, cJ G (a 13) 8 vP2__5, cJ G (a 14) 8 vS2__6, cJ G (a 15) 8 vD2__7, cJ G (a 16) 8 vQ2__8, cA G (a 22) 8 r1, cA G (a 23) 8 r2, cA G (a 24) 8 r3]) hw [3, 4, 5, 6, 7, 8, 9, 0, 1, 2] (by decide) rfl (by rcases (by omega : ar = 0 ∨ ar = 1) with q | q; exact Or.inl (congrArg iI q); exact Or.inr (congrArg iI q)) ⟨((ALn (exT pn kd nu) pn.toNat).length : Int), gP, gS, gD, gQ, vP2__5, vS2__6, vD2__7, vQ2__8, (congrArg iI (by unfold soB; rw [har, show xx = rc by omega]; simp only [bI])), rfl⟩ dX6_areSo_85
  · skip
    refine g_aload_n C hl 2 rfl rfl dX6_areSo_16 ?_
    refine g_get C hw hin_X6_areSo_X6 3 rfl rfl 22 (by decide) lk_X6_areSo_44 rfl dX6_areSo_17 ?_
    refine g_iload_n C hl 0 rfl rfl dX6_areSo_20 ?_
    refine g_iald C hw 0 rfl (by omega) (Nat.le_of_ble_eq_true rfl) dX6_areSo_21 ?_
    refine g_iconst C dX6_areSo_22 ?_
    refine g_aload_n C hl 2 rfl rfl dX6_areSo_23 ?_
    refine g_get C hw hin_X6_areSo_X6 3 rfl rfl 12 (by decide) lk_X6_areSo_167 rfl dX6_areSo_24 ?_
    refine g_imul C dX6_areSo_27 ?_
    refine g_icmp_gt C 35 dX6_areSo_28 (by decide) (by omega) (by omega) (fun c_12 => ?_) (fun c_12 => ?_)
    · skip
      refine g_iconst C dX6_areSo_35 ?_
      refine g_istore_n C [(3, .int (iI 0)), (2, .int (iI xx)), (1, .int (iI ar)), (0, .ref h)] dX6_areSo_36 rfl hl (by decide) rfl ?_
      clear hl
      intro ls hl
      refine g_iload_n C hl 2 rfl rfl dX6_areSo_37 ?_
      refine g_if_eq C 76 dX6_areSo_38 (by decide) (by omega) (fun c_13 => ?_) (fun c_13 => ?_)
      · skip
        refine g_iconst C dX6_areSo_76 ?_
        refine g_istore_n C [(1, .int (iI 0)), (3, .int (iI 0)), (2, .int (iI xx)), (0, .ref h)] dX6_areSo_77 rfl hl (by decide) rfl ?_
        clear hl
        intro ls hl
        refine g_iinc C [(2, .int (iI (xx + 1))), (1, .int (iI 0)), (3, .int (iI 0)), (0, .ref h)] 2 dX6_areSo_78 hl rfl (by decide) rfl ?_
        clear hl
        intro ls hl
        refine g_goto C 8 dX6_areSo_81 (by decide) ?_
        have hw : gW D A s.heap [cA G (a 22) 8 r1, cA G (a 23) 8 r2, cA G (a 24) 8 r3, oX6 h a ft pn ra rm gP gS gD gQ ((ALn (exT pn kd nu) pn.toNat).length : Int) rw rc tr, cA G (a 2) 4 kd, cA G (a 3) 12 nu, cJ G (a 13) 8 vP2__5, cJ G (a 14) 8 vS2__6, cJ G (a 15) 8 vD2__7, cJ G (a 16) 8 vQ2__8] H locs := g_perm hw [0, 1, 2, 3, 4, 5, 6, 7, 8, 9] (by decide) rfl
        exact ih_10 0 (xx + 1) gP gS gD gQ ⟨by omega, by rw [allB_s hxx.1]; first | (rw [soP_t (by omega)]; split at har <;> simp_all; done) | (rw [soP_f (by omega)]; simp_all; done) | (split at har <;> simp_all; done)⟩ (by omega) H locs ls hw (lv_sub hl [0, 1, 3] rfl)
      · skip
        refine g_iload_n C hl 0 rfl rfl dX6_areSo_41 ?_
        refine g_if_eq C 76 dX6_areSo_42 (by decide) (by decide) (fun c_14 => ?_) (fun c_14 => absurd c_14 (by decide))
        refine g_iconst C dX6_areSo_76 ?_
        refine g_istore_n C [(1, .int (iI 0)), (3, .int (iI 0)), (2, .int (iI xx)), (0, .ref h)] dX6_areSo_77 rfl hl (by decide) rfl ?_
        clear hl
        intro ls hl
        refine g_iinc C [(2, .int (iI (xx + 1))), (1, .int (iI 0)), (3, .int (iI 0)), (0, .ref h)] 2 dX6_areSo_78 hl rfl (by decide) rfl ?_
        clear hl
        intro ls hl
        refine g_goto C 8 dX6_areSo_81 (by decide) ?_
        have hw : gW D A s.heap [cA G (a 22) 8 r1, cA G (a 23) 8 r2, cA G (a 24) 8 r3, oX6 h a ft pn ra rm gP gS gD gQ ((ALn (exT pn kd nu) pn.toNat).length : Int) rw rc tr, cA G (a 2) 4 kd, cA G (a 3) 12 nu, cJ G (a 13) 8 vP2__5, cJ G (a 14) 8 vS2__6, cJ G (a 15) 8 vD2__7, cJ G (a 16) 8 vQ2__8] H locs := g_perm hw [0, 1, 2, 3, 4, 5, 6, 7, 8, 9] (by decide) rfl
        exact ih_10 0 (xx + 1) gP gS gD gQ ⟨by omega, by rw [allB_s hxx.1]; first | (rw [soP_t (by omega)]; split at har <;> simp_all; done) | (rw [soP_f (by omega)]; simp_all; done) | (split at har <;> simp_all; done)⟩ (by omega) H locs ls hw (lv_sub hl [0, 1, 3] rfl)
    · skip
      refine g_iconst C dX6_areSo_31 ?_
      refine g_goto C 36 dX6_areSo_32 (by decide) ?_
      refine g_istore_n C [(3, .int (iI 1)), (2, .int (iI xx)), (1, .int (iI ar)), (0, .ref h)] dX6_areSo_36 rfl hl (by decide) rfl ?_
      clear hl
      intro ls hl
      refine g_iload_n C hl 2 rfl rfl dX6_areSo_37 ?_
      refine g_if_eq C 76 dX6_areSo_38 (by decide) (by omega) (fun c_15 => ?_) (fun c_15 => ?_)
      · skip
        refine g_iconst C dX6_areSo_76 ?_
        refine g_istore_n C [(1, .int (iI 0)), (3, .int (iI 1)), (2, .int (iI xx)), (0, .ref h)] dX6_areSo_77 rfl hl (by decide) rfl ?_
        clear hl
        intro ls hl
        refine g_iinc C [(2, .int (iI (xx + 1))), (1, .int (iI 0)), (3, .int (iI 1)), (0, .ref h)] 2 dX6_areSo_78 hl rfl (by decide) rfl ?_
        clear hl
        intro ls hl
        refine g_goto C 8 dX6_areSo_81 (by decide) ?_
        have hw : gW D A s.heap [cA G (a 22) 8 r1, cA G (a 23) 8 r2, cA G (a 24) 8 r3, oX6 h a ft pn ra rm gP gS gD gQ ((ALn (exT pn kd nu) pn.toNat).length : Int) rw rc tr, cA G (a 2) 4 kd, cA G (a 3) 12 nu, cJ G (a 13) 8 vP2__5, cJ G (a 14) 8 vS2__6, cJ G (a 15) 8 vD2__7, cJ G (a 16) 8 vQ2__8] H locs := g_perm hw [0, 1, 2, 3, 4, 5, 6, 7, 8, 9] (by decide) rfl
        exact ih_10 0 (xx + 1) gP gS gD gQ ⟨by omega, by rw [allB_s hxx.1]; first | (rw [soP_t (by omega)]; split at har <;> simp_all; done) | (rw [soP_f (by omega)]; simp_all; done) | (split at har <;> simp_all; done)⟩ (by omega) H locs ls hw (lv_sub hl [0, 1, 3] rfl)
      · skip
        refine g_iload_n C hl 0 rfl rfl dX6_areSo_41 ?_
        refine g_if_eq C 76 dX6_areSo_42 (by decide) (by decide) (fun c_16 => absurd c_16 (by decide)) (fun c_16 => ?_)
        refine g_aload_n C hl 3 rfl rfl dX6_areSo_45 ?_
        refine g_aload_n C hl 3 rfl rfl dX6_areSo_46 ?_
        refine g_get C hw hin_X6_areSo_X6 3 rfl rfl 22 (by decide) lk_X6_areSo_44 rfl dX6_areSo_47 ?_
        refine g_iload_n C hl 1 rfl rfl dX6_areSo_50 ?_
        refine g_iald C hw 0 rfl (by omega) (Nat.le_of_ble_eq_true rfl) dX6_areSo_51 ?_
        refine g_aload_n C hl 3 rfl rfl dX6_areSo_52 ?_
        refine g_get C hw hin_X6_areSo_X6 3 rfl rfl 23 (by decide) lk_X6_areSo_47 rfl dX6_areSo_53 ?_
        refine g_iload_n C hl 1 rfl rfl dX6_areSo_56 ?_
        refine g_iald C hw 1 rfl (by omega) (Nat.le_of_ble_eq_true rfl) dX6_areSo_57 ?_
        refine g_callVi C hw (wr := [cA G (a 22) 8 r1, cA G (a 23) 8 r2, cA G (a 24) 8 r3]) (As := [.int (iI (r1 xx)), .int (iI (r2 xx))]) (rest := []) (m_X6_signInSpot l D G (h := h) (a := a) (ft := ft) (pn := pn) (ra := ra) (rm := rm) (rP := gP) (rS := gS) (rD := gD) (rQ := gQ) (al := ((ALn (exT pn kd nu) pn.toNat).length : Int)) (rw := rw) (rc := rc) (tr := tr) (kd := kd) (nu := nu) (vP := vP2__5) (vS := vS2__6) (vD := vD2__7) (vQ := vQ2__8) (kk := (r1 xx)) (pp := (r2 xx)) (by first | assumption | omega) (by first | assumption | omega) (by first | assumption | omega) (by first | assumption | omega) (by rfl) (by exact hM) (by first | assumption | omega)) (cwV 2 C.1.2.2.2.2 gX6_areSo_X6_signInSpot rfl rfl rfl (by decide +kernel) ⟨Nat.le_of_ble_eq_true rfl, Nat.le_of_ble_eq_true rfl⟩) [3, 4, 5, 6, 7, 8, 9] [0, 1, 2] rfl rfl (by decide) (by decide) (by decide) 0 rfl rfl rfl hl.1 _ rfl (Nat.le_of_ble_eq_true rfl) dX6_areSo_58 ⟨Nat.le_of_ble_eq_true rfl, Nat.le_of_ble_eq_true rfl⟩ ?_
        clear hw
        rintro _ _ H locs ⟨r2P__17, r2S__18, r2D__19, r2Q__20, rfl, rfl⟩ hw
        have hw : gW D A s.heap [cA G (a 22) 8 r1, cA G (a 23) 8 r2, cA G (a 24) 8 r3, oX6 h a ft pn ra rm r2P__17 r2S__18 r2D__19 r2Q__20 ((ALn (exT pn kd nu) pn.toNat).length : Int) rw rc tr, cA G (a 2) 4 kd, cA G (a 3) 12 nu, cJ G (a 13) 8 vP2__5, cJ G (a 14) 8 vS2__6, cJ G (a 15) 8 vD2__7, cJ G (a 16) 8 vQ2__8] H locs := hw
        refine g_iconst C dX6_areSo_61 ?_
        refine g_iadd C dX6_areSo_62 ?_
        refine g_aload_n C hl 3 rfl rfl dX6_areSo_63 ?_
        refine g_get C hw hin_X6_areSo_X6 3 rfl rfl 24 (by decide) lk_X6_areSo_50 rfl dX6_areSo_64 ?_
        refine g_iload_n C hl 1 rfl rfl dX6_areSo_67 ?_
        refine g_iald C hw 2 rfl (by omega) (Nat.le_of_ble_eq_true rfl) dX6_areSo_68 ?_
        refine g_icmp_ne C 76 dX6_areSo_69 (by decide) (by have hsb := sSp_r (exT pn kd nu) (ALn (exT pn kd nu) pn.toNat) (r1 xx) (r2 xx); omega) (by omega) (fun c_21 => ?_) (fun c_21 => ?_)
        · skip
          refine g_iconst C dX6_areSo_76 ?_
          refine g_istore_n C [(1, .int (iI 0)), (3, .int (iI 1)), (2, .int (iI xx)), (0, .ref h)] dX6_areSo_77 rfl hl (by decide) rfl ?_
          clear hl
          intro ls hl
          refine g_iinc C [(2, .int (iI (xx + 1))), (1, .int (iI 0)), (3, .int (iI 1)), (0, .ref h)] 2 dX6_areSo_78 hl rfl (by decide) rfl ?_
          clear hl
          intro ls hl
          refine g_goto C 8 dX6_areSo_81 (by decide) ?_
          have hw : gW D A s.heap [cA G (a 22) 8 r1, cA G (a 23) 8 r2, cA G (a 24) 8 r3, oX6 h a ft pn ra rm r2P__17 r2S__18 r2D__19 r2Q__20 ((ALn (exT pn kd nu) pn.toNat).length : Int) rw rc tr, cA G (a 2) 4 kd, cA G (a 3) 12 nu, cJ G (a 13) 8 vP2__5, cJ G (a 14) 8 vS2__6, cJ G (a 15) 8 vD2__7, cJ G (a 16) 8 vQ2__8] H locs := g_perm hw [0, 1, 2, 3, 4, 5, 6, 7, 8, 9] (by decide) rfl
          exact ih_10 0 (xx + 1) r2P__17 r2S__18 r2D__19 r2Q__20 ⟨by omega, by rw [allB_s hxx.1]; first | (rw [soP_t (by omega)]; split at har <;> simp_all; done) | (rw [soP_f (by omega)]; simp_all; done) | (split at har <;> simp_all; done)⟩ (by omega) H locs ls hw (lv_sub hl [0, 1, 3] rfl)
        · skip
          refine g_iconst C dX6_areSo_72 ?_
          refine g_goto C 77 dX6_areSo_73 (by decide) ?_
          refine g_istore_n C [(1, .int (iI 1)), (3, .int (iI 1)), (2, .int (iI xx)), (0, .ref h)] dX6_areSo_77 rfl hl (by decide) rfl ?_
          clear hl
          intro ls hl
          refine g_iinc C [(2, .int (iI (xx + 1))), (1, .int (iI 1)), (3, .int (iI 1)), (0, .ref h)] 2 dX6_areSo_78 hl rfl (by decide) rfl ?_
          clear hl
          intro ls hl
          refine g_goto C 8 dX6_areSo_81 (by decide) ?_
          have hw : gW D A s.heap [cA G (a 22) 8 r1, cA G (a 23) 8 r2, cA G (a 24) 8 r3, oX6 h a ft pn ra rm r2P__17 r2S__18 r2D__19 r2Q__20 ((ALn (exT pn kd nu) pn.toNat).length : Int) rw rc tr, cA G (a 2) 4 kd, cA G (a 3) 12 nu, cJ G (a 13) 8 vP2__5, cJ G (a 14) 8 vS2__6, cJ G (a 15) 8 vD2__7, cJ G (a 16) 8 vQ2__8] H locs := g_perm hw [0, 1, 2, 3, 4, 5, 6, 7, 8, 9] (by decide) rfl
          exact ih_10 1 (xx + 1) r2P__17 r2S__18 r2D__19 r2Q__20 ⟨by omega, by rw [allB_s hxx.1]; first | (rw [soP_t (by omega)]; split at har <;> simp_all; done) | (rw [soP_f (by omega)]; simp_all; done) | (split at har <;> simp_all; done)⟩ (by omega) H locs ls hw (lv_sub hl [0, 1, 3] rfl)

set_option maxRecDepth 20000 in
theorem hin_X6_kinds_X6 : ∀ w ∈ u_ws RX6 TX6 30, w ∈ wsX6_kinds := by
  intro w h
  exact List.mem_cons_of_mem _ (List.mem_append_right _ (h))
set_option maxRecDepth 20000 in
theorem lk_X6_kinds_7 : Cond.fieldLink RX6 7 (TX6 2).1 (TX6 2).2.1 (TX6 2).2.2.1 ∈ wsX6_kinds := List.mem_cons_of_mem _ (List.mem_append_left _ (List.mem_append_left _ (List.mem_of_getElem? (i := 0) rfl)))
set_option maxRecDepth 100000 in
set_option maxHeartbeats 8000000 in
theorem m_X6_kinds (l : Launch) (D : va_G) (G : gT) (h : Nat) (a : Nat → Nat) (ft : Int) (pn : Int) (ra : Int) (rm : Int) (rP : Int) (rS : Int) (rD : Int) (rQ : Int) (al : Int) (rw : Int) (rc : Int) (tr : Int) (kd : Int → Int) (nu : Int → Int) (vP : Int → Int) (vS : Int → Int) (vD : Int → Int) (vQ : Int → Int) (r1 : Int → Int) (r2 : Int → Int) (r3 : Int → Int) (pp : Int) (hkd : kdOK kd) (hnu : nuOK nu) (hn : 0 ≤ pn ∧ pn ≤ 4) (hrd : rdOK pn rc r1 r2 r3) (hp : -2147483648 ≤ pp ∧ pp ≤ 2147483647) : gMi l yX6_kinds wsX6_kinds ({ frames := 6, cells := 0, slots := 0, locals := 148 }) D G [.ref h, .int (iI pp)] [oX6 h a ft pn ra rm rP rS rD rQ al rw rc tr, cA G (a 2) 4 kd, cA G (a 3) 12 nu, cJ G (a 13) 8 vP, cJ G (a 14) 8 vS, cJ G (a 15) 8 vD, cJ G (a 16) 8 vQ, cA G (a 22) 8 r1, cA G (a 23) 8 r2, cA G (a 24) 8 r3] 0 0 (fun (r : Int32) (w : va_W) => ∃ (al2 : Int) (r2P : Int) (r2S : Int) (r2D : Int) (r2Q : Int) (vP2 : Int → Int) (vS2 : Int → Int) (vD2 : Int → Int) (vQ2 : Int → Int), r = (R_kin pn kd nu rc r1 r2 r3 pp) ∧ w = [oX6 h a ft pn ra rm r2P r2S r2D r2Q al2 rw rc tr, cA G (a 2) 4 kd, cA G (a 3) 12 nu, cJ G (a 13) 8 vP2, cJ G (a 14) 8 vS2, cJ G (a 15) 8 vD2, cJ G (a 16) 8 vQ2, cA G (a 22) 8 r1, cA G (a 23) 8 r2, cA G (a 24) 8 r3]) := by
  refine g_start_i (cc := cX6_kinds) (nL := 5) (own := RX6) (ret := some .int) (by decide +kernel) rfl rfl (Nat.le_of_ble_eq_true rfl) ?_
  intro p e s m below meth c A ls C hr hnm hw hl
  have hl : lv_has ls 5 [(0, .ref h), (1, .int (iI pp))] := hl
  have hE := exT_B pn kd hnu
  have hlen := ALn_len (exT pn kd nu) pn.toNat
  have k0 := hkd pp
  refine g_aload_n C hl 0 rfl rfl dX6_kinds_0 ?_
  refine g_iload_n C hl 1 rfl rfl dX6_kinds_1 ?_
  refine g_callVi C hw (wr := [cA G (a 2) 4 kd, cA G (a 3) 12 nu, cJ G (a 13) 8 vP, cJ G (a 14) 8 vS, cJ G (a 15) 8 vD, cJ G (a 16) 8 vQ, cA G (a 22) 8 r1, cA G (a 23) 8 r2, cA G (a 24) 8 r3]) (As := [.int (iI pp)]) (rest := []) (m_X6_noPolynomial l D G (h := h) (a := a) (ft := ft) (pn := pn) (ra := ra) (rm := rm) (rP := rP) (rS := rS) (rD := rD) (rQ := rQ) (al := al) (rw := rw) (rc := rc) (tr := tr) (pp := pp) (by first | assumption | omega) (by first | assumption | omega)) (cwV 1 C.1.2.2.2.2 gX6_kinds_X6_noPolynomial rfl rfl rfl (by decide +kernel) ⟨Nat.le_of_ble_eq_true rfl, Nat.le_of_ble_eq_true rfl⟩) [0] [1, 2, 3, 4, 5, 6, 7, 8, 9] rfl rfl (by decide) (by decide) (by decide) 0 rfl rfl rfl hl.1 _ rfl (Nat.le_of_ble_eq_true rfl) dX6_kinds_2 ⟨Nat.le_of_ble_eq_true rfl, Nat.le_of_ble_eq_true rfl⟩ ?_
  clear hw
  rintro _ _ H locs ⟨rfl, rfl⟩ hw
  have hw : gW D A s.heap [cA G (a 2) 4 kd, cA G (a 3) 12 nu, cJ G (a 13) 8 vP, cJ G (a 14) 8 vS, cJ G (a 15) 8 vD, cJ G (a 16) 8 vQ, cA G (a 22) 8 r1, cA G (a 23) 8 r2, cA G (a 24) 8 r3, oX6 h a ft pn ra rm rP rS rD rQ al rw rc tr] H locs := hw
  refine g_ifb_eq C 10 dX6_kinds_5 (by decide) (fun c_1 => ?_) (fun c_1 => ?_)
  · skip
    refine g_aload_n C hl 0 rfl rfl dX6_kinds_10 ?_
    refine g_get C hw hin_X6_kinds_X6 9 rfl rfl 2 (by decide) lk_X6_kinds_7 rfl dX6_kinds_11 ?_
    refine g_iload_n C hl 1 rfl rfl dX6_kinds_14 ?_
    refine g_iald C hw 0 rfl (by omega) (Nat.le_of_ble_eq_true rfl) dX6_kinds_15 ?_
    refine g_istore_n C [(2, .int (iI (kd pp))), (0, .ref h), (1, .int (iI pp))] dX6_kinds_16 rfl hl (by decide) rfl ?_
    clear hl
    intro ls hl
    refine g_iconst C dX6_kinds_17 ?_
    refine g_istore_n C [(3, .int (iI 0)), (2, .int (iI (kd pp))), (0, .ref h), (1, .int (iI pp))] dX6_kinds_18 rfl hl (by decide) rfl ?_
    clear hl
    intro ls hl
    refine g_iconst C dX6_kinds_19 ?_
    refine g_istore C [(4, .int (iI 0)), (3, .int (iI 0)), (2, .int (iI (kd pp))), (0, .ref h), (1, .int (iI pp))] dX6_kinds_20 hl (by decide) rfl ?_
    clear hl
    intro ls hl
    refine g_loop (σ := (Int32) × (Int) × (Int) × (Int) × (Int) × (Int) × (Int) × (Int → Int) × (Int → Int) × (Int → Int) × (Int → Int) × (Int → Int)) (fun z_ => [cA G (a 2) 4 z_.2.2.2.2.2.2.2.1, cA G (a 3) 12 nu, cJ G (a 13) 8 z_.2.2.2.2.2.2.2.2.1, cJ G (a 14) 8 z_.2.2.2.2.2.2.2.2.2.1, cJ G (a 15) 8 z_.2.2.2.2.2.2.2.2.2.2.1, cJ G (a 16) 8 z_.2.2.2.2.2.2.2.2.2.2.2, cA G (a 22) 8 r1, cA G (a 23) 8 r2, cA G (a 24) 8 r3, oX6 h a ft pn ra rm z_.2.2.2.1 z_.2.2.2.2.1 z_.2.2.2.2.2.1 z_.2.2.2.2.2.2.1 z_.2.2.1 rw rc tr]) (fun z_ => [(4, .int (iI (z_.2.1))), (3, .int (z_.1)), (2, .int (iI ((kd pp)))), (0, .ref h), (1, .int (iI pp))]) (fun z_ => (0 ≤ z_.2.1 ∧ z_.2.1 ≤ 3) ∧ (∀ v, up z_.2.2.2.2.2.2.2.1 pp v = up kd pp v) ∧ (z_.1 = seM (fun k => soB (exT pn (up kd pp k) nu) pn rc r1 r2 r3) z_.2.1.toNat)) (fun z_ => (3 - z_.2.1).toNat) ((iI 0), 0, al, rP, rS, rD, rQ, kd, vP, vS, vD, vQ) ⟨by (try dsimp only); omega, by (try dsimp only); exact fun _ => rfl, by (try dsimp only); rfl⟩ hw (lv_sub hl [0, 1, 2, 3, 4] rfl) ?_
    clear hw hl
    rintro ⟨se, kk, al1, gP, gS, gD, gQ, kd1, f1, f2, f3, f4⟩ ⟨hkk, hkd1, hse⟩ H locs ls hw hl ih_2
    replace hkk : 0 ≤ kk ∧ kk ≤ 3 := hkk
    replace hkd1 : ∀ v, up kd1 pp v = up kd pp v := hkd1
    replace hse : se = seM (fun k => soB (exT pn (up kd pp k) nu) pn rc r1 r2 r3) kk.toNat := hse
    replace hw : gW D A s.heap [cA G (a 2) 4 kd1, cA G (a 3) 12 nu, cJ G (a 13) 8 f1, cJ G (a 14) 8 f2, cJ G (a 15) 8 f3, cJ G (a 16) 8 f4, cA G (a 22) 8 r1, cA G (a 23) 8 r2, cA G (a 24) 8 r3, oX6 h a ft pn ra rm gP gS gD gQ al1 rw rc tr] H locs := hw
    replace hl : lv_has ls 5 [(4, .int (iI kk)), (3, .int (se)), (2, .int (iI (kd pp))), (0, .ref h), (1, .int (iI pp))] := hl
    replace ih_2 : ∀ (se' : Int32) (kk' : Int) (al1' : Int) (gP' : Int) (gS' : Int) (gD' : Int) (gQ' : Int) (kd1' : Int → Int) (f1' : Int → Int) (f2' : Int → Int) (f3' : Int → Int) (f4' : Int → Int), ((0 ≤ kk' ∧ kk' ≤ 3) ∧ (∀ v, up kd1' pp v = up kd pp v) ∧ (se' = seM (fun k => soB (exT pn (up kd pp k) nu) pn rc r1 r2 r3) kk'.toNat)) → ((3 - kk').toNat) < ((3 - kk).toNat) → ∀ (H : Heap) (locs : List Loc) (ls : Array Slot), gW D A s.heap [cA G (a 2) 4 kd1', cA G (a 3) 12 nu, cJ G (a 13) 8 f1', cJ G (a 14) 8 f2', cJ G (a 15) 8 f3', cJ G (a 16) 8 f4', cA G (a 22) 8 r1, cA G (a 23) 8 r2, cA G (a 24) 8 r3, oX6 h a ft pn ra rm gP' gS' gD' gQ' al1' rw rc tr] H locs → lv_has ls 5 [(4, .int (iI (kk'))), (3, .int (se')), (2, .int (iI ((kd pp)))), (0, .ref h), (1, .int (iI pp))] → W p l e _ s m _ below meth c H locs _ _ _ (F0 m 22 ls []) := fun se' kk' al1' gP' gS' gD' gQ' kd1' f1' f2' f3' f4' => ih_2 (se', kk', al1', gP', gS', gD', gQ', kd1', f1', f2', f3', f4')
    refine g_iload C hl 0 rfl dX6_kinds_22 ?_
    refine g_iconst C dX6_kinds_24 ?_
    refine g_icmp_ge C 60 dX6_kinds_25 (by decide) (by omega) (by omega) (fun c_3 => ?_) (fun c_3 => ?_)
    · skip
      refine g_aload_n C hl 3 rfl rfl dX6_kinds_60 ?_
      refine g_get C hw hin_X6_kinds_X6 9 rfl rfl 2 (by decide) lk_X6_kinds_7 rfl dX6_kinds_61 ?_
      refine g_iload_n C hl 4 rfl rfl dX6_kinds_64 ?_
      refine g_iload_n C hl 2 rfl rfl dX6_kinds_65 ?_
      refine g_iast C hw [cA G (a 2) 4 (up kd1 pp (kd pp)), cA G (a 3) 12 nu, cJ G (a 13) 8 f1, cJ G (a 14) 8 f2, cJ G (a 15) 8 f3, cJ G (a 16) 8 f4, cA G (a 22) 8 r1, cA G (a 23) 8 r2, cA G (a 24) 8 r3, oX6 h a ft pn ra rm gP gS gD gQ al1 rw rc tr] 0 rfl (by omega) (Nat.le_of_ble_eq_true rfl) rfl dX6_kinds_66 ?_
      clear hw
      intro H locs hw
      refine g_iload_n C hl 1 rfl rfl dX6_kinds_67 ?_
      exact g_iret C hr (ws' := [oX6 h a ft pn ra rm gP gS gD gQ al1 rw rc tr, cA G (a 2) 4 (up kd1 pp (kd pp)), cA G (a 3) 12 nu, cJ G (a 13) 8 f1, cJ G (a 14) 8 f2, cJ G (a 15) 8 f3, cJ G (a 16) 8 f4, cA G (a 22) 8 r1, cA G (a 23) 8 r2, cA G (a 24) 8 r3]) hw [9, 0, 1, 2, 3, 4, 5, 6, 7, 8] (by decide) rfl ⟨al1, gP, gS, gD, gQ, f1, f2, f3, f4, (by unfold R_kin; rw [if_neg (by omega), hse, show kk.toNat = 3 by omega]), (by rw [hkd1, up_id])⟩ dX6_kinds_68
    · skip
      refine g_aload_n C hl 3 rfl rfl dX6_kinds_28 ?_
      refine g_get C hw hin_X6_kinds_X6 9 rfl rfl 2 (by decide) lk_X6_kinds_7 rfl dX6_kinds_29 ?_
      refine g_iload_n C hl 4 rfl rfl dX6_kinds_32 ?_
      refine g_iload C hl 0 rfl dX6_kinds_33 ?_
      refine g_iast C hw [cA G (a 2) 4 (up kd1 pp kk), cA G (a 3) 12 nu, cJ G (a 13) 8 f1, cJ G (a 14) 8 f2, cJ G (a 15) 8 f3, cJ G (a 16) 8 f4, cA G (a 22) 8 r1, cA G (a 23) 8 r2, cA G (a 24) 8 r3, oX6 h a ft pn ra rm gP gS gD gQ al1 rw rc tr] 0 rfl (by omega) (Nat.le_of_ble_eq_true rfl) rfl dX6_kinds_35 ?_
      clear hw
      intro H locs hw
      refine g_iload_n C hl 1 rfl rfl dX6_kinds_36 ?_
      refine g_aload_n C hl 3 rfl rfl dX6_kinds_37 ?_
      refine g_callVi C hw (wr := []) (As := []) (rest := [.int (se)]) (m_X6_areSo l D G (h := h) (a := a) (ft := ft) (pn := pn) (ra := ra) (rm := rm) (rP := gP) (rS := gS) (rD := gD) (rQ := gQ) (al := al1) (rw := rw) (rc := rc) (tr := tr) (kd := (up kd1 pp kk)) (nu := nu) (vP := f1) (vS := f2) (vD := f3) (vQ := f4) (r1 := r1) (r2 := r2) (r3 := r3) (by rw [hkd1]; exact kdOK_up hkd (by omega)) (by first | assumption | omega) (by first | assumption | omega) (by first | assumption | omega)) (cwV 0 C.1.2.2.2.2 gX6_kinds_X6_areSo rfl rfl rfl (by decide +kernel) ⟨Nat.le_of_ble_eq_true rfl, Nat.le_of_ble_eq_true rfl⟩) [9, 0, 1, 2, 3, 4, 5, 6, 7, 8] [] rfl rfl (by decide) (by decide) (by decide) 0 rfl rfl rfl hl.1 _ rfl (Nat.le_of_ble_eq_true rfl) dX6_kinds_38 ⟨Nat.le_of_ble_eq_true rfl, Nat.le_of_ble_eq_true rfl⟩ ?_
      clear hw
      rintro _ _ H locs ⟨al2__4, r2P__5, r2S__6, r2D__7, r2Q__8, vP2__9, vS2__10, vD2__11, vQ2__12, rfl, rfl⟩ hw
      have hw : gW D A s.heap [oX6 h a ft pn ra rm r2P__5 r2S__6 r2D__7 r2Q__8 al2__4 rw rc tr, cA G (a 2) 4 (up kd1 pp kk), cA G (a 3) 12 nu, cJ G (a 13) 8 vP2__9, cJ G (a 14) 8 vS2__10, cJ G (a 15) 8 vD2__11, cJ G (a 16) 8 vQ2__12, cA G (a 22) 8 r1, cA G (a 23) 8 r2, cA G (a 24) 8 r3] H locs := hw
      refine g_ifb_eq C 51 dX6_kinds_41 (by decide) (fun c_13 => ?_) (fun c_13 => ?_)
      · skip
        refine g_iconst C dX6_kinds_51 ?_
        refine g_ior C dX6_kinds_52 ?_
        refine g_istore_n C [(3, .int (((se)) ||| ((iI 0)))), (4, .int (iI kk)), (2, .int (iI (kd pp))), (0, .ref h), (1, .int (iI pp))] dX6_kinds_53 rfl hl (by decide) rfl ?_
        clear hl
        intro ls hl
        refine g_iinc C [(4, .int (iI (kk + 1))), (3, .int (((se)) ||| ((iI 0)))), (2, .int (iI (kd pp))), (0, .ref h), (1, .int (iI pp))] 1 dX6_kinds_54 hl rfl (by decide) rfl ?_
        clear hl
        intro ls hl
        refine g_goto C 22 dX6_kinds_57 (by decide) ?_
        have hw : gW D A s.heap [cA G (a 2) 4 (up kd1 pp kk), cA G (a 3) 12 nu, cJ G (a 13) 8 vP2__9, cJ G (a 14) 8 vS2__10, cJ G (a 15) 8 vD2__11, cJ G (a 16) 8 vQ2__12, cA G (a 22) 8 r1, cA G (a 23) 8 r2, cA G (a 24) 8 r3, oX6 h a ft pn ra rm r2P__5 r2S__6 r2D__7 r2Q__8 al2__4 rw rc tr] H locs := g_perm hw [1, 2, 3, 4, 5, 6, 7, 8, 9, 0] (by decide) rfl
        exact ih_2 (((se)) ||| ((iI 0))) (kk + 1) al2__4 r2P__5 r2S__6 r2D__7 r2Q__8 (up kd1 pp kk) vP2__9 vS2__10 vD2__11 vQ2__12 ⟨by omega, by intro v; rw [up_up]; exact hkd1 v, by rw [seM_s hkk.1, hse]; first | (rw [if_pos]; (first | (rw [show ((kk.toNat : Nat) : Int) = kk by omega]; rw [hkd1] at *; assumption))) | (rw [or_i0, if_neg]; rw [show ((kk.toNat : Nat) : Int) = kk by omega]; rw [hkd1] at *; assumption)⟩ (by omega) H locs ls hw (lv_sub hl [0, 1, 2, 3, 4] rfl)
      · skip
        refine g_iconst C dX6_kinds_44 ?_
        refine g_iload C hl 0 rfl dX6_kinds_45 ?_
        refine g_ishl C dX6_kinds_47 ?_
        refine g_goto C 52 dX6_kinds_48 (by decide) ?_
        refine g_ior C dX6_kinds_52 ?_
        refine g_istore_n C [(3, .int (((se)) ||| (((iI 1) <<< ((iI kk) &&& 31))))), (4, .int (iI kk)), (2, .int (iI (kd pp))), (0, .ref h), (1, .int (iI pp))] dX6_kinds_53 rfl hl (by decide) rfl ?_
        clear hl
        intro ls hl
        refine g_iinc C [(4, .int (iI (kk + 1))), (3, .int (((se)) ||| (((iI 1) <<< ((iI kk) &&& 31))))), (2, .int (iI (kd pp))), (0, .ref h), (1, .int (iI pp))] 1 dX6_kinds_54 hl rfl (by decide) rfl ?_
        clear hl
        intro ls hl
        refine g_goto C 22 dX6_kinds_57 (by decide) ?_
        have hw : gW D A s.heap [cA G (a 2) 4 (up kd1 pp kk), cA G (a 3) 12 nu, cJ G (a 13) 8 vP2__9, cJ G (a 14) 8 vS2__10, cJ G (a 15) 8 vD2__11, cJ G (a 16) 8 vQ2__12, cA G (a 22) 8 r1, cA G (a 23) 8 r2, cA G (a 24) 8 r3, oX6 h a ft pn ra rm r2P__5 r2S__6 r2D__7 r2Q__8 al2__4 rw rc tr] H locs := g_perm hw [1, 2, 3, 4, 5, 6, 7, 8, 9, 0] (by decide) rfl
        exact ih_2 (((se)) ||| (((iI 1) <<< ((iI kk) &&& 31)))) (kk + 1) al2__4 r2P__5 r2S__6 r2D__7 r2Q__8 (up kd1 pp kk) vP2__9 vS2__10 vD2__11 vQ2__12 ⟨by omega, by intro v; rw [up_up]; exact hkd1 v, by rw [seM_s hkk.1, hse]; first | (rw [if_pos]; (first | (rw [show ((kk.toNat : Nat) : Int) = kk by omega]; rw [hkd1] at *; assumption))) | (rw [or_i0, if_neg]; rw [show ((kk.toNat : Nat) : Int) = kk by omega]; rw [hkd1] at *; assumption)⟩ (by omega) H locs ls hw (lv_sub hl [0, 1, 2, 3, 4] rfl)
  · skip
    refine g_iconst C dX6_kinds_8 ?_
    exact g_iret C hr (ws' := [oX6 h a ft pn ra rm rP rS rD rQ al rw rc tr, cA G (a 2) 4 kd, cA G (a 3) 12 nu, cJ G (a 13) 8 vP, cJ G (a 14) 8 vS, cJ G (a 15) 8 vD, cJ G (a 16) 8 vQ, cA G (a 22) 8 r1, cA G (a 23) 8 r2, cA G (a 24) 8 r3]) hw [9, 0, 1, 2, 3, 4, 5, 6, 7, 8] (by decide) rfl ⟨al, rP, rS, rD, rQ, vP, vS, vD, vQ, (by unfold R_kin; rw [if_pos (by omega)]), rfl⟩ dX6_kinds_9

set_option maxRecDepth 20000 in
theorem hin_X6_lows_X6 : ∀ w ∈ u_ws RX6 TX6 30, w ∈ wsX6_lows := by
  intro w h
  exact List.mem_cons_of_mem _ (List.mem_append_right _ (h))
set_option maxRecDepth 20000 in
theorem lk_X6_lows_13 : Cond.fieldLink RX6 13 (TX6 3).1 (TX6 3).2.1 (TX6 3).2.2.1 ∈ wsX6_lows := List.mem_cons_of_mem _ (List.mem_append_left _ (List.mem_append_left _ (List.mem_of_getElem? (i := 0) rfl)))
set_option maxRecDepth 100000 in
set_option maxHeartbeats 8000000 in
theorem m_X6_lows (l : Launch) (D : va_G) (G : gT) (h : Nat) (a : Nat → Nat) (ft : Int) (pn : Int) (ra : Int) (rm : Int) (rP : Int) (rS : Int) (rD : Int) (rQ : Int) (al : Int) (rw : Int) (rc : Int) (tr : Int) (kd : Int → Int) (nu : Int → Int) (vP : Int → Int) (vS : Int → Int) (vD : Int → Int) (vQ : Int → Int) (r1 : Int → Int) (r2 : Int → Int) (r3 : Int → Int) (pp : Int) (hkd : kdOK kd) (hnu : nuOK nu) (hn : 0 ≤ pn ∧ pn ≤ 4) (hrd : rdOK pn rc r1 r2 r3) (hp : -2147483648 ≤ pp ∧ pp ≤ 2147483647) : gMi l yX6_lows wsX6_lows ({ frames := 6, cells := 0, slots := 0, locals := 148 }) D G [.ref h, .int (iI pp)] [oX6 h a ft pn ra rm rP rS rD rQ al rw rc tr, cA G (a 2) 4 kd, cA G (a 3) 12 nu, cJ G (a 13) 8 vP, cJ G (a 14) 8 vS, cJ G (a 15) 8 vD, cJ G (a 16) 8 vQ, cA G (a 22) 8 r1, cA G (a 23) 8 r2, cA G (a 24) 8 r3] 0 0 (fun (r : Int32) (w : va_W) => ∃ (al2 : Int) (r2P : Int) (r2S : Int) (r2D : Int) (r2Q : Int) (vP2 : Int → Int) (vS2 : Int → Int) (vD2 : Int → Int) (vQ2 : Int → Int), r = (R_low pn kd nu rc r1 r2 r3 pp) ∧ w = [oX6 h a ft pn ra rm r2P r2S r2D r2Q al2 rw rc tr, cA G (a 2) 4 kd, cA G (a 3) 12 nu, cJ G (a 13) 8 vP2, cJ G (a 14) 8 vS2, cJ G (a 15) 8 vD2, cJ G (a 16) 8 vQ2, cA G (a 22) 8 r1, cA G (a 23) 8 r2, cA G (a 24) 8 r3]) := by
  refine g_start_i (cc := cX6_lows) (nL := 5) (own := RX6) (ret := some .int) (by decide +kernel) rfl rfl (Nat.le_of_ble_eq_true rfl) ?_
  intro p e s m below meth c A ls C hr hnm hw hl
  have hl : lv_has ls 5 [(0, .ref h), (1, .int (iI pp))] := hl
  have hE := exT_B pn kd hnu
  have hlen := ALn_len (exT pn kd nu) pn.toNat
  have k0 := hnu (3 * pp)
  refine g_aload_n C hl 0 rfl rfl dX6_lows_0 ?_
  refine g_iload_n C hl 1 rfl rfl dX6_lows_1 ?_
  refine g_callVi C hw (wr := [cA G (a 2) 4 kd, cA G (a 3) 12 nu, cJ G (a 13) 8 vP, cJ G (a 14) 8 vS, cJ G (a 15) 8 vD, cJ G (a 16) 8 vQ, cA G (a 22) 8 r1, cA G (a 23) 8 r2, cA G (a 24) 8 r3]) (As := [.int (iI pp)]) (rest := []) (m_X6_noPolynomial l D G (h := h) (a := a) (ft := ft) (pn := pn) (ra := ra) (rm := rm) (rP := rP) (rS := rS) (rD := rD) (rQ := rQ) (al := al) (rw := rw) (rc := rc) (tr := tr) (pp := pp) (by first | assumption | omega) (by first | assumption | omega)) (cwV 1 C.1.2.2.2.2 gX6_lows_X6_noPolynomial rfl rfl rfl (by decide +kernel) ⟨Nat.le_of_ble_eq_true rfl, Nat.le_of_ble_eq_true rfl⟩) [0] [1, 2, 3, 4, 5, 6, 7, 8, 9] rfl rfl (by decide) (by decide) (by decide) 0 rfl rfl rfl hl.1 _ rfl (Nat.le_of_ble_eq_true rfl) dX6_lows_2 ⟨Nat.le_of_ble_eq_true rfl, Nat.le_of_ble_eq_true rfl⟩ ?_
  clear hw
  rintro _ _ H locs ⟨rfl, rfl⟩ hw
  have hw : gW D A s.heap [cA G (a 2) 4 kd, cA G (a 3) 12 nu, cJ G (a 13) 8 vP, cJ G (a 14) 8 vS, cJ G (a 15) 8 vD, cJ G (a 16) 8 vQ, cA G (a 22) 8 r1, cA G (a 23) 8 r2, cA G (a 24) 8 r3, oX6 h a ft pn ra rm rP rS rD rQ al rw rc tr] H locs := hw
  refine g_ifb_eq C 10 dX6_lows_5 (by decide) (fun c_1 => ?_) (fun c_1 => ?_)
  · skip
    refine g_aload_n C hl 0 rfl rfl dX6_lows_10 ?_
    refine g_get C hw hin_X6_lows_X6 9 rfl rfl 3 (by decide) lk_X6_lows_13 rfl dX6_lows_11 ?_
    refine g_iconst C dX6_lows_14 ?_
    refine g_iload_n C hl 1 rfl rfl dX6_lows_15 ?_
    refine g_imul C dX6_lows_16 ?_
    refine g_iald C hw 1 rfl (by omega) (Nat.le_of_ble_eq_true rfl) dX6_lows_17 ?_
    refine g_istore_n C [(2, .int (iI (nu (3 * pp)))), (0, .ref h), (1, .int (iI pp))] dX6_lows_18 rfl hl (by decide) rfl ?_
    clear hl
    intro ls hl
    refine g_iconst C dX6_lows_19 ?_
    refine g_istore_n C [(3, .int (iI 0)), (2, .int (iI (nu (3 * pp)))), (0, .ref h), (1, .int (iI pp))] dX6_lows_20 rfl hl (by decide) rfl ?_
    clear hl
    intro ls hl
    refine g_bipush C dX6_lows_21 (by decide) ?_
    refine g_istore C [(4, .int (iI ((-9)))), (3, .int (iI 0)), (2, .int (iI (nu (3 * pp)))), (0, .ref h), (1, .int (iI pp))] dX6_lows_23 hl (by decide) rfl ?_
    clear hl
    intro ls hl
    refine g_loop (σ := (Int32) × (Int) × (Int) × (Int) × (Int) × (Int) × (Int) × (Int → Int) × (Int → Int) × (Int → Int) × (Int → Int) × (Int → Int)) (fun z_ => [cA G (a 2) 4 kd, cA G (a 3) 12 z_.2.2.2.2.2.2.2.1, cJ G (a 13) 8 z_.2.2.2.2.2.2.2.2.1, cJ G (a 14) 8 z_.2.2.2.2.2.2.2.2.2.1, cJ G (a 15) 8 z_.2.2.2.2.2.2.2.2.2.2.1, cJ G (a 16) 8 z_.2.2.2.2.2.2.2.2.2.2.2, cA G (a 22) 8 r1, cA G (a 23) 8 r2, cA G (a 24) 8 r3, oX6 h a ft pn ra rm z_.2.2.2.1 z_.2.2.2.2.1 z_.2.2.2.2.2.1 z_.2.2.2.2.2.2.1 z_.2.2.1 rw rc tr]) (fun z_ => [(4, .int (iI (z_.2.1))), (3, .int (z_.1)), (2, .int (iI ((nu (3 * pp))))), (0, .ref h), (1, .int (iI pp))]) (fun z_ => (-9 ≤ z_.2.1 ∧ z_.2.1 ≤ 10) ∧ (∀ v, up z_.2.2.2.2.2.2.2.1 (3 * pp) v = up nu (3 * pp) v) ∧ (z_.1 = seM (fun k => soB (exT pn kd (up nu (3 * pp) ((k : Int) - 9))) pn rc r1 r2 r3) (z_.2.1 + 9).toNat)) (fun z_ => (10 - z_.2.1).toNat) ((iI 0), (-9), al, rP, rS, rD, rQ, nu, vP, vS, vD, vQ) ⟨by (try dsimp only); omega, by (try dsimp only); exact fun _ => rfl, by (try dsimp only); rfl⟩ hw (lv_sub hl [0, 1, 2, 3, 4] rfl) ?_
    clear hw hl
    rintro ⟨se, vv, al1, gP, gS, gD, gQ, nu1, f1, f2, f3, f4⟩ ⟨hvv, hnu1, hse⟩ H locs ls hw hl ih_2
    replace hvv : -9 ≤ vv ∧ vv ≤ 10 := hvv
    replace hnu1 : ∀ v, up nu1 (3 * pp) v = up nu (3 * pp) v := hnu1
    replace hse : se = seM (fun k => soB (exT pn kd (up nu (3 * pp) ((k : Int) - 9))) pn rc r1 r2 r3) (vv + 9).toNat := hse
    replace hw : gW D A s.heap [cA G (a 2) 4 kd, cA G (a 3) 12 nu1, cJ G (a 13) 8 f1, cJ G (a 14) 8 f2, cJ G (a 15) 8 f3, cJ G (a 16) 8 f4, cA G (a 22) 8 r1, cA G (a 23) 8 r2, cA G (a 24) 8 r3, oX6 h a ft pn ra rm gP gS gD gQ al1 rw rc tr] H locs := hw
    replace hl : lv_has ls 5 [(4, .int (iI vv)), (3, .int (se)), (2, .int (iI (nu (3 * pp)))), (0, .ref h), (1, .int (iI pp))] := hl
    replace ih_2 : ∀ (se' : Int32) (vv' : Int) (al1' : Int) (gP' : Int) (gS' : Int) (gD' : Int) (gQ' : Int) (nu1' : Int → Int) (f1' : Int → Int) (f2' : Int → Int) (f3' : Int → Int) (f4' : Int → Int), ((-9 ≤ vv' ∧ vv' ≤ 10) ∧ (∀ v, up nu1' (3 * pp) v = up nu (3 * pp) v) ∧ (se' = seM (fun k => soB (exT pn kd (up nu (3 * pp) ((k : Int) - 9))) pn rc r1 r2 r3) (vv' + 9).toNat)) → ((10 - vv').toNat) < ((10 - vv).toNat) → ∀ (H : Heap) (locs : List Loc) (ls : Array Slot), gW D A s.heap [cA G (a 2) 4 kd, cA G (a 3) 12 nu1', cJ G (a 13) 8 f1', cJ G (a 14) 8 f2', cJ G (a 15) 8 f3', cJ G (a 16) 8 f4', cA G (a 22) 8 r1, cA G (a 23) 8 r2, cA G (a 24) 8 r3, oX6 h a ft pn ra rm gP' gS' gD' gQ' al1' rw rc tr] H locs → lv_has ls 5 [(4, .int (iI (vv'))), (3, .int (se')), (2, .int (iI ((nu (3 * pp))))), (0, .ref h), (1, .int (iI pp))] → W p l e _ s m _ below meth c H locs _ _ _ (F0 m 25 ls []) := fun se' vv' al1' gP' gS' gD' gQ' nu1' f1' f2' f3' f4' => ih_2 (se', vv', al1', gP', gS', gD', gQ', nu1', f1', f2', f3', f4')
    refine g_iload C hl 0 rfl dX6_lows_25 ?_
    refine g_bipush C dX6_lows_27 (by decide) ?_
    refine g_icmp_gt C 69 dX6_lows_29 (by decide) (by omega) (by omega) (fun c_3 => ?_) (fun c_3 => ?_)
    · skip
      refine g_aload_n C hl 3 rfl rfl dX6_lows_69 ?_
      refine g_get C hw hin_X6_lows_X6 9 rfl rfl 3 (by decide) lk_X6_lows_13 rfl dX6_lows_70 ?_
      refine g_iconst C dX6_lows_73 ?_
      refine g_iload_n C hl 4 rfl rfl dX6_lows_74 ?_
      refine g_imul C dX6_lows_75 ?_
      refine g_iload_n C hl 2 rfl rfl dX6_lows_76 ?_
      refine g_iast C hw [cA G (a 2) 4 kd, cA G (a 3) 12 (up nu1 (3 * pp) (nu (3 * pp))), cJ G (a 13) 8 f1, cJ G (a 14) 8 f2, cJ G (a 15) 8 f3, cJ G (a 16) 8 f4, cA G (a 22) 8 r1, cA G (a 23) 8 r2, cA G (a 24) 8 r3, oX6 h a ft pn ra rm gP gS gD gQ al1 rw rc tr] 1 rfl (by omega) (Nat.le_of_ble_eq_true rfl) rfl dX6_lows_77 ?_
      clear hw
      intro H locs hw
      refine g_iload_n C hl 1 rfl rfl dX6_lows_78 ?_
      exact g_iret C hr (ws' := [oX6 h a ft pn ra rm gP gS gD gQ al1 rw rc tr, cA G (a 2) 4 kd, cA G (a 3) 12 (up nu1 (3 * pp) (nu (3 * pp))), cJ G (a 13) 8 f1, cJ G (a 14) 8 f2, cJ G (a 15) 8 f3, cJ G (a 16) 8 f4, cA G (a 22) 8 r1, cA G (a 23) 8 r2, cA G (a 24) 8 r3]) hw [9, 0, 1, 2, 3, 4, 5, 6, 7, 8] (by decide) rfl ⟨al1, gP, gS, gD, gQ, f1, f2, f3, f4, (by unfold R_low; rw [if_neg (by omega), hse, show (vv + 9).toNat = 19 by omega]), (by rw [hnu1, up_id])⟩ dX6_lows_79
    · skip
      refine g_aload_n C hl 3 rfl rfl dX6_lows_32 ?_
      refine g_get C hw hin_X6_lows_X6 9 rfl rfl 3 (by decide) lk_X6_lows_13 rfl dX6_lows_33 ?_
      refine g_iconst C dX6_lows_36 ?_
      refine g_iload_n C hl 4 rfl rfl dX6_lows_37 ?_
      refine g_imul C dX6_lows_38 ?_
      refine g_iload C hl 0 rfl dX6_lows_39 ?_
      refine g_iast C hw [cA G (a 2) 4 kd, cA G (a 3) 12 (up nu1 (3 * pp) vv), cJ G (a 13) 8 f1, cJ G (a 14) 8 f2, cJ G (a 15) 8 f3, cJ G (a 16) 8 f4, cA G (a 22) 8 r1, cA G (a 23) 8 r2, cA G (a 24) 8 r3, oX6 h a ft pn ra rm gP gS gD gQ al1 rw rc tr] 1 rfl (by omega) (Nat.le_of_ble_eq_true rfl) rfl dX6_lows_41 ?_
      clear hw
      intro H locs hw
      refine g_iload_n C hl 1 rfl rfl dX6_lows_42 ?_
      refine g_aload_n C hl 3 rfl rfl dX6_lows_43 ?_
      refine g_callVi C hw (wr := []) (As := []) (rest := [.int (se)]) (m_X6_areSo l D G (h := h) (a := a) (ft := ft) (pn := pn) (ra := ra) (rm := rm) (rP := gP) (rS := gS) (rD := gD) (rQ := gQ) (al := al1) (rw := rw) (rc := rc) (tr := tr) (kd := kd) (nu := (up nu1 (3 * pp) vv)) (vP := f1) (vS := f2) (vD := f3) (vQ := f4) (r1 := r1) (r2 := r2) (r3 := r3) (by first | assumption | omega) (by rw [hnu1]; exact nuOK_up hnu (by omega)) (by first | assumption | omega) (by first | assumption | omega)) (cwV 0 C.1.2.2.2.2 gX6_lows_X6_areSo rfl rfl rfl (by decide +kernel) ⟨Nat.le_of_ble_eq_true rfl, Nat.le_of_ble_eq_true rfl⟩) [9, 0, 1, 2, 3, 4, 5, 6, 7, 8] [] rfl rfl (by decide) (by decide) (by decide) 0 rfl rfl rfl hl.1 _ rfl (Nat.le_of_ble_eq_true rfl) dX6_lows_44 ⟨Nat.le_of_ble_eq_true rfl, Nat.le_of_ble_eq_true rfl⟩ ?_
      clear hw
      rintro _ _ H locs ⟨al2__4, r2P__5, r2S__6, r2D__7, r2Q__8, vP2__9, vS2__10, vD2__11, vQ2__12, rfl, rfl⟩ hw
      have hw : gW D A s.heap [oX6 h a ft pn ra rm r2P__5 r2S__6 r2D__7 r2Q__8 al2__4 rw rc tr, cA G (a 2) 4 kd, cA G (a 3) 12 (up nu1 (3 * pp) vv), cJ G (a 13) 8 vP2__9, cJ G (a 14) 8 vS2__10, cJ G (a 15) 8 vD2__11, cJ G (a 16) 8 vQ2__12, cA G (a 22) 8 r1, cA G (a 23) 8 r2, cA G (a 24) 8 r3] H locs := hw
      refine g_ifb_eq C 60 dX6_lows_47 (by decide) (fun c_13 => ?_) (fun c_13 => ?_)
      · skip
        refine g_iconst C dX6_lows_60 ?_
        refine g_ior C dX6_lows_61 ?_
        refine g_istore_n C [(3, .int (((se)) ||| ((iI 0)))), (4, .int (iI vv)), (2, .int (iI (nu (3 * pp)))), (0, .ref h), (1, .int (iI pp))] dX6_lows_62 rfl hl (by decide) rfl ?_
        clear hl
        intro ls hl
        refine g_iinc C [(4, .int (iI (vv + 1))), (3, .int (((se)) ||| ((iI 0)))), (2, .int (iI (nu (3 * pp)))), (0, .ref h), (1, .int (iI pp))] 1 dX6_lows_63 hl rfl (by decide) rfl ?_
        clear hl
        intro ls hl
        refine g_goto C 25 dX6_lows_66 (by decide) ?_
        have hw : gW D A s.heap [cA G (a 2) 4 kd, cA G (a 3) 12 (up nu1 (3 * pp) vv), cJ G (a 13) 8 vP2__9, cJ G (a 14) 8 vS2__10, cJ G (a 15) 8 vD2__11, cJ G (a 16) 8 vQ2__12, cA G (a 22) 8 r1, cA G (a 23) 8 r2, cA G (a 24) 8 r3, oX6 h a ft pn ra rm r2P__5 r2S__6 r2D__7 r2Q__8 al2__4 rw rc tr] H locs := g_perm hw [1, 2, 3, 4, 5, 6, 7, 8, 9, 0] (by decide) rfl
        exact ih_2 (((se)) ||| ((iI 0))) (vv + 1) al2__4 r2P__5 r2S__6 r2D__7 r2Q__8 (up nu1 (3 * pp) vv) vP2__9 vS2__10 vD2__11 vQ2__12 ⟨by omega, by intro v; rw [up_up]; exact hnu1 v, by rw [show vv + 1 + 9 = (vv + 9) + 1 by omega, seM_s (by omega), hse]; first | (rw [if_pos]; (first | (rw [show (((vv + 9).toNat : Nat) : Int) - 9 = vv by omega]; rw [hnu1] at *; assumption))) | (rw [or_i0, if_neg]; rw [show (((vv + 9).toNat : Nat) : Int) - 9 = vv by omega]; rw [hnu1] at *; assumption)⟩ (by omega) H locs ls hw (lv_sub hl [0, 1, 2, 3, 4] rfl)
      · skip
        refine g_iconst C dX6_lows_50 ?_
        refine g_iload C hl 0 rfl dX6_lows_51 ?_
        refine g_bipush C dX6_lows_53 (by decide) ?_
        refine g_iadd C dX6_lows_55 ?_
        refine g_ishl C dX6_lows_56 ?_
        refine g_goto C 61 dX6_lows_57 (by decide) ?_
        refine g_ior C dX6_lows_61 ?_
        refine g_istore_n C [(3, .int (((se)) ||| (((iI 1) <<< ((iI (vv + 9)) &&& 31))))), (4, .int (iI vv)), (2, .int (iI (nu (3 * pp)))), (0, .ref h), (1, .int (iI pp))] dX6_lows_62 rfl hl (by decide) rfl ?_
        clear hl
        intro ls hl
        refine g_iinc C [(4, .int (iI (vv + 1))), (3, .int (((se)) ||| (((iI 1) <<< ((iI (vv + 9)) &&& 31))))), (2, .int (iI (nu (3 * pp)))), (0, .ref h), (1, .int (iI pp))] 1 dX6_lows_63 hl rfl (by decide) rfl ?_
        clear hl
        intro ls hl
        refine g_goto C 25 dX6_lows_66 (by decide) ?_
        have hw : gW D A s.heap [cA G (a 2) 4 kd, cA G (a 3) 12 (up nu1 (3 * pp) vv), cJ G (a 13) 8 vP2__9, cJ G (a 14) 8 vS2__10, cJ G (a 15) 8 vD2__11, cJ G (a 16) 8 vQ2__12, cA G (a 22) 8 r1, cA G (a 23) 8 r2, cA G (a 24) 8 r3, oX6 h a ft pn ra rm r2P__5 r2S__6 r2D__7 r2Q__8 al2__4 rw rc tr] H locs := g_perm hw [1, 2, 3, 4, 5, 6, 7, 8, 9, 0] (by decide) rfl
        exact ih_2 (((se)) ||| (((iI 1) <<< ((iI (vv + 9)) &&& 31)))) (vv + 1) al2__4 r2P__5 r2S__6 r2D__7 r2Q__8 (up nu1 (3 * pp) vv) vP2__9 vS2__10 vD2__11 vQ2__12 ⟨by omega, by intro v; rw [up_up]; exact hnu1 v, by rw [show vv + 1 + 9 = (vv + 9) + 1 by omega, seM_s (by omega), hse]; first | (rw [if_pos]; (first | (rw [show (((vv + 9).toNat : Nat) : Int) - 9 = vv by omega]; rw [hnu1] at *; assumption))) | (rw [or_i0, if_neg]; rw [show (((vv + 9).toNat : Nat) : Int) - 9 = vv by omega]; rw [hnu1] at *; assumption)⟩ (by omega) H locs ls hw (lv_sub hl [0, 1, 2, 3, 4] rfl)
  · skip
    refine g_iconst C dX6_lows_8 ?_
    exact g_iret C hr (ws' := [oX6 h a ft pn ra rm rP rS rD rQ al rw rc tr, cA G (a 2) 4 kd, cA G (a 3) 12 nu, cJ G (a 13) 8 vP, cJ G (a 14) 8 vS, cJ G (a 15) 8 vD, cJ G (a 16) 8 vQ, cA G (a 22) 8 r1, cA G (a 23) 8 r2, cA G (a 24) 8 r3]) hw [9, 0, 1, 2, 3, 4, 5, 6, 7, 8] (by decide) rfl ⟨al, rP, rS, rD, rQ, vP, vS, vD, vQ, (by unfold R_low; rw [if_pos (by omega)]), rfl⟩ dX6_lows_9

set_option maxRecDepth 100000 in
set_option maxHeartbeats 8000000 in
theorem m_X6_share (l : Launch) (D : va_G) (G : gT) (uu : Int) (dd : Int) (wh : Int) (hu : 0 ≤ uu ∧ uu ≤ 1000) (hd : 1 ≤ dd ∧ dd ≤ 1000) (hw1 : -2147483648 ≤ wh ∧ wh ≤ 2147483647) : gMl l yX6_share wsX6_share ({ frames := 0, cells := 0, slots := 0, locals := 0 }) D G [.long (lI (uu)), .long (lI (dd)), .int (iI wh)] [] 0 0 (fun (r : Int64) (w : va_W) => r = (lI (R_shr uu dd wh)) ∧ w = []) := by
  refine g_start_l (cc := cX6_share) (nL := 11) (own := RX6) (ret := some .long) (by decide +kernel) rfl rfl (Nat.le_of_ble_eq_true rfl) ?_
  intro p e s m below meth c A ls C hr hnm hw hl
  have hl : lv_has ls 11 [(0, .long (lI (uu))), (2, .long (lI (dd))), (4, .int (iI wh))] := hl
  refine g_lload_n C hl 0 rfl rfl dX6_share_0 ?_
  refine g_lstore C [(5, .long (lI (uu))), (0, .long (lI (uu))), (2, .long (lI (dd))), (4, .int (iI wh))] dX6_share_1 hl (by decide) rfl ?_
  clear hl
  intro ls hl
  refine g_lload_n C hl 2 rfl rfl dX6_share_3 ?_
  refine g_lstore C [(7, .long (lI (dd))), (5, .long (lI (uu))), (0, .long (lI (uu))), (2, .long (lI (dd))), (4, .int (iI wh))] dX6_share_4 hl (by decide) rfl ?_
  clear hl
  intro ls hl
  refine g_loop (σ := (Int) × (Int)) (fun z_ => []) (fun z_ => [(7, .long (lI (z_.2))), (5, .long (lI (z_.1))), (0, .long (lI (uu))), (2, .long (lI (dd))), (4, .int (iI wh))]) (fun z_ => (0 ≤ z_.1 ∧ z_.1 ≤ 1000) ∧ (0 ≤ z_.2 ∧ z_.2 ≤ 1000) ∧ (0 < z_.1 ∨ 0 < z_.2) ∧ (Nat.gcd z_.1.toNat z_.2.toNat = Nat.gcd uu.toNat dd.toNat)) (fun z_ => z_.2.toNat) (uu, dd) ⟨by (try dsimp only); omega, by (try dsimp only); omega, by (try dsimp only); omega, by (try dsimp only); all_goals rfl⟩ hw (lv_sub hl [0, 1, 2, 3, 4] rfl) ?_
  clear hw hl
  rintro ⟨xx, yy⟩ ⟨hx, hy, hxy, hg⟩ H locs ls hw hl ih_1
  replace hx : 0 ≤ xx ∧ xx ≤ 1000 := hx
  replace hy : 0 ≤ yy ∧ yy ≤ 1000 := hy
  replace hxy : 0 < xx ∨ 0 < yy := hxy
  replace hg : Nat.gcd xx.toNat yy.toNat = Nat.gcd uu.toNat dd.toNat := hg
  replace hw : gW D A s.heap [] H locs := hw
  replace hl : lv_has ls 11 [(7, .long (lI (yy))), (5, .long (lI (xx))), (0, .long (lI (uu))), (2, .long (lI (dd))), (4, .int (iI wh))] := hl
  replace ih_1 : ∀ (xx' : Int) (yy' : Int), ((0 ≤ xx' ∧ xx' ≤ 1000) ∧ (0 ≤ yy' ∧ yy' ≤ 1000) ∧ (0 < xx' ∨ 0 < yy') ∧ (Nat.gcd xx'.toNat yy'.toNat = Nat.gcd uu.toNat dd.toNat)) → (yy'.toNat) < (yy.toNat) → ∀ (H : Heap) (locs : List Loc) (ls : Array Slot), gW D A s.heap [] H locs → lv_has ls 11 [(7, .long (lI (yy'))), (5, .long (lI (xx'))), (0, .long (lI (uu))), (2, .long (lI (dd))), (4, .int (iI wh))] → W p l e _ s m _ below meth c H locs _ _ _ (F0 m 6 ls []) := fun xx' yy' => ih_1 (xx', yy')
  refine g_lload C hl 0 rfl dX6_share_6 ?_
  refine g_lconst0 C dX6_share_8 ?_
  refine g_lcmp_eq C 31 dX6_share_9 dX6_share_10 (by decide) (by omega) (by omega) (fun c_2 => ?_) (fun c_2 => ?_)
  · skip
    have hye : yy = 0 := by omega
    rw [hye] at hg
    replace hg : xx.toNat = Nat.gcd uu.toNat dd.toNat := by rw [← hg]; exact (Nat.gcd_zero_right _).symm
    refine g_iload C hl 4 rfl dX6_share_31 ?_
    refine g_if_ne C 40 dX6_share_33 (by decide) (by omega) (fun c_3 => ?_) (fun c_3 => ?_)
    · skip
      refine g_lload_n C hl 3 rfl rfl dX6_share_40 ?_
      refine g_lload C hl 1 rfl dX6_share_41 ?_
      refine g_ldiv C dX6_share_43 (by omega) (by omega) ?_
      exact g_lret C hr (ws' := []) hw [] (by decide) rfl ⟨(congrArg lI (by unfold R_shr; first | (rw [if_pos (by omega), ← hg, Int.tdiv_eq_ediv_of_nonneg (by omega), show ((xx.toNat : Nat) : Int) = xx by omega]; done) | (rw [if_neg (by omega), ← hg, Int.tdiv_eq_ediv_of_nonneg (by omega), show ((xx.toNat : Nat) : Int) = xx by omega]; done))), rfl⟩ dX6_share_44
    · skip
      refine g_lload_n C hl 2 rfl rfl dX6_share_36 ?_
      refine g_goto C 41 dX6_share_37 (by decide) ?_
      refine g_lload C hl 1 rfl dX6_share_41 ?_
      refine g_ldiv C dX6_share_43 (by omega) (by omega) ?_
      exact g_lret C hr (ws' := []) hw [] (by decide) rfl ⟨(congrArg lI (by unfold R_shr; first | (rw [if_pos (by omega), ← hg, Int.tdiv_eq_ediv_of_nonneg (by omega), show ((xx.toNat : Nat) : Int) = xx by omega]; done) | (rw [if_neg (by omega), ← hg, Int.tdiv_eq_ediv_of_nonneg (by omega), show ((xx.toNat : Nat) : Int) = xx by omega]; done))), rfl⟩ dX6_share_44
  · skip
    refine g_lload C hl 1 rfl dX6_share_13 ?_
    refine g_lload C hl 0 rfl dX6_share_15 ?_
    refine g_lrem C dX6_share_17 (by omega) (by omega) ?_
    refine g_nL (show (xx - xx.tdiv yy * yy : Int) = xx % yy by rw [Int.tdiv_eq_ediv_of_nonneg (by omega)]; have := Int.mul_ediv_add_emod xx yy; rw [Int.mul_comm] at this; omega) ?_
    refine g_lstore C [(9, .long (lI (xx % yy))), (7, .long (lI (yy))), (5, .long (lI (xx))), (0, .long (lI (uu))), (2, .long (lI (dd))), (4, .int (iI wh))] dX6_share_18 hl (by decide) rfl ?_
    clear hl
    intro ls hl
    refine g_lload C hl 1 rfl dX6_share_20 ?_
    refine g_lstore C [(5, .long (lI (yy))), (9, .long (lI (xx % yy))), (7, .long (lI (yy))), (0, .long (lI (uu))), (2, .long (lI (dd))), (4, .int (iI wh))] dX6_share_22 hl (by decide) rfl ?_
    clear hl
    intro ls hl
    refine g_lload C hl 1 rfl dX6_share_24 ?_
    refine g_lstore C [(7, .long (lI (xx % yy))), (5, .long (lI (yy))), (9, .long (lI (xx % yy))), (0, .long (lI (uu))), (2, .long (lI (dd))), (4, .int (iI wh))] dX6_share_26 hl (by decide) rfl ?_
    clear hl
    intro ls hl
    refine g_goto C 6 dX6_share_28 (by decide) ?_
    have hw : gW D A s.heap [] H locs := g_perm hw [] (by decide) rfl
    exact ih_1 yy (xx % yy) ⟨by omega, by have := Int.emod_nonneg xx (b := yy) (by omega); have := Int.emod_lt_of_pos xx (b := yy) (by omega); omega, by omega, by rw [← hg, Nat.gcd_comm, show (xx % yy).toNat = xx.toNat % yy.toNat by (rw [Int.toNat_emod (by omega) (by omega)]), ← Nat.gcd_rec, Nat.gcd_comm]⟩ (by have := Int.emod_nonneg xx (b := yy) (by omega); have := Int.emod_lt_of_pos xx (b := yy) (by omega); omega) H locs ls hw (lv_sub hl [0, 1, 3, 4, 5] rfl)

set_option maxRecDepth 20000 in
theorem cn_X6_odds_117 : Jvm.Cond.constantLong RX6 117 (2) ∈ wsX6_odds := List.mem_cons_of_mem _ (List.mem_append_left _ (List.mem_append_left _ (List.mem_of_getElem? (i := 0) rfl)))
set_option maxRecDepth 20000 in
theorem hin_X6_odds_X6 : ∀ w ∈ u_ws RX6 TX6 30, w ∈ wsX6_odds := by
  intro w h
  exact List.mem_cons_of_mem _ (List.mem_append_right _ (h))
set_option maxRecDepth 20000 in
theorem lk_X6_odds_167 : Cond.fieldLink RX6 167 (TX6 12).1 (TX6 12).2.1 (TX6 12).2.2.1 ∈ wsX6_odds := List.mem_cons_of_mem _ (List.mem_append_left _ (List.mem_append_left _ (List.mem_of_getElem? (i := 1) rfl)))
set_option maxRecDepth 100000 in
set_option maxHeartbeats 8000000 in
theorem m_X6_odds (l : Launch) (D : va_G) (G : gT) (h : Nat) (a : Nat → Nat) (ft : Int) (pn : Int) (ra : Int) (rm : Int) (rP : Int) (rS : Int) (rD : Int) (rQ : Int) (al : Int) (rw : Int) (rc : Int) (tr : Int) (kd : Int → Int) (nu : Int → Int) (vP : Int → Int) (vS : Int → Int) (vD : Int → Int) (vQ : Int → Int) (pp : Int) (sv : Int) (wh : Int) (hkd : kdOK kd) (hnu : nuOK nu) (hn : 0 ≤ pn ∧ pn ≤ 4) (hp : -2147483648 ≤ pp ∧ pp ≤ 2147483647) (hs : -2147483648 ≤ sv ∧ sv ≤ 2147483647) (hw1 : -2147483648 ≤ wh ∧ wh ≤ 2147483647) : gMl l yX6_odds wsX6_odds ({ frames := 5, cells := 0, slots := 0, locals := 125 }) D G [.ref h, .int (iI pp), .int (iI sv), .int (iI wh)] [oX6 h a ft pn ra rm rP rS rD rQ al rw rc tr, cA G (a 2) 4 kd, cA G (a 3) 12 nu, cJ G (a 13) 8 vP, cJ G (a 14) 8 vS, cJ G (a 15) 8 vD, cJ G (a 16) 8 vQ] 0 0 (fun (r : Int64) (w : va_W) => ∃ (al2 : Int) (r2P : Int) (r2S : Int) (r2D : Int) (r2Q : Int) (vP2 : Int → Int) (vS2 : Int → Int) (vD2 : Int → Int) (vQ2 : Int → Int), r = (lI (R_odd pn (exT pn kd nu) (ALn (exT pn kd nu) pn.toNat) pp sv wh)) ∧ w = [oX6 h a ft pn ra rm r2P r2S r2D r2Q al2 rw rc tr, cA G (a 2) 4 kd, cA G (a 3) 12 nu, cJ G (a 13) 8 vP2, cJ G (a 14) 8 vS2, cJ G (a 15) 8 vD2, cJ G (a 16) 8 vQ2]) := by
  refine g_start_l (cc := cX6_odds) (nL := 6) (own := RX6) (ret := some .long) (by decide +kernel) rfl rfl (Nat.le_of_ble_eq_true rfl) ?_
  intro p e s m below meth c A ls C hr hnm hw hl
  have hl : lv_has ls 6 [(0, .ref h), (1, .int (iI pp)), (2, .int (iI sv)), (3, .int (iI wh))] := hl
  have hE := exT_B pn kd hnu
  have hlen := ALn_len (exT pn kd nu) pn.toNat
  refine g_aload_n C hl 0 rfl rfl dX6_odds_0 ?_
  refine g_iload_n C hl 1 rfl rfl dX6_odds_1 ?_
  refine g_callVi C hw (wr := [cA G (a 2) 4 kd, cA G (a 3) 12 nu, cJ G (a 13) 8 vP, cJ G (a 14) 8 vS, cJ G (a 15) 8 vD, cJ G (a 16) 8 vQ]) (As := [.int (iI pp)]) (rest := []) (m_X6_noPolynomial l D G (h := h) (a := a) (ft := ft) (pn := pn) (ra := ra) (rm := rm) (rP := rP) (rS := rS) (rD := rD) (rQ := rQ) (al := al) (rw := rw) (rc := rc) (tr := tr) (pp := pp) (by first | assumption | omega) (by first | assumption | omega)) (cwV 1 C.1.2.2.2.2 gX6_odds_X6_noPolynomial rfl rfl rfl (by decide +kernel) ⟨Nat.le_of_ble_eq_true rfl, Nat.le_of_ble_eq_true rfl⟩) [0] [1, 2, 3, 4, 5, 6] rfl rfl (by decide) (by decide) (by decide) 0 rfl rfl rfl hl.1 _ rfl (Nat.le_of_ble_eq_true rfl) dX6_odds_2 ⟨Nat.le_of_ble_eq_true rfl, Nat.le_of_ble_eq_true rfl⟩ ?_
  clear hw
  rintro _ _ H locs ⟨rfl, rfl⟩ hw
  have hw : gW D A s.heap [cA G (a 2) 4 kd, cA G (a 3) 12 nu, cJ G (a 13) 8 vP, cJ G (a 14) 8 vS, cJ G (a 15) 8 vD, cJ G (a 16) 8 vQ, oX6 h a ft pn ra rm rP rS rD rQ al rw rc tr] H locs := hw
  refine g_ifb_ne C 30 dX6_odds_5 (by decide) (fun c_1 => ?_) (fun c_1 => ?_)
  · skip
    refine g_callSl C hw (wr := [cA G (a 2) 4 kd, cA G (a 3) 12 nu, cJ G (a 13) 8 vP, cJ G (a 14) 8 vS, cJ G (a 15) 8 vD, cJ G (a 16) 8 vQ, oX6 h a ft pn ra rm rP rS rD rQ al rw rc tr]) (As := []) (rest := []) (m_X6_lost l D G  ) (va_cwS 0 C.1.2.2.2.2 gX6_odds_X6_lost rfl rfl rfl (by decide +kernel) ⟨Nat.le_of_ble_eq_true rfl, Nat.le_of_ble_eq_true rfl⟩) [] [0, 1, 2, 3, 4, 5, 6] rfl rfl (by decide) (by decide) (by decide) rfl hl.1 _ rfl (Nat.le_of_ble_eq_true rfl) dX6_odds_30 ⟨Nat.le_of_ble_eq_true rfl, Nat.le_of_ble_eq_true rfl⟩ ?_
    clear hw
    rintro _ _ H locs ⟨rfl, rfl⟩ hw
    have hw : gW D A s.heap [cA G (a 2) 4 kd, cA G (a 3) 12 nu, cJ G (a 13) 8 vP, cJ G (a 14) 8 vS, cJ G (a 15) 8 vD, cJ G (a 16) 8 vQ, oX6 h a ft pn ra rm rP rS rD rQ al rw rc tr] H locs := hw
    exact g_lret C hr (ws' := [oX6 h a ft pn ra rm rP rS rD rQ al rw rc tr, cA G (a 2) 4 kd, cA G (a 3) 12 nu, cJ G (a 13) 8 vP, cJ G (a 14) 8 vS, cJ G (a 15) 8 vD, cJ G (a 16) 8 vQ]) hw [6, 0, 1, 2, 3, 4, 5] (by decide) rfl ⟨al, rP, rS, rD, rQ, vP, vS, vD, vQ, (congrArg lI (by unfold R_odd; rw [if_pos (by omega)])), rfl⟩ dX6_odds_33
  · skip
    refine g_iload_n C hl 2 rfl rfl dX6_odds_8 ?_
    refine g_i2l C dX6_odds_9 (by omega) ?_
    refine g_lconst0 C dX6_odds_10 ?_
    refine g_ldc2 C (2) cn_X6_odds_117 (by decide +kernel) dX6_odds_11 ?_
    refine g_callSi C hw (wr := [cA G (a 2) 4 kd, cA G (a 3) 12 nu, cJ G (a 13) 8 vP, cJ G (a 14) 8 vS, cJ G (a 15) 8 vD, cJ G (a 16) 8 vQ, oX6 h a ft pn ra rm rP rS rD rQ al rw rc tr]) (As := [.long (lI (sv)), .long (lI (0)), .long (lI (2))]) (rest := []) (m_X6_in l D G (va := sv) (vb := 0) (vc := 2) (by first | assumption | omega) (by first | assumption | omega) (by first | assumption | omega)) (va_cwS 3 C.1.2.2.2.2 gX6_odds_X6_in rfl rfl rfl (by decide +kernel) ⟨Nat.le_of_ble_eq_true rfl, Nat.le_of_ble_eq_true rfl⟩) [] [0, 1, 2, 3, 4, 5, 6] rfl rfl (by decide) (by decide) (by decide) rfl hl.1 _ rfl (Nat.le_of_ble_eq_true rfl) dX6_odds_14 ⟨Nat.le_of_ble_eq_true rfl, Nat.le_of_ble_eq_true rfl⟩ ?_
    clear hw
    rintro _ _ H locs ⟨rfl, rfl⟩ hw
    have hw : gW D A s.heap [cA G (a 2) 4 kd, cA G (a 3) 12 nu, cJ G (a 13) 8 vP, cJ G (a 14) 8 vS, cJ G (a 15) 8 vD, cJ G (a 16) 8 vQ, oX6 h a ft pn ra rm rP rS rD rQ al rw rc tr] H locs := hw
    refine g_ifb_eq C 30 dX6_odds_17 (by decide) (fun c_2 => ?_) (fun c_2 => ?_)
    · skip
      refine g_callSl C hw (wr := [cA G (a 2) 4 kd, cA G (a 3) 12 nu, cJ G (a 13) 8 vP, cJ G (a 14) 8 vS, cJ G (a 15) 8 vD, cJ G (a 16) 8 vQ, oX6 h a ft pn ra rm rP rS rD rQ al rw rc tr]) (As := []) (rest := []) (m_X6_lost l D G  ) (va_cwS 0 C.1.2.2.2.2 gX6_odds_X6_lost rfl rfl rfl (by decide +kernel) ⟨Nat.le_of_ble_eq_true rfl, Nat.le_of_ble_eq_true rfl⟩) [] [0, 1, 2, 3, 4, 5, 6] rfl rfl (by decide) (by decide) (by decide) rfl hl.1 _ rfl (Nat.le_of_ble_eq_true rfl) dX6_odds_30 ⟨Nat.le_of_ble_eq_true rfl, Nat.le_of_ble_eq_true rfl⟩ ?_
      clear hw
      rintro _ _ H locs ⟨rfl, rfl⟩ hw
      have hw : gW D A s.heap [cA G (a 2) 4 kd, cA G (a 3) 12 nu, cJ G (a 13) 8 vP, cJ G (a 14) 8 vS, cJ G (a 15) 8 vD, cJ G (a 16) 8 vQ, oX6 h a ft pn ra rm rP rS rD rQ al rw rc tr] H locs := hw
      exact g_lret C hr (ws' := [oX6 h a ft pn ra rm rP rS rD rQ al rw rc tr, cA G (a 2) 4 kd, cA G (a 3) 12 nu, cJ G (a 13) 8 vP, cJ G (a 14) 8 vS, cJ G (a 15) 8 vD, cJ G (a 16) 8 vQ]) hw [6, 0, 1, 2, 3, 4, 5] (by decide) rfl ⟨al, rP, rS, rD, rQ, vP, vS, vD, vQ, (congrArg lI (by unfold R_odd; rw [if_pos (by omega)])), rfl⟩ dX6_odds_33
    · skip
      refine g_iload_n C hl 3 rfl rfl dX6_odds_20 ?_
      refine g_i2l C dX6_odds_21 (by omega) ?_
      refine g_lconst0 C dX6_odds_22 ?_
      refine g_lconst1 C dX6_odds_23 ?_
      refine g_callSi C hw (wr := [cA G (a 2) 4 kd, cA G (a 3) 12 nu, cJ G (a 13) 8 vP, cJ G (a 14) 8 vS, cJ G (a 15) 8 vD, cJ G (a 16) 8 vQ, oX6 h a ft pn ra rm rP rS rD rQ al rw rc tr]) (As := [.long (lI (wh)), .long (lI (0)), .long (lI (1))]) (rest := []) (m_X6_in l D G (va := wh) (vb := 0) (vc := 1) (by first | assumption | omega) (by first | assumption | omega) (by first | assumption | omega)) (va_cwS 3 C.1.2.2.2.2 gX6_odds_X6_in rfl rfl rfl (by decide +kernel) ⟨Nat.le_of_ble_eq_true rfl, Nat.le_of_ble_eq_true rfl⟩) [] [0, 1, 2, 3, 4, 5, 6] rfl rfl (by decide) (by decide) (by decide) rfl hl.1 _ rfl (Nat.le_of_ble_eq_true rfl) dX6_odds_24 ⟨Nat.le_of_ble_eq_true rfl, Nat.le_of_ble_eq_true rfl⟩ ?_
      clear hw
      rintro _ _ H locs ⟨rfl, rfl⟩ hw
      have hw : gW D A s.heap [cA G (a 2) 4 kd, cA G (a 3) 12 nu, cJ G (a 13) 8 vP, cJ G (a 14) 8 vS, cJ G (a 15) 8 vD, cJ G (a 16) 8 vQ, oX6 h a ft pn ra rm rP rS rD rQ al rw rc tr] H locs := hw
      refine g_ifb_ne C 34 dX6_odds_27 (by decide) (fun c_3 => ?_) (fun c_3 => ?_)
      · skip
        refine g_aload_n C hl 0 rfl rfl dX6_odds_34 ?_
        refine g_callVv C hw (wr := []) (As := []) (rest := []) (m_X6_gathers l D G (h := h) (a := a) (ft := ft) (pn := pn) (ra := ra) (rm := rm) (rP := rP) (rS := rS) (rD := rD) (rQ := rQ) (al := al) (rw := rw) (rc := rc) (tr := tr) (kd := kd) (nu := nu) (vP := vP) (vS := vS) (vD := vD) (vQ := vQ) (by first | assumption | omega) (by first | assumption | omega) (by first | assumption | omega)) (cwV 0 C.1.2.2.2.2 gX6_odds_X6_gathers rfl rfl rfl (by decide +kernel) ⟨Nat.le_of_ble_eq_true rfl, Nat.le_of_ble_eq_true rfl⟩) [6, 0, 1, 2, 3, 4, 5] [] rfl rfl (by decide) (by decide) (by decide) 0 rfl rfl rfl hl.1 _ rfl (Nat.le_of_ble_eq_true rfl) dX6_odds_35 ⟨Nat.le_of_ble_eq_true rfl, Nat.le_of_ble_eq_true rfl⟩ ?_
        clear hw
        rintro _ H locs ⟨r2P__4, r2S__5, r2D__6, r2Q__7, vP2__8, vS2__9, vD2__10, vQ2__11, rfl, hp_12⟩ hw
        have hw : gW D A s.heap [oX6 h a ft pn ra rm r2P__4 r2S__5 r2D__6 r2Q__7 ((ALn (exT pn kd nu) pn.toNat).length : Int) rw rc tr, cA G (a 2) 4 kd, cA G (a 3) 12 nu, cJ G (a 13) 8 vP2__8, cJ G (a 14) 8 vS2__9, cJ G (a 15) 8 vD2__10, cJ G (a 16) 8 vQ2__11] H locs := hw
        have hp_12 : MR (exT pn kd nu) (ALn (exT pn kd nu) pn.toNat) vP2__8 vS2__9 vD2__10 vQ2__11 := hp_12
        have hM := hp_12
        refine g_iconst C dX6_odds_38 ?_
        refine g_istore C [(4, .int (iI 0)), (0, .ref h), (1, .int (iI pp)), (2, .int (iI sv)), (3, .int (iI wh))] dX6_odds_39 hl (by decide) rfl ?_
        clear hl
        intro ls hl
        refine g_iconst C dX6_odds_41 ?_
        refine g_istore C [(5, .int (iI 0)), (4, .int (iI 0)), (0, .ref h), (1, .int (iI pp)), (2, .int (iI sv)), (3, .int (iI wh))] dX6_odds_42 hl (by decide) rfl ?_
        clear hl
        intro ls hl
        refine g_loop (σ := (Int) × (Int) × (Int) × (Int) × (Int) × (Int)) (fun z_ => [oX6 h a ft pn ra rm z_.2.2.1 z_.2.2.2.1 z_.2.2.2.2.1 z_.2.2.2.2.2 ((ALn (exT pn kd nu) pn.toNat).length : Int) rw rc tr, cA G (a 2) 4 kd, cA G (a 3) 12 nu, cJ G (a 13) 8 vP2__8, cJ G (a 14) 8 vS2__9, cJ G (a 15) 8 vD2__10, cJ G (a 16) 8 vQ2__11]) (fun z_ => [(5, .int (iI (z_.2.1))), (4, .int (iI (z_.1))), (0, .ref h), (1, .int (iI pp)), (2, .int (iI sv)), (3, .int (iI wh))]) (fun z_ => (0 ≤ z_.2.1 ∧ z_.2.1 ≤ 2 * ((ALn (exT pn kd nu) pn.toNat).length : Int) + 1) ∧ (z_.1 = cnF (fun k => sSp (exT pn kd nu) (ALn (exT pn kd nu) pn.toNat) k pp + 1 == sv) z_.2.1.toNat)) (fun z_ => (2 * ((ALn (exT pn kd nu) pn.toNat).length : Int) + 1 - z_.2.1).toNat) (0, 0, r2P__4, r2S__5, r2D__6, r2Q__7) ⟨by (try dsimp only); omega, by (try dsimp only); rfl⟩ hw (lv_sub hl [0, 1, 2, 3, 4, 5] rfl) ?_
        clear hw hl
        rintro ⟨mn, kk, gP, gS, gD, gQ⟩ ⟨hkk, hmn⟩ H locs ls hw hl ih_13
        replace hkk : 0 ≤ kk ∧ kk ≤ 2 * ((ALn (exT pn kd nu) pn.toNat).length : Int) + 1 := hkk
        replace hmn : mn = cnF (fun k => sSp (exT pn kd nu) (ALn (exT pn kd nu) pn.toNat) k pp + 1 == sv) kk.toNat := hmn
        replace hw : gW D A s.heap [oX6 h a ft pn ra rm gP gS gD gQ ((ALn (exT pn kd nu) pn.toNat).length : Int) rw rc tr, cA G (a 2) 4 kd, cA G (a 3) 12 nu, cJ G (a 13) 8 vP2__8, cJ G (a 14) 8 vS2__9, cJ G (a 15) 8 vD2__10, cJ G (a 16) 8 vQ2__11] H locs := hw
        replace hl : lv_has ls 6 [(5, .int (iI kk)), (4, .int (iI mn)), (0, .ref h), (1, .int (iI pp)), (2, .int (iI sv)), (3, .int (iI wh))] := hl
        replace ih_13 : ∀ (mn' : Int) (kk' : Int) (gP' : Int) (gS' : Int) (gD' : Int) (gQ' : Int), ((0 ≤ kk' ∧ kk' ≤ 2 * ((ALn (exT pn kd nu) pn.toNat).length : Int) + 1) ∧ (mn' = cnF (fun k => sSp (exT pn kd nu) (ALn (exT pn kd nu) pn.toNat) k pp + 1 == sv) kk'.toNat)) → ((2 * ((ALn (exT pn kd nu) pn.toNat).length : Int) + 1 - kk').toNat) < ((2 * ((ALn (exT pn kd nu) pn.toNat).length : Int) + 1 - kk).toNat) → ∀ (H : Heap) (locs : List Loc) (ls : Array Slot), gW D A s.heap [oX6 h a ft pn ra rm gP' gS' gD' gQ' ((ALn (exT pn kd nu) pn.toNat).length : Int) rw rc tr, cA G (a 2) 4 kd, cA G (a 3) 12 nu, cJ G (a 13) 8 vP2__8, cJ G (a 14) 8 vS2__9, cJ G (a 15) 8 vD2__10, cJ G (a 16) 8 vQ2__11] H locs → lv_has ls 6 [(5, .int (iI (kk'))), (4, .int (iI (mn'))), (0, .ref h), (1, .int (iI pp)), (2, .int (iI sv)), (3, .int (iI wh))] → W p l e _ s m _ below meth c H locs _ _ _ (F0 m 44 ls []) := fun mn' kk' gP' gS' gD' gQ' => ih_13 (mn', kk', gP', gS', gD', gQ')
        have hcn := cnF_r (fun k => sSp (exT pn kd nu) (ALn (exT pn kd nu) pn.toNat) k pp + 1 == sv) kk.toNat
        have hsb := sSp_r (exT pn kd nu) (ALn (exT pn kd nu) pn.toNat) kk pp
        refine g_iload C hl 0 rfl dX6_odds_44 ?_
        refine g_iconst C dX6_odds_46 ?_
        refine g_aload_n C hl 2 rfl rfl dX6_odds_47 ?_
        refine g_get C hw hin_X6_odds_X6 0 rfl rfl 12 (by decide) lk_X6_odds_167 rfl dX6_odds_48 ?_
        refine g_imul C dX6_odds_51 ?_
        refine g_icmp_gt C 84 dX6_odds_52 (by decide) (by omega) (by omega) (fun c_14 => ?_) (fun c_14 => ?_)
        · skip
          have hke : kk.toNat = 2 * (ALn (exT pn kd nu) pn.toNat).length + 1 := by omega
          rw [hke] at hmn
          have hcn2 := cnF_r (fun k => sSp (exT pn kd nu) (ALn (exT pn kd nu) pn.toNat) k pp + 1 == sv) (2 * (ALn (exT pn kd nu) pn.toNat).length + 1)
          refine g_iload C hl 1 rfl dX6_odds_84 ?_
          refine g_i2l C dX6_odds_86 (by omega) ?_
          refine g_ldc2 C (2) cn_X6_odds_117 (by decide +kernel) dX6_odds_87 ?_
          refine g_aload_n C hl 2 rfl rfl dX6_odds_90 ?_
          refine g_get C hw hin_X6_odds_X6 0 rfl rfl 12 (by decide) lk_X6_odds_167 rfl dX6_odds_91 ?_
          refine g_i2l C dX6_odds_94 (by omega) ?_
          refine g_lmul C dX6_odds_95 ?_
          refine g_lconst1 C dX6_odds_96 ?_
          refine g_ladd C dX6_odds_97 ?_
          refine g_iload_n C hl 5 rfl rfl dX6_odds_98 ?_
          refine g_callSl C hw (wr := [oX6 h a ft pn ra rm gP gS gD gQ ((ALn (exT pn kd nu) pn.toNat).length : Int) rw rc tr, cA G (a 2) 4 kd, cA G (a 3) 12 nu, cJ G (a 13) 8 vP2__8, cJ G (a 14) 8 vS2__9, cJ G (a 15) 8 vD2__10, cJ G (a 16) 8 vQ2__11]) (As := [.long (lI (mn)), .long (lI ((2 * ((ALn (exT pn kd nu) pn.toNat).length : Int)) + 1)), .int (iI wh)]) (rest := []) (m_X6_share l D G (uu := mn) (dd := ((2 * ((ALn (exT pn kd nu) pn.toNat).length : Int)) + 1)) (wh := wh) (by first | assumption | omega) (by first | assumption | omega) (by first | assumption | omega)) (va_cwS 3 C.1.2.2.2.2 gX6_odds_X6_share rfl rfl rfl (by decide +kernel) ⟨Nat.le_of_ble_eq_true rfl, Nat.le_of_ble_eq_true rfl⟩) [] [0, 1, 2, 3, 4, 5, 6] rfl rfl (by decide) (by decide) (by decide) rfl hl.1 _ rfl (Nat.le_of_ble_eq_true rfl) dX6_odds_99 ⟨Nat.le_of_ble_eq_true rfl, Nat.le_of_ble_eq_true rfl⟩ ?_
          clear hw
          rintro _ _ H locs ⟨rfl, rfl⟩ hw
          have hw : gW D A s.heap [oX6 h a ft pn ra rm gP gS gD gQ ((ALn (exT pn kd nu) pn.toNat).length : Int) rw rc tr, cA G (a 2) 4 kd, cA G (a 3) 12 nu, cJ G (a 13) 8 vP2__8, cJ G (a 14) 8 vS2__9, cJ G (a 15) 8 vD2__10, cJ G (a 16) 8 vQ2__11] H locs := hw
          exact g_lret C hr (ws' := [oX6 h a ft pn ra rm gP gS gD gQ ((ALn (exT pn kd nu) pn.toNat).length : Int) rw rc tr, cA G (a 2) 4 kd, cA G (a 3) 12 nu, cJ G (a 13) 8 vP2__8, cJ G (a 14) 8 vS2__9, cJ G (a 15) 8 vD2__10, cJ G (a 16) 8 vQ2__11]) hw [0, 1, 2, 3, 4, 5, 6] (by decide) rfl ⟨((ALn (exT pn kd nu) pn.toNat).length : Int), gP, gS, gD, gQ, vP2__8, vS2__9, vD2__10, vQ2__11, (congrArg lI (by unfold R_odd; rw [if_neg (by omega), hmn])), rfl⟩ dX6_odds_102
        · skip
          refine g_iload C hl 1 rfl dX6_odds_55 ?_
          refine g_aload_n C hl 2 rfl rfl dX6_odds_57 ?_
          refine g_iload C hl 0 rfl dX6_odds_58 ?_
          refine g_iload_n C hl 3 rfl rfl dX6_odds_60 ?_
          refine g_callVi C hw (wr := []) (As := [.int (iI kk), .int (iI pp)]) (rest := [.int (iI mn)]) (m_X6_signInSpot l D G (h := h) (a := a) (ft := ft) (pn := pn) (ra := ra) (rm := rm) (rP := gP) (rS := gS) (rD := gD) (rQ := gQ) (al := ((ALn (exT pn kd nu) pn.toNat).length : Int)) (rw := rw) (rc := rc) (tr := tr) (kd := kd) (nu := nu) (vP := vP2__8) (vS := vS2__9) (vD := vD2__10) (vQ := vQ2__11) (kk := kk) (pp := pp) (by first | assumption | omega) (by first | assumption | omega) (by first | assumption | omega) (by first | assumption | omega) (by rfl) (by exact hM) (by first | assumption | omega)) (cwV 2 C.1.2.2.2.2 gX6_odds_X6_signInSpot rfl rfl rfl (by decide +kernel) ⟨Nat.le_of_ble_eq_true rfl, Nat.le_of_ble_eq_true rfl⟩) [0, 1, 2, 3, 4, 5, 6] [] rfl rfl (by decide) (by decide) (by decide) 0 rfl rfl rfl hl.1 _ rfl (Nat.le_of_ble_eq_true rfl) dX6_odds_61 ⟨Nat.le_of_ble_eq_true rfl, Nat.le_of_ble_eq_true rfl⟩ ?_
          clear hw
          rintro _ _ H locs ⟨r2P__15, r2S__16, r2D__17, r2Q__18, rfl, rfl⟩ hw
          have hw : gW D A s.heap [oX6 h a ft pn ra rm r2P__15 r2S__16 r2D__17 r2Q__18 ((ALn (exT pn kd nu) pn.toNat).length : Int) rw rc tr, cA G (a 2) 4 kd, cA G (a 3) 12 nu, cJ G (a 13) 8 vP2__8, cJ G (a 14) 8 vS2__9, cJ G (a 15) 8 vD2__10, cJ G (a 16) 8 vQ2__11] H locs := hw
          refine g_iconst C dX6_odds_64 ?_
          refine g_iadd C dX6_odds_65 ?_
          refine g_iload_n C hl 4 rfl rfl dX6_odds_66 ?_
          refine g_icmp_ne C 74 dX6_odds_67 (by decide) (by omega) (by omega) (fun c_19 => ?_) (fun c_19 => ?_)
          · skip
            refine g_iconst C dX6_odds_74 ?_
            refine g_iadd C dX6_odds_75 ?_
            refine g_istore C [(4, .int (iI (mn + 0))), (5, .int (iI kk)), (0, .ref h), (1, .int (iI pp)), (2, .int (iI sv)), (3, .int (iI wh))] dX6_odds_76 hl (by decide) rfl ?_
            clear hl
            intro ls hl
            refine g_iinc C [(5, .int (iI (kk + 1))), (4, .int (iI (mn + 0))), (0, .ref h), (1, .int (iI pp)), (2, .int (iI sv)), (3, .int (iI wh))] 1 dX6_odds_78 hl rfl (by decide) rfl ?_
            clear hl
            intro ls hl
            refine g_goto C 44 dX6_odds_81 (by decide) ?_
            have hw : gW D A s.heap [oX6 h a ft pn ra rm r2P__15 r2S__16 r2D__17 r2Q__18 ((ALn (exT pn kd nu) pn.toNat).length : Int) rw rc tr, cA G (a 2) 4 kd, cA G (a 3) 12 nu, cJ G (a 13) 8 vP2__8, cJ G (a 14) 8 vS2__9, cJ G (a 15) 8 vD2__10, cJ G (a 16) 8 vQ2__11] H locs := g_perm hw [0, 1, 2, 3, 4, 5, 6] (by decide) rfl
            exact ih_13 (mn + 0) (kk + 1) r2P__15 r2S__16 r2D__17 r2Q__18 ⟨by omega, by rw [cnF_s hkk.1, hmn]; first | (rw [if_pos (by simp; omega)]; done) | (rw [if_neg (by simp; omega)]; done)⟩ (by omega) H locs ls hw (lv_sub hl [0, 1, 2, 3, 4, 5] rfl)
          · skip
            refine g_iconst C dX6_odds_70 ?_
            refine g_goto C 75 dX6_odds_71 (by decide) ?_
            refine g_iadd C dX6_odds_75 ?_
            refine g_istore C [(4, .int (iI (mn + 1))), (5, .int (iI kk)), (0, .ref h), (1, .int (iI pp)), (2, .int (iI sv)), (3, .int (iI wh))] dX6_odds_76 hl (by decide) rfl ?_
            clear hl
            intro ls hl
            refine g_iinc C [(5, .int (iI (kk + 1))), (4, .int (iI (mn + 1))), (0, .ref h), (1, .int (iI pp)), (2, .int (iI sv)), (3, .int (iI wh))] 1 dX6_odds_78 hl rfl (by decide) rfl ?_
            clear hl
            intro ls hl
            refine g_goto C 44 dX6_odds_81 (by decide) ?_
            have hw : gW D A s.heap [oX6 h a ft pn ra rm r2P__15 r2S__16 r2D__17 r2Q__18 ((ALn (exT pn kd nu) pn.toNat).length : Int) rw rc tr, cA G (a 2) 4 kd, cA G (a 3) 12 nu, cJ G (a 13) 8 vP2__8, cJ G (a 14) 8 vS2__9, cJ G (a 15) 8 vD2__10, cJ G (a 16) 8 vQ2__11] H locs := g_perm hw [0, 1, 2, 3, 4, 5, 6] (by decide) rfl
            exact ih_13 (mn + 1) (kk + 1) r2P__15 r2S__16 r2D__17 r2Q__18 ⟨by omega, by rw [cnF_s hkk.1, hmn]; first | (rw [if_pos (by simp; omega)]; done) | (rw [if_neg (by simp; omega)]; done)⟩ (by omega) H locs ls hw (lv_sub hl [0, 1, 2, 3, 4, 5] rfl)
      · skip
        refine g_callSl C hw (wr := [cA G (a 2) 4 kd, cA G (a 3) 12 nu, cJ G (a 13) 8 vP, cJ G (a 14) 8 vS, cJ G (a 15) 8 vD, cJ G (a 16) 8 vQ, oX6 h a ft pn ra rm rP rS rD rQ al rw rc tr]) (As := []) (rest := []) (m_X6_lost l D G  ) (va_cwS 0 C.1.2.2.2.2 gX6_odds_X6_lost rfl rfl rfl (by decide +kernel) ⟨Nat.le_of_ble_eq_true rfl, Nat.le_of_ble_eq_true rfl⟩) [] [0, 1, 2, 3, 4, 5, 6] rfl rfl (by decide) (by decide) (by decide) rfl hl.1 _ rfl (Nat.le_of_ble_eq_true rfl) dX6_odds_30 ⟨Nat.le_of_ble_eq_true rfl, Nat.le_of_ble_eq_true rfl⟩ ?_
        clear hw
        rintro _ _ H locs ⟨rfl, rfl⟩ hw
        have hw : gW D A s.heap [cA G (a 2) 4 kd, cA G (a 3) 12 nu, cJ G (a 13) 8 vP, cJ G (a 14) 8 vS, cJ G (a 15) 8 vD, cJ G (a 16) 8 vQ, oX6 h a ft pn ra rm rP rS rD rQ al rw rc tr] H locs := hw
        exact g_lret C hr (ws' := [oX6 h a ft pn ra rm rP rS rD rQ al rw rc tr, cA G (a 2) 4 kd, cA G (a 3) 12 nu, cJ G (a 13) 8 vP, cJ G (a 14) 8 vS, cJ G (a 15) 8 vD, cJ G (a 16) 8 vQ]) hw [6, 0, 1, 2, 3, 4, 5] (by decide) rfl ⟨al, rP, rS, rD, rQ, vP, vS, vD, vQ, (congrArg lI (by unfold R_odd; rw [if_pos (by omega)])), rfl⟩ dX6_odds_33

set_option maxRecDepth 20000 in
theorem cn_X6_reading_200 : Jvm.Cond.constantLong RX6 200 (20) ∈ wsX6_reading := List.mem_cons_of_mem _ (List.mem_append_left _ (List.mem_of_getElem? (i := 0) rfl))
set_option maxRecDepth 20000 in
theorem cn_X6_reading_117 : Jvm.Cond.constantLong RX6 117 (2) ∈ wsX6_reading := List.mem_cons_of_mem _ (List.mem_append_left _ (List.mem_of_getElem? (i := 1) rfl))
set_option maxRecDepth 20000 in
theorem hin_X6_reading_X6 : ∀ w ∈ u_ws RX6 TX6 30, w ∈ wsX6_reading := by
  intro w h
  exact List.mem_cons_of_mem _ (List.mem_append_right _ (h))
set_option maxRecDepth 20000 in
theorem lk_X6_reading_126 : Cond.fieldLink RX6 126 (TX6 21).1 (TX6 21).2.1 (TX6 21).2.2.1 ∈ wsX6_reading := List.mem_cons_of_mem _ (List.mem_append_left _ (List.mem_of_getElem? (i := 2) rfl))
set_option maxRecDepth 20000 in
theorem lk_X6_reading_44 : Cond.fieldLink RX6 44 (TX6 22).1 (TX6 22).2.1 (TX6 22).2.2.1 ∈ wsX6_reading := List.mem_cons_of_mem _ (List.mem_append_left _ (List.mem_of_getElem? (i := 3) rfl))
set_option maxRecDepth 20000 in
theorem lk_X6_reading_47 : Cond.fieldLink RX6 47 (TX6 23).1 (TX6 23).2.1 (TX6 23).2.2.1 ∈ wsX6_reading := List.mem_cons_of_mem _ (List.mem_append_left _ (List.mem_of_getElem? (i := 4) rfl))
set_option maxRecDepth 20000 in
theorem lk_X6_reading_50 : Cond.fieldLink RX6 50 (TX6 24).1 (TX6 24).2.1 (TX6 24).2.2.1 ∈ wsX6_reading := List.mem_cons_of_mem _ (List.mem_append_left _ (List.mem_of_getElem? (i := 5) rfl))
set_option maxRecDepth 100000 in
set_option maxHeartbeats 8000000 in
theorem m_X6_reading (l : Launch) (D : va_G) (G : gT) (h : Nat) (a : Nat → Nat) (ft : Int) (pn : Int) (ra : Int) (rm : Int) (rP : Int) (rS : Int) (rD : Int) (rQ : Int) (al : Int) (rw : Int) (rc : Int) (tr : Int) (r1 : Int → Int) (r2 : Int → Int) (r3 : Int → Int) (kk : Int) (pp : Int) (sv : Int) (hn : 0 ≤ pn ∧ pn ≤ 4) (hp : -2147483648 ≤ pp ∧ pp ≤ 2147483647) (hk : -2147483648 ≤ kk ∧ kk ≤ 2147483647) (hs : -2147483648 ≤ sv ∧ sv ≤ 2147483647) (hrc : 0 ≤ rc ∧ rc ≤ 8) : gMi l yX6_reading wsX6_reading ({ frames := 2, cells := 0, slots := 0, locals := 46 }) D G [.ref h, .int (iI kk), .int (iI pp), .int (iI sv)] [oX6 h a ft pn ra rm rP rS rD rQ al rw rc tr, cA G (a 22) 8 r1, cA G (a 23) 8 r2, cA G (a 24) 8 r3] 0 0 (fun (r : Int32) (w : va_W) => ∃ (rc2 : Int) (r12 : Int → Int) (r22 : Int → Int) (r32 : Int → Int), r = (iI (R_rdg pn rc kk pp sv)) ∧ w = [oX6 h a ft pn ra rm rP rS rD rQ al rw rc2 tr, cA G (a 22) 8 r12, cA G (a 23) 8 r22, cA G (a 24) 8 r32] ∧ ((0 ≤ R_rdg pn rc kk pp sv → rc2 = rc + 1 ∧ r12 = up r1 rc kk ∧ r22 = up r2 rc pp ∧ r32 = up r3 rc sv) ∧ (R_rdg pn rc kk pp sv < 0 → rc2 = rc ∧ r12 = r1 ∧ r22 = r2 ∧ r32 = r3))) := by
  refine g_start_i (cc := cX6_reading) (nL := 4) (own := RX6) (ret := some .int) (by decide +kernel) rfl rfl (Nat.le_of_ble_eq_true rfl) ?_
  intro p e s m below meth c A ls C hr hnm hw hl
  have hl : lv_has ls 4 [(0, .ref h), (1, .int (iI kk)), (2, .int (iI pp)), (3, .int (iI sv))] := hl
  refine g_aload_n C hl 0 rfl rfl dX6_reading_0 ?_
  refine g_iload_n C hl 2 rfl rfl dX6_reading_1 ?_
  refine g_callVi C hw (wr := [cA G (a 22) 8 r1, cA G (a 23) 8 r2, cA G (a 24) 8 r3]) (As := [.int (iI pp)]) (rest := []) (m_X6_noPolynomial l D G (h := h) (a := a) (ft := ft) (pn := pn) (ra := ra) (rm := rm) (rP := rP) (rS := rS) (rD := rD) (rQ := rQ) (al := al) (rw := rw) (rc := rc) (tr := tr) (pp := pp) (by first | assumption | omega) (by first | assumption | omega)) (cwV 1 C.1.2.2.2.2 gX6_reading_X6_noPolynomial rfl rfl rfl (by decide +kernel) ⟨Nat.le_of_ble_eq_true rfl, Nat.le_of_ble_eq_true rfl⟩) [0] [1, 2, 3] rfl rfl (by decide) (by decide) (by decide) 0 rfl rfl rfl hl.1 _ rfl (Nat.le_of_ble_eq_true rfl) dX6_reading_2 ⟨Nat.le_of_ble_eq_true rfl, Nat.le_of_ble_eq_true rfl⟩ ?_
  clear hw
  rintro _ _ H locs ⟨rfl, rfl⟩ hw
  have hw : gW D A s.heap [cA G (a 22) 8 r1, cA G (a 23) 8 r2, cA G (a 24) 8 r3, oX6 h a ft pn ra rm rP rS rD rQ al rw rc tr] H locs := hw
  refine g_ifb_eq C 10 dX6_reading_5 (by decide) (fun c_1 => ?_) (fun c_1 => ?_)
  · skip
    refine g_iload_n C hl 1 rfl rfl dX6_reading_10 ?_
    refine g_i2l C dX6_reading_11 (by omega) ?_
    refine g_lconst0 C dX6_reading_12 ?_
    refine g_ldc2 C (20) cn_X6_reading_200 (by decide +kernel) dX6_reading_13 ?_
    refine g_callSi C hw (wr := [cA G (a 22) 8 r1, cA G (a 23) 8 r2, cA G (a 24) 8 r3, oX6 h a ft pn ra rm rP rS rD rQ al rw rc tr]) (As := [.long (lI (kk)), .long (lI (0)), .long (lI (20))]) (rest := []) (m_X6_in l D G (va := kk) (vb := 0) (vc := 20) (by first | assumption | omega) (by first | assumption | omega) (by first | assumption | omega)) (va_cwS 3 C.1.2.2.2.2 gX6_reading_X6_in rfl rfl rfl (by decide +kernel) ⟨Nat.le_of_ble_eq_true rfl, Nat.le_of_ble_eq_true rfl⟩) [] [0, 1, 2, 3] rfl rfl (by decide) (by decide) (by decide) rfl hl.1 _ rfl (Nat.le_of_ble_eq_true rfl) dX6_reading_16 ⟨Nat.le_of_ble_eq_true rfl, Nat.le_of_ble_eq_true rfl⟩ ?_
    clear hw
    rintro _ _ H locs ⟨rfl, rfl⟩ hw
    have hw : gW D A s.heap [cA G (a 22) 8 r1, cA G (a 23) 8 r2, cA G (a 24) 8 r3, oX6 h a ft pn ra rm rP rS rD rQ al rw rc tr] H locs := hw
    refine g_ifb_eq C 34 dX6_reading_19 (by decide) (fun c_2 => ?_) (fun c_2 => ?_)
    · skip
      refine g_bipush C dX6_reading_34 (by decide) ?_
      exact g_iret C hr (ws' := [oX6 h a ft pn ra rm rP rS rD rQ al rw rc tr, cA G (a 22) 8 r1, cA G (a 23) 8 r2, cA G (a 24) 8 r3]) hw [3, 0, 1, 2] (by decide) rfl ⟨rc, r1, r2, r3, (congrArg iI (by unfold R_rdg; (repeat' split) <;> omega)), rfl, (by refine ⟨fun q9 => ?_, fun q9 => ?_⟩ <;> first | exact ⟨rfl, rfl, rfl, rfl⟩ | (exfalso; unfold R_rdg at q9; (repeat' split at q9) <;> omega))⟩ dX6_reading_36
    · skip
      refine g_iload_n C hl 3 rfl rfl dX6_reading_22 ?_
      refine g_i2l C dX6_reading_23 (by omega) ?_
      refine g_lconst0 C dX6_reading_24 ?_
      refine g_ldc2 C (2) cn_X6_reading_117 (by decide +kernel) dX6_reading_25 ?_
      refine g_callSi C hw (wr := [cA G (a 22) 8 r1, cA G (a 23) 8 r2, cA G (a 24) 8 r3, oX6 h a ft pn ra rm rP rS rD rQ al rw rc tr]) (As := [.long (lI (sv)), .long (lI (0)), .long (lI (2))]) (rest := []) (m_X6_in l D G (va := sv) (vb := 0) (vc := 2) (by first | assumption | omega) (by first | assumption | omega) (by first | assumption | omega)) (va_cwS 3 C.1.2.2.2.2 gX6_reading_X6_in rfl rfl rfl (by decide +kernel) ⟨Nat.le_of_ble_eq_true rfl, Nat.le_of_ble_eq_true rfl⟩) [] [0, 1, 2, 3] rfl rfl (by decide) (by decide) (by decide) rfl hl.1 _ rfl (Nat.le_of_ble_eq_true rfl) dX6_reading_28 ⟨Nat.le_of_ble_eq_true rfl, Nat.le_of_ble_eq_true rfl⟩ ?_
      clear hw
      rintro _ _ H locs ⟨rfl, rfl⟩ hw
      have hw : gW D A s.heap [cA G (a 22) 8 r1, cA G (a 23) 8 r2, cA G (a 24) 8 r3, oX6 h a ft pn ra rm rP rS rD rQ al rw rc tr] H locs := hw
      refine g_ifb_ne C 37 dX6_reading_31 (by decide) (fun c_3 => ?_) (fun c_3 => ?_)
      · skip
        refine g_aload_n C hl 0 rfl rfl dX6_reading_37 ?_
        refine g_get C hw hin_X6_reading_X6 3 rfl rfl 21 (by decide) lk_X6_reading_126 rfl dX6_reading_38 ?_
        refine g_bipush C dX6_reading_41 (by decide) ?_
        refine g_icmp_ne C 49 dX6_reading_43 (by decide) (by omega) (by omega) (fun c_4 => ?_) (fun c_4 => ?_)
        · skip
          refine g_aload_n C hl 0 rfl rfl dX6_reading_49 ?_
          refine g_get C hw hin_X6_reading_X6 3 rfl rfl 22 (by decide) lk_X6_reading_44 rfl dX6_reading_50 ?_
          refine g_aload_n C hl 0 rfl rfl dX6_reading_53 ?_
          refine g_get C hw hin_X6_reading_X6 3 rfl rfl 21 (by decide) lk_X6_reading_126 rfl dX6_reading_54 ?_
          refine g_iload_n C hl 1 rfl rfl dX6_reading_57 ?_
          refine g_iast C hw [cA G (a 22) 8 (up r1 rc kk), cA G (a 23) 8 r2, cA G (a 24) 8 r3, oX6 h a ft pn ra rm rP rS rD rQ al rw rc tr] 0 rfl (by omega) (Nat.le_of_ble_eq_true rfl) rfl dX6_reading_58 ?_
          clear hw
          intro H locs hw
          refine g_aload_n C hl 0 rfl rfl dX6_reading_59 ?_
          refine g_get C hw hin_X6_reading_X6 3 rfl rfl 23 (by decide) lk_X6_reading_47 rfl dX6_reading_60 ?_
          refine g_aload_n C hl 0 rfl rfl dX6_reading_63 ?_
          refine g_get C hw hin_X6_reading_X6 3 rfl rfl 21 (by decide) lk_X6_reading_126 rfl dX6_reading_64 ?_
          refine g_iload_n C hl 2 rfl rfl dX6_reading_67 ?_
          refine g_iast C hw [cA G (a 22) 8 (up r1 rc kk), cA G (a 23) 8 (up r2 rc pp), cA G (a 24) 8 r3, oX6 h a ft pn ra rm rP rS rD rQ al rw rc tr] 1 rfl (by omega) (Nat.le_of_ble_eq_true rfl) rfl dX6_reading_68 ?_
          clear hw
          intro H locs hw
          refine g_aload_n C hl 0 rfl rfl dX6_reading_69 ?_
          refine g_get C hw hin_X6_reading_X6 3 rfl rfl 24 (by decide) lk_X6_reading_50 rfl dX6_reading_70 ?_
          refine g_aload_n C hl 0 rfl rfl dX6_reading_73 ?_
          refine g_get C hw hin_X6_reading_X6 3 rfl rfl 21 (by decide) lk_X6_reading_126 rfl dX6_reading_74 ?_
          refine g_iload_n C hl 3 rfl rfl dX6_reading_77 ?_
          refine g_iast C hw [cA G (a 22) 8 (up r1 rc kk), cA G (a 23) 8 (up r2 rc pp), cA G (a 24) 8 (up r3 rc sv), oX6 h a ft pn ra rm rP rS rD rQ al rw rc tr] 2 rfl (by omega) (Nat.le_of_ble_eq_true rfl) rfl dX6_reading_78 ?_
          clear hw
          intro H locs hw
          refine g_aload_n C hl 0 rfl rfl dX6_reading_79 ?_
          refine g_dup C dX6_reading_80 rfl ?_
          refine g_get C hw hin_X6_reading_X6 3 rfl rfl 21 (by decide) lk_X6_reading_126 rfl dX6_reading_81 ?_
          refine g_iconst C dX6_reading_84 ?_
          refine g_iadd C dX6_reading_85 ?_
          refine g_put C hw [cA G (a 22) 8 (up r1 rc kk), cA G (a 23) 8 (up r2 rc pp), cA G (a 24) 8 (up r3 rc sv), oX6 h a ft pn ra rm rP rS rD rQ al rw (rc + 1) tr] hin_X6_reading_X6 tyX6 tyX6_ok nmX6 3 rfl rfl 21 (by decide) lk_X6_reading_126 rfl rfl rfl rfl (Nat.le_of_ble_eq_true rfl) rfl dX6_reading_86 ?_
          clear hw
          intro H locs hw
          refine g_aload_n C hl 0 rfl rfl dX6_reading_89 ?_
          refine g_get C hw hin_X6_reading_X6 3 rfl rfl 21 (by decide) lk_X6_reading_126 rfl dX6_reading_90 ?_
          refine g_iconst C dX6_reading_93 ?_
          refine g_isub C dX6_reading_94 ?_
          exact g_iret C hr (ws' := [oX6 h a ft pn ra rm rP rS rD rQ al rw (rc + 1) tr, cA G (a 22) 8 (up r1 rc kk), cA G (a 23) 8 (up r2 rc pp), cA G (a 24) 8 (up r3 rc sv)]) hw [3, 0, 1, 2] (by decide) rfl ⟨(rc + 1), (up r1 rc kk), (up r2 rc pp), (up r3 rc sv), (congrArg iI (by unfold R_rdg; (repeat' split) <;> omega)), rfl, (by refine ⟨fun q9 => ?_, fun q9 => ?_⟩ <;> first | exact ⟨rfl, rfl, rfl, rfl⟩ | (exfalso; unfold R_rdg at q9; (repeat' split at q9) <;> omega))⟩ dX6_reading_95
        · skip
          refine g_bipush C dX6_reading_46 (by decide) ?_
          exact g_iret C hr (ws' := [oX6 h a ft pn ra rm rP rS rD rQ al rw rc tr, cA G (a 22) 8 r1, cA G (a 23) 8 r2, cA G (a 24) 8 r3]) hw [3, 0, 1, 2] (by decide) rfl ⟨rc, r1, r2, r3, (congrArg iI (by unfold R_rdg; (repeat' split) <;> omega)), rfl, (by refine ⟨fun q9 => ?_, fun q9 => ?_⟩ <;> first | exact ⟨rfl, rfl, rfl, rfl⟩ | (exfalso; unfold R_rdg at q9; (repeat' split at q9) <;> omega))⟩ dX6_reading_48
      · skip
        refine g_bipush C dX6_reading_34 (by decide) ?_
        exact g_iret C hr (ws' := [oX6 h a ft pn ra rm rP rS rD rQ al rw rc tr, cA G (a 22) 8 r1, cA G (a 23) 8 r2, cA G (a 24) 8 r3]) hw [3, 0, 1, 2] (by decide) rfl ⟨rc, r1, r2, r3, (congrArg iI (by unfold R_rdg; (repeat' split) <;> omega)), rfl, (by refine ⟨fun q9 => ?_, fun q9 => ?_⟩ <;> first | exact ⟨rfl, rfl, rfl, rfl⟩ | (exfalso; unfold R_rdg at q9; (repeat' split at q9) <;> omega))⟩ dX6_reading_36
  · skip
    refine g_iconst C dX6_reading_8 ?_
    exact g_iret C hr (ws' := [oX6 h a ft pn ra rm rP rS rD rQ al rw rc tr, cA G (a 22) 8 r1, cA G (a 23) 8 r2, cA G (a 24) 8 r3]) hw [3, 0, 1, 2] (by decide) rfl ⟨rc, r1, r2, r3, (congrArg iI (by unfold R_rdg; (repeat' split) <;> omega)), rfl, (by refine ⟨fun q9 => ?_, fun q9 => ?_⟩ <;> first | exact ⟨rfl, rfl, rfl, rfl⟩ | (exfalso; unfold R_rdg at q9; (repeat' split at q9) <;> omega))⟩ dX6_reading_9

set_option maxRecDepth 20000 in
theorem hin_X6_back_X6 : ∀ w ∈ u_ws RX6 TX6 30, w ∈ wsX6_back := by
  intro w h
  exact List.mem_cons_of_mem _ (List.mem_append_right _ (h))
set_option maxRecDepth 20000 in
theorem lk_X6_back_126 : Cond.fieldLink RX6 126 (TX6 21).1 (TX6 21).2.1 (TX6 21).2.2.1 ∈ wsX6_back := List.mem_cons_of_mem _ (List.mem_append_left _ (List.mem_of_getElem? (i := 0) rfl))
set_option maxRecDepth 100000 in
set_option maxHeartbeats 8000000 in
theorem m_X6_back (l : Launch) (D : va_G) (G : gT) (h : Nat) (a : Nat → Nat) (ft : Int) (pn : Int) (ra : Int) (rm : Int) (rP : Int) (rS : Int) (rD : Int) (rQ : Int) (al : Int) (rw : Int) (rc : Int) (tr : Int) (nn : Int) (hn9 : -2147483648 ≤ nn ∧ nn ≤ 2147483647) (hrc : 0 ≤ rc ∧ rc ≤ 8) : gMi l yX6_back wsX6_back ({ frames := 1, cells := 0, slots := 0, locals := 25 }) D G [.ref h, .int (iI nn)] [oX6 h a ft pn ra rm rP rS rD rQ al rw rc tr] 0 0 (fun (r : Int32) (w : va_W) => r = (iI (if 0 ≤ nn ∧ nn ≤ rc then rc - nn else -2)) ∧ w = [oX6 h a ft pn ra rm rP rS rD rQ al rw (if 0 ≤ nn ∧ nn ≤ rc then rc - nn else rc) tr]) := by
  refine g_start_i (cc := cX6_back) (nL := 2) (own := RX6) (ret := some .int) (by decide +kernel) rfl rfl (Nat.le_of_ble_eq_true rfl) ?_
  intro p e s m below meth c A ls C hr hnm hw hl
  have hl : lv_has ls 2 [(0, .ref h), (1, .int (iI nn))] := hl
  refine g_iload_n C hl 1 rfl rfl dX6_back_0 ?_
  refine g_i2l C dX6_back_1 (by omega) ?_
  refine g_lconst0 C dX6_back_2 ?_
  refine g_aload_n C hl 0 rfl rfl dX6_back_3 ?_
  refine g_get C hw hin_X6_back_X6 0 rfl rfl 21 (by decide) lk_X6_back_126 rfl dX6_back_4 ?_
  refine g_i2l C dX6_back_7 (by omega) ?_
  refine g_callSi C hw (wr := [oX6 h a ft pn ra rm rP rS rD rQ al rw rc tr]) (As := [.long (lI (nn)), .long (lI (0)), .long (lI (rc))]) (rest := []) (m_X6_in l D G (va := nn) (vb := 0) (vc := rc) (by first | assumption | omega) (by first | assumption | omega) (by first | assumption | omega)) (va_cwS 3 C.1.2.2.2.2 gX6_back_X6_in rfl rfl rfl (by decide +kernel) ⟨Nat.le_of_ble_eq_true rfl, Nat.le_of_ble_eq_true rfl⟩) [] [0] rfl rfl (by decide) (by decide) (by decide) rfl hl.1 _ rfl (Nat.le_of_ble_eq_true rfl) dX6_back_8 ⟨Nat.le_of_ble_eq_true rfl, Nat.le_of_ble_eq_true rfl⟩ ?_
  clear hw
  rintro _ _ H locs ⟨rfl, rfl⟩ hw
  have hw : gW D A s.heap [oX6 h a ft pn ra rm rP rS rD rQ al rw rc tr] H locs := hw
  refine g_ifb_ne C 17 dX6_back_11 (by decide) (fun c_1 => ?_) (fun c_1 => ?_)
  · skip
    refine g_aload_n C hl 0 rfl rfl dX6_back_17 ?_
    refine g_dup C dX6_back_18 rfl ?_
    refine g_get C hw hin_X6_back_X6 0 rfl rfl 21 (by decide) lk_X6_back_126 rfl dX6_back_19 ?_
    refine g_iload_n C hl 1 rfl rfl dX6_back_22 ?_
    refine g_isub C dX6_back_23 ?_
    refine g_put C hw [oX6 h a ft pn ra rm rP rS rD rQ al rw (rc - nn) tr] hin_X6_back_X6 tyX6 tyX6_ok nmX6 0 rfl rfl 21 (by decide) lk_X6_back_126 rfl rfl rfl rfl (Nat.le_of_ble_eq_true rfl) rfl dX6_back_24 ?_
    clear hw
    intro H locs hw
    refine g_aload_n C hl 0 rfl rfl dX6_back_27 ?_
    refine g_get C hw hin_X6_back_X6 0 rfl rfl 21 (by decide) lk_X6_back_126 rfl dX6_back_28 ?_
    exact g_iret C hr (ws' := [oX6 h a ft pn ra rm rP rS rD rQ al rw (rc - nn) tr]) hw [0] (by decide) rfl ⟨(congrArg iI (by (repeat' split) <;> omega)), (by first | (rw [if_pos (by omega)]; done) | (rw [if_neg (by omega)]; done))⟩ dX6_back_31
  · skip
    refine g_bipush C dX6_back_14 (by decide) ?_
    exact g_iret C hr (ws' := [oX6 h a ft pn ra rm rP rS rD rQ al rw rc tr]) hw [0] (by decide) rfl ⟨(congrArg iI (by (repeat' split) <;> omega)), (by first | (rw [if_pos (by omega)]; done) | (rw [if_neg (by omega)]; done))⟩ dX6_back_16

set_option maxRecDepth 20000 in
theorem hin_X6_tell_X6 : ∀ w ∈ u_ws RX6 TX6 30, w ∈ wsX6_tell := by
  intro w h
  exact List.mem_cons_of_mem _ (List.mem_append_right _ (h))
set_option maxRecDepth 20000 in
theorem lk_X6_tell_7 : Cond.fieldLink RX6 7 (TX6 2).1 (TX6 2).2.1 (TX6 2).2.2.1 ∈ wsX6_tell := List.mem_cons_of_mem _ (List.mem_append_left _ (List.mem_append_left _ (List.mem_of_getElem? (i := 0) rfl)))
set_option maxRecDepth 100000 in
set_option maxHeartbeats 8000000 in
theorem m_X6_tell (l : Launch) (D : va_G) (G : gT) (h : Nat) (a : Nat → Nat) (ft : Int) (pn : Int) (ra : Int) (rm : Int) (rP : Int) (rS : Int) (rD : Int) (rQ : Int) (al : Int) (rw : Int) (rc : Int) (tr : Int) (kd : Int → Int) (nu : Int → Int) (pp : Int) (hkd : kdOK kd) (hnu : nuOK nu) (hn : 0 ≤ pn ∧ pn ≤ 4) (hp : -2147483648 ≤ pp ∧ pp ≤ 2147483647) : gMi l yX6_tell wsX6_tell ({ frames := 3, cells := 0, slots := 0, locals := 73 }) D G [.ref h, .int (iI pp)] [oX6 h a ft pn ra rm rP rS rD rQ al rw rc tr, cA G (a 2) 4 kd, cA G (a 3) 12 nu] 0 0 (fun (r : Int32) (w : va_W) => r = (iI (R_tel pn kd (exT pn kd nu) pp)) ∧ w = [oX6 h a ft pn ra rm rP rS rD rQ al rw rc (T_tel pn kd tr pp), cA G (a 2) 4 kd, cA G (a 3) 12 nu]) := by
  refine g_start_i (cc := cX6_tell) (nL := 4) (own := RX6) (ret := some .int) (by decide +kernel) rfl rfl (Nat.le_of_ble_eq_true rfl) ?_
  intro p e s m below meth c A ls C hr hnm hw hl
  have hl : lv_has ls 4 [(0, .ref h), (1, .int (iI pp))] := hl
  have k0 := hkd pp
  have hnr := nR_r (exT pn kd nu) pp
  refine g_aload_n C hl 0 rfl rfl dX6_tell_0 ?_
  refine g_iload_n C hl 1 rfl rfl dX6_tell_1 ?_
  refine g_callVi C hw (wr := [cA G (a 2) 4 kd, cA G (a 3) 12 nu]) (As := [.int (iI pp)]) (rest := []) (m_X6_noPolynomial l D G (h := h) (a := a) (ft := ft) (pn := pn) (ra := ra) (rm := rm) (rP := rP) (rS := rS) (rD := rD) (rQ := rQ) (al := al) (rw := rw) (rc := rc) (tr := tr) (pp := pp) (by first | assumption | omega) (by first | assumption | omega)) (cwV 1 C.1.2.2.2.2 gX6_tell_X6_noPolynomial rfl rfl rfl (by decide +kernel) ⟨Nat.le_of_ble_eq_true rfl, Nat.le_of_ble_eq_true rfl⟩) [0] [1, 2] rfl rfl (by decide) (by decide) (by decide) 0 rfl rfl rfl hl.1 _ rfl (Nat.le_of_ble_eq_true rfl) dX6_tell_2 ⟨Nat.le_of_ble_eq_true rfl, Nat.le_of_ble_eq_true rfl⟩ ?_
  clear hw
  rintro _ _ H locs ⟨rfl, rfl⟩ hw
  have hw : gW D A s.heap [cA G (a 2) 4 kd, cA G (a 3) 12 nu, oX6 h a ft pn ra rm rP rS rD rQ al rw rc tr] H locs := hw
  refine g_ifb_eq C 10 dX6_tell_5 (by decide) (fun c_1 => ?_) (fun c_1 => ?_)
  · skip
    refine g_aload_n C hl 0 rfl rfl dX6_tell_10 ?_
    refine g_get C hw hin_X6_tell_X6 2 rfl rfl 2 (by decide) lk_X6_tell_7 rfl dX6_tell_11 ?_
    refine g_iload_n C hl 1 rfl rfl dX6_tell_14 ?_
    refine g_iald C hw 0 rfl (by omega) (Nat.le_of_ble_eq_true rfl) dX6_tell_15 ?_
    refine g_istore_n C [(2, .int (iI (kd pp))), (0, .ref h), (1, .int (iI pp))] dX6_tell_16 rfl hl (by decide) rfl ?_
    clear hl
    intro ls hl
    refine g_iload_n C hl 0 rfl rfl dX6_tell_17 ?_
    refine g_iconst C dX6_tell_18 ?_
    refine g_icmp_ne C 27 dX6_tell_19 (by decide) (by omega) (by omega) (fun c_2 => ?_) (fun c_2 => ?_)
    · skip
      refine g_iload_n C hl 0 rfl rfl dX6_tell_27 ?_
      refine g_if_le C 36 dX6_tell_28 (by decide) (by omega) (fun c_3 => ?_) (fun c_3 => ?_)
      · skip
        refine g_aload_n C hl 1 rfl rfl dX6_tell_36 ?_
        refine g_iconst C dX6_tell_37 ?_
        refine g_callVv C hw (wr := [cA G (a 2) 4 kd, cA G (a 3) 12 nu]) (As := [.int (iI 1)]) (rest := []) (m_X6_traced l D G (h := h) (a := a) (ft := ft) (pn := pn) (ra := ra) (rm := rm) (rP := rP) (rS := rS) (rD := rD) (rQ := rQ) (al := al) (rw := rw) (rc := rc) (tr := tr) (nn := 1) ) (cwV 1 C.1.2.2.2.2 gX6_tell_X6_traced rfl rfl rfl (by decide +kernel) ⟨Nat.le_of_ble_eq_true rfl, Nat.le_of_ble_eq_true rfl⟩) [2] [0, 1] rfl rfl (by decide) (by decide) (by decide) 0 rfl rfl rfl hl.1 _ rfl (Nat.le_of_ble_eq_true rfl) dX6_tell_38 ⟨Nat.le_of_ble_eq_true rfl, Nat.le_of_ble_eq_true rfl⟩ ?_
        clear hw
        rintro _ H locs rfl hw
        have hw : gW D A s.heap [cA G (a 2) 4 kd, cA G (a 3) 12 nu, oX6 h a ft pn ra rm rP rS rD rQ al rw rc (31 * tr + 1)] H locs := hw
        refine g_iload_n C hl 0 rfl rfl dX6_tell_41 ?_
        refine g_iconst C dX6_tell_42 ?_
        refine g_icmp_ne C 51 dX6_tell_43 (by decide) (by omega) (by omega) (fun c_4 => ?_) (fun c_4 => ?_)
        · skip
          refine g_aload_n C hl 1 rfl rfl dX6_tell_51 ?_
          refine g_iload_n C hl 2 rfl rfl dX6_tell_52 ?_
          refine g_callVi C hw (wr := []) (As := [.int (iI pp)]) (rest := []) (m_X6_rootsOf l D G (h := h) (a := a) (ft := ft) (pn := pn) (ra := ra) (rm := rm) (rP := rP) (rS := rS) (rD := rD) (rQ := rQ) (al := al) (rw := rw) (rc := rc) (tr := (31 * tr + 1)) (kd := kd) (nu := nu) (pp := pp) (by first | assumption | omega) (by first | assumption | omega) (by first | assumption | omega) (by first | assumption | omega)) (cwV 1 C.1.2.2.2.2 gX6_tell_X6_rootsOf rfl rfl rfl (by decide +kernel) ⟨Nat.le_of_ble_eq_true rfl, Nat.le_of_ble_eq_true rfl⟩) [2, 0, 1] [] rfl rfl (by decide) (by decide) (by decide) 0 rfl rfl rfl hl.1 _ rfl (Nat.le_of_ble_eq_true rfl) dX6_tell_53 ⟨Nat.le_of_ble_eq_true rfl, Nat.le_of_ble_eq_true rfl⟩ ?_
          clear hw
          rintro _ _ H locs ⟨rfl, rfl⟩ hw
          have hw : gW D A s.heap [oX6 h a ft pn ra rm rP rS rD rQ al rw rc (31 * tr + 1), cA G (a 2) 4 kd, cA G (a 3) 12 nu] H locs := hw
          refine g_istore_n C [(3, .int (iI ((nR (exT pn kd nu) pp)))), (2, .int (iI (kd pp))), (0, .ref h), (1, .int (iI pp))] dX6_tell_56 rfl hl (by decide) rfl ?_
          clear hl
          intro ls hl
          refine g_iload_n C hl 1 rfl rfl dX6_tell_57 ?_
          refine g_if_ne C 65 dX6_tell_58 (by decide) (by omega) (fun c_5 => ?_) (fun c_5 => ?_)
          · skip
            refine g_iload_n C hl 1 rfl rfl dX6_tell_65 ?_
            refine g_iconst C dX6_tell_66 ?_
            refine g_icmp_ne C 77 dX6_tell_67 (by decide) (by omega) (by omega) (fun c_6 => ?_) (fun c_6 => ?_)
            · skip
              refine g_iconst C dX6_tell_77 ?_
              refine g_iload_n C hl 0 rfl rfl dX6_tell_78 ?_
              refine g_imul C dX6_tell_79 ?_
              refine g_bipush C dX6_tell_80 (by decide) ?_
              refine g_iadd C dX6_tell_82 ?_
              exact g_iret C hr (ws' := [oX6 h a ft pn ra rm rP rS rD rQ al rw rc (31 * tr + 1), cA G (a 2) 4 kd, cA G (a 3) 12 nu]) hw [0, 1, 2] (by decide) rfl ⟨(congrArg iI (by unfold R_tel; (repeat' split) <;> omega)), (by unfold T_tel trT; (repeat' (split <;> try (exfalso; omega))) <;> first | rfl | (exfalso; omega))⟩ dX6_tell_83
            · skip
              refine g_iload_n C hl 0 rfl rfl dX6_tell_70 ?_
              refine g_bipush C dX6_tell_71 (by decide) ?_
              refine g_iadd C dX6_tell_73 ?_
              refine g_goto C 83 dX6_tell_74 (by decide) ?_
              exact g_iret C hr (ws' := [oX6 h a ft pn ra rm rP rS rD rQ al rw rc (31 * tr + 1), cA G (a 2) 4 kd, cA G (a 3) 12 nu]) hw [0, 1, 2] (by decide) rfl ⟨(congrArg iI (by unfold R_tel; (repeat' split) <;> omega)), (by unfold T_tel trT; (repeat' (split <;> try (exfalso; omega))) <;> first | rfl | (exfalso; omega))⟩ dX6_tell_83
          · skip
            refine g_iload_n C hl 0 rfl rfl dX6_tell_61 ?_
            refine g_goto C 83 dX6_tell_62 (by decide) ?_
            exact g_iret C hr (ws' := [oX6 h a ft pn ra rm rP rS rD rQ al rw rc (31 * tr + 1), cA G (a 2) 4 kd, cA G (a 3) 12 nu]) hw [0, 1, 2] (by decide) rfl ⟨(congrArg iI (by unfold R_tel; (repeat' split) <;> omega)), (by unfold T_tel trT; (repeat' (split <;> try (exfalso; omega))) <;> first | rfl | (exfalso; omega))⟩ dX6_tell_83
        · skip
          refine g_aload_n C hl 1 rfl rfl dX6_tell_46 ?_
          refine g_iconst C dX6_tell_47 ?_
          refine g_callVv C hw (wr := [cA G (a 2) 4 kd, cA G (a 3) 12 nu]) (As := [.int (iI 1)]) (rest := []) (m_X6_traced l D G (h := h) (a := a) (ft := ft) (pn := pn) (ra := ra) (rm := rm) (rP := rP) (rS := rS) (rD := rD) (rQ := rQ) (al := al) (rw := rw) (rc := rc) (tr := (31 * tr + 1)) (nn := 1) ) (cwV 1 C.1.2.2.2.2 gX6_tell_X6_traced rfl rfl rfl (by decide +kernel) ⟨Nat.le_of_ble_eq_true rfl, Nat.le_of_ble_eq_true rfl⟩) [2] [0, 1] rfl rfl (by decide) (by decide) (by decide) 0 rfl rfl rfl hl.1 _ rfl (Nat.le_of_ble_eq_true rfl) dX6_tell_48 ⟨Nat.le_of_ble_eq_true rfl, Nat.le_of_ble_eq_true rfl⟩ ?_
          clear hw
          rintro _ H locs rfl hw
          have hw : gW D A s.heap [cA G (a 2) 4 kd, cA G (a 3) 12 nu, oX6 h a ft pn ra rm rP rS rD rQ al rw rc (31 * (31 * tr + 1) + 1)] H locs := hw
          refine g_aload_n C hl 1 rfl rfl dX6_tell_51 ?_
          refine g_iload_n C hl 2 rfl rfl dX6_tell_52 ?_
          refine g_callVi C hw (wr := []) (As := [.int (iI pp)]) (rest := []) (m_X6_rootsOf l D G (h := h) (a := a) (ft := ft) (pn := pn) (ra := ra) (rm := rm) (rP := rP) (rS := rS) (rD := rD) (rQ := rQ) (al := al) (rw := rw) (rc := rc) (tr := (31 * (31 * tr + 1) + 1)) (kd := kd) (nu := nu) (pp := pp) (by first | assumption | omega) (by first | assumption | omega) (by first | assumption | omega) (by first | assumption | omega)) (cwV 1 C.1.2.2.2.2 gX6_tell_X6_rootsOf rfl rfl rfl (by decide +kernel) ⟨Nat.le_of_ble_eq_true rfl, Nat.le_of_ble_eq_true rfl⟩) [2, 0, 1] [] rfl rfl (by decide) (by decide) (by decide) 0 rfl rfl rfl hl.1 _ rfl (Nat.le_of_ble_eq_true rfl) dX6_tell_53 ⟨Nat.le_of_ble_eq_true rfl, Nat.le_of_ble_eq_true rfl⟩ ?_
          clear hw
          rintro _ _ H locs ⟨rfl, rfl⟩ hw
          have hw : gW D A s.heap [oX6 h a ft pn ra rm rP rS rD rQ al rw rc (31 * (31 * tr + 1) + 1), cA G (a 2) 4 kd, cA G (a 3) 12 nu] H locs := hw
          refine g_istore_n C [(3, .int (iI ((nR (exT pn kd nu) pp)))), (2, .int (iI (kd pp))), (0, .ref h), (1, .int (iI pp))] dX6_tell_56 rfl hl (by decide) rfl ?_
          clear hl
          intro ls hl
          refine g_iload_n C hl 1 rfl rfl dX6_tell_57 ?_
          refine g_if_ne C 65 dX6_tell_58 (by decide) (by omega) (fun c_7 => ?_) (fun c_7 => ?_)
          · skip
            refine g_iload_n C hl 1 rfl rfl dX6_tell_65 ?_
            refine g_iconst C dX6_tell_66 ?_
            refine g_icmp_ne C 77 dX6_tell_67 (by decide) (by omega) (by omega) (fun c_8 => ?_) (fun c_8 => ?_)
            · skip
              refine g_iconst C dX6_tell_77 ?_
              refine g_iload_n C hl 0 rfl rfl dX6_tell_78 ?_
              refine g_imul C dX6_tell_79 ?_
              refine g_bipush C dX6_tell_80 (by decide) ?_
              refine g_iadd C dX6_tell_82 ?_
              exact g_iret C hr (ws' := [oX6 h a ft pn ra rm rP rS rD rQ al rw rc (31 * (31 * tr + 1) + 1), cA G (a 2) 4 kd, cA G (a 3) 12 nu]) hw [0, 1, 2] (by decide) rfl ⟨(congrArg iI (by unfold R_tel; (repeat' split) <;> omega)), (by unfold T_tel trT; (repeat' (split <;> try (exfalso; omega))) <;> first | rfl | (exfalso; omega))⟩ dX6_tell_83
            · skip
              refine g_iload_n C hl 0 rfl rfl dX6_tell_70 ?_
              refine g_bipush C dX6_tell_71 (by decide) ?_
              refine g_iadd C dX6_tell_73 ?_
              refine g_goto C 83 dX6_tell_74 (by decide) ?_
              exact g_iret C hr (ws' := [oX6 h a ft pn ra rm rP rS rD rQ al rw rc (31 * (31 * tr + 1) + 1), cA G (a 2) 4 kd, cA G (a 3) 12 nu]) hw [0, 1, 2] (by decide) rfl ⟨(congrArg iI (by unfold R_tel; (repeat' split) <;> omega)), (by unfold T_tel trT; (repeat' (split <;> try (exfalso; omega))) <;> first | rfl | (exfalso; omega))⟩ dX6_tell_83
          · skip
            refine g_iload_n C hl 0 rfl rfl dX6_tell_61 ?_
            refine g_goto C 83 dX6_tell_62 (by decide) ?_
            exact g_iret C hr (ws' := [oX6 h a ft pn ra rm rP rS rD rQ al rw rc (31 * (31 * tr + 1) + 1), cA G (a 2) 4 kd, cA G (a 3) 12 nu]) hw [0, 1, 2] (by decide) rfl ⟨(congrArg iI (by unfold R_tel; (repeat' split) <;> omega)), (by unfold T_tel trT; (repeat' (split <;> try (exfalso; omega))) <;> first | rfl | (exfalso; omega))⟩ dX6_tell_83
      · skip
        refine g_aload_n C hl 1 rfl rfl dX6_tell_31 ?_
        refine g_iconst C dX6_tell_32 ?_
        refine g_callVv C hw (wr := [cA G (a 2) 4 kd, cA G (a 3) 12 nu]) (As := [.int (iI 2)]) (rest := []) (m_X6_traced l D G (h := h) (a := a) (ft := ft) (pn := pn) (ra := ra) (rm := rm) (rP := rP) (rS := rS) (rD := rD) (rQ := rQ) (al := al) (rw := rw) (rc := rc) (tr := tr) (nn := 2) ) (cwV 1 C.1.2.2.2.2 gX6_tell_X6_traced rfl rfl rfl (by decide +kernel) ⟨Nat.le_of_ble_eq_true rfl, Nat.le_of_ble_eq_true rfl⟩) [2] [0, 1] rfl rfl (by decide) (by decide) (by decide) 0 rfl rfl rfl hl.1 _ rfl (Nat.le_of_ble_eq_true rfl) dX6_tell_33 ⟨Nat.le_of_ble_eq_true rfl, Nat.le_of_ble_eq_true rfl⟩ ?_
        clear hw
        rintro _ H locs rfl hw
        have hw : gW D A s.heap [cA G (a 2) 4 kd, cA G (a 3) 12 nu, oX6 h a ft pn ra rm rP rS rD rQ al rw rc (31 * tr + 2)] H locs := hw
        refine g_aload_n C hl 1 rfl rfl dX6_tell_36 ?_
        refine g_iconst C dX6_tell_37 ?_
        refine g_callVv C hw (wr := [cA G (a 2) 4 kd, cA G (a 3) 12 nu]) (As := [.int (iI 1)]) (rest := []) (m_X6_traced l D G (h := h) (a := a) (ft := ft) (pn := pn) (ra := ra) (rm := rm) (rP := rP) (rS := rS) (rD := rD) (rQ := rQ) (al := al) (rw := rw) (rc := rc) (tr := (31 * tr + 2)) (nn := 1) ) (cwV 1 C.1.2.2.2.2 gX6_tell_X6_traced rfl rfl rfl (by decide +kernel) ⟨Nat.le_of_ble_eq_true rfl, Nat.le_of_ble_eq_true rfl⟩) [2] [0, 1] rfl rfl (by decide) (by decide) (by decide) 0 rfl rfl rfl hl.1 _ rfl (Nat.le_of_ble_eq_true rfl) dX6_tell_38 ⟨Nat.le_of_ble_eq_true rfl, Nat.le_of_ble_eq_true rfl⟩ ?_
        clear hw
        rintro _ H locs rfl hw
        have hw : gW D A s.heap [cA G (a 2) 4 kd, cA G (a 3) 12 nu, oX6 h a ft pn ra rm rP rS rD rQ al rw rc (31 * (31 * tr + 2) + 1)] H locs := hw
        refine g_iload_n C hl 0 rfl rfl dX6_tell_41 ?_
        refine g_iconst C dX6_tell_42 ?_
        refine g_icmp_ne C 51 dX6_tell_43 (by decide) (by omega) (by omega) (fun c_9 => ?_) (fun c_9 => ?_)
        · skip
          refine g_aload_n C hl 1 rfl rfl dX6_tell_51 ?_
          refine g_iload_n C hl 2 rfl rfl dX6_tell_52 ?_
          refine g_callVi C hw (wr := []) (As := [.int (iI pp)]) (rest := []) (m_X6_rootsOf l D G (h := h) (a := a) (ft := ft) (pn := pn) (ra := ra) (rm := rm) (rP := rP) (rS := rS) (rD := rD) (rQ := rQ) (al := al) (rw := rw) (rc := rc) (tr := (31 * (31 * tr + 2) + 1)) (kd := kd) (nu := nu) (pp := pp) (by first | assumption | omega) (by first | assumption | omega) (by first | assumption | omega) (by first | assumption | omega)) (cwV 1 C.1.2.2.2.2 gX6_tell_X6_rootsOf rfl rfl rfl (by decide +kernel) ⟨Nat.le_of_ble_eq_true rfl, Nat.le_of_ble_eq_true rfl⟩) [2, 0, 1] [] rfl rfl (by decide) (by decide) (by decide) 0 rfl rfl rfl hl.1 _ rfl (Nat.le_of_ble_eq_true rfl) dX6_tell_53 ⟨Nat.le_of_ble_eq_true rfl, Nat.le_of_ble_eq_true rfl⟩ ?_
          clear hw
          rintro _ _ H locs ⟨rfl, rfl⟩ hw
          have hw : gW D A s.heap [oX6 h a ft pn ra rm rP rS rD rQ al rw rc (31 * (31 * tr + 2) + 1), cA G (a 2) 4 kd, cA G (a 3) 12 nu] H locs := hw
          refine g_istore_n C [(3, .int (iI ((nR (exT pn kd nu) pp)))), (2, .int (iI (kd pp))), (0, .ref h), (1, .int (iI pp))] dX6_tell_56 rfl hl (by decide) rfl ?_
          clear hl
          intro ls hl
          refine g_iload_n C hl 1 rfl rfl dX6_tell_57 ?_
          refine g_if_ne C 65 dX6_tell_58 (by decide) (by omega) (fun c_10 => ?_) (fun c_10 => ?_)
          · skip
            refine g_iload_n C hl 1 rfl rfl dX6_tell_65 ?_
            refine g_iconst C dX6_tell_66 ?_
            refine g_icmp_ne C 77 dX6_tell_67 (by decide) (by omega) (by omega) (fun c_11 => ?_) (fun c_11 => ?_)
            · skip
              refine g_iconst C dX6_tell_77 ?_
              refine g_iload_n C hl 0 rfl rfl dX6_tell_78 ?_
              refine g_imul C dX6_tell_79 ?_
              refine g_bipush C dX6_tell_80 (by decide) ?_
              refine g_iadd C dX6_tell_82 ?_
              exact g_iret C hr (ws' := [oX6 h a ft pn ra rm rP rS rD rQ al rw rc (31 * (31 * tr + 2) + 1), cA G (a 2) 4 kd, cA G (a 3) 12 nu]) hw [0, 1, 2] (by decide) rfl ⟨(congrArg iI (by unfold R_tel; (repeat' split) <;> omega)), (by unfold T_tel trT; (repeat' (split <;> try (exfalso; omega))) <;> first | rfl | (exfalso; omega))⟩ dX6_tell_83
            · skip
              refine g_iload_n C hl 0 rfl rfl dX6_tell_70 ?_
              refine g_bipush C dX6_tell_71 (by decide) ?_
              refine g_iadd C dX6_tell_73 ?_
              refine g_goto C 83 dX6_tell_74 (by decide) ?_
              exact g_iret C hr (ws' := [oX6 h a ft pn ra rm rP rS rD rQ al rw rc (31 * (31 * tr + 2) + 1), cA G (a 2) 4 kd, cA G (a 3) 12 nu]) hw [0, 1, 2] (by decide) rfl ⟨(congrArg iI (by unfold R_tel; (repeat' split) <;> omega)), (by unfold T_tel trT; (repeat' (split <;> try (exfalso; omega))) <;> first | rfl | (exfalso; omega))⟩ dX6_tell_83
          · skip
            refine g_iload_n C hl 0 rfl rfl dX6_tell_61 ?_
            refine g_goto C 83 dX6_tell_62 (by decide) ?_
            exact g_iret C hr (ws' := [oX6 h a ft pn ra rm rP rS rD rQ al rw rc (31 * (31 * tr + 2) + 1), cA G (a 2) 4 kd, cA G (a 3) 12 nu]) hw [0, 1, 2] (by decide) rfl ⟨(congrArg iI (by unfold R_tel; (repeat' split) <;> omega)), (by unfold T_tel trT; (repeat' (split <;> try (exfalso; omega))) <;> first | rfl | (exfalso; omega))⟩ dX6_tell_83
        · skip
          refine g_aload_n C hl 1 rfl rfl dX6_tell_46 ?_
          refine g_iconst C dX6_tell_47 ?_
          refine g_callVv C hw (wr := [cA G (a 2) 4 kd, cA G (a 3) 12 nu]) (As := [.int (iI 1)]) (rest := []) (m_X6_traced l D G (h := h) (a := a) (ft := ft) (pn := pn) (ra := ra) (rm := rm) (rP := rP) (rS := rS) (rD := rD) (rQ := rQ) (al := al) (rw := rw) (rc := rc) (tr := (31 * (31 * tr + 2) + 1)) (nn := 1) ) (cwV 1 C.1.2.2.2.2 gX6_tell_X6_traced rfl rfl rfl (by decide +kernel) ⟨Nat.le_of_ble_eq_true rfl, Nat.le_of_ble_eq_true rfl⟩) [2] [0, 1] rfl rfl (by decide) (by decide) (by decide) 0 rfl rfl rfl hl.1 _ rfl (Nat.le_of_ble_eq_true rfl) dX6_tell_48 ⟨Nat.le_of_ble_eq_true rfl, Nat.le_of_ble_eq_true rfl⟩ ?_
          clear hw
          rintro _ H locs rfl hw
          have hw : gW D A s.heap [cA G (a 2) 4 kd, cA G (a 3) 12 nu, oX6 h a ft pn ra rm rP rS rD rQ al rw rc (31 * (31 * (31 * tr + 2) + 1) + 1)] H locs := hw
          refine g_aload_n C hl 1 rfl rfl dX6_tell_51 ?_
          refine g_iload_n C hl 2 rfl rfl dX6_tell_52 ?_
          refine g_callVi C hw (wr := []) (As := [.int (iI pp)]) (rest := []) (m_X6_rootsOf l D G (h := h) (a := a) (ft := ft) (pn := pn) (ra := ra) (rm := rm) (rP := rP) (rS := rS) (rD := rD) (rQ := rQ) (al := al) (rw := rw) (rc := rc) (tr := (31 * (31 * (31 * tr + 2) + 1) + 1)) (kd := kd) (nu := nu) (pp := pp) (by first | assumption | omega) (by first | assumption | omega) (by first | assumption | omega) (by first | assumption | omega)) (cwV 1 C.1.2.2.2.2 gX6_tell_X6_rootsOf rfl rfl rfl (by decide +kernel) ⟨Nat.le_of_ble_eq_true rfl, Nat.le_of_ble_eq_true rfl⟩) [2, 0, 1] [] rfl rfl (by decide) (by decide) (by decide) 0 rfl rfl rfl hl.1 _ rfl (Nat.le_of_ble_eq_true rfl) dX6_tell_53 ⟨Nat.le_of_ble_eq_true rfl, Nat.le_of_ble_eq_true rfl⟩ ?_
          clear hw
          rintro _ _ H locs ⟨rfl, rfl⟩ hw
          have hw : gW D A s.heap [oX6 h a ft pn ra rm rP rS rD rQ al rw rc (31 * (31 * (31 * tr + 2) + 1) + 1), cA G (a 2) 4 kd, cA G (a 3) 12 nu] H locs := hw
          refine g_istore_n C [(3, .int (iI ((nR (exT pn kd nu) pp)))), (2, .int (iI (kd pp))), (0, .ref h), (1, .int (iI pp))] dX6_tell_56 rfl hl (by decide) rfl ?_
          clear hl
          intro ls hl
          refine g_iload_n C hl 1 rfl rfl dX6_tell_57 ?_
          refine g_if_ne C 65 dX6_tell_58 (by decide) (by omega) (fun c_12 => ?_) (fun c_12 => ?_)
          · skip
            refine g_iload_n C hl 1 rfl rfl dX6_tell_65 ?_
            refine g_iconst C dX6_tell_66 ?_
            refine g_icmp_ne C 77 dX6_tell_67 (by decide) (by omega) (by omega) (fun c_13 => ?_) (fun c_13 => ?_)
            · skip
              refine g_iconst C dX6_tell_77 ?_
              refine g_iload_n C hl 0 rfl rfl dX6_tell_78 ?_
              refine g_imul C dX6_tell_79 ?_
              refine g_bipush C dX6_tell_80 (by decide) ?_
              refine g_iadd C dX6_tell_82 ?_
              exact g_iret C hr (ws' := [oX6 h a ft pn ra rm rP rS rD rQ al rw rc (31 * (31 * (31 * tr + 2) + 1) + 1), cA G (a 2) 4 kd, cA G (a 3) 12 nu]) hw [0, 1, 2] (by decide) rfl ⟨(congrArg iI (by unfold R_tel; (repeat' split) <;> omega)), (by unfold T_tel trT; (repeat' (split <;> try (exfalso; omega))) <;> first | rfl | (exfalso; omega))⟩ dX6_tell_83
            · skip
              refine g_iload_n C hl 0 rfl rfl dX6_tell_70 ?_
              refine g_bipush C dX6_tell_71 (by decide) ?_
              refine g_iadd C dX6_tell_73 ?_
              refine g_goto C 83 dX6_tell_74 (by decide) ?_
              exact g_iret C hr (ws' := [oX6 h a ft pn ra rm rP rS rD rQ al rw rc (31 * (31 * (31 * tr + 2) + 1) + 1), cA G (a 2) 4 kd, cA G (a 3) 12 nu]) hw [0, 1, 2] (by decide) rfl ⟨(congrArg iI (by unfold R_tel; (repeat' split) <;> omega)), (by unfold T_tel trT; (repeat' (split <;> try (exfalso; omega))) <;> first | rfl | (exfalso; omega))⟩ dX6_tell_83
          · skip
            refine g_iload_n C hl 0 rfl rfl dX6_tell_61 ?_
            refine g_goto C 83 dX6_tell_62 (by decide) ?_
            exact g_iret C hr (ws' := [oX6 h a ft pn ra rm rP rS rD rQ al rw rc (31 * (31 * (31 * tr + 2) + 1) + 1), cA G (a 2) 4 kd, cA G (a 3) 12 nu]) hw [0, 1, 2] (by decide) rfl ⟨(congrArg iI (by unfold R_tel; (repeat' split) <;> omega)), (by unfold T_tel trT; (repeat' (split <;> try (exfalso; omega))) <;> first | rfl | (exfalso; omega))⟩ dX6_tell_83
    · skip
      refine g_aload_n C hl 1 rfl rfl dX6_tell_22 ?_
      refine g_iconst C dX6_tell_23 ?_
      refine g_callVv C hw (wr := [cA G (a 2) 4 kd, cA G (a 3) 12 nu]) (As := [.int (iI 3)]) (rest := []) (m_X6_traced l D G (h := h) (a := a) (ft := ft) (pn := pn) (ra := ra) (rm := rm) (rP := rP) (rS := rS) (rD := rD) (rQ := rQ) (al := al) (rw := rw) (rc := rc) (tr := tr) (nn := 3) ) (cwV 1 C.1.2.2.2.2 gX6_tell_X6_traced rfl rfl rfl (by decide +kernel) ⟨Nat.le_of_ble_eq_true rfl, Nat.le_of_ble_eq_true rfl⟩) [2] [0, 1] rfl rfl (by decide) (by decide) (by decide) 0 rfl rfl rfl hl.1 _ rfl (Nat.le_of_ble_eq_true rfl) dX6_tell_24 ⟨Nat.le_of_ble_eq_true rfl, Nat.le_of_ble_eq_true rfl⟩ ?_
      clear hw
      rintro _ H locs rfl hw
      have hw : gW D A s.heap [cA G (a 2) 4 kd, cA G (a 3) 12 nu, oX6 h a ft pn ra rm rP rS rD rQ al rw rc (31 * tr + 3)] H locs := hw
      refine g_iload_n C hl 0 rfl rfl dX6_tell_27 ?_
      refine g_if_le C 36 dX6_tell_28 (by decide) (by omega) (fun c_14 => ?_) (fun c_14 => ?_)
      · skip
        refine g_aload_n C hl 1 rfl rfl dX6_tell_36 ?_
        refine g_iconst C dX6_tell_37 ?_
        refine g_callVv C hw (wr := [cA G (a 2) 4 kd, cA G (a 3) 12 nu]) (As := [.int (iI 1)]) (rest := []) (m_X6_traced l D G (h := h) (a := a) (ft := ft) (pn := pn) (ra := ra) (rm := rm) (rP := rP) (rS := rS) (rD := rD) (rQ := rQ) (al := al) (rw := rw) (rc := rc) (tr := (31 * tr + 3)) (nn := 1) ) (cwV 1 C.1.2.2.2.2 gX6_tell_X6_traced rfl rfl rfl (by decide +kernel) ⟨Nat.le_of_ble_eq_true rfl, Nat.le_of_ble_eq_true rfl⟩) [2] [0, 1] rfl rfl (by decide) (by decide) (by decide) 0 rfl rfl rfl hl.1 _ rfl (Nat.le_of_ble_eq_true rfl) dX6_tell_38 ⟨Nat.le_of_ble_eq_true rfl, Nat.le_of_ble_eq_true rfl⟩ ?_
        clear hw
        rintro _ H locs rfl hw
        have hw : gW D A s.heap [cA G (a 2) 4 kd, cA G (a 3) 12 nu, oX6 h a ft pn ra rm rP rS rD rQ al rw rc (31 * (31 * tr + 3) + 1)] H locs := hw
        refine g_iload_n C hl 0 rfl rfl dX6_tell_41 ?_
        refine g_iconst C dX6_tell_42 ?_
        refine g_icmp_ne C 51 dX6_tell_43 (by decide) (by omega) (by omega) (fun c_15 => ?_) (fun c_15 => ?_)
        · skip
          refine g_aload_n C hl 1 rfl rfl dX6_tell_51 ?_
          refine g_iload_n C hl 2 rfl rfl dX6_tell_52 ?_
          refine g_callVi C hw (wr := []) (As := [.int (iI pp)]) (rest := []) (m_X6_rootsOf l D G (h := h) (a := a) (ft := ft) (pn := pn) (ra := ra) (rm := rm) (rP := rP) (rS := rS) (rD := rD) (rQ := rQ) (al := al) (rw := rw) (rc := rc) (tr := (31 * (31 * tr + 3) + 1)) (kd := kd) (nu := nu) (pp := pp) (by first | assumption | omega) (by first | assumption | omega) (by first | assumption | omega) (by first | assumption | omega)) (cwV 1 C.1.2.2.2.2 gX6_tell_X6_rootsOf rfl rfl rfl (by decide +kernel) ⟨Nat.le_of_ble_eq_true rfl, Nat.le_of_ble_eq_true rfl⟩) [2, 0, 1] [] rfl rfl (by decide) (by decide) (by decide) 0 rfl rfl rfl hl.1 _ rfl (Nat.le_of_ble_eq_true rfl) dX6_tell_53 ⟨Nat.le_of_ble_eq_true rfl, Nat.le_of_ble_eq_true rfl⟩ ?_
          clear hw
          rintro _ _ H locs ⟨rfl, rfl⟩ hw
          have hw : gW D A s.heap [oX6 h a ft pn ra rm rP rS rD rQ al rw rc (31 * (31 * tr + 3) + 1), cA G (a 2) 4 kd, cA G (a 3) 12 nu] H locs := hw
          refine g_istore_n C [(3, .int (iI ((nR (exT pn kd nu) pp)))), (2, .int (iI (kd pp))), (0, .ref h), (1, .int (iI pp))] dX6_tell_56 rfl hl (by decide) rfl ?_
          clear hl
          intro ls hl
          refine g_iload_n C hl 1 rfl rfl dX6_tell_57 ?_
          refine g_if_ne C 65 dX6_tell_58 (by decide) (by omega) (fun c_16 => ?_) (fun c_16 => ?_)
          · skip
            refine g_iload_n C hl 1 rfl rfl dX6_tell_65 ?_
            refine g_iconst C dX6_tell_66 ?_
            refine g_icmp_ne C 77 dX6_tell_67 (by decide) (by omega) (by omega) (fun c_17 => ?_) (fun c_17 => ?_)
            · skip
              refine g_iconst C dX6_tell_77 ?_
              refine g_iload_n C hl 0 rfl rfl dX6_tell_78 ?_
              refine g_imul C dX6_tell_79 ?_
              refine g_bipush C dX6_tell_80 (by decide) ?_
              refine g_iadd C dX6_tell_82 ?_
              exact g_iret C hr (ws' := [oX6 h a ft pn ra rm rP rS rD rQ al rw rc (31 * (31 * tr + 3) + 1), cA G (a 2) 4 kd, cA G (a 3) 12 nu]) hw [0, 1, 2] (by decide) rfl ⟨(congrArg iI (by unfold R_tel; (repeat' split) <;> omega)), (by unfold T_tel trT; (repeat' (split <;> try (exfalso; omega))) <;> first | rfl | (exfalso; omega))⟩ dX6_tell_83
            · skip
              refine g_iload_n C hl 0 rfl rfl dX6_tell_70 ?_
              refine g_bipush C dX6_tell_71 (by decide) ?_
              refine g_iadd C dX6_tell_73 ?_
              refine g_goto C 83 dX6_tell_74 (by decide) ?_
              exact g_iret C hr (ws' := [oX6 h a ft pn ra rm rP rS rD rQ al rw rc (31 * (31 * tr + 3) + 1), cA G (a 2) 4 kd, cA G (a 3) 12 nu]) hw [0, 1, 2] (by decide) rfl ⟨(congrArg iI (by unfold R_tel; (repeat' split) <;> omega)), (by unfold T_tel trT; (repeat' (split <;> try (exfalso; omega))) <;> first | rfl | (exfalso; omega))⟩ dX6_tell_83
          · skip
            refine g_iload_n C hl 0 rfl rfl dX6_tell_61 ?_
            refine g_goto C 83 dX6_tell_62 (by decide) ?_
            exact g_iret C hr (ws' := [oX6 h a ft pn ra rm rP rS rD rQ al rw rc (31 * (31 * tr + 3) + 1), cA G (a 2) 4 kd, cA G (a 3) 12 nu]) hw [0, 1, 2] (by decide) rfl ⟨(congrArg iI (by unfold R_tel; (repeat' split) <;> omega)), (by unfold T_tel trT; (repeat' (split <;> try (exfalso; omega))) <;> first | rfl | (exfalso; omega))⟩ dX6_tell_83
        · skip
          refine g_aload_n C hl 1 rfl rfl dX6_tell_46 ?_
          refine g_iconst C dX6_tell_47 ?_
          refine g_callVv C hw (wr := [cA G (a 2) 4 kd, cA G (a 3) 12 nu]) (As := [.int (iI 1)]) (rest := []) (m_X6_traced l D G (h := h) (a := a) (ft := ft) (pn := pn) (ra := ra) (rm := rm) (rP := rP) (rS := rS) (rD := rD) (rQ := rQ) (al := al) (rw := rw) (rc := rc) (tr := (31 * (31 * tr + 3) + 1)) (nn := 1) ) (cwV 1 C.1.2.2.2.2 gX6_tell_X6_traced rfl rfl rfl (by decide +kernel) ⟨Nat.le_of_ble_eq_true rfl, Nat.le_of_ble_eq_true rfl⟩) [2] [0, 1] rfl rfl (by decide) (by decide) (by decide) 0 rfl rfl rfl hl.1 _ rfl (Nat.le_of_ble_eq_true rfl) dX6_tell_48 ⟨Nat.le_of_ble_eq_true rfl, Nat.le_of_ble_eq_true rfl⟩ ?_
          clear hw
          rintro _ H locs rfl hw
          have hw : gW D A s.heap [cA G (a 2) 4 kd, cA G (a 3) 12 nu, oX6 h a ft pn ra rm rP rS rD rQ al rw rc (31 * (31 * (31 * tr + 3) + 1) + 1)] H locs := hw
          refine g_aload_n C hl 1 rfl rfl dX6_tell_51 ?_
          refine g_iload_n C hl 2 rfl rfl dX6_tell_52 ?_
          refine g_callVi C hw (wr := []) (As := [.int (iI pp)]) (rest := []) (m_X6_rootsOf l D G (h := h) (a := a) (ft := ft) (pn := pn) (ra := ra) (rm := rm) (rP := rP) (rS := rS) (rD := rD) (rQ := rQ) (al := al) (rw := rw) (rc := rc) (tr := (31 * (31 * (31 * tr + 3) + 1) + 1)) (kd := kd) (nu := nu) (pp := pp) (by first | assumption | omega) (by first | assumption | omega) (by first | assumption | omega) (by first | assumption | omega)) (cwV 1 C.1.2.2.2.2 gX6_tell_X6_rootsOf rfl rfl rfl (by decide +kernel) ⟨Nat.le_of_ble_eq_true rfl, Nat.le_of_ble_eq_true rfl⟩) [2, 0, 1] [] rfl rfl (by decide) (by decide) (by decide) 0 rfl rfl rfl hl.1 _ rfl (Nat.le_of_ble_eq_true rfl) dX6_tell_53 ⟨Nat.le_of_ble_eq_true rfl, Nat.le_of_ble_eq_true rfl⟩ ?_
          clear hw
          rintro _ _ H locs ⟨rfl, rfl⟩ hw
          have hw : gW D A s.heap [oX6 h a ft pn ra rm rP rS rD rQ al rw rc (31 * (31 * (31 * tr + 3) + 1) + 1), cA G (a 2) 4 kd, cA G (a 3) 12 nu] H locs := hw
          refine g_istore_n C [(3, .int (iI ((nR (exT pn kd nu) pp)))), (2, .int (iI (kd pp))), (0, .ref h), (1, .int (iI pp))] dX6_tell_56 rfl hl (by decide) rfl ?_
          clear hl
          intro ls hl
          refine g_iload_n C hl 1 rfl rfl dX6_tell_57 ?_
          refine g_if_ne C 65 dX6_tell_58 (by decide) (by omega) (fun c_18 => ?_) (fun c_18 => ?_)
          · skip
            refine g_iload_n C hl 1 rfl rfl dX6_tell_65 ?_
            refine g_iconst C dX6_tell_66 ?_
            refine g_icmp_ne C 77 dX6_tell_67 (by decide) (by omega) (by omega) (fun c_19 => ?_) (fun c_19 => ?_)
            · skip
              refine g_iconst C dX6_tell_77 ?_
              refine g_iload_n C hl 0 rfl rfl dX6_tell_78 ?_
              refine g_imul C dX6_tell_79 ?_
              refine g_bipush C dX6_tell_80 (by decide) ?_
              refine g_iadd C dX6_tell_82 ?_
              exact g_iret C hr (ws' := [oX6 h a ft pn ra rm rP rS rD rQ al rw rc (31 * (31 * (31 * tr + 3) + 1) + 1), cA G (a 2) 4 kd, cA G (a 3) 12 nu]) hw [0, 1, 2] (by decide) rfl ⟨(congrArg iI (by unfold R_tel; (repeat' split) <;> omega)), (by unfold T_tel trT; (repeat' (split <;> try (exfalso; omega))) <;> first | rfl | (exfalso; omega))⟩ dX6_tell_83
            · skip
              refine g_iload_n C hl 0 rfl rfl dX6_tell_70 ?_
              refine g_bipush C dX6_tell_71 (by decide) ?_
              refine g_iadd C dX6_tell_73 ?_
              refine g_goto C 83 dX6_tell_74 (by decide) ?_
              exact g_iret C hr (ws' := [oX6 h a ft pn ra rm rP rS rD rQ al rw rc (31 * (31 * (31 * tr + 3) + 1) + 1), cA G (a 2) 4 kd, cA G (a 3) 12 nu]) hw [0, 1, 2] (by decide) rfl ⟨(congrArg iI (by unfold R_tel; (repeat' split) <;> omega)), (by unfold T_tel trT; (repeat' (split <;> try (exfalso; omega))) <;> first | rfl | (exfalso; omega))⟩ dX6_tell_83
          · skip
            refine g_iload_n C hl 0 rfl rfl dX6_tell_61 ?_
            refine g_goto C 83 dX6_tell_62 (by decide) ?_
            exact g_iret C hr (ws' := [oX6 h a ft pn ra rm rP rS rD rQ al rw rc (31 * (31 * (31 * tr + 3) + 1) + 1), cA G (a 2) 4 kd, cA G (a 3) 12 nu]) hw [0, 1, 2] (by decide) rfl ⟨(congrArg iI (by unfold R_tel; (repeat' split) <;> omega)), (by unfold T_tel trT; (repeat' (split <;> try (exfalso; omega))) <;> first | rfl | (exfalso; omega))⟩ dX6_tell_83
      · skip
        refine g_aload_n C hl 1 rfl rfl dX6_tell_31 ?_
        refine g_iconst C dX6_tell_32 ?_
        refine g_callVv C hw (wr := [cA G (a 2) 4 kd, cA G (a 3) 12 nu]) (As := [.int (iI 2)]) (rest := []) (m_X6_traced l D G (h := h) (a := a) (ft := ft) (pn := pn) (ra := ra) (rm := rm) (rP := rP) (rS := rS) (rD := rD) (rQ := rQ) (al := al) (rw := rw) (rc := rc) (tr := (31 * tr + 3)) (nn := 2) ) (cwV 1 C.1.2.2.2.2 gX6_tell_X6_traced rfl rfl rfl (by decide +kernel) ⟨Nat.le_of_ble_eq_true rfl, Nat.le_of_ble_eq_true rfl⟩) [2] [0, 1] rfl rfl (by decide) (by decide) (by decide) 0 rfl rfl rfl hl.1 _ rfl (Nat.le_of_ble_eq_true rfl) dX6_tell_33 ⟨Nat.le_of_ble_eq_true rfl, Nat.le_of_ble_eq_true rfl⟩ ?_
        clear hw
        rintro _ H locs rfl hw
        have hw : gW D A s.heap [cA G (a 2) 4 kd, cA G (a 3) 12 nu, oX6 h a ft pn ra rm rP rS rD rQ al rw rc (31 * (31 * tr + 3) + 2)] H locs := hw
        refine g_aload_n C hl 1 rfl rfl dX6_tell_36 ?_
        refine g_iconst C dX6_tell_37 ?_
        refine g_callVv C hw (wr := [cA G (a 2) 4 kd, cA G (a 3) 12 nu]) (As := [.int (iI 1)]) (rest := []) (m_X6_traced l D G (h := h) (a := a) (ft := ft) (pn := pn) (ra := ra) (rm := rm) (rP := rP) (rS := rS) (rD := rD) (rQ := rQ) (al := al) (rw := rw) (rc := rc) (tr := (31 * (31 * tr + 3) + 2)) (nn := 1) ) (cwV 1 C.1.2.2.2.2 gX6_tell_X6_traced rfl rfl rfl (by decide +kernel) ⟨Nat.le_of_ble_eq_true rfl, Nat.le_of_ble_eq_true rfl⟩) [2] [0, 1] rfl rfl (by decide) (by decide) (by decide) 0 rfl rfl rfl hl.1 _ rfl (Nat.le_of_ble_eq_true rfl) dX6_tell_38 ⟨Nat.le_of_ble_eq_true rfl, Nat.le_of_ble_eq_true rfl⟩ ?_
        clear hw
        rintro _ H locs rfl hw
        have hw : gW D A s.heap [cA G (a 2) 4 kd, cA G (a 3) 12 nu, oX6 h a ft pn ra rm rP rS rD rQ al rw rc (31 * (31 * (31 * tr + 3) + 2) + 1)] H locs := hw
        refine g_iload_n C hl 0 rfl rfl dX6_tell_41 ?_
        refine g_iconst C dX6_tell_42 ?_
        refine g_icmp_ne C 51 dX6_tell_43 (by decide) (by omega) (by omega) (fun c_20 => ?_) (fun c_20 => ?_)
        · skip
          refine g_aload_n C hl 1 rfl rfl dX6_tell_51 ?_
          refine g_iload_n C hl 2 rfl rfl dX6_tell_52 ?_
          refine g_callVi C hw (wr := []) (As := [.int (iI pp)]) (rest := []) (m_X6_rootsOf l D G (h := h) (a := a) (ft := ft) (pn := pn) (ra := ra) (rm := rm) (rP := rP) (rS := rS) (rD := rD) (rQ := rQ) (al := al) (rw := rw) (rc := rc) (tr := (31 * (31 * (31 * tr + 3) + 2) + 1)) (kd := kd) (nu := nu) (pp := pp) (by first | assumption | omega) (by first | assumption | omega) (by first | assumption | omega) (by first | assumption | omega)) (cwV 1 C.1.2.2.2.2 gX6_tell_X6_rootsOf rfl rfl rfl (by decide +kernel) ⟨Nat.le_of_ble_eq_true rfl, Nat.le_of_ble_eq_true rfl⟩) [2, 0, 1] [] rfl rfl (by decide) (by decide) (by decide) 0 rfl rfl rfl hl.1 _ rfl (Nat.le_of_ble_eq_true rfl) dX6_tell_53 ⟨Nat.le_of_ble_eq_true rfl, Nat.le_of_ble_eq_true rfl⟩ ?_
          clear hw
          rintro _ _ H locs ⟨rfl, rfl⟩ hw
          have hw : gW D A s.heap [oX6 h a ft pn ra rm rP rS rD rQ al rw rc (31 * (31 * (31 * tr + 3) + 2) + 1), cA G (a 2) 4 kd, cA G (a 3) 12 nu] H locs := hw
          refine g_istore_n C [(3, .int (iI ((nR (exT pn kd nu) pp)))), (2, .int (iI (kd pp))), (0, .ref h), (1, .int (iI pp))] dX6_tell_56 rfl hl (by decide) rfl ?_
          clear hl
          intro ls hl
          refine g_iload_n C hl 1 rfl rfl dX6_tell_57 ?_
          refine g_if_ne C 65 dX6_tell_58 (by decide) (by omega) (fun c_21 => ?_) (fun c_21 => ?_)
          · skip
            refine g_iload_n C hl 1 rfl rfl dX6_tell_65 ?_
            refine g_iconst C dX6_tell_66 ?_
            refine g_icmp_ne C 77 dX6_tell_67 (by decide) (by omega) (by omega) (fun c_22 => ?_) (fun c_22 => ?_)
            · skip
              refine g_iconst C dX6_tell_77 ?_
              refine g_iload_n C hl 0 rfl rfl dX6_tell_78 ?_
              refine g_imul C dX6_tell_79 ?_
              refine g_bipush C dX6_tell_80 (by decide) ?_
              refine g_iadd C dX6_tell_82 ?_
              exact g_iret C hr (ws' := [oX6 h a ft pn ra rm rP rS rD rQ al rw rc (31 * (31 * (31 * tr + 3) + 2) + 1), cA G (a 2) 4 kd, cA G (a 3) 12 nu]) hw [0, 1, 2] (by decide) rfl ⟨(congrArg iI (by unfold R_tel; (repeat' split) <;> omega)), (by unfold T_tel trT; (repeat' (split <;> try (exfalso; omega))) <;> first | rfl | (exfalso; omega))⟩ dX6_tell_83
            · skip
              refine g_iload_n C hl 0 rfl rfl dX6_tell_70 ?_
              refine g_bipush C dX6_tell_71 (by decide) ?_
              refine g_iadd C dX6_tell_73 ?_
              refine g_goto C 83 dX6_tell_74 (by decide) ?_
              exact g_iret C hr (ws' := [oX6 h a ft pn ra rm rP rS rD rQ al rw rc (31 * (31 * (31 * tr + 3) + 2) + 1), cA G (a 2) 4 kd, cA G (a 3) 12 nu]) hw [0, 1, 2] (by decide) rfl ⟨(congrArg iI (by unfold R_tel; (repeat' split) <;> omega)), (by unfold T_tel trT; (repeat' (split <;> try (exfalso; omega))) <;> first | rfl | (exfalso; omega))⟩ dX6_tell_83
          · skip
            refine g_iload_n C hl 0 rfl rfl dX6_tell_61 ?_
            refine g_goto C 83 dX6_tell_62 (by decide) ?_
            exact g_iret C hr (ws' := [oX6 h a ft pn ra rm rP rS rD rQ al rw rc (31 * (31 * (31 * tr + 3) + 2) + 1), cA G (a 2) 4 kd, cA G (a 3) 12 nu]) hw [0, 1, 2] (by decide) rfl ⟨(congrArg iI (by unfold R_tel; (repeat' split) <;> omega)), (by unfold T_tel trT; (repeat' (split <;> try (exfalso; omega))) <;> first | rfl | (exfalso; omega))⟩ dX6_tell_83
        · skip
          refine g_aload_n C hl 1 rfl rfl dX6_tell_46 ?_
          refine g_iconst C dX6_tell_47 ?_
          refine g_callVv C hw (wr := [cA G (a 2) 4 kd, cA G (a 3) 12 nu]) (As := [.int (iI 1)]) (rest := []) (m_X6_traced l D G (h := h) (a := a) (ft := ft) (pn := pn) (ra := ra) (rm := rm) (rP := rP) (rS := rS) (rD := rD) (rQ := rQ) (al := al) (rw := rw) (rc := rc) (tr := (31 * (31 * (31 * tr + 3) + 2) + 1)) (nn := 1) ) (cwV 1 C.1.2.2.2.2 gX6_tell_X6_traced rfl rfl rfl (by decide +kernel) ⟨Nat.le_of_ble_eq_true rfl, Nat.le_of_ble_eq_true rfl⟩) [2] [0, 1] rfl rfl (by decide) (by decide) (by decide) 0 rfl rfl rfl hl.1 _ rfl (Nat.le_of_ble_eq_true rfl) dX6_tell_48 ⟨Nat.le_of_ble_eq_true rfl, Nat.le_of_ble_eq_true rfl⟩ ?_
          clear hw
          rintro _ H locs rfl hw
          have hw : gW D A s.heap [cA G (a 2) 4 kd, cA G (a 3) 12 nu, oX6 h a ft pn ra rm rP rS rD rQ al rw rc (31 * (31 * (31 * (31 * tr + 3) + 2) + 1) + 1)] H locs := hw
          refine g_aload_n C hl 1 rfl rfl dX6_tell_51 ?_
          refine g_iload_n C hl 2 rfl rfl dX6_tell_52 ?_
          refine g_callVi C hw (wr := []) (As := [.int (iI pp)]) (rest := []) (m_X6_rootsOf l D G (h := h) (a := a) (ft := ft) (pn := pn) (ra := ra) (rm := rm) (rP := rP) (rS := rS) (rD := rD) (rQ := rQ) (al := al) (rw := rw) (rc := rc) (tr := (31 * (31 * (31 * (31 * tr + 3) + 2) + 1) + 1)) (kd := kd) (nu := nu) (pp := pp) (by first | assumption | omega) (by first | assumption | omega) (by first | assumption | omega) (by first | assumption | omega)) (cwV 1 C.1.2.2.2.2 gX6_tell_X6_rootsOf rfl rfl rfl (by decide +kernel) ⟨Nat.le_of_ble_eq_true rfl, Nat.le_of_ble_eq_true rfl⟩) [2, 0, 1] [] rfl rfl (by decide) (by decide) (by decide) 0 rfl rfl rfl hl.1 _ rfl (Nat.le_of_ble_eq_true rfl) dX6_tell_53 ⟨Nat.le_of_ble_eq_true rfl, Nat.le_of_ble_eq_true rfl⟩ ?_
          clear hw
          rintro _ _ H locs ⟨rfl, rfl⟩ hw
          have hw : gW D A s.heap [oX6 h a ft pn ra rm rP rS rD rQ al rw rc (31 * (31 * (31 * (31 * tr + 3) + 2) + 1) + 1), cA G (a 2) 4 kd, cA G (a 3) 12 nu] H locs := hw
          refine g_istore_n C [(3, .int (iI ((nR (exT pn kd nu) pp)))), (2, .int (iI (kd pp))), (0, .ref h), (1, .int (iI pp))] dX6_tell_56 rfl hl (by decide) rfl ?_
          clear hl
          intro ls hl
          refine g_iload_n C hl 1 rfl rfl dX6_tell_57 ?_
          refine g_if_ne C 65 dX6_tell_58 (by decide) (by omega) (fun c_23 => ?_) (fun c_23 => ?_)
          · skip
            refine g_iload_n C hl 1 rfl rfl dX6_tell_65 ?_
            refine g_iconst C dX6_tell_66 ?_
            refine g_icmp_ne C 77 dX6_tell_67 (by decide) (by omega) (by omega) (fun c_24 => ?_) (fun c_24 => ?_)
            · skip
              refine g_iconst C dX6_tell_77 ?_
              refine g_iload_n C hl 0 rfl rfl dX6_tell_78 ?_
              refine g_imul C dX6_tell_79 ?_
              refine g_bipush C dX6_tell_80 (by decide) ?_
              refine g_iadd C dX6_tell_82 ?_
              exact g_iret C hr (ws' := [oX6 h a ft pn ra rm rP rS rD rQ al rw rc (31 * (31 * (31 * (31 * tr + 3) + 2) + 1) + 1), cA G (a 2) 4 kd, cA G (a 3) 12 nu]) hw [0, 1, 2] (by decide) rfl ⟨(congrArg iI (by unfold R_tel; (repeat' split) <;> omega)), (by unfold T_tel trT; (repeat' (split <;> try (exfalso; omega))) <;> first | rfl | (exfalso; omega))⟩ dX6_tell_83
            · skip
              refine g_iload_n C hl 0 rfl rfl dX6_tell_70 ?_
              refine g_bipush C dX6_tell_71 (by decide) ?_
              refine g_iadd C dX6_tell_73 ?_
              refine g_goto C 83 dX6_tell_74 (by decide) ?_
              exact g_iret C hr (ws' := [oX6 h a ft pn ra rm rP rS rD rQ al rw rc (31 * (31 * (31 * (31 * tr + 3) + 2) + 1) + 1), cA G (a 2) 4 kd, cA G (a 3) 12 nu]) hw [0, 1, 2] (by decide) rfl ⟨(congrArg iI (by unfold R_tel; (repeat' split) <;> omega)), (by unfold T_tel trT; (repeat' (split <;> try (exfalso; omega))) <;> first | rfl | (exfalso; omega))⟩ dX6_tell_83
          · skip
            refine g_iload_n C hl 0 rfl rfl dX6_tell_61 ?_
            refine g_goto C 83 dX6_tell_62 (by decide) ?_
            exact g_iret C hr (ws' := [oX6 h a ft pn ra rm rP rS rD rQ al rw rc (31 * (31 * (31 * (31 * tr + 3) + 2) + 1) + 1), cA G (a 2) 4 kd, cA G (a 3) 12 nu]) hw [0, 1, 2] (by decide) rfl ⟨(congrArg iI (by unfold R_tel; (repeat' split) <;> omega)), (by unfold T_tel trT; (repeat' (split <;> try (exfalso; omega))) <;> first | rfl | (exfalso; omega))⟩ dX6_tell_83
  · skip
    refine g_iconst C dX6_tell_8 ?_
    exact g_iret C hr (ws' := [oX6 h a ft pn ra rm rP rS rD rQ al rw rc tr, cA G (a 2) 4 kd, cA G (a 3) 12 nu]) hw [2, 0, 1] (by decide) rfl ⟨(congrArg iI (by unfold R_tel; (repeat' split) <;> omega)), (by unfold T_tel trT; (repeat' (split <;> try (exfalso; omega))) <;> first | rfl | (exfalso; omega))⟩ dX6_tell_9

set_option maxRecDepth 20000 in
theorem hin_X6_call_X6 : ∀ w ∈ u_ws RX6 TX6 30, w ∈ wsX6_call := by
  intro w h
  exact List.mem_cons_of_mem _ (List.mem_append_right _ (h))
set_option maxRecDepth 20000 in
theorem lk_X6_call_7 : Cond.fieldLink RX6 7 (TX6 2).1 (TX6 2).2.1 (TX6 2).2.2.1 ∈ wsX6_call := List.mem_cons_of_mem _ (List.mem_append_left _ (List.mem_of_getElem? (i := 0) rfl))
set_option maxRecDepth 100000 in
set_option maxHeartbeats 8000000 in
theorem m_X6_call (l : Launch) (D : va_G) (G : gT) (h : Nat) (a : Nat → Nat) (ft : Int) (pn : Int) (ra : Int) (rm : Int) (rP : Int) (rS : Int) (rD : Int) (rQ : Int) (al : Int) (rw : Int) (rc : Int) (tr : Int) (kd : Int → Int) (nu : Int → Int) (pp : Int) (hkd : kdOK kd) (hnu : nuOK nu) (hn : 0 ≤ pn ∧ pn ≤ 4) (hp : -2147483648 ≤ pp ∧ pp ≤ 2147483647) : gMi l yX6_call wsX6_call ({ frames := 2, cells := 0, slots := 0, locals := 46 }) D G [.ref h, .int (iI pp)] [oX6 h a ft pn ra rm rP rS rD rQ al rw rc tr, cA G (a 2) 4 kd, cA G (a 3) 12 nu] 0 0 (fun (r : Int32) (w : va_W) => r = (iI (R_call pn kd pp)) ∧ w = [oX6 h a ft pn ra rm rP rS rD rQ al rw rc (T_call pn kd tr pp), cA G (a 2) 4 kd, cA G (a 3) 12 nu]) := by
  refine g_start_i (cc := cX6_call) (nL := 2) (own := RX6) (ret := some .int) (by decide +kernel) rfl rfl (Nat.le_of_ble_eq_true rfl) ?_
  intro p e s m below meth c A ls C hr hnm hw hl
  have hl : lv_has ls 2 [(0, .ref h), (1, .int (iI pp))] := hl
  have k0 := hkd pp
  refine g_aload_n C hl 0 rfl rfl dX6_call_0 ?_
  refine g_iload_n C hl 1 rfl rfl dX6_call_1 ?_
  refine g_callVi C hw (wr := [cA G (a 2) 4 kd, cA G (a 3) 12 nu]) (As := [.int (iI pp)]) (rest := []) (m_X6_noPolynomial l D G (h := h) (a := a) (ft := ft) (pn := pn) (ra := ra) (rm := rm) (rP := rP) (rS := rS) (rD := rD) (rQ := rQ) (al := al) (rw := rw) (rc := rc) (tr := tr) (pp := pp) (by first | assumption | omega) (by first | assumption | omega)) (cwV 1 C.1.2.2.2.2 gX6_call_X6_noPolynomial rfl rfl rfl (by decide +kernel) ⟨Nat.le_of_ble_eq_true rfl, Nat.le_of_ble_eq_true rfl⟩) [0] [1, 2] rfl rfl (by decide) (by decide) (by decide) 0 rfl rfl rfl hl.1 _ rfl (Nat.le_of_ble_eq_true rfl) dX6_call_2 ⟨Nat.le_of_ble_eq_true rfl, Nat.le_of_ble_eq_true rfl⟩ ?_
  clear hw
  rintro _ _ H locs ⟨rfl, rfl⟩ hw
  have hw : gW D A s.heap [cA G (a 2) 4 kd, cA G (a 3) 12 nu, oX6 h a ft pn ra rm rP rS rD rQ al rw rc tr] H locs := hw
  refine g_ifb_eq C 10 dX6_call_5 (by decide) (fun c_1 => ?_) (fun c_1 => ?_)
  · skip
    refine g_aload_n C hl 0 rfl rfl dX6_call_10 ?_
    refine g_aload_n C hl 0 rfl rfl dX6_call_11 ?_
    refine g_get C hw hin_X6_call_X6 2 rfl rfl 2 (by decide) lk_X6_call_7 rfl dX6_call_12 ?_
    refine g_iload_n C hl 1 rfl rfl dX6_call_15 ?_
    refine g_iald C hw 0 rfl (by omega) (Nat.le_of_ble_eq_true rfl) dX6_call_16 ?_
    refine g_iconst C dX6_call_17 ?_
    refine g_icmp_ne C 25 dX6_call_18 (by decide) (by omega) (by omega) (fun c_2 => ?_) (fun c_2 => ?_)
    · skip
      refine g_iconst C dX6_call_25 ?_
      refine g_callVv C hw (wr := [cA G (a 2) 4 kd, cA G (a 3) 12 nu]) (As := [.int (iI 4)]) (rest := []) (m_X6_traced l D G (h := h) (a := a) (ft := ft) (pn := pn) (ra := ra) (rm := rm) (rP := rP) (rS := rS) (rD := rD) (rQ := rQ) (al := al) (rw := rw) (rc := rc) (tr := tr) (nn := 4) ) (cwV 1 C.1.2.2.2.2 gX6_call_X6_traced rfl rfl rfl (by decide +kernel) ⟨Nat.le_of_ble_eq_true rfl, Nat.le_of_ble_eq_true rfl⟩) [2] [0, 1] rfl rfl (by decide) (by decide) (by decide) 0 rfl rfl rfl hl.1 _ rfl (Nat.le_of_ble_eq_true rfl) dX6_call_26 ⟨Nat.le_of_ble_eq_true rfl, Nat.le_of_ble_eq_true rfl⟩ ?_
      clear hw
      rintro _ H locs rfl hw
      have hw : gW D A s.heap [cA G (a 2) 4 kd, cA G (a 3) 12 nu, oX6 h a ft pn ra rm rP rS rD rQ al rw rc (31 * tr + 4)] H locs := hw
      refine g_aload_n C hl 0 rfl rfl dX6_call_29 ?_
      refine g_get C hw hin_X6_call_X6 2 rfl rfl 2 (by decide) lk_X6_call_7 rfl dX6_call_30 ?_
      refine g_iload_n C hl 1 rfl rfl dX6_call_33 ?_
      refine g_iald C hw 0 rfl (by omega) (Nat.le_of_ble_eq_true rfl) dX6_call_34 ?_
      refine g_iconst C dX6_call_35 ?_
      refine g_icmp_ne C 44 dX6_call_36 (by decide) (by omega) (by omega) (fun c_3 => ?_) (fun c_3 => ?_)
      · skip
        refine g_iload_n C hl 1 rfl rfl dX6_call_44 ?_
        exact g_iret C hr (ws' := [oX6 h a ft pn ra rm rP rS rD rQ al rw rc (31 * tr + 4), cA G (a 2) 4 kd, cA G (a 3) 12 nu]) hw [2, 0, 1] (by decide) rfl ⟨(congrArg iI (by unfold R_call; (repeat' split) <;> omega)), (by unfold T_call; (repeat' (split <;> try (exfalso; omega))) <;> first | rfl | (exfalso; omega))⟩ dX6_call_45
      · skip
        refine g_bipush C dX6_call_39 (by decide) ?_
        refine g_goto C 45 dX6_call_41 (by decide) ?_
        exact g_iret C hr (ws' := [oX6 h a ft pn ra rm rP rS rD rQ al rw rc (31 * tr + 4), cA G (a 2) 4 kd, cA G (a 3) 12 nu]) hw [2, 0, 1] (by decide) rfl ⟨(congrArg iI (by unfold R_call; (repeat' split) <;> omega)), (by unfold T_call; (repeat' (split <;> try (exfalso; omega))) <;> first | rfl | (exfalso; omega))⟩ dX6_call_45
    · skip
      refine g_iconst C dX6_call_21 ?_
      refine g_goto C 26 dX6_call_22 (by decide) ?_
      refine g_callVv C hw (wr := [cA G (a 2) 4 kd, cA G (a 3) 12 nu]) (As := [.int (iI 5)]) (rest := []) (m_X6_traced l D G (h := h) (a := a) (ft := ft) (pn := pn) (ra := ra) (rm := rm) (rP := rP) (rS := rS) (rD := rD) (rQ := rQ) (al := al) (rw := rw) (rc := rc) (tr := tr) (nn := 5) ) (cwV 1 C.1.2.2.2.2 gX6_call_X6_traced rfl rfl rfl (by decide +kernel) ⟨Nat.le_of_ble_eq_true rfl, Nat.le_of_ble_eq_true rfl⟩) [2] [0, 1] rfl rfl (by decide) (by decide) (by decide) 0 rfl rfl rfl hl.1 _ rfl (Nat.le_of_ble_eq_true rfl) dX6_call_26 ⟨Nat.le_of_ble_eq_true rfl, Nat.le_of_ble_eq_true rfl⟩ ?_
      clear hw
      rintro _ H locs rfl hw
      have hw : gW D A s.heap [cA G (a 2) 4 kd, cA G (a 3) 12 nu, oX6 h a ft pn ra rm rP rS rD rQ al rw rc (31 * tr + 5)] H locs := hw
      refine g_aload_n C hl 0 rfl rfl dX6_call_29 ?_
      refine g_get C hw hin_X6_call_X6 2 rfl rfl 2 (by decide) lk_X6_call_7 rfl dX6_call_30 ?_
      refine g_iload_n C hl 1 rfl rfl dX6_call_33 ?_
      refine g_iald C hw 0 rfl (by omega) (Nat.le_of_ble_eq_true rfl) dX6_call_34 ?_
      refine g_iconst C dX6_call_35 ?_
      refine g_icmp_ne C 44 dX6_call_36 (by decide) (by omega) (by omega) (fun c_4 => ?_) (fun c_4 => ?_)
      · skip
        refine g_iload_n C hl 1 rfl rfl dX6_call_44 ?_
        exact g_iret C hr (ws' := [oX6 h a ft pn ra rm rP rS rD rQ al rw rc (31 * tr + 5), cA G (a 2) 4 kd, cA G (a 3) 12 nu]) hw [2, 0, 1] (by decide) rfl ⟨(congrArg iI (by unfold R_call; (repeat' split) <;> omega)), (by unfold T_call; (repeat' (split <;> try (exfalso; omega))) <;> first | rfl | (exfalso; omega))⟩ dX6_call_45
      · skip
        refine g_bipush C dX6_call_39 (by decide) ?_
        refine g_goto C 45 dX6_call_41 (by decide) ?_
        exact g_iret C hr (ws' := [oX6 h a ft pn ra rm rP rS rD rQ al rw rc (31 * tr + 5), cA G (a 2) 4 kd, cA G (a 3) 12 nu]) hw [2, 0, 1] (by decide) rfl ⟨(congrArg iI (by unfold R_call; (repeat' split) <;> omega)), (by unfold T_call; (repeat' (split <;> try (exfalso; omega))) <;> first | rfl | (exfalso; omega))⟩ dX6_call_45
  · skip
    refine g_iconst C dX6_call_8 ?_
    exact g_iret C hr (ws' := [oX6 h a ft pn ra rm rP rS rD rQ al rw rc tr, cA G (a 2) 4 kd, cA G (a 3) 12 nu]) hw [2, 0, 1] (by decide) rfl ⟨(congrArg iI (by unfold R_call; (repeat' split) <;> omega)), (by unfold T_call; (repeat' (split <;> try (exfalso; omega))) <;> first | rfl | (exfalso; omega))⟩ dX6_call_9

set_option maxRecDepth 20000 in
theorem cn_X6_as_117 : Jvm.Cond.constantLong RX6 117 (2) ∈ wsX6_as := List.mem_cons_of_mem _ (List.mem_append_left _ (List.mem_of_getElem? (i := 0) rfl))
set_option maxRecDepth 20000 in
theorem hin_X6_as_X6 : ∀ w ∈ u_ws RX6 TX6 30, w ∈ wsX6_as := by
  intro w h
  exact List.mem_cons_of_mem _ (List.mem_append_right _ (h))
set_option maxRecDepth 20000 in
theorem lk_X6_as_7 : Cond.fieldLink RX6 7 (TX6 2).1 (TX6 2).2.1 (TX6 2).2.2.1 ∈ wsX6_as := List.mem_cons_of_mem _ (List.mem_append_left _ (List.mem_of_getElem? (i := 1) rfl))
set_option maxRecDepth 100000 in
set_option maxHeartbeats 8000000 in
theorem m_X6_as (l : Launch) (D : va_G) (G : gT) (h : Nat) (a : Nat → Nat) (ft : Int) (pn : Int) (ra : Int) (rm : Int) (rP : Int) (rS : Int) (rD : Int) (rQ : Int) (al : Int) (rw : Int) (rc : Int) (tr : Int) (kd : Int → Int) (nu : Int → Int) (pp : Int) (kk : Int) (hkd : kdOK kd) (hnu : nuOK nu) (hn : 0 ≤ pn ∧ pn ≤ 4) (hp : -2147483648 ≤ pp ∧ pp ≤ 2147483647) (hk : -2147483648 ≤ kk ∧ kk ≤ 2147483647) : gMi l yX6_as wsX6_as ({ frames := 2, cells := 0, slots := 0, locals := 46 }) D G [.ref h, .int (iI pp), .int (iI kk)] [oX6 h a ft pn ra rm rP rS rD rQ al rw rc tr, cA G (a 2) 4 kd, cA G (a 3) 12 nu] 0 0 (fun (r : Int32) (w : va_W) => r = (iI (R_as pn kd pp kk)) ∧ w = [oX6 h a (F_as pn kd pp kk) pn ra rm rP rS rD rQ al rw rc tr, cA G (a 2) 4 kd, cA G (a 3) 12 nu]) := by
  refine g_start_i (cc := cX6_as) (nL := 3) (own := RX6) (ret := some .int) (by decide +kernel) rfl rfl (Nat.le_of_ble_eq_true rfl) ?_
  intro p e s m below meth c A ls C hr hnm hw hl
  have hl : lv_has ls 3 [(0, .ref h), (1, .int (iI pp)), (2, .int (iI kk))] := hl
  have k0 := hkd pp
  refine g_aload_n C hl 0 rfl rfl dX6_as_0 ?_
  refine g_iload_n C hl 1 rfl rfl dX6_as_1 ?_
  refine g_callVi C hw (wr := [cA G (a 2) 4 kd, cA G (a 3) 12 nu]) (As := [.int (iI pp)]) (rest := []) (m_X6_noPolynomial l D G (h := h) (a := a) (ft := ft) (pn := pn) (ra := ra) (rm := rm) (rP := rP) (rS := rS) (rD := rD) (rQ := rQ) (al := al) (rw := rw) (rc := rc) (tr := tr) (pp := pp) (by first | assumption | omega) (by first | assumption | omega)) (cwV 1 C.1.2.2.2.2 gX6_as_X6_noPolynomial rfl rfl rfl (by decide +kernel) ⟨Nat.le_of_ble_eq_true rfl, Nat.le_of_ble_eq_true rfl⟩) [0] [1, 2] rfl rfl (by decide) (by decide) (by decide) 0 rfl rfl rfl hl.1 _ rfl (Nat.le_of_ble_eq_true rfl) dX6_as_2 ⟨Nat.le_of_ble_eq_true rfl, Nat.le_of_ble_eq_true rfl⟩ ?_
  clear hw
  rintro _ _ H locs ⟨rfl, rfl⟩ hw
  have hw : gW D A s.heap [cA G (a 2) 4 kd, cA G (a 3) 12 nu, oX6 h a ft pn ra rm rP rS rD rQ al rw rc tr] H locs := hw
  refine g_ifb_eq C 14 dX6_as_5 (by decide) (fun c_1 => ?_) (fun c_1 => ?_)
  · skip
    refine g_iload_n C hl 2 rfl rfl dX6_as_14 ?_
    refine g_i2l C dX6_as_15 (by omega) ?_
    refine g_lconst0 C dX6_as_16 ?_
    refine g_ldc2 C (2) cn_X6_as_117 (by decide +kernel) dX6_as_17 ?_
    refine g_callSi C hw (wr := [cA G (a 2) 4 kd, cA G (a 3) 12 nu, oX6 h a ft pn ra rm rP rS rD rQ al rw rc tr]) (As := [.long (lI (kk)), .long (lI (0)), .long (lI (2))]) (rest := []) (m_X6_in l D G (va := kk) (vb := 0) (vc := 2) (by first | assumption | omega) (by first | assumption | omega) (by first | assumption | omega)) (va_cwS 3 C.1.2.2.2.2 gX6_as_X6_in rfl rfl rfl (by decide +kernel) ⟨Nat.le_of_ble_eq_true rfl, Nat.le_of_ble_eq_true rfl⟩) [] [0, 1, 2] rfl rfl (by decide) (by decide) (by decide) rfl hl.1 _ rfl (Nat.le_of_ble_eq_true rfl) dX6_as_20 ⟨Nat.le_of_ble_eq_true rfl, Nat.le_of_ble_eq_true rfl⟩ ?_
    clear hw
    rintro _ _ H locs ⟨rfl, rfl⟩ hw
    have hw : gW D A s.heap [cA G (a 2) 4 kd, cA G (a 3) 12 nu, oX6 h a ft pn ra rm rP rS rD rQ al rw rc tr] H locs := hw
    refine g_ifb_ne C 33 dX6_as_23 (by decide) (fun c_2 => ?_) (fun c_2 => ?_)
    · skip
      refine g_aload_n C hl 0 rfl rfl dX6_as_33 ?_
      refine g_get C hw hin_X6_as_X6 2 rfl rfl 2 (by decide) lk_X6_as_7 rfl dX6_as_34 ?_
      refine g_iload_n C hl 1 rfl rfl dX6_as_37 ?_
      refine g_iald C hw 0 rfl (by omega) (Nat.le_of_ble_eq_true rfl) dX6_as_38 ?_
      refine g_iload_n C hl 2 rfl rfl dX6_as_39 ?_
      refine g_icmp_lt C 51 dX6_as_40 (by decide) (by omega) (by omega) (fun c_3 => ?_) (fun c_3 => ?_)
      · skip
        refine g_aload_n C hl 0 rfl rfl dX6_as_51 ?_
        refine g_iconst C dX6_as_52 ?_
        refine g_callVi C hw (wr := [cA G (a 2) 4 kd, cA G (a 3) 12 nu]) (As := [.int (iI 2)]) (rest := []) (m_X6_failed l D G (h := h) (a := a) (ft := ft) (pn := pn) (ra := ra) (rm := rm) (rP := rP) (rS := rS) (rD := rD) (rQ := rQ) (al := al) (rw := rw) (rc := rc) (tr := tr) (fv := 2) ) (cwV 1 C.1.2.2.2.2 gX6_as_X6_failed rfl rfl rfl (by decide +kernel) ⟨Nat.le_of_ble_eq_true rfl, Nat.le_of_ble_eq_true rfl⟩) [2] [0, 1] rfl rfl (by decide) (by decide) (by decide) 0 rfl rfl rfl hl.1 _ rfl (Nat.le_of_ble_eq_true rfl) dX6_as_53 ⟨Nat.le_of_ble_eq_true rfl, Nat.le_of_ble_eq_true rfl⟩ ?_
        clear hw
        rintro _ _ H locs ⟨rfl, rfl⟩ hw
        have hw : gW D A s.heap [cA G (a 2) 4 kd, cA G (a 3) 12 nu, oX6 h a 2 pn ra rm rP rS rD rQ al rw rc tr] H locs := hw
        exact g_iret C hr (ws' := [oX6 h a 2 pn ra rm rP rS rD rQ al rw rc tr, cA G (a 2) 4 kd, cA G (a 3) 12 nu]) hw [2, 0, 1] (by decide) rfl ⟨(congrArg iI (by unfold R_as; (repeat' split) <;> omega)), (by unfold F_as; (repeat' (split <;> try (exfalso; omega))) <;> first | rfl | (exfalso; omega))⟩ dX6_as_56
      · skip
        refine g_aload_n C hl 0 rfl rfl dX6_as_43 ?_
        refine g_iconst C dX6_as_44 ?_
        refine g_callVi C hw (wr := [cA G (a 2) 4 kd, cA G (a 3) 12 nu]) (As := [.int (iI 1)]) (rest := []) (m_X6_refused l D G (h := h) (a := a) (ft := ft) (pn := pn) (ra := ra) (rm := rm) (rP := rP) (rS := rS) (rD := rD) (rQ := rQ) (al := al) (rw := rw) (rc := rc) (tr := tr) (cd := 1) ) (cwV 1 C.1.2.2.2.2 gX6_as_X6_refused rfl rfl rfl (by decide +kernel) ⟨Nat.le_of_ble_eq_true rfl, Nat.le_of_ble_eq_true rfl⟩) [2] [0, 1] rfl rfl (by decide) (by decide) (by decide) 0 rfl rfl rfl hl.1 _ rfl (Nat.le_of_ble_eq_true rfl) dX6_as_45 ⟨Nat.le_of_ble_eq_true rfl, Nat.le_of_ble_eq_true rfl⟩ ?_
        clear hw
        rintro _ _ H locs ⟨rfl, rfl⟩ hw
        have hw : gW D A s.heap [cA G (a 2) 4 kd, cA G (a 3) 12 nu, oX6 h a 0 pn ra rm rP rS rD rQ al rw rc tr] H locs := hw
        refine g_goto C 56 dX6_as_48 (by decide) ?_
        exact g_iret C hr (ws' := [oX6 h a 0 pn ra rm rP rS rD rQ al rw rc tr, cA G (a 2) 4 kd, cA G (a 3) 12 nu]) hw [2, 0, 1] (by decide) rfl ⟨(congrArg iI (by unfold R_as; (repeat' split) <;> omega)), (by unfold F_as; (repeat' (split <;> try (exfalso; omega))) <;> first | rfl | (exfalso; omega))⟩ dX6_as_56
    · skip
      refine g_aload_n C hl 0 rfl rfl dX6_as_26 ?_
      refine g_bipush C dX6_as_27 (by decide) ?_
      refine g_callVi C hw (wr := [cA G (a 2) 4 kd, cA G (a 3) 12 nu]) (As := [.int (iI ((-2)))]) (rest := []) (m_X6_refused l D G (h := h) (a := a) (ft := ft) (pn := pn) (ra := ra) (rm := rm) (rP := rP) (rS := rS) (rD := rD) (rQ := rQ) (al := al) (rw := rw) (rc := rc) (tr := tr) (cd := (-2)) ) (cwV 1 C.1.2.2.2.2 gX6_as_X6_refused rfl rfl rfl (by decide +kernel) ⟨Nat.le_of_ble_eq_true rfl, Nat.le_of_ble_eq_true rfl⟩) [2] [0, 1] rfl rfl (by decide) (by decide) (by decide) 0 rfl rfl rfl hl.1 _ rfl (Nat.le_of_ble_eq_true rfl) dX6_as_29 ⟨Nat.le_of_ble_eq_true rfl, Nat.le_of_ble_eq_true rfl⟩ ?_
      clear hw
      rintro _ _ H locs ⟨rfl, rfl⟩ hw
      have hw : gW D A s.heap [cA G (a 2) 4 kd, cA G (a 3) 12 nu, oX6 h a 0 pn ra rm rP rS rD rQ al rw rc tr] H locs := hw
      exact g_iret C hr (ws' := [oX6 h a 0 pn ra rm rP rS rD rQ al rw rc tr, cA G (a 2) 4 kd, cA G (a 3) 12 nu]) hw [2, 0, 1] (by decide) rfl ⟨(congrArg iI (by unfold R_as; (repeat' split) <;> omega)), (by unfold F_as; (repeat' (split <;> try (exfalso; omega))) <;> first | rfl | (exfalso; omega))⟩ dX6_as_32
  · skip
    refine g_aload_n C hl 0 rfl rfl dX6_as_8 ?_
    refine g_iconst C dX6_as_9 ?_
    refine g_callVi C hw (wr := [cA G (a 2) 4 kd, cA G (a 3) 12 nu]) (As := [.int (iI ((-1)))]) (rest := []) (m_X6_refused l D G (h := h) (a := a) (ft := ft) (pn := pn) (ra := ra) (rm := rm) (rP := rP) (rS := rS) (rD := rD) (rQ := rQ) (al := al) (rw := rw) (rc := rc) (tr := tr) (cd := (-1)) ) (cwV 1 C.1.2.2.2.2 gX6_as_X6_refused rfl rfl rfl (by decide +kernel) ⟨Nat.le_of_ble_eq_true rfl, Nat.le_of_ble_eq_true rfl⟩) [2] [0, 1] rfl rfl (by decide) (by decide) (by decide) 0 rfl rfl rfl hl.1 _ rfl (Nat.le_of_ble_eq_true rfl) dX6_as_10 ⟨Nat.le_of_ble_eq_true rfl, Nat.le_of_ble_eq_true rfl⟩ ?_
    clear hw
    rintro _ _ H locs ⟨rfl, rfl⟩ hw
    have hw : gW D A s.heap [cA G (a 2) 4 kd, cA G (a 3) 12 nu, oX6 h a 0 pn ra rm rP rS rD rQ al rw rc tr] H locs := hw
    exact g_iret C hr (ws' := [oX6 h a 0 pn ra rm rP rS rD rQ al rw rc tr, cA G (a 2) 4 kd, cA G (a 3) 12 nu]) hw [2, 0, 1] (by decide) rfl ⟨(congrArg iI (by unfold R_as; (repeat' split) <;> omega)), (by unfold F_as; (repeat' (split <;> try (exfalso; omega))) <;> first | rfl | (exfalso; omega))⟩ dX6_as_13
