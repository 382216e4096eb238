set_option maxRecDepth 20000 in
theorem cn_X6_signInSpot_117 : Jvm.Cond.constantLong RX6 117 (2) ∈ wsX6_signInSpot := List.mem_cons_of_mem _ (List.mem_append_left _ (List.mem_append_left _ (List.mem_of_getElem? (i := 0) rfl)))
set_option maxRecDepth 100000 in
set_option maxHeartbeats 8000000 in
theorem m_X6_signInSpot (l : Launch) (D : va_G) (G : gT) (h : Nat) (a : Nat → Nat) (ft : Int) (pn : Int) (ra : Int) (rm : Int) (rP : Int) (rS : Int) (rD : Int) (rQ : Int) (al : Int) (rw : Int) (rc : Int) (tr : Int) (kd : Int → Int) (nu : Int → Int) (vP : Int → Int) (vS : Int → Int) (vD : Int → Int) (vQ : Int → Int) (kk : Int) (pp : Int) (hkd : kdOK kd) (hnu : nuOK nu) (hn : 0 ≤ pn ∧ pn ≤ 4) (hp : 0 ≤ pp ∧ pp < pn) (hal : al = ((ALn (exT pn kd nu) pn.toNat).length : Int)) (hM : MR (exT pn kd nu) (ALn (exT pn kd nu) pn.toNat) vP vS vD vQ) (hkk : 0 ≤ kk ∧ kk ≤ 2 * al) : gMi l yX6_signInSpot wsX6_signInSpot ({ frames := 4, cells := 0, slots := 0, locals := 101 }) D G [.ref h, .int (iI kk), .int (iI pp)] [oX6 h a ft pn ra rm rP rS rD rQ al rw rc tr, cA G (a 2) 4 kd, cA G (a 3) 12 nu, cJ G (a 13) 8 vP, cJ G (a 14) 8 vS, cJ G (a 15) 8 vD, cJ G (a 16) 8 vQ] 0 0 (fun (r : Int32) (w : va_W) => ∃ (r2P : Int) (r2S : Int) (r2D : Int) (r2Q : Int), r = (iI (sSp (exT pn kd nu) (ALn (exT pn kd nu) pn.toNat) kk pp)) ∧ w = [oX6 h a ft pn ra rm r2P r2S r2D r2Q al rw rc tr, cA G (a 2) 4 kd, cA G (a 3) 12 nu, cJ G (a 13) 8 vP, cJ G (a 14) 8 vS, cJ G (a 15) 8 vD, cJ G (a 16) 8 vQ]) := by
  refine g_start_i (cc := cX6_signInSpot) (nL := 5) (own := RX6) (ret := some .int) (by decide +kernel) rfl rfl (Nat.le_of_ble_eq_true rfl) ?_
  intro p e s m below meth c A ls C hr hnm hw hl
  have hl : lv_has ls 5 [(0, .ref h), (1, .int (iI kk)), (2, .int (iI pp))] := hl
  have hE := exT_B pn kd hnu
  obtain ⟨e0, e1, e2⟩ := hE pp
  have hdb := dsc_b hE pp
  have hlen := ALn_len (exT pn kd nu) pn.toNat
  have hs0 := sg_r (exT pn kd nu pp 0)
  have hs1 := sg_r (exT pn kd nu pp 1)
  have hs2 := sg_r (exT pn kd nu pp 2)
  refine g_iload_n C hl 1 rfl rfl dX6_signInSpot_0 ?_
  refine g_if_ne C 61 dX6_signInSpot_1 (by decide) (by omega) (fun c_1 => ?_) (fun c_1 => ?_)
  · skip
    obtain ⟨t, ht, htm, hte⟩ := MR_at hM (k := (kk - 1) / 2) ⟨by omega, by omega⟩
    have hrt0 := isRt_ok hE (ALn_mem (exT pn kd nu) pn.toNat t htm)
    have hrt : rtOK (vP ((kk - 1) / 2)) (vS ((kk - 1) / 2)) (vD ((kk - 1) / 2)) (vQ ((kk - 1) / 2)) := by rw [hte.1, hte.2.1, hte.2.2.1, hte.2.2.2]; exact hrt0
    have hgd : (ALn (exT pn kd nu) pn.toNat).getD ((kk - 1) / 2).toNat 0 = t := by rw [List.getD_eq_getElem?_getD, ht]; rfl
    have hr9 := sRt_r (exT pn kd nu) t pp
    have hr8 := sAt_r (exT pn kd nu pp 1) (2 * exT pn kd nu pp 2) 0 (qP (exT pn kd nu) t) (qS (exT pn kd nu) t) (qD (exT pn kd nu) t) (qQ (exT pn kd nu) t)
    refine g_aload_n C hl 0 rfl rfl dX6_signInSpot_61 ?_
    refine g_iload_n C hl 1 rfl rfl dX6_signInSpot_62 ?_
    refine g_iconst C dX6_signInSpot_63 ?_
    refine g_isub C dX6_signInSpot_64 ?_
    refine g_iconst C dX6_signInSpot_65 ?_
    refine g_idiv C dX6_signInSpot_66 (by omega) (by omega) ?_
    refine g_nI (show ((kk - 1).tdiv 2 : Int) = (kk - 1) / 2 by exact Int.tdiv_eq_ediv_of_nonneg (by omega)) ?_
    refine g_callVv C hw (wr := [cA G (a 2) 4 kd, cA G (a 3) 12 nu]) (As := [.int (iI ((kk - 1) / 2))]) (rest := []) (m_X6_takesOf l D G (h := h) (a := a) (ft := ft) (pn := pn) (ra := ra) (rm := rm) (rP := rP) (rS := rS) (rD := rD) (rQ := rQ) (al := al) (rw := rw) (rc := rc) (tr := tr) (vP := vP) (vS := vS) (vD := vD) (vQ := vQ) (kk := ((kk - 1) / 2)) (by first | assumption | omega)) (cwV 1 C.1.2.2.2.2 gX6_signInSpot_X6_takesOf rfl rfl rfl (by decide +kernel) ⟨Nat.le_of_ble_eq_true rfl, Nat.le_of_ble_eq_true rfl⟩) [0, 3, 4, 5, 6] [1, 2] rfl rfl (by decide) (by decide) (by decide) 0 rfl rfl rfl hl.1 _ rfl (Nat.le_of_ble_eq_true rfl) dX6_signInSpot_67 ⟨Nat.le_of_ble_eq_true rfl, Nat.le_of_ble_eq_true rfl⟩ ?_
    clear hw
    rintro _ H locs rfl hw
    have hw : gW D A s.heap [cA G (a 2) 4 kd, cA G (a 3) 12 nu, oX6 h a ft pn ra rm (vP ((kk - 1) / 2)) (vS ((kk - 1) / 2)) (vD ((kk - 1) / 2)) (vQ ((kk - 1) / 2)) al rw rc tr, cJ G (a 13) 8 vP, cJ G (a 14) 8 vS, cJ G (a 15) 8 vD, cJ G (a 16) 8 vQ] H locs := hw
    refine g_aload_n C hl 0 rfl rfl dX6_signInSpot_70 ?_
    refine g_iload_n C hl 2 rfl rfl dX6_signInSpot_71 ?_
    refine g_callVi C hw (wr := [cJ G (a 13) 8 vP, cJ G (a 14) 8 vS, cJ G (a 15) 8 vD, cJ G (a 16) 8 vQ]) (As := [.int (iI pp)]) (rest := []) (m_X6_signOfAt l D G (h := h) (a := a) (ft := ft) (pn := pn) (ra := ra) (rm := rm) (rP := (vP ((kk - 1) / 2))) (rS := (vS ((kk - 1) / 2))) (rD := (vD ((kk - 1) / 2))) (rQ := (vQ ((kk - 1) / 2))) (al := al) (rw := rw) (rc := rc) (tr := tr) (kd := kd) (nu := nu) (pp := pp) (by first | assumption | omega) (by first | assumption | omega) (by first | assumption | omega) (by first | assumption | omega) (by first | assumption | omega)) (cwV 1 C.1.2.2.2.2 gX6_signInSpot_X6_signOfAt rfl rfl rfl (by decide +kernel) ⟨Nat.le_of_ble_eq_true rfl, Nat.le_of_ble_eq_true rfl⟩) [2, 0, 1] [3, 4, 5, 6] rfl rfl (by decide) (by decide) (by decide) 0 rfl rfl rfl hl.1 _ rfl (Nat.le_of_ble_eq_true rfl) dX6_signInSpot_72 ⟨Nat.le_of_ble_eq_true rfl, Nat.le_of_ble_eq_true rfl⟩ ?_
    clear hw
    rintro _ _ H locs ⟨rfl, rfl⟩ hw
    have hw : gW D A s.heap [cJ G (a 13) 8 vP, cJ G (a 14) 8 vS, cJ G (a 15) 8 vD, cJ G (a 16) 8 vQ, oX6 h a ft pn ra rm (vP ((kk - 1) / 2)) (vS ((kk - 1) / 2)) (vD ((kk - 1) / 2)) (vQ ((kk - 1) / 2)) al rw rc tr, cA G (a 2) 4 kd, cA G (a 3) 12 nu] H locs := hw
    refine g_nI (show ((sAt (exT pn kd nu pp 0) (exT pn kd nu pp 1) (exT pn kd nu pp 2) (vP ((kk - 1) / 2)) (vS ((kk - 1) / 2)) (vD ((kk - 1) / 2)) (vQ ((kk - 1) / 2))) : Int) = sRt (exT pn kd nu) t pp by rw [hte.1, hte.2.1, hte.2.2.1, hte.2.2.2]; rfl) ?_
    refine g_istore_n C [(3, .int (iI (sRt (exT pn kd nu) t pp))), (0, .ref h), (1, .int (iI kk)), (2, .int (iI pp))] dX6_signInSpot_75 rfl hl (by decide) rfl ?_
    clear hl
    intro ls hl
    refine g_iload_n C hl 2 rfl rfl dX6_signInSpot_76 ?_
    refine g_iconst C dX6_signInSpot_77 ?_
    refine g_irem C dX6_signInSpot_78 (by omega) (by omega) ?_
    refine g_nI (show (kk - kk.tdiv 2 * 2 : Int) = kk % 2 by rw [Int.tdiv_eq_ediv_of_nonneg (by omega)]; omega) ?_
    refine g_iconst C dX6_signInSpot_79 ?_
    refine g_icmp_eq C 87 dX6_signInSpot_80 (by decide) (by omega) (by omega) (fun c_2 => ?_) (fun c_2 => ?_)
    · skip
      refine g_iload_n C hl 0 rfl rfl dX6_signInSpot_87 ?_
      exact g_iret C hr (ws' := [oX6 h a ft pn ra rm (vP ((kk - 1) / 2)) (vS ((kk - 1) / 2)) (vD ((kk - 1) / 2)) (vQ ((kk - 1) / 2)) al rw rc tr, cA G (a 2) 4 kd, cA G (a 3) 12 nu, cJ G (a 13) 8 vP, cJ G (a 14) 8 vS, cJ G (a 15) 8 vD, cJ G (a 16) 8 vQ]) hw [4, 5, 6, 0, 1, 2, 3] (by decide) rfl ⟨(vP ((kk - 1) / 2)), (vS ((kk - 1) / 2)), (vD ((kk - 1) / 2)), (vQ ((kk - 1) / 2)), (congrArg iI (by unfold sSp; rw [hgd]; unfold sBh; (repeat' split) <;> omega)), rfl⟩ dX6_signInSpot_88
    · skip
      refine g_iload_n C hl 0 rfl rfl dX6_signInSpot_83 ?_
      refine g_if_eq C 89 dX6_signInSpot_84 (by decide) (by omega) (fun c_3 => ?_) (fun c_3 => ?_)
      · skip
        refine g_aload_n C hl 1 rfl rfl dX6_signInSpot_89 ?_
        refine g_aload_n C hl 1 rfl rfl dX6_signInSpot_90 ?_
        refine g_iload_n C hl 3 rfl rfl dX6_signInSpot_91 ?_
        refine g_iconst C dX6_signInSpot_92 ?_
        refine g_callVl C hw (wr := [cJ G (a 13) 8 vP, cJ G (a 14) 8 vS, cJ G (a 15) 8 vD, cJ G (a 16) 8 vQ]) (As := [.int (iI pp), .int (iI 1)]) (rest := [.ref h]) (m_X6_is l D G (h := h) (a := a) (ft := ft) (pn := pn) (ra := ra) (rm := rm) (rP := (vP ((kk - 1) / 2))) (rS := (vS ((kk - 1) / 2))) (rD := (vD ((kk - 1) / 2))) (rQ := (vQ ((kk - 1) / 2))) (al := al) (rw := rw) (rc := rc) (tr := tr) (kd := kd) (nu := nu) (pp := pp) (kk := 1) (by first | assumption | omega) (by first | assumption | omega) (by first | assumption | omega) (by first | assumption | omega) (by first | assumption | omega)) (cwV 2 C.1.2.2.2.2 gX6_signInSpot_X6_is rfl rfl rfl (by decide +kernel) ⟨Nat.le_of_ble_eq_true rfl, Nat.le_of_ble_eq_true rfl⟩) [4, 5, 6] [0, 1, 2, 3] rfl rfl (by decide) (by decide) (by decide) 0 rfl rfl rfl hl.1 _ rfl (Nat.le_of_ble_eq_true rfl) dX6_signInSpot_93 ⟨Nat.le_of_ble_eq_true rfl, Nat.le_of_ble_eq_true rfl⟩ ?_
        clear hw
        rintro _ _ H locs ⟨rfl, rfl⟩ hw
        have hw : gW D A s.heap [cJ G (a 13) 8 vP, cJ G (a 14) 8 vS, cJ G (a 15) 8 vD, cJ G (a 16) 8 vQ, oX6 h a ft pn ra rm (vP ((kk - 1) / 2)) (vS ((kk - 1) / 2)) (vD ((kk - 1) / 2)) (vQ ((kk - 1) / 2)) al rw rc tr, cA G (a 2) 4 kd, cA G (a 3) 12 nu] H locs := hw
        refine g_ldc2 C (2) cn_X6_signInSpot_117 (by decide +kernel) dX6_signInSpot_96 ?_
        refine g_aload_n C hl 1 rfl rfl dX6_signInSpot_99 ?_
        refine g_iload_n C hl 3 rfl rfl dX6_signInSpot_100 ?_
        refine g_iconst C dX6_signInSpot_101 ?_
        refine g_callVl C hw (wr := [cJ G (a 13) 8 vP, cJ G (a 14) 8 vS, cJ G (a 15) 8 vD, cJ G (a 16) 8 vQ]) (As := [.int (iI pp), .int (iI 2)]) (rest := [.long (lI (2)), .long (lI ((exT pn kd nu pp 1))), .ref h]) (m_X6_is l D G (h := h) (a := a) (ft := ft) (pn := pn) (ra := ra) (rm := rm) (rP := (vP ((kk - 1) / 2))) (rS := (vS ((kk - 1) / 2))) (rD := (vD ((kk - 1) / 2))) (rQ := (vQ ((kk - 1) / 2))) (al := al) (rw := rw) (rc := rc) (tr := tr) (kd := kd) (nu := nu) (pp := pp) (kk := 2) (by first | assumption | omega) (by first | assumption | omega) (by first | assumption | omega) (by first | assumption | omega) (by first | assumption | omega)) (cwV 2 C.1.2.2.2.2 gX6_signInSpot_X6_is rfl rfl rfl (by decide +kernel) ⟨Nat.le_of_ble_eq_true rfl, Nat.le_of_ble_eq_true rfl⟩) [4, 5, 6] [0, 1, 2, 3] rfl rfl (by decide) (by decide) (by decide) 0 rfl rfl rfl hl.1 _ rfl (Nat.le_of_ble_eq_true rfl) dX6_signInSpot_102 ⟨Nat.le_of_ble_eq_true rfl, Nat.le_of_ble_eq_true rfl⟩ ?_
        clear hw
        rintro _ _ H locs ⟨rfl, rfl⟩ hw
        have hw : gW D A s.heap [cJ G (a 13) 8 vP, cJ G (a 14) 8 vS, cJ G (a 15) 8 vD, cJ G (a 16) 8 vQ, oX6 h a ft pn ra rm (vP ((kk - 1) / 2)) (vS ((kk - 1) / 2)) (vD ((kk - 1) / 2)) (vQ ((kk - 1) / 2)) al rw rc tr, cA G (a 2) 4 kd, cA G (a 3) 12 nu] H locs := hw
        refine g_lmul C dX6_signInSpot_105 ?_
        refine g_lconst0 C dX6_signInSpot_106 ?_
        refine g_callVi C hw (wr := [cJ G (a 13) 8 vP, cJ G (a 14) 8 vS, cJ G (a 15) 8 vD, cJ G (a 16) 8 vQ, cA G (a 2) 4 kd, cA G (a 3) 12 nu]) (As := [.long (lI ((exT pn kd nu pp 1))), .long (lI (2 * (exT pn kd nu pp 2))), .long (lI (0))]) (rest := []) (m_X6_signHere l D G (h := h) (a := a) (ft := ft) (pn := pn) (ra := ra) (rm := rm) (rP := (vP ((kk - 1) / 2))) (rS := (vS ((kk - 1) / 2))) (rD := (vD ((kk - 1) / 2))) (rQ := (vQ ((kk - 1) / 2))) (al := al) (rw := rw) (rc := rc) (tr := tr) (cc0 := (exT pn kd nu pp 1)) (bb := (2 * (exT pn kd nu pp 2))) (aa := 0) (by first | assumption | omega) (by first | assumption | omega) (by first | assumption | omega) (by first | assumption | omega)) (cwV 3 C.1.2.2.2.2 gX6_signInSpot_X6_signHere rfl rfl rfl (by decide +kernel) ⟨Nat.le_of_ble_eq_true rfl, Nat.le_of_ble_eq_true rfl⟩) [4] [0, 1, 2, 3, 5, 6] rfl rfl (by decide) (by decide) (by decide) 0 rfl rfl rfl hl.1 _ rfl (Nat.le_of_ble_eq_true rfl) dX6_signInSpot_107 ⟨Nat.le_of_ble_eq_true rfl, Nat.le_of_ble_eq_true rfl⟩ ?_
        clear hw
        rintro _ _ H locs ⟨rfl, rfl⟩ hw
        have hw : gW D A s.heap [cJ G (a 13) 8 vP, cJ G (a 14) 8 vS, cJ G (a 15) 8 vD, cJ G (a 16) 8 vQ, cA G (a 2) 4 kd, cA G (a 3) 12 nu, oX6 h a ft pn ra rm (vP ((kk - 1) / 2)) (vS ((kk - 1) / 2)) (vD ((kk - 1) / 2)) (vQ ((kk - 1) / 2)) al rw rc tr] H locs := hw
        refine g_nI (show ((sAt (exT pn kd nu pp 1) (2 * (exT pn kd nu pp 2)) 0 (vP ((kk - 1) / 2)) (vS ((kk - 1) / 2)) (vD ((kk - 1) / 2)) (vQ ((kk - 1) / 2))) : Int) = sAt (exT pn kd nu pp 1) (2 * exT pn kd nu pp 2) 0 (qP (exT pn kd nu) t) (qS (exT pn kd nu) t) (qD (exT pn kd nu) t) (qQ (exT pn kd nu) t) by rw [hte.1, hte.2.1, hte.2.2.1, hte.2.2.2]) ?_
        refine g_istore C [(4, .int (iI (sAt (exT pn kd nu pp 1) (2 * exT pn kd nu pp 2) 0 (qP (exT pn kd nu) t) (qS (exT pn kd nu) t) (qD (exT pn kd nu) t) (qQ (exT pn kd nu) t)))), (3, .int (iI (sRt (exT pn kd nu) t pp))), (0, .ref h), (1, .int (iI kk)), (2, .int (iI pp))] dX6_signInSpot_110 hl (by decide) rfl ?_
        clear hl
        intro ls hl
        refine g_iload C hl 0 rfl dX6_signInSpot_112 ?_
        refine g_if_eq C 122 dX6_signInSpot_114 (by decide) (by omega) (fun c_4 => ?_) (fun c_4 => ?_)
        · skip
          refine g_aload_n C hl 2 rfl rfl dX6_signInSpot_122 ?_
          refine g_iload_n C hl 4 rfl rfl dX6_signInSpot_123 ?_
          refine g_iconst C dX6_signInSpot_124 ?_
          refine g_callVl C hw (wr := [cJ G (a 13) 8 vP, cJ G (a 14) 8 vS, cJ G (a 15) 8 vD, cJ G (a 16) 8 vQ]) (As := [.int (iI pp), .int (iI 2)]) (rest := []) (m_X6_is l D G (h := h) (a := a) (ft := ft) (pn := pn) (ra := ra) (rm := rm) (rP := (vP ((kk - 1) / 2))) (rS := (vS ((kk - 1) / 2))) (rD := (vD ((kk - 1) / 2))) (rQ := (vQ ((kk - 1) / 2))) (al := al) (rw := rw) (rc := rc) (tr := tr) (kd := kd) (nu := nu) (pp := pp) (kk := 2) (by first | assumption | omega) (by first | assumption | omega) (by first | assumption | omega) (by first | assumption | omega) (by first | assumption | omega)) (cwV 2 C.1.2.2.2.2 gX6_signInSpot_X6_is rfl rfl rfl (by decide +kernel) ⟨Nat.le_of_ble_eq_true rfl, Nat.le_of_ble_eq_true rfl⟩) [6, 4, 5] [0, 1, 2, 3] rfl rfl (by decide) (by decide) (by decide) 0 rfl rfl rfl hl.1 _ rfl (Nat.le_of_ble_eq_true rfl) dX6_signInSpot_125 ⟨Nat.le_of_ble_eq_true rfl, Nat.le_of_ble_eq_true rfl⟩ ?_
          clear hw
          rintro _ _ H locs ⟨rfl, rfl⟩ hw
          have hw : gW D A s.heap [cJ G (a 13) 8 vP, cJ G (a 14) 8 vS, cJ G (a 15) 8 vD, cJ G (a 16) 8 vQ, oX6 h a ft pn ra rm (vP ((kk - 1) / 2)) (vS ((kk - 1) / 2)) (vD ((kk - 1) / 2)) (vQ ((kk - 1) / 2)) al rw rc tr, cA G (a 2) 4 kd, cA G (a 3) 12 nu] H locs := hw
          refine g_callSi C hw (wr := [cJ G (a 13) 8 vP, cJ G (a 14) 8 vS, cJ G (a 15) 8 vD, cJ G (a 16) 8 vQ, oX6 h a ft pn ra rm (vP ((kk - 1) / 2)) (vS ((kk - 1) / 2)) (vD ((kk - 1) / 2)) (vQ ((kk - 1) / 2)) al rw rc tr, cA G (a 2) 4 kd, cA G (a 3) 12 nu]) (As := [.long (lI ((exT pn kd nu pp 2)))]) (rest := []) (m_X6_signOf l D G (va := (exT pn kd nu pp 2)) (by first | assumption | omega)) (va_cwS 1 C.1.2.2.2.2 gX6_signInSpot_X6_signOf rfl rfl rfl (by decide +kernel) ⟨Nat.le_of_ble_eq_true rfl, Nat.le_of_ble_eq_true rfl⟩) [] [0, 1, 2, 3, 4, 5, 6] rfl rfl (by decide) (by decide) (by decide) rfl hl.1 _ rfl (Nat.le_of_ble_eq_true rfl) dX6_signInSpot_128 ⟨Nat.le_of_ble_eq_true rfl, Nat.le_of_ble_eq_true rfl⟩ ?_
          clear hw
          rintro _ _ H locs ⟨rfl, rfl⟩ hw
          have hw : gW D A s.heap [cJ G (a 13) 8 vP, cJ G (a 14) 8 vS, cJ G (a 15) 8 vD, cJ G (a 16) 8 vQ, oX6 h a ft pn ra rm (vP ((kk - 1) / 2)) (vS ((kk - 1) / 2)) (vD ((kk - 1) / 2)) (vQ ((kk - 1) / 2)) al rw rc tr, cA G (a 2) 4 kd, cA G (a 3) 12 nu] H locs := hw
          exact g_iret C hr (ws' := [oX6 h a ft pn ra rm (vP ((kk - 1) / 2)) (vS ((kk - 1) / 2)) (vD ((kk - 1) / 2)) (vQ ((kk - 1) / 2)) al rw rc tr, cA G (a 2) 4 kd, cA G (a 3) 12 nu, cJ G (a 13) 8 vP, cJ G (a 14) 8 vS, cJ G (a 15) 8 vD, cJ G (a 16) 8 vQ]) hw [4, 5, 6, 0, 1, 2, 3] (by decide) rfl ⟨(vP ((kk - 1) / 2)), (vS ((kk - 1) / 2)), (vD ((kk - 1) / 2)), (vQ ((kk - 1) / 2)), (congrArg iI (by unfold sSp; rw [hgd]; unfold sBh; (repeat' split) <;> omega)), rfl⟩ dX6_signInSpot_131
        · skip
          refine g_iload C hl 0 rfl dX6_signInSpot_117 ?_
          refine g_goto C 131 dX6_signInSpot_119 (by decide) ?_
          exact g_iret C hr (ws' := [oX6 h a ft pn ra rm (vP ((kk - 1) / 2)) (vS ((kk - 1) / 2)) (vD ((kk - 1) / 2)) (vQ ((kk - 1) / 2)) al rw rc tr, cA G (a 2) 4 kd, cA G (a 3) 12 nu, cJ G (a 13) 8 vP, cJ G (a 14) 8 vS, cJ G (a 15) 8 vD, cJ G (a 16) 8 vQ]) hw [6, 4, 5, 0, 1, 2, 3] (by decide) rfl ⟨(vP ((kk - 1) / 2)), (vS ((kk - 1) / 2)), (vD ((kk - 1) / 2)), (vQ ((kk - 1) / 2)), (congrArg iI (by unfold sSp; rw [hgd]; unfold sBh; (repeat' split) <;> omega)), rfl⟩ dX6_signInSpot_131
      · skip
        refine g_iload_n C hl 0 rfl rfl dX6_signInSpot_87 ?_
        exact g_iret C hr (ws' := [oX6 h a ft pn ra rm (vP ((kk - 1) / 2)) (vS ((kk - 1) / 2)) (vD ((kk - 1) / 2)) (vQ ((kk - 1) / 2)) al rw rc tr, cA G (a 2) 4 kd, cA G (a 3) 12 nu, cJ G (a 13) 8 vP, cJ G (a 14) 8 vS, cJ G (a 15) 8 vD, cJ G (a 16) 8 vQ]) hw [4, 5, 6, 0, 1, 2, 3] (by decide) rfl ⟨(vP ((kk - 1) / 2)), (vS ((kk - 1) / 2)), (vD ((kk - 1) / 2)), (vQ ((kk - 1) / 2)), (congrArg iI (by unfold sSp; rw [hgd]; unfold sBh; (repeat' split) <;> omega)), rfl⟩ dX6_signInSpot_88
  · skip
    refine g_aload_n C hl 0 rfl rfl dX6_signInSpot_4 ?_
    refine g_iload_n C hl 2 rfl rfl dX6_signInSpot_5 ?_
    refine g_iconst C dX6_signInSpot_6 ?_
    refine g_callVl C hw (wr := [cJ G (a 13) 8 vP, cJ G (a 14) 8 vS, cJ G (a 15) 8 vD, cJ G (a 16) 8 vQ]) (As := [.int (iI pp), .int (iI 2)]) (rest := []) (m_X6_is l D G (h := h) (a := a) (ft := ft) (pn := pn) (ra := ra) (rm := rm) (rP := rP) (rS := rS) (rD := rD) (rQ := rQ) (al := al) (rw := rw) (rc := rc) (tr := tr) (kd := kd) (nu := nu) (pp := pp) (kk := 2) (by first | assumption | omega) (by first | assumption | omega) (by first | assumption | omega) (by first | assumption | omega) (by first | assumption | omega)) (cwV 2 C.1.2.2.2.2 gX6_signInSpot_X6_is rfl rfl rfl (by decide +kernel) ⟨Nat.le_of_ble_eq_true rfl, Nat.le_of_ble_eq_true rfl⟩) [0, 1, 2] [3, 4, 5, 6] rfl rfl (by decide) (by decide) (by decide) 0 rfl rfl rfl hl.1 _ rfl (Nat.le_of_ble_eq_true rfl) dX6_signInSpot_7 ⟨Nat.le_of_ble_eq_true rfl, Nat.le_of_ble_eq_true rfl⟩ ?_
    clear hw
    rintro _ _ H locs ⟨rfl, rfl⟩ hw
    have hw : gW D A s.heap [cJ G (a 13) 8 vP, cJ G (a 14) 8 vS, cJ G (a 15) 8 vD, cJ G (a 16) 8 vQ, oX6 h a ft pn ra rm rP rS rD rQ al rw rc tr, cA G (a 2) 4 kd, cA G (a 3) 12 nu] H locs := hw
    refine g_lconst0 C dX6_signInSpot_10 ?_
    refine g_lcmp_eq C 27 dX6_signInSpot_11 dX6_signInSpot_12 (by decide) (by omega) (by omega) (fun c_5 => ?_) (fun c_5 => ?_)
    · skip
      refine g_aload_n C hl 0 rfl rfl dX6_signInSpot_27 ?_
      refine g_iload_n C hl 2 rfl rfl dX6_signInSpot_28 ?_
      refine g_iconst C dX6_signInSpot_29 ?_
      refine g_callVl C hw (wr := [cJ G (a 13) 8 vP, cJ G (a 14) 8 vS, cJ G (a 15) 8 vD, cJ G (a 16) 8 vQ]) (As := [.int (iI pp), .int (iI 1)]) (rest := []) (m_X6_is l D G (h := h) (a := a) (ft := ft) (pn := pn) (ra := ra) (rm := rm) (rP := rP) (rS := rS) (rD := rD) (rQ := rQ) (al := al) (rw := rw) (rc := rc) (tr := tr) (kd := kd) (nu := nu) (pp := pp) (kk := 1) (by first | assumption | omega) (by first | assumption | omega) (by first | assumption | omega) (by first | assumption | omega) (by first | assumption | omega)) (cwV 2 C.1.2.2.2.2 gX6_signInSpot_X6_is rfl rfl rfl (by decide +kernel) ⟨Nat.le_of_ble_eq_true rfl, Nat.le_of_ble_eq_true rfl⟩) [4, 5, 6] [0, 1, 2, 3] rfl rfl (by decide) (by decide) (by decide) 0 rfl rfl rfl hl.1 _ rfl (Nat.le_of_ble_eq_true rfl) dX6_signInSpot_30 ⟨Nat.le_of_ble_eq_true rfl, Nat.le_of_ble_eq_true rfl⟩ ?_
      clear hw
      rintro _ _ H locs ⟨rfl, rfl⟩ hw
      have hw : gW D A s.heap [cJ G (a 13) 8 vP, cJ G (a 14) 8 vS, cJ G (a 15) 8 vD, cJ G (a 16) 8 vQ, oX6 h a ft pn ra rm rP rS rD rQ al rw rc tr, cA G (a 2) 4 kd, cA G (a 3) 12 nu] H locs := hw
      refine g_lconst0 C dX6_signInSpot_33 ?_
      refine g_lcmp_eq C 51 dX6_signInSpot_34 dX6_signInSpot_35 (by decide) (by omega) (by omega) (fun c_6 => ?_) (fun c_6 => ?_)
      · skip
        refine g_aload_n C hl 0 rfl rfl dX6_signInSpot_51 ?_
        refine g_iload_n C hl 2 rfl rfl dX6_signInSpot_52 ?_
        refine g_iconst C dX6_signInSpot_53 ?_
        refine g_callVl C hw (wr := [cJ G (a 13) 8 vP, cJ G (a 14) 8 vS, cJ G (a 15) 8 vD, cJ G (a 16) 8 vQ]) (As := [.int (iI pp), .int (iI 0)]) (rest := []) (m_X6_is l D G (h := h) (a := a) (ft := ft) (pn := pn) (ra := ra) (rm := rm) (rP := rP) (rS := rS) (rD := rD) (rQ := rQ) (al := al) (rw := rw) (rc := rc) (tr := tr) (kd := kd) (nu := nu) (pp := pp) (kk := 0) (by first | assumption | omega) (by first | assumption | omega) (by first | assumption | omega) (by first | assumption | omega) (by first | assumption | omega)) (cwV 2 C.1.2.2.2.2 gX6_signInSpot_X6_is rfl rfl rfl (by decide +kernel) ⟨Nat.le_of_ble_eq_true rfl, Nat.le_of_ble_eq_true rfl⟩) [4, 5, 6] [0, 1, 2, 3] rfl rfl (by decide) (by decide) (by decide) 0 rfl rfl rfl hl.1 _ rfl (Nat.le_of_ble_eq_true rfl) dX6_signInSpot_54 ⟨Nat.le_of_ble_eq_true rfl, Nat.le_of_ble_eq_true rfl⟩ ?_
        clear hw
        rintro _ _ H locs ⟨rfl, rfl⟩ hw
        have hw : gW D A s.heap [cJ G (a 13) 8 vP, cJ G (a 14) 8 vS, cJ G (a 15) 8 vD, cJ G (a 16) 8 vQ, oX6 h a ft pn ra rm rP rS rD rQ al rw rc tr, cA G (a 2) 4 kd, cA G (a 3) 12 nu] H locs := hw
        refine g_callSi C hw (wr := [cJ G (a 13) 8 vP, cJ G (a 14) 8 vS, cJ G (a 15) 8 vD, cJ G (a 16) 8 vQ, oX6 h a ft pn ra rm rP rS rD rQ al rw rc tr, cA G (a 2) 4 kd, cA G (a 3) 12 nu]) (As := [.long (lI ((exT pn kd nu pp 0)))]) (rest := []) (m_X6_signOf l D G (va := (exT pn kd nu pp 0)) (by first | assumption | omega)) (va_cwS 1 C.1.2.2.2.2 gX6_signInSpot_X6_signOf rfl rfl rfl (by decide +kernel) ⟨Nat.le_of_ble_eq_true rfl, Nat.le_of_ble_eq_true rfl⟩) [] [0, 1, 2, 3, 4, 5, 6] rfl rfl (by decide) (by decide) (by decide) rfl hl.1 _ rfl (Nat.le_of_ble_eq_true rfl) dX6_signInSpot_57 ⟨Nat.le_of_ble_eq_true rfl, Nat.le_of_ble_eq_true rfl⟩ ?_
        clear hw
        rintro _ _ H locs ⟨rfl, rfl⟩ hw
        have hw : gW D A s.heap [cJ G (a 13) 8 vP, cJ G (a 14) 8 vS, cJ G (a 15) 8 vD, cJ G (a 16) 8 vQ, oX6 h a ft pn ra rm rP rS rD rQ al rw rc tr, cA G (a 2) 4 kd, cA G (a 3) 12 nu] H locs := hw
        exact g_iret C hr (ws' := [oX6 h a ft pn ra rm rP rS rD rQ al rw rc tr, cA G (a 2) 4 kd, cA G (a 3) 12 nu, cJ G (a 13) 8 vP, cJ G (a 14) 8 vS, cJ G (a 15) 8 vD, cJ G (a 16) 8 vQ]) hw [4, 5, 6, 0, 1, 2, 3] (by decide) rfl ⟨rP, rS, rD, rQ, (congrArg iI (by unfold sSp sA0; (repeat' split) <;> omega)), rfl⟩ dX6_signInSpot_60
      · skip
        refine g_aload_n C hl 0 rfl rfl dX6_signInSpot_38 ?_
        refine g_iload_n C hl 2 rfl rfl dX6_signInSpot_39 ?_
        refine g_iconst C dX6_signInSpot_40 ?_
        refine g_callVl C hw (wr := [cJ G (a 13) 8 vP, cJ G (a 14) 8 vS, cJ G (a 15) 8 vD, cJ G (a 16) 8 vQ]) (As := [.int (iI pp), .int (iI 1)]) (rest := []) (m_X6_is l D G (h := h) (a := a) (ft := ft) (pn := pn) (ra := ra) (rm := rm) (rP := rP) (rS := rS) (rD := rD) (rQ := rQ) (al := al) (rw := rw) (rc := rc) (tr := tr) (kd := kd) (nu := nu) (pp := pp) (kk := 1) (by first | assumption | omega) (by first | assumption | omega) (by first | assumption | omega) (by first | assumption | omega) (by first | assumption | omega)) (cwV 2 C.1.2.2.2.2 gX6_signInSpot_X6_is rfl rfl rfl (by decide +kernel) ⟨Nat.le_of_ble_eq_true rfl, Nat.le_of_ble_eq_true rfl⟩) [4, 5, 6] [0, 1, 2, 3] rfl rfl (by decide) (by decide) (by decide) 0 rfl rfl rfl hl.1 _ rfl (Nat.le_of_ble_eq_true rfl) dX6_signInSpot_41 ⟨Nat.le_of_ble_eq_true rfl, Nat.le_of_ble_eq_true rfl⟩ ?_
        clear hw
        rintro _ _ H locs ⟨rfl, rfl⟩ hw
        have hw : gW D A s.heap [cJ G (a 13) 8 vP, cJ G (a 14) 8 vS, cJ G (a 15) 8 vD, cJ G (a 16) 8 vQ, oX6 h a ft pn ra rm rP rS rD rQ al rw rc tr, cA G (a 2) 4 kd, cA G (a 3) 12 nu] H locs := hw
        refine g_callSi C hw (wr := [cJ G (a 13) 8 vP, cJ G (a 14) 8 vS, cJ G (a 15) 8 vD, cJ G (a 16) 8 vQ, oX6 h a ft pn ra rm rP rS rD rQ al rw rc tr, cA G (a 2) 4 kd, cA G (a 3) 12 nu]) (As := [.long (lI ((exT pn kd nu pp 1)))]) (rest := []) (m_X6_signOf l D G (va := (exT pn kd nu pp 1)) (by first | assumption | omega)) (va_cwS 1 C.1.2.2.2.2 gX6_signInSpot_X6_signOf rfl rfl rfl (by decide +kernel) ⟨Nat.le_of_ble_eq_true rfl, Nat.le_of_ble_eq_true rfl⟩) [] [0, 1, 2, 3, 4, 5, 6] rfl rfl (by decide) (by decide) (by decide) rfl hl.1 _ rfl (Nat.le_of_ble_eq_true rfl) dX6_signInSpot_44 ⟨Nat.le_of_ble_eq_true rfl, Nat.le_of_ble_eq_true rfl⟩ ?_
        clear hw
        rintro _ _ H locs ⟨rfl, rfl⟩ hw
        have hw : gW D A s.heap [cJ G (a 13) 8 vP, cJ G (a 14) 8 vS, cJ G (a 15) 8 vD, cJ G (a 16) 8 vQ, oX6 h a ft pn ra rm rP rS rD rQ al rw rc tr, cA G (a 2) 4 kd, cA G (a 3) 12 nu] H locs := hw
        refine g_ineg C dX6_signInSpot_47 ?_
        refine g_goto C 60 dX6_signInSpot_48 (by decide) ?_
        exact g_iret C hr (ws' := [oX6 h a ft pn ra rm rP rS rD rQ al rw rc tr, cA G (a 2) 4 kd, cA G (a 3) 12 nu, cJ G (a 13) 8 vP, cJ G (a 14) 8 vS, cJ G (a 15) 8 vD, cJ G (a 16) 8 vQ]) hw [4, 5, 6, 0, 1, 2, 3] (by decide) rfl ⟨rP, rS, rD, rQ, (congrArg iI (by unfold sSp sA0; (repeat' split) <;> omega)), rfl⟩ dX6_signInSpot_60
    · skip
      refine g_aload_n C hl 0 rfl rfl dX6_signInSpot_15 ?_
      refine g_iload_n C hl 2 rfl rfl dX6_signInSpot_16 ?_
      refine g_iconst C dX6_signInSpot_17 ?_
      refine g_callVl C hw (wr := [cJ G (a 13) 8 vP, cJ G (a 14) 8 vS, cJ G (a 15) 8 vD, cJ G (a 16) 8 vQ]) (As := [.int (iI pp), .int (iI 2)]) (rest := []) (m_X6_is l D G (h := h) (a := a) (ft := ft) (pn := pn) (ra := ra) (rm := rm) (rP := rP) (rS := rS) (rD := rD) (rQ := rQ) (al := al) (rw := rw) (rc := rc) (tr := tr) (kd := kd) (nu := nu) (pp := pp) (kk := 2) (by first | assumption | omega) (by first | assumption | omega) (by first | assumption | omega) (by first | assumption | omega) (by first | assumption | omega)) (cwV 2 C.1.2.2.2.2 gX6_signInSpot_X6_is rfl rfl rfl (by decide +kernel) ⟨Nat.le_of_ble_eq_true rfl, Nat.le_of_ble_eq_true rfl⟩) [4, 5, 6] [0, 1, 2, 3] rfl rfl (by decide) (by decide) (by decide) 0 rfl rfl rfl hl.1 _ rfl (Nat.le_of_ble_eq_true rfl) dX6_signInSpot_18 ⟨Nat.le_of_ble_eq_true rfl, Nat.le_of_ble_eq_true rfl⟩ ?_
      clear hw
      rintro _ _ H locs ⟨rfl, rfl⟩ hw
      have hw : gW D A s.heap [cJ G (a 13) 8 vP, cJ G (a 14) 8 vS, cJ G (a 15) 8 vD, cJ G (a 16) 8 vQ, oX6 h a ft pn ra rm rP rS rD rQ al rw rc tr, cA G (a 2) 4 kd, cA G (a 3) 12 nu] H locs := hw
      refine g_callSi C hw (wr := [cJ G (a 13) 8 vP, cJ G (a 14) 8 vS, cJ G (a 15) 8 vD, cJ G (a 16) 8 vQ, oX6 h a ft pn ra rm rP rS rD rQ al rw rc tr, cA G (a 2) 4 kd, cA G (a 3) 12 nu]) (As := [.long (lI ((exT pn kd nu pp 2)))]) (rest := []) (m_X6_signOf l D G (va := (exT pn kd nu pp 2)) (by first | assumption | omega)) (va_cwS 1 C.1.2.2.2.2 gX6_signInSpot_X6_signOf rfl rfl rfl (by decide +kernel) ⟨Nat.le_of_ble_eq_true rfl, Nat.le_of_ble_eq_true rfl⟩) [] [0, 1, 2, 3, 4, 5, 6] rfl rfl (by decide) (by decide) (by decide) rfl hl.1 _ rfl (Nat.le_of_ble_eq_true rfl) dX6_signInSpot_21 ⟨Nat.le_of_ble_eq_true rfl, Nat.le_of_ble_eq_true rfl⟩ ?_
      clear hw
      rintro _ _ H locs ⟨rfl, rfl⟩ hw
      have hw : gW D A s.heap [cJ G (a 13) 8 vP, cJ G (a 14) 8 vS, cJ G (a 15) 8 vD, cJ G (a 16) 8 vQ, oX6 h a ft pn ra rm rP rS rD rQ al rw rc tr, cA G (a 2) 4 kd, cA G (a 3) 12 nu] H locs := hw
      refine g_goto C 60 dX6_signInSpot_24 (by decide) ?_
      exact g_iret C hr (ws' := [oX6 h a ft pn ra rm rP rS rD rQ al rw rc tr, cA G (a 2) 4 kd, cA G (a 3) 12 nu, cJ G (a 13) 8 vP, cJ G (a 14) 8 vS, cJ G (a 15) 8 vD, cJ G (a 16) 8 vQ]) hw [4, 5, 6, 0, 1, 2, 3] (by decide) rfl ⟨rP, rS, rD, rQ, (congrArg iI (by unfold sSp sA0; (repeat' split) <;> omega)), rfl⟩ dX6_signInSpot_60

set_option maxRecDepth 20000 in
theorem cn_X6_nameOf_117 : Jvm.Cond.constantLong RX6 117 (2) ∈ wsX6_nameOf := List.mem_cons_of_mem _ (List.mem_append_left _ (List.mem_append_left _ (List.mem_of_getElem? (i := 0) rfl)))
set_option maxRecDepth 100000 in
set_option maxHeartbeats 8000000 in
theorem m_X6_nameOf (l : Launch) (D : va_G) (G : gT) (h : Nat) (a : Nat → Nat) (ft : Int) (pn : Int) (ra : Int) (rm : Int) (rP : Int) (rS : Int) (rD : Int) (rQ : Int) (al : Int) (rw : Int) (rc : Int) (tr : Int) (kd : Int → Int) (nu : Int → Int) (pp : Int) (ii : Int) (hkd : kdOK kd) (hnu : nuOK nu) (hn : 0 ≤ pn ∧ pn ≤ 4) (hp : 0 ≤ pp ∧ pp < pn) (hii : 0 ≤ ii ∧ ii < nR (exT pn kd nu) pp) : gMi l yX6_nameOf wsX6_nameOf ({ frames := 3, cells := 0, slots := 0, locals := 80 }) D G [.ref h, .int (iI pp), .int (iI ii)] [oX6 h a ft pn ra rm rP rS rD rQ al rw rc tr, cA G (a 2) 4 kd, cA G (a 3) 12 nu] 0 0 (fun (r : Int32) (w : va_W) => ∃ (r2P : Int) (r2S : Int) (r2D : Int) (r2Q : Int), r = (iI (nmF (exT pn kd nu) pp ii)) ∧ w = [oX6 h a ft pn ra rm r2P r2S r2D r2Q al rw rc tr, cA G (a 2) 4 kd, cA G (a 3) 12 nu]) := by
  refine g_start_i (cc := cX6_nameOf) (nL := 3) (own := RX6) (ret := some .int) (by decide +kernel) rfl rfl (Nat.le_of_ble_eq_true rfl) ?_
  intro p e s m below meth c A ls C hr hnm hw hl
  have hl : lv_has ls 3 [(0, .ref h), (1, .int (iI pp)), (2, .int (iI ii))] := hl
  have hE := exT_B pn kd hnu
  obtain ⟨e0, e1, e2⟩ := hE pp
  have hdb := dsc_b hE pp
  have hnr := nR_r (exT pn kd nu) pp
  have hrt := rt_ok hE (q := pp) (i := ii) ⟨by omega, by omega⟩
  refine g_aload_n C hl 0 rfl rfl dX6_nameOf_0 ?_
  refine g_iload_n C hl 1 rfl rfl dX6_nameOf_1 ?_
  refine g_iload_n C hl 2 rfl rfl dX6_nameOf_2 ?_
  refine g_callVv C hw (wr := []) (As := [.int (iI pp), .int (iI ii)]) (rest := []) (m_X6_takesRoot l D G (h := h) (a := a) (ft := ft) (pn := pn) (ra := ra) (rm := rm) (rP := rP) (rS := rS) (rD := rD) (rQ := rQ) (al := al) (rw := rw) (rc := rc) (tr := tr) (kd := kd) (nu := nu) (pp := pp) (ii := ii) (by first | assumption | omega) (by first | assumption | omega) (by first | assumption | omega) (by first | assumption | omega) (by first | assumption | omega)) (cwV 2 C.1.2.2.2.2 gX6_nameOf_X6_takesRoot rfl rfl rfl (by decide +kernel) ⟨Nat.le_of_ble_eq_true rfl, Nat.le_of_ble_eq_true rfl⟩) [0, 1, 2] [] rfl rfl (by decide) (by decide) (by decide) 0 rfl rfl rfl hl.1 _ rfl (Nat.le_of_ble_eq_true rfl) dX6_nameOf_3 ⟨Nat.le_of_ble_eq_true rfl, Nat.le_of_ble_eq_true rfl⟩ ?_
  clear hw
  rintro _ H locs rfl hw
  have hw : gW D A s.heap [oX6 h a ft pn ra rm (zP (exT pn kd nu) pp) (zS (exT pn kd nu) pp ii) (zD (exT pn kd nu) pp) (zQ (exT pn kd nu) pp) al rw rc tr, cA G (a 2) 4 kd, cA G (a 3) 12 nu] H locs := hw
  refine g_iconst C dX6_nameOf_6 ?_
  refine g_aload_n C hl 0 rfl rfl dX6_nameOf_7 ?_
  refine g_aload_n C hl 0 rfl rfl dX6_nameOf_8 ?_
  refine g_iload_n C hl 1 rfl rfl dX6_nameOf_9 ?_
  refine g_iconst C dX6_nameOf_10 ?_
  refine g_callVl C hw (wr := []) (As := [.int (iI pp), .int (iI 1)]) (rest := [.ref h, .int (iI 3)]) (m_X6_is l D G (h := h) (a := a) (ft := ft) (pn := pn) (ra := ra) (rm := rm) (rP := (zP (exT pn kd nu) pp)) (rS := (zS (exT pn kd nu) pp ii)) (rD := (zD (exT pn kd nu) pp)) (rQ := (zQ (exT pn kd nu) pp)) (al := al) (rw := rw) (rc := rc) (tr := tr) (kd := kd) (nu := nu) (pp := pp) (kk := 1) (by first | assumption | omega) (by first | assumption | omega) (by first | assumption | omega) (by first | assumption | omega) (by first | assumption | omega)) (cwV 2 C.1.2.2.2.2 gX6_nameOf_X6_is rfl rfl rfl (by decide +kernel) ⟨Nat.le_of_ble_eq_true rfl, Nat.le_of_ble_eq_true rfl⟩) [0, 1, 2] [] rfl rfl (by decide) (by decide) (by decide) 0 rfl rfl rfl hl.1 _ rfl (Nat.le_of_ble_eq_true rfl) dX6_nameOf_11 ⟨Nat.le_of_ble_eq_true rfl, Nat.le_of_ble_eq_true rfl⟩ ?_
  clear hw
  rintro _ _ H locs ⟨rfl, rfl⟩ hw
  have hw : gW D A s.heap [oX6 h a ft pn ra rm (zP (exT pn kd nu) pp) (zS (exT pn kd nu) pp ii) (zD (exT pn kd nu) pp) (zQ (exT pn kd nu) pp) al rw rc tr, cA G (a 2) 4 kd, cA G (a 3) 12 nu] H locs := hw
  refine g_ldc2 C (2) cn_X6_nameOf_117 (by decide +kernel) dX6_nameOf_14 ?_
  refine g_aload_n C hl 0 rfl rfl dX6_nameOf_17 ?_
  refine g_iload_n C hl 1 rfl rfl dX6_nameOf_18 ?_
  refine g_iconst C dX6_nameOf_19 ?_
  refine g_callVl C hw (wr := []) (As := [.int (iI pp), .int (iI 2)]) (rest := [.long (lI (2)), .long (lI ((exT pn kd nu pp 1))), .ref h, .int (iI 3)]) (m_X6_is l D G (h := h) (a := a) (ft := ft) (pn := pn) (ra := ra) (rm := rm) (rP := (zP (exT pn kd nu) pp)) (rS := (zS (exT pn kd nu) pp ii)) (rD := (zD (exT pn kd nu) pp)) (rQ := (zQ (exT pn kd nu) pp)) (al := al) (rw := rw) (rc := rc) (tr := tr) (kd := kd) (nu := nu) (pp := pp) (kk := 2) (by first | assumption | omega) (by first | assumption | omega) (by first | assumption | omega) (by first | assumption | omega) (by first | assumption | omega)) (cwV 2 C.1.2.2.2.2 gX6_nameOf_X6_is rfl rfl rfl (by decide +kernel) ⟨Nat.le_of_ble_eq_true rfl, Nat.le_of_ble_eq_true rfl⟩) [0, 1, 2] [] rfl rfl (by decide) (by decide) (by decide) 0 rfl rfl rfl hl.1 _ rfl (Nat.le_of_ble_eq_true rfl) dX6_nameOf_20 ⟨Nat.le_of_ble_eq_true rfl, Nat.le_of_ble_eq_true rfl⟩ ?_
  clear hw
  rintro _ _ H locs ⟨rfl, rfl⟩ hw
  have hw : gW D A s.heap [oX6 h a ft pn ra rm (zP (exT pn kd nu) pp) (zS (exT pn kd nu) pp ii) (zD (exT pn kd nu) pp) (zQ (exT pn kd nu) pp) al rw rc tr, cA G (a 2) 4 kd, cA G (a 3) 12 nu] H locs := hw
  refine g_lmul C dX6_nameOf_23 ?_
  refine g_lconst0 C dX6_nameOf_24 ?_
  refine g_callVi C hw (wr := [cA G (a 2) 4 kd, cA G (a 3) 12 nu]) (As := [.long (lI ((exT pn kd nu pp 1))), .long (lI (2 * (exT pn kd nu pp 2))), .long (lI (0))]) (rest := [.int (iI 3)]) (m_X6_signHere l D G (h := h) (a := a) (ft := ft) (pn := pn) (ra := ra) (rm := rm) (rP := (zP (exT pn kd nu) pp)) (rS := (zS (exT pn kd nu) pp ii)) (rD := (zD (exT pn kd nu) pp)) (rQ := (zQ (exT pn kd nu) pp)) (al := al) (rw := rw) (rc := rc) (tr := tr) (cc0 := (exT pn kd nu pp 1)) (bb := (2 * (exT pn kd nu pp 2))) (aa := 0) (by first | assumption | omega) (by first | assumption | omega) (by first | assumption | omega) (by first | assumption | omega)) (cwV 3 C.1.2.2.2.2 gX6_nameOf_X6_signHere rfl rfl rfl (by decide +kernel) ⟨Nat.le_of_ble_eq_true rfl, Nat.le_of_ble_eq_true rfl⟩) [0] [1, 2] rfl rfl (by decide) (by decide) (by decide) 0 rfl rfl rfl hl.1 _ rfl (Nat.le_of_ble_eq_true rfl) dX6_nameOf_25 ⟨Nat.le_of_ble_eq_true rfl, Nat.le_of_ble_eq_true rfl⟩ ?_
  clear hw
  rintro _ _ H locs ⟨rfl, rfl⟩ hw
  have hw : gW D A s.heap [cA G (a 2) 4 kd, cA G (a 3) 12 nu, oX6 h a ft pn ra rm (zP (exT pn kd nu) pp) (zS (exT pn kd nu) pp ii) (zD (exT pn kd nu) pp) (zQ (exT pn kd nu) pp) al rw rc tr] H locs := hw
  refine g_iconst C dX6_nameOf_28 ?_
  refine g_iadd C dX6_nameOf_29 ?_
  refine g_imul C dX6_nameOf_30 ?_
  refine g_aload_n C hl 0 rfl rfl dX6_nameOf_31 ?_
  refine g_iload_n C hl 1 rfl rfl dX6_nameOf_32 ?_
  refine g_iconst C dX6_nameOf_33 ?_
  refine g_callVl C hw (wr := []) (As := [.int (iI pp), .int (iI 2)]) (rest := [.int (iI (3 * ((sAt (exT pn kd nu pp 1) (2 * (exT pn kd nu pp 2)) 0 (zP (exT pn kd nu) pp) (zS (exT pn kd nu) pp ii) (zD (exT pn kd nu) pp) (zQ (exT pn kd nu) pp)) + 1)))]) (m_X6_is l D G (h := h) (a := a) (ft := ft) (pn := pn) (ra := ra) (rm := rm) (rP := (zP (exT pn kd nu) pp)) (rS := (zS (exT pn kd nu) pp ii)) (rD := (zD (exT pn kd nu) pp)) (rQ := (zQ (exT pn kd nu) pp)) (al := al) (rw := rw) (rc := rc) (tr := tr) (kd := kd) (nu := nu) (pp := pp) (kk := 2) (by first | assumption | omega) (by first | assumption | omega) (by first | assumption | omega) (by first | assumption | omega) (by first | assumption | omega)) (cwV 2 C.1.2.2.2.2 gX6_nameOf_X6_is rfl rfl rfl (by decide +kernel) ⟨Nat.le_of_ble_eq_true rfl, Nat.le_of_ble_eq_true rfl⟩) [2, 0, 1] [] rfl rfl (by decide) (by decide) (by decide) 0 rfl rfl rfl hl.1 _ rfl (Nat.le_of_ble_eq_true rfl) dX6_nameOf_34 ⟨Nat.le_of_ble_eq_true rfl, Nat.le_of_ble_eq_true rfl⟩ ?_
  clear hw
  rintro _ _ H locs ⟨rfl, rfl⟩ hw
  have hw : gW D A s.heap [oX6 h a ft pn ra rm (zP (exT pn kd nu) pp) (zS (exT pn kd nu) pp ii) (zD (exT pn kd nu) pp) (zQ (exT pn kd nu) pp) al rw rc tr, cA G (a 2) 4 kd, cA G (a 3) 12 nu] H locs := hw
  refine g_callSi C hw (wr := [oX6 h a ft pn ra rm (zP (exT pn kd nu) pp) (zS (exT pn kd nu) pp ii) (zD (exT pn kd nu) pp) (zQ (exT pn kd nu) pp) al rw rc tr, cA G (a 2) 4 kd, cA G (a 3) 12 nu]) (As := [.long (lI ((exT pn kd nu pp 2)))]) (rest := [.int (iI (3 * ((sAt (exT pn kd nu pp 1) (2 * (exT pn kd nu pp 2)) 0 (zP (exT pn kd nu) pp) (zS (exT pn kd nu) pp ii) (zD (exT pn kd nu) pp) (zQ (exT pn kd nu) pp)) + 1)))]) (m_X6_signOf l D G (va := (exT pn kd nu pp 2)) (by first | assumption | omega)) (va_cwS 1 C.1.2.2.2.2 gX6_nameOf_X6_signOf rfl rfl rfl (by decide +kernel) ⟨Nat.le_of_ble_eq_true rfl, Nat.le_of_ble_eq_true rfl⟩) [] [0, 1, 2] rfl rfl (by decide) (by decide) (by decide) rfl hl.1 _ rfl (Nat.le_of_ble_eq_true rfl) dX6_nameOf_37 ⟨Nat.le_of_ble_eq_true rfl, Nat.le_of_ble_eq_true rfl⟩ ?_
  clear hw
  rintro _ _ H locs ⟨rfl, rfl⟩ hw
  have hw : gW D A s.heap [oX6 h a ft pn ra rm (zP (exT pn kd nu) pp) (zS (exT pn kd nu) pp ii) (zD (exT pn kd nu) pp) (zQ (exT pn kd nu) pp) al rw rc tr, cA G (a 2) 4 kd, cA G (a 3) 12 nu] H locs := hw
  refine g_iadd C dX6_nameOf_40 ?_
  refine g_iconst C dX6_nameOf_41 ?_
  refine g_iadd C dX6_nameOf_42 ?_
  exact g_iret C hr (ws' := [oX6 h a ft pn ra rm (zP (exT pn kd nu) pp) (zS (exT pn kd nu) pp ii) (zD (exT pn kd nu) pp) (zQ (exT pn kd nu) pp) al rw rc tr, cA G (a 2) 4 kd, cA G (a 3) 12 nu]) hw [0, 1, 2] (by decide) rfl ⟨(zP (exT pn kd nu) pp), (zS (exT pn kd nu) pp ii), (zD (exT pn kd nu) pp), (zQ (exT pn kd nu) pp), (congrArg iI (by first | rfl | omega | (simp only [bI]; (repeat' split) <;> omega) | (simp_all [bI]; done) | (simp_all [bI]; omega))), rfl⟩ dX6_nameOf_43

set_option maxRecDepth 100000 in
set_option maxHeartbeats 8000000 in
theorem m_X6_signAtRoot (l : Launch) (D : va_G) (G : gT) (h : Nat) (a : Nat → Nat) (ft : Int) (pn : Int) (ra : Int) (rm : Int) (rP : Int) (rS : Int) (rD : Int) (rQ : Int) (al : Int) (rw : Int) (rc : Int) (tr : Int) (kd : Int → Int) (nu : Int → Int) (pp : Int) (ii : Int) (qq : Int) (hkd : kdOK kd) (hnu : nuOK nu) (hn : 0 ≤ pn ∧ pn ≤ 4) (hp : 0 ≤ pp ∧ pp < pn) (hii : 0 ≤ ii ∧ ii < nR (exT pn kd nu) pp) (hq : 0 ≤ qq ∧ qq < pn) : gMi l yX6_signAtRoot wsX6_signAtRoot ({ frames := 4, cells := 0, slots := 0, locals := 101 }) D G [.ref h, .int (iI pp), .int (iI ii), .int (iI qq)] [oX6 h a ft pn ra rm rP rS rD rQ al rw rc tr, cA G (a 2) 4 kd, cA G (a 3) 12 nu] 0 0 (fun (r : Int32) (w : va_W) => ∃ (r2P : Int) (r2S : Int) (r2D : Int) (r2Q : Int), r = (iI (sRi (exT pn kd nu) pp ii qq)) ∧ w = [oX6 h a ft pn ra rm r2P r2S r2D r2Q al rw rc tr, cA G (a 2) 4 kd, cA G (a 3) 12 nu]) := by
  refine g_start_i (cc := cX6_signAtRoot) (nL := 4) (own := RX6) (ret := some .int) (by decide +kernel) rfl rfl (Nat.le_of_ble_eq_true rfl) ?_
  intro p e s m below meth c A ls C hr hnm hw hl
  have hl : lv_has ls 4 [(0, .ref h), (1, .int (iI pp)), (2, .int (iI ii)), (3, .int (iI qq))] := hl
  have hE := exT_B pn kd hnu
  obtain ⟨e0, e1, e2⟩ := hE pp
  have hdb := dsc_b hE pp
  have hnr := nR_r (exT pn kd nu) pp
  have hrt := rt_ok hE (q := pp) (i := ii) ⟨by omega, by omega⟩
  refine g_aload_n C hl 0 rfl rfl dX6_signAtRoot_0 ?_
  refine g_iload_n C hl 1 rfl rfl dX6_signAtRoot_1 ?_
  refine g_iload_n C hl 2 rfl rfl dX6_signAtRoot_2 ?_
  refine g_callVv C hw (wr := []) (As := [.int (iI pp), .int (iI ii)]) (rest := []) (m_X6_takesRoot l D G (h := h) (a := a) (ft := ft) (pn := pn) (ra := ra) (rm := rm) (rP := rP) (rS := rS) (rD := rD) (rQ := rQ) (al := al) (rw := rw) (rc := rc) (tr := tr) (kd := kd) (nu := nu) (pp := pp) (ii := ii) (by first | assumption | omega) (by first | assumption | omega) (by first | assumption | omega) (by first | assumption | omega) (by first | assumption | omega)) (cwV 2 C.1.2.2.2.2 gX6_signAtRoot_X6_takesRoot rfl rfl rfl (by decide +kernel) ⟨Nat.le_of_ble_eq_true rfl, Nat.le_of_ble_eq_true rfl⟩) [0, 1, 2] [] rfl rfl (by decide) (by decide) (by decide) 0 rfl rfl rfl hl.1 _ rfl (Nat.le_of_ble_eq_true rfl) dX6_signAtRoot_3 ⟨Nat.le_of_ble_eq_true rfl, Nat.le_of_ble_eq_true rfl⟩ ?_
  clear hw
  rintro _ H locs rfl hw
  have hw : gW D A s.heap [oX6 h a ft pn ra rm (zP (exT pn kd nu) pp) (zS (exT pn kd nu) pp ii) (zD (exT pn kd nu) pp) (zQ (exT pn kd nu) pp) al rw rc tr, cA G (a 2) 4 kd, cA G (a 3) 12 nu] H locs := hw
  refine g_aload_n C hl 0 rfl rfl dX6_signAtRoot_6 ?_
  refine g_iload_n C hl 3 rfl rfl dX6_signAtRoot_7 ?_
  refine g_callVi C hw (wr := []) (As := [.int (iI qq)]) (rest := []) (m_X6_signOfAt l D G (h := h) (a := a) (ft := ft) (pn := pn) (ra := ra) (rm := rm) (rP := (zP (exT pn kd nu) pp)) (rS := (zS (exT pn kd nu) pp ii)) (rD := (zD (exT pn kd nu) pp)) (rQ := (zQ (exT pn kd nu) pp)) (al := al) (rw := rw) (rc := rc) (tr := tr) (kd := kd) (nu := nu) (pp := qq) (by first | assumption | omega) (by first | assumption | omega) (by first | assumption | omega) (by first | assumption | omega) (by first | assumption | omega)) (cwV 1 C.1.2.2.2.2 gX6_signAtRoot_X6_signOfAt rfl rfl rfl (by decide +kernel) ⟨Nat.le_of_ble_eq_true rfl, Nat.le_of_ble_eq_true rfl⟩) [0, 1, 2] [] rfl rfl (by decide) (by decide) (by decide) 0 rfl rfl rfl hl.1 _ rfl (Nat.le_of_ble_eq_true rfl) dX6_signAtRoot_8 ⟨Nat.le_of_ble_eq_true rfl, Nat.le_of_ble_eq_true rfl⟩ ?_
  clear hw
  rintro _ _ H locs ⟨rfl, rfl⟩ hw
  have hw : gW D A s.heap [oX6 h a ft pn ra rm (zP (exT pn kd nu) pp) (zS (exT pn kd nu) pp ii) (zD (exT pn kd nu) pp) (zQ (exT pn kd nu) pp) al rw rc tr, cA G (a 2) 4 kd, cA G (a 3) 12 nu] H locs := hw
  exact g_iret C hr (ws' := [oX6 h a ft pn ra rm (zP (exT pn kd nu) pp) (zS (exT pn kd nu) pp ii) (zD (exT pn kd nu) pp) (zQ (exT pn kd nu) pp) al rw rc tr, cA G (a 2) 4 kd, cA G (a 3) 12 nu]) hw [0, 1, 2] (by decide) rfl ⟨(zP (exT pn kd nu) pp), (zS (exT pn kd nu) pp ii), (zD (exT pn kd nu) pp), (zQ (exT pn kd nu) pp), (congrArg iI (by first | rfl | omega | (simp only [bI]; (repeat' split) <;> omega) | (simp_all [bI]; done) | (simp_all [bI]; omega))), rfl⟩ dX6_signAtRoot_11

set_option maxRecDepth 100000 in
set_option maxHeartbeats 8000000 in
theorem m_X6_noRoot (l : Launch) (D : va_G) (G : gT) (h : Nat) (a : Nat → Nat) (ft : Int) (pn : Int) (ra : Int) (rm : Int) (rP : Int) (rS : Int) (rD : Int) (rQ : Int) (al : Int) (rw : Int) (rc : Int) (tr : Int) (kd : Int → Int) (nu : Int → Int) (pp : Int) (ii : Int) (hkd : kdOK kd) (hnu : nuOK nu) (hn : 0 ≤ pn ∧ pn ≤ 4) (hp : -2147483648 ≤ pp ∧ pp ≤ 2147483647) (hi : -2147483648 ≤ ii ∧ ii ≤ 2147483647) : gMi l yX6_noRoot wsX6_noRoot ({ frames := 3, cells := 0, slots := 0, locals := 73 }) D G [.ref h, .int (iI pp), .int (iI ii)] [oX6 h a ft pn ra rm rP rS rD rQ al rw rc tr, cA G (a 2) 4 kd, cA G (a 3) 12 nu] 0 0 (fun (r : Int32) (w : va_W) => r = (iI (bI (¬ ((0 ≤ pp ∧ pp < pn) ∧ 0 ≤ ii ∧ ii < nR (exT pn kd nu) pp)))) ∧ w = [oX6 h a ft pn ra rm rP rS rD rQ al rw rc tr, cA G (a 2) 4 kd, cA G (a 3) 12 nu]) := by
  refine g_start_i (cc := cX6_noRoot) (nL := 3) (own := RX6) (ret := some .boolean) (by decide +kernel) rfl rfl (Nat.le_of_ble_eq_true rfl) ?_
  intro p e s m below meth c A ls C hr hnm hw hl
  have hl : lv_has ls 3 [(0, .ref h), (1, .int (iI pp)), (2, .int (iI ii))] := hl
  have hnr := nR_r (exT pn kd nu) pp
  refine g_aload_n C hl 0 rfl rfl dX6_noRoot_0 ?_
  refine g_iload_n C hl 1 rfl rfl dX6_noRoot_1 ?_
  refine g_callVi C hw (wr := [cA G (a 2) 4 kd, cA G (a 3) 12 nu]) (As := [.int (iI pp)]) (rest := []) (m_X6_noPolynomial l D G (h := h) (a := a) (ft := ft) (pn := pn) (ra := ra) (rm := rm) (rP := rP) (rS := rS) (rD := rD) (rQ := rQ) (al := al) (rw := rw) (rc := rc) (tr := tr) (pp := pp) (by first | assumption | omega) (by first | assumption | omega)) (cwV 1 C.1.2.2.2.2 gX6_noRoot_X6_noPolynomial rfl rfl rfl (by decide +kernel) ⟨Nat.le_of_ble_eq_true rfl, Nat.le_of_ble_eq_true rfl⟩) [0] [1, 2] rfl rfl (by decide) (by decide) (by decide) 0 rfl rfl rfl hl.1 _ rfl (Nat.le_of_ble_eq_true rfl) dX6_noRoot_2 ⟨Nat.le_of_ble_eq_true rfl, Nat.le_of_ble_eq_true rfl⟩ ?_
  clear hw
  rintro _ _ H locs ⟨rfl, rfl⟩ hw
  have hw : gW D A s.heap [cA G (a 2) 4 kd, cA G (a 3) 12 nu, oX6 h a ft pn ra rm rP rS rD rQ al rw rc tr] H locs := hw
  refine g_ifb_ne C 25 dX6_noRoot_5 (by decide) (fun c_1 => ?_) (fun c_1 => ?_)
  · skip
    refine g_iconst C dX6_noRoot_25 ?_
    refine g_goto C 30 dX6_noRoot_26 (by decide) ?_
    exact g_zret C hr (ws' := [oX6 h a ft pn ra rm rP rS rD rQ al rw rc tr, cA G (a 2) 4 kd, cA G (a 3) 12 nu]) hw [2, 0, 1] (by decide) rfl (Or.inr rfl) ⟨(congrArg iI (by simp only [bI]; (repeat' split) <;> omega)), rfl⟩ dX6_noRoot_30
  · skip
    refine g_iload_n C hl 2 rfl rfl dX6_noRoot_8 ?_
    refine g_i2l C dX6_noRoot_9 (by omega) ?_
    refine g_lconst0 C dX6_noRoot_10 ?_
    refine g_aload_n C hl 0 rfl rfl dX6_noRoot_11 ?_
    refine g_iload_n C hl 1 rfl rfl dX6_noRoot_12 ?_
    refine g_callVi C hw (wr := []) (As := [.int (iI pp)]) (rest := [.long (lI (0)), .long (lI (ii))]) (m_X6_rootsOf l D G (h := h) (a := a) (ft := ft) (pn := pn) (ra := ra) (rm := rm) (rP := rP) (rS := rS) (rD := rD) (rQ := rQ) (al := al) (rw := rw) (rc := rc) (tr := tr) (kd := kd) (nu := nu) (pp := pp) (by first | assumption | omega) (by first | assumption | omega) (by first | assumption | omega) (by first | assumption | omega)) (cwV 1 C.1.2.2.2.2 gX6_noRoot_X6_rootsOf rfl rfl rfl (by decide +kernel) ⟨Nat.le_of_ble_eq_true rfl, Nat.le_of_ble_eq_true rfl⟩) [2, 0, 1] [] rfl rfl (by decide) (by decide) (by decide) 0 rfl rfl rfl hl.1 _ rfl (Nat.le_of_ble_eq_true rfl) dX6_noRoot_13 ⟨Nat.le_of_ble_eq_true rfl, Nat.le_of_ble_eq_true rfl⟩ ?_
    clear hw
    rintro _ _ H locs ⟨rfl, rfl⟩ hw
    have hw : gW D A s.heap [oX6 h a ft pn ra rm rP rS rD rQ al rw rc tr, cA G (a 2) 4 kd, cA G (a 3) 12 nu] H locs := hw
    refine g_i2l C dX6_noRoot_16 (by omega) ?_
    refine g_lconst1 C dX6_noRoot_17 ?_
    refine g_lsub C dX6_noRoot_18 ?_
    refine g_callSi C hw (wr := [oX6 h a ft pn ra rm rP rS rD rQ al rw rc tr, cA G (a 2) 4 kd, cA G (a 3) 12 nu]) (As := [.long (lI (ii)), .long (lI (0)), .long (lI ((nR (exT pn kd nu) pp) - 1))]) (rest := []) (m_X6_in l D G (va := ii) (vb := 0) (vc := ((nR (exT pn kd nu) pp) - 1)) (by first | assumption | omega) (by first | assumption | omega) (by first | assumption | omega)) (va_cwS 3 C.1.2.2.2.2 gX6_noRoot_X6_in rfl rfl rfl (by decide +kernel) ⟨Nat.le_of_ble_eq_true rfl, Nat.le_of_ble_eq_true rfl⟩) [] [0, 1, 2] rfl rfl (by decide) (by decide) (by decide) rfl hl.1 _ rfl (Nat.le_of_ble_eq_true rfl) dX6_noRoot_19 ⟨Nat.le_of_ble_eq_true rfl, Nat.le_of_ble_eq_true rfl⟩ ?_
    clear hw
    rintro _ _ H locs ⟨rfl, rfl⟩ hw
    have hw : gW D A s.heap [oX6 h a ft pn ra rm rP rS rD rQ al rw rc tr, cA G (a 2) 4 kd, cA G (a 3) 12 nu] H locs := hw
    refine g_ifb_ne C 29 dX6_noRoot_22 (by decide) (fun c_2 => ?_) (fun c_2 => ?_)
    · skip
      refine g_iconst C dX6_noRoot_29 ?_
      exact g_zret C hr (ws' := [oX6 h a ft pn ra rm rP rS rD rQ al rw rc tr, cA G (a 2) 4 kd, cA G (a 3) 12 nu]) hw [0, 1, 2] (by decide) rfl (Or.inl rfl) ⟨(congrArg iI (by simp only [bI]; (repeat' split) <;> omega)), rfl⟩ dX6_noRoot_30
    · skip
      refine g_iconst C dX6_noRoot_25 ?_
      refine g_goto C 30 dX6_noRoot_26 (by decide) ?_
      exact g_zret C hr (ws' := [oX6 h a ft pn ra rm rP rS rD rQ al rw rc tr, cA G (a 2) 4 kd, cA G (a 3) 12 nu]) hw [0, 1, 2] (by decide) rfl (Or.inr rfl) ⟨(congrArg iI (by simp only [bI]; (repeat' split) <;> omega)), rfl⟩ dX6_noRoot_30

set_option maxRecDepth 100000 in
set_option maxHeartbeats 8000000 in
theorem m_X6_called (l : Launch) (D : va_G) (G : gT) (h : Nat) (a : Nat → Nat) (ft : Int) (pn : Int) (ra : Int) (rm : Int) (rP : Int) (rS : Int) (rD : Int) (rQ : Int) (al : Int) (rw : Int) (rc : Int) (tr : Int) (kd : Int → Int) (nu : Int → Int) (pp : Int) (ii : Int) (hkd : kdOK kd) (hnu : nuOK nu) (hn : 0 ≤ pn ∧ pn ≤ 4) (hp : -2147483648 ≤ pp ∧ pp ≤ 2147483647) (hi : -2147483648 ≤ ii ∧ ii ≤ 2147483647) : gMi l yX6_called wsX6_called ({ frames := 4, cells := 0, slots := 0, locals := 102 }) D G [.ref h, .int (iI pp), .int (iI ii)] [oX6 h a ft pn ra rm rP rS rD rQ al rw rc tr, cA G (a 2) 4 kd, cA G (a 3) 12 nu] 0 0 (fun (r : Int32) (w : va_W) => ∃ (r2P : Int) (r2S : Int) (r2D : Int) (r2Q : Int), r = (iI (R_cal pn (exT pn kd nu) pp ii)) ∧ w = [oX6 h a ft pn ra rm r2P r2S r2D r2Q al rw rc tr, cA G (a 2) 4 kd, cA G (a 3) 12 nu]) := by
  refine g_start_i (cc := cX6_called) (nL := 3) (own := RX6) (ret := some .int) (by decide +kernel) rfl rfl (Nat.le_of_ble_eq_true rfl) ?_
  intro p e s m below meth c A ls C hr hnm hw hl
  have hl : lv_has ls 3 [(0, .ref h), (1, .int (iI pp)), (2, .int (iI ii))] := hl
  refine g_aload_n C hl 0 rfl rfl dX6_called_0 ?_
  refine g_iload_n C hl 1 rfl rfl dX6_called_1 ?_
  refine g_iload_n C hl 2 rfl rfl dX6_called_2 ?_
  refine g_callVi C hw (wr := []) (As := [.int (iI pp), .int (iI ii)]) (rest := []) (m_X6_noRoot l D G (h := h) (a := a) (ft := ft) (pn := pn) (ra := ra) (rm := rm) (rP := rP) (rS := rS) (rD := rD) (rQ := rQ) (al := al) (rw := rw) (rc := rc) (tr := tr) (kd := kd) (nu := nu) (pp := pp) (ii := ii) (by first | assumption | omega) (by first | assumption | omega) (by first | assumption | omega) (by first | assumption | omega) (by first | assumption | omega)) (cwV 2 C.1.2.2.2.2 gX6_called_X6_noRoot rfl rfl rfl (by decide +kernel) ⟨Nat.le_of_ble_eq_true rfl, Nat.le_of_ble_eq_true rfl⟩) [0, 1, 2] [] rfl rfl (by decide) (by decide) (by decide) 0 rfl rfl rfl hl.1 _ rfl (Nat.le_of_ble_eq_true rfl) dX6_called_3 ⟨Nat.le_of_ble_eq_true rfl, Nat.le_of_ble_eq_true rfl⟩ ?_
  clear hw
  rintro _ _ H locs ⟨rfl, rfl⟩ hw
  have hw : gW D A s.heap [oX6 h a ft pn ra rm rP rS rD rQ al rw rc tr, cA G (a 2) 4 kd, cA G (a 3) 12 nu] H locs := hw
  refine g_ifb_eq C 13 dX6_called_6 (by decide) (fun c_1 => ?_) (fun c_1 => ?_)
  · skip
    refine g_aload_n C hl 0 rfl rfl dX6_called_13 ?_
    refine g_iload_n C hl 1 rfl rfl dX6_called_14 ?_
    refine g_iload_n C hl 2 rfl rfl dX6_called_15 ?_
    refine g_callVi C hw (wr := []) (As := [.int (iI pp), .int (iI ii)]) (rest := []) (m_X6_nameOf l D G (h := h) (a := a) (ft := ft) (pn := pn) (ra := ra) (rm := rm) (rP := rP) (rS := rS) (rD := rD) (rQ := rQ) (al := al) (rw := rw) (rc := rc) (tr := tr) (kd := kd) (nu := nu) (pp := pp) (ii := ii) (by first | assumption | omega) (by first | assumption | omega) (by first | assumption | omega) (by first | assumption | omega) (by first | assumption | omega)) (cwV 2 C.1.2.2.2.2 gX6_called_X6_nameOf rfl rfl rfl (by decide +kernel) ⟨Nat.le_of_ble_eq_true rfl, Nat.le_of_ble_eq_true rfl⟩) [0, 1, 2] [] rfl rfl (by decide) (by decide) (by decide) 0 rfl rfl rfl hl.1 _ rfl (Nat.le_of_ble_eq_true rfl) dX6_called_16 ⟨Nat.le_of_ble_eq_true rfl, Nat.le_of_ble_eq_true rfl⟩ ?_
    clear hw
    rintro _ _ H locs ⟨r2P__2, r2S__3, r2D__4, r2Q__5, rfl, rfl⟩ hw
    have hw : gW D A s.heap [oX6 h a ft pn ra rm r2P__2 r2S__3 r2D__4 r2Q__5 al rw rc tr, cA G (a 2) 4 kd, cA G (a 3) 12 nu] H locs := hw
    exact g_iret C hr (ws' := [oX6 h a ft pn ra rm r2P__2 r2S__3 r2D__4 r2Q__5 al rw rc tr, cA G (a 2) 4 kd, cA G (a 3) 12 nu]) hw [0, 1, 2] (by decide) rfl ⟨r2P__2, r2S__3, r2D__4, r2Q__5, (congrArg iI (by unfold R_cal; (repeat' split) <;> omega)), rfl⟩ dX6_called_19
  · skip
    refine g_iconst C dX6_called_9 ?_
    refine g_goto C 19 dX6_called_10 (by decide) ?_
    exact g_iret C hr (ws' := [oX6 h a ft pn ra rm rP rS rD rQ al rw rc tr, cA G (a 2) 4 kd, cA G (a 3) 12 nu]) hw [0, 1, 2] (by decide) rfl ⟨rP, rS, rD, rQ, (congrArg iI (by unfold R_cal; (repeat' split) <;> omega)), rfl⟩ dX6_called_19

set_option maxRecDepth 100000 in
set_option maxHeartbeats 8000000 in
theorem m_X6_signAt (l : Launch) (D : va_G) (G : gT) (h : Nat) (a : Nat → Nat) (ft : Int) (pn : Int) (ra : Int) (rm : Int) (rP : Int) (rS : Int) (rD : Int) (rQ : Int) (al : Int) (rw : Int) (rc : Int) (tr : Int) (kd : Int → Int) (nu : Int → Int) (pp : Int) (ii : Int) (qq : Int) (hkd : kdOK kd) (hnu : nuOK nu) (hn : 0 ≤ pn ∧ pn ≤ 4) (hp : -2147483648 ≤ pp ∧ pp ≤ 2147483647) (hi : -2147483648 ≤ ii ∧ ii ≤ 2147483647) (hq : -2147483648 ≤ qq ∧ qq ≤ 2147483647) : gMi l yX6_signAt wsX6_signAt ({ frames := 5, cells := 0, slots := 0, locals := 124 }) D G [.ref h, .int (iI pp), .int (iI ii), .int (iI qq)] [oX6 h a ft pn ra rm rP rS rD rQ al rw rc tr, cA G (a 2) 4 kd, cA G (a 3) 12 nu] 0 0 (fun (r : Int32) (w : va_W) => ∃ (r2P : Int) (r2S : Int) (r2D : Int) (r2Q : Int), r = (iI (R_sig pn (exT pn kd nu) pp ii qq)) ∧ w = [oX6 h a ft pn ra rm r2P r2S r2D r2Q al rw rc tr, cA G (a 2) 4 kd, cA G (a 3) 12 nu]) := by
  refine g_start_i (cc := cX6_signAt) (nL := 4) (own := RX6) (ret := some .int) (by decide +kernel) rfl rfl (Nat.le_of_ble_eq_true rfl) ?_
  intro p e s m below meth c A ls C hr hnm hw hl
  have hl : lv_has ls 4 [(0, .ref h), (1, .int (iI pp)), (2, .int (iI ii)), (3, .int (iI qq))] := hl
  refine g_aload_n C hl 0 rfl rfl dX6_signAt_0 ?_
  refine g_iload_n C hl 1 rfl rfl dX6_signAt_1 ?_
  refine g_iload_n C hl 2 rfl rfl dX6_signAt_2 ?_
  refine g_callVi C hw (wr := []) (As := [.int (iI pp), .int (iI ii)]) (rest := []) (m_X6_noRoot l D G (h := h) (a := a) (ft := ft) (pn := pn) (ra := ra) (rm := rm) (rP := rP) (rS := rS) (rD := rD) (rQ := rQ) (al := al) (rw := rw) (rc := rc) (tr := tr) (kd := kd) (nu := nu) (pp := pp) (ii := ii) (by first | assumption | omega) (by first | assumption | omega) (by first | assumption | omega) (by first | assumption | omega) (by first | assumption | omega)) (cwV 2 C.1.2.2.2.2 gX6_signAt_X6_noRoot rfl rfl rfl (by decide +kernel) ⟨Nat.le_of_ble_eq_true rfl, Nat.le_of_ble_eq_true rfl⟩) [0, 1, 2] [] rfl rfl (by decide) (by decide) (by decide) 0 rfl rfl rfl hl.1 _ rfl (Nat.le_of_ble_eq_true rfl) dX6_signAt_3 ⟨Nat.le_of_ble_eq_true rfl, Nat.le_of_ble_eq_true rfl⟩ ?_
  clear hw
  rintro _ _ H locs ⟨rfl, rfl⟩ hw
  have hw : gW D A s.heap [oX6 h a ft pn ra rm rP rS rD rQ al rw rc tr, cA G (a 2) 4 kd, cA G (a 3) 12 nu] H locs := hw
  refine g_ifb_ne C 17 dX6_signAt_6 (by decide) (fun c_1 => ?_) (fun c_1 => ?_)
  · skip
    refine g_iconst C dX6_signAt_17 ?_
    refine g_goto C 30 dX6_signAt_18 (by decide) ?_
    exact g_iret C hr (ws' := [oX6 h a ft pn ra rm rP rS rD rQ al rw rc tr, cA G (a 2) 4 kd, cA G (a 3) 12 nu]) hw [0, 1, 2] (by decide) rfl ⟨rP, rS, rD, rQ, (congrArg iI (by unfold R_sig; (repeat' split) <;> omega)), rfl⟩ dX6_signAt_30
  · skip
    refine g_aload_n C hl 0 rfl rfl dX6_signAt_9 ?_
    refine g_iload_n C hl 3 rfl rfl dX6_signAt_10 ?_
    refine g_callVi C hw (wr := [cA G (a 2) 4 kd, cA G (a 3) 12 nu]) (As := [.int (iI qq)]) (rest := []) (m_X6_noPolynomial l D G (h := h) (a := a) (ft := ft) (pn := pn) (ra := ra) (rm := rm) (rP := rP) (rS := rS) (rD := rD) (rQ := rQ) (al := al) (rw := rw) (rc := rc) (tr := tr) (pp := qq) (by first | assumption | omega) (by first | assumption | omega)) (cwV 1 C.1.2.2.2.2 gX6_signAt_X6_noPolynomial rfl rfl rfl (by decide +kernel) ⟨Nat.le_of_ble_eq_true rfl, Nat.le_of_ble_eq_true rfl⟩) [0] [1, 2] rfl rfl (by decide) (by decide) (by decide) 0 rfl rfl rfl hl.1 _ rfl (Nat.le_of_ble_eq_true rfl) dX6_signAt_11 ⟨Nat.le_of_ble_eq_true rfl, Nat.le_of_ble_eq_true rfl⟩ ?_
    clear hw
    rintro _ _ H locs ⟨rfl, rfl⟩ hw
    have hw : gW D A s.heap [cA G (a 2) 4 kd, cA G (a 3) 12 nu, oX6 h a ft pn ra rm rP rS rD rQ al rw rc tr] H locs := hw
    refine g_ifb_eq C 21 dX6_signAt_14 (by decide) (fun c_2 => ?_) (fun c_2 => ?_)
    · skip
      refine g_aload_n C hl 0 rfl rfl dX6_signAt_21 ?_
      refine g_iload_n C hl 1 rfl rfl dX6_signAt_22 ?_
      refine g_iload_n C hl 2 rfl rfl dX6_signAt_23 ?_
      refine g_iload_n C hl 3 rfl rfl dX6_signAt_24 ?_
      refine g_callVi C hw (wr := []) (As := [.int (iI pp), .int (iI ii), .int (iI qq)]) (rest := []) (m_X6_signAtRoot l D G (h := h) (a := a) (ft := ft) (pn := pn) (ra := ra) (rm := rm) (rP := rP) (rS := rS) (rD := rD) (rQ := rQ) (al := al) (rw := rw) (rc := rc) (tr := tr) (kd := kd) (nu := nu) (pp := pp) (ii := ii) (qq := qq) (by first | assumption | omega) (by first | assumption | omega) (by first | assumption | omega) (by first | assumption | omega) (by first | assumption | omega) (by first | assumption | omega)) (cwV 3 C.1.2.2.2.2 gX6_signAt_X6_signAtRoot rfl rfl rfl (by decide +kernel) ⟨Nat.le_of_ble_eq_true rfl, Nat.le_of_ble_eq_true rfl⟩) [2, 0, 1] [] rfl rfl (by decide) (by decide) (by decide) 0 rfl rfl rfl hl.1 _ rfl (Nat.le_of_ble_eq_true rfl) dX6_signAt_25 ⟨Nat.le_of_ble_eq_true rfl, Nat.le_of_ble_eq_true rfl⟩ ?_
      clear hw
      rintro _ _ H locs ⟨r2P__3, r2S__4, r2D__5, r2Q__6, rfl, rfl⟩ hw
      have hw : gW D A s.heap [oX6 h a ft pn ra rm r2P__3 r2S__4 r2D__5 r2Q__6 al rw rc tr, cA G (a 2) 4 kd, cA G (a 3) 12 nu] H locs := hw
      refine g_iconst C dX6_signAt_28 ?_
      refine g_iadd C dX6_signAt_29 ?_
      exact g_iret C hr (ws' := [oX6 h a ft pn ra rm r2P__3 r2S__4 r2D__5 r2Q__6 al rw rc tr, cA G (a 2) 4 kd, cA G (a 3) 12 nu]) hw [0, 1, 2] (by decide) rfl ⟨r2P__3, r2S__4, r2D__5, r2Q__6, (congrArg iI (by unfold R_sig; (repeat' split) <;> omega)), rfl⟩ dX6_signAt_30
    · skip
      refine g_iconst C dX6_signAt_17 ?_
      refine g_goto C 30 dX6_signAt_18 (by decide) ?_
      exact g_iret C hr (ws' := [oX6 h a ft pn ra rm rP rS rD rQ al rw rc tr, cA G (a 2) 4 kd, cA G (a 3) 12 nu]) hw [2, 0, 1] (by decide) rfl ⟨rP, rS, rD, rQ, (congrArg iI (by unfold R_sig; (repeat' split) <;> omega)), rfl⟩ dX6_signAt_30

set_option maxRecDepth 20000 in
theorem cn_X6_ofPolynomial_196 : Jvm.Cond.constantLong RX6 196 (10) ∈ wsX6_ofPolynomial := List.mem_cons_of_mem _ (List.mem_append_left _ (List.mem_append_left _ (List.mem_of_getElem? (i := 0) rfl)))
set_option maxRecDepth 20000 in
theorem cn_X6_ofPolynomial_198 : Jvm.Cond.constantLong RX6 198 (12) ∈ wsX6_ofPolynomial := List.mem_cons_of_mem _ (List.mem_append_left _ (List.mem_append_left _ (List.mem_of_getElem? (i := 1) rfl)))
set_option maxRecDepth 20000 in
theorem cn_X6_ofPolynomial_200 : Jvm.Cond.constantLong RX6 200 (20) ∈ wsX6_ofPolynomial := List.mem_cons_of_mem _ (List.mem_append_left _ (List.mem_append_left _ (List.mem_of_getElem? (i := 3) rfl)))
set_option maxRecDepth 20000 in
theorem cn_X6_ofPolynomial_202 : Jvm.Cond.constantLong RX6 202 (22) ∈ wsX6_ofPolynomial := List.mem_cons_of_mem _ (List.mem_append_left _ (List.mem_append_left _ (List.mem_of_getElem? (i := 4) rfl)))
set_option maxRecDepth 20000 in
theorem hin_X6_ofPolynomial_X6 : ∀ w ∈ u_ws RX6 TX6 30, w ∈ wsX6_ofPolynomial := by
  intro w h
  exact List.mem_cons_of_mem _ (List.mem_append_right _ (h))
set_option maxRecDepth 20000 in
theorem lk_X6_ofPolynomial_7 : Cond.fieldLink RX6 7 (TX6 2).1 (TX6 2).2.1 (TX6 2).2.2.1 ∈ wsX6_ofPolynomial := List.mem_cons_of_mem _ (List.mem_append_left _ (List.mem_append_left _ (List.mem_of_getElem? (i := 5) rfl)))
set_option maxRecDepth 20000 in
theorem lk_X6_ofPolynomial_13 : Cond.fieldLink RX6 13 (TX6 3).1 (TX6 3).2.1 (TX6 3).2.2.1 ∈ wsX6_ofPolynomial := List.mem_cons_of_mem _ (List.mem_append_left _ (List.mem_append_left _ (List.mem_of_getElem? (i := 2) rfl)))
set_option maxRecDepth 100000 in
set_option maxHeartbeats 8000000 in
theorem m_X6_ofPolynomial (l : Launch) (D : va_G) (G : gT) (h : Nat) (a : Nat → Nat) (ft : Int) (pn : Int) (ra : Int) (rm : Int) (rP : Int) (rS : Int) (rD : Int) (rQ : Int) (al : Int) (rw : Int) (rc : Int) (tr : Int) (kd : Int → Int) (nu : Int → Int) (pp : Int) (wh : Int) (hkd : kdOK kd) (hnu : nuOK nu) (hn : 0 ≤ pn ∧ pn ≤ 4) (hp : -2147483648 ≤ pp ∧ pp ≤ 2147483647) (hw1 : -2147483648 ≤ wh ∧ wh ≤ 2147483647) : gMi l yX6_ofPolynomial wsX6_ofPolynomial ({ frames := 3, cells := 0, slots := 0, locals := 73 }) D G [.ref h, .int (iI pp), .int (iI wh)] [oX6 h a ft pn ra rm rP rS rD rQ al rw rc tr, cA G (a 2) 4 kd, cA G (a 3) 12 nu] 0 0 (fun (r : Int32) (w : va_W) => r = (iI (R_ofp pn kd nu pp wh)) ∧ w = [oX6 h a ft pn ra rm rP rS rD rQ al rw rc tr, cA G (a 2) 4 kd, cA G (a 3) 12 nu]) := by
  refine g_start_i (cc := cX6_ofPolynomial) (nL := 3) (own := RX6) (ret := some .int) (by decide +kernel) rfl rfl (Nat.le_of_ble_eq_true rfl) ?_
  intro p e s m below meth c A ls C hr hnm hw hl
  have hl : lv_has ls 3 [(0, .ref h), (1, .int (iI pp)), (2, .int (iI wh))] := hl
  have k0 := hkd pp
  have n0 := hnu (3 * pp + (wh - 10))
  have b0 := exT_b (n := pn) (kd := kd) hnu pp (wh - 20)
  refine g_aload_n C hl 0 rfl rfl dX6_ofPolynomial_0 ?_
  refine g_iload_n C hl 1 rfl rfl dX6_ofPolynomial_1 ?_
  refine g_callVi C hw (wr := [cA G (a 2) 4 kd, cA G (a 3) 12 nu]) (As := [.int (iI pp)]) (rest := []) (m_X6_noPolynomial l D G (h := h) (a := a) (ft := ft) (pn := pn) (ra := ra) (rm := rm) (rP := rP) (rS := rS) (rD := rD) (rQ := rQ) (al := al) (rw := rw) (rc := rc) (tr := tr) (pp := pp) (by first | assumption | omega) (by first | assumption | omega)) (cwV 1 C.1.2.2.2.2 gX6_ofPolynomial_X6_noPolynomial rfl rfl rfl (by decide +kernel) ⟨Nat.le_of_ble_eq_true rfl, Nat.le_of_ble_eq_true rfl⟩) [0] [1, 2] rfl rfl (by decide) (by decide) (by decide) 0 rfl rfl rfl hl.1 _ rfl (Nat.le_of_ble_eq_true rfl) dX6_ofPolynomial_2 ⟨Nat.le_of_ble_eq_true rfl, Nat.le_of_ble_eq_true rfl⟩ ?_
  clear hw
  rintro _ _ H locs ⟨rfl, rfl⟩ hw
  have hw : gW D A s.heap [cA G (a 2) 4 kd, cA G (a 3) 12 nu, oX6 h a ft pn ra rm rP rS rD rQ al rw rc tr] H locs := hw
  refine g_ifb_eq C 10 dX6_ofPolynomial_5 (by decide) (fun c_1 => ?_) (fun c_1 => ?_)
  · skip
    refine g_iload_n C hl 2 rfl rfl dX6_ofPolynomial_10 ?_
    refine g_i2l C dX6_ofPolynomial_11 (by omega) ?_
    refine g_ldc2 C (10) cn_X6_ofPolynomial_196 (by decide +kernel) dX6_ofPolynomial_12 ?_
    refine g_ldc2 C (12) cn_X6_ofPolynomial_198 (by decide +kernel) dX6_ofPolynomial_15 ?_
    refine g_callSi C hw (wr := [cA G (a 2) 4 kd, cA G (a 3) 12 nu, oX6 h a ft pn ra rm rP rS rD rQ al rw rc tr]) (As := [.long (lI (wh)), .long (lI (10)), .long (lI (12))]) (rest := []) (m_X6_in l D G (va := wh) (vb := 10) (vc := 12) (by first | assumption | omega) (by first | assumption | omega) (by first | assumption | omega)) (va_cwS 3 C.1.2.2.2.2 gX6_ofPolynomial_X6_in rfl rfl rfl (by decide +kernel) ⟨Nat.le_of_ble_eq_true rfl, Nat.le_of_ble_eq_true rfl⟩) [] [0, 1, 2] rfl rfl (by decide) (by decide) (by decide) rfl hl.1 _ rfl (Nat.le_of_ble_eq_true rfl) dX6_ofPolynomial_18 ⟨Nat.le_of_ble_eq_true rfl, Nat.le_of_ble_eq_true rfl⟩ ?_
    clear hw
    rintro _ _ H locs ⟨rfl, rfl⟩ hw
    have hw : gW D A s.heap [cA G (a 2) 4 kd, cA G (a 3) 12 nu, oX6 h a ft pn ra rm rP rS rD rQ al rw rc tr] H locs := hw
    refine g_ifb_eq C 41 dX6_ofPolynomial_21 (by decide) (fun c_2 => ?_) (fun c_2 => ?_)
    · skip
      refine g_iload_n C hl 2 rfl rfl dX6_ofPolynomial_41 ?_
      refine g_i2l C dX6_ofPolynomial_42 (by omega) ?_
      refine g_ldc2 C (20) cn_X6_ofPolynomial_200 (by decide +kernel) dX6_ofPolynomial_43 ?_
      refine g_ldc2 C (22) cn_X6_ofPolynomial_202 (by decide +kernel) dX6_ofPolynomial_46 ?_
      refine g_callSi C hw (wr := [cA G (a 2) 4 kd, cA G (a 3) 12 nu, oX6 h a ft pn ra rm rP rS rD rQ al rw rc tr]) (As := [.long (lI (wh)), .long (lI (20)), .long (lI (22))]) (rest := []) (m_X6_in l D G (va := wh) (vb := 20) (vc := 22) (by first | assumption | omega) (by first | assumption | omega) (by first | assumption | omega)) (va_cwS 3 C.1.2.2.2.2 gX6_ofPolynomial_X6_in rfl rfl rfl (by decide +kernel) ⟨Nat.le_of_ble_eq_true rfl, Nat.le_of_ble_eq_true rfl⟩) [] [0, 1, 2] rfl rfl (by decide) (by decide) (by decide) rfl hl.1 _ rfl (Nat.le_of_ble_eq_true rfl) dX6_ofPolynomial_49 ⟨Nat.le_of_ble_eq_true rfl, Nat.le_of_ble_eq_true rfl⟩ ?_
      clear hw
      rintro _ _ H locs ⟨rfl, rfl⟩ hw
      have hw : gW D A s.heap [cA G (a 2) 4 kd, cA G (a 3) 12 nu, oX6 h a ft pn ra rm rP rS rD rQ al rw rc tr] H locs := hw
      refine g_ifb_eq C 69 dX6_ofPolynomial_52 (by decide) (fun c_3 => ?_) (fun c_3 => ?_)
      · skip
        refine g_iload_n C hl 2 rfl rfl dX6_ofPolynomial_69 ?_
        refine g_if_ne C 82 dX6_ofPolynomial_70 (by decide) (by omega) (fun c_4 => ?_) (fun c_4 => ?_)
        · skip
          refine g_iload_n C hl 2 rfl rfl dX6_ofPolynomial_82 ?_
          refine g_iconst C dX6_ofPolynomial_83 ?_
          refine g_icmp_ne C 95 dX6_ofPolynomial_84 (by decide) (by omega) (by omega) (fun c_5 => ?_) (fun c_5 => ?_)
          · skip
            refine g_bipush C dX6_ofPolynomial_95 (by decide) ?_
            exact g_iret C hr (ws' := [oX6 h a ft pn ra rm rP rS rD rQ al rw rc tr, cA G (a 2) 4 kd, cA G (a 3) 12 nu]) hw [2, 0, 1] (by decide) rfl ⟨(congrArg iI (by unfold R_ofp; (try rw [show 3 * pp + wh - 10 = 3 * pp + (wh - 10) by omega]); (repeat' split) <;> omega)), rfl⟩ dX6_ofPolynomial_97
          · skip
            refine g_aload_n C hl 0 rfl rfl dX6_ofPolynomial_87 ?_
            refine g_iload_n C hl 1 rfl rfl dX6_ofPolynomial_88 ?_
            refine g_callVi C hw (wr := []) (As := [.int (iI pp)]) (rest := []) (m_X6_rootsOf l D G (h := h) (a := a) (ft := ft) (pn := pn) (ra := ra) (rm := rm) (rP := rP) (rS := rS) (rD := rD) (rQ := rQ) (al := al) (rw := rw) (rc := rc) (tr := tr) (kd := kd) (nu := nu) (pp := pp) (by first | assumption | omega) (by first | assumption | omega) (by first | assumption | omega) (by first | assumption | omega)) (cwV 1 C.1.2.2.2.2 gX6_ofPolynomial_X6_rootsOf rfl rfl rfl (by decide +kernel) ⟨Nat.le_of_ble_eq_true rfl, Nat.le_of_ble_eq_true rfl⟩) [2, 0, 1] [] rfl rfl (by decide) (by decide) (by decide) 0 rfl rfl rfl hl.1 _ rfl (Nat.le_of_ble_eq_true rfl) dX6_ofPolynomial_89 ⟨Nat.le_of_ble_eq_true rfl, Nat.le_of_ble_eq_true rfl⟩ ?_
            clear hw
            rintro _ _ H locs ⟨rfl, rfl⟩ hw
            have hw : gW D A s.heap [oX6 h a ft pn ra rm rP rS rD rQ al rw rc tr, cA G (a 2) 4 kd, cA G (a 3) 12 nu] H locs := hw
            refine g_goto C 97 dX6_ofPolynomial_92 (by decide) ?_
            exact g_iret C hr (ws' := [oX6 h a ft pn ra rm rP rS rD rQ al rw rc tr, cA G (a 2) 4 kd, cA G (a 3) 12 nu]) hw [0, 1, 2] (by decide) rfl ⟨(congrArg iI (by unfold R_ofp; (try rw [show 3 * pp + wh - 10 = 3 * pp + (wh - 10) by omega]); (repeat' split) <;> omega)), rfl⟩ dX6_ofPolynomial_97
        · skip
          refine g_aload_n C hl 0 rfl rfl dX6_ofPolynomial_73 ?_
          refine g_get C hw hin_X6_ofPolynomial_X6 2 rfl rfl 2 (by decide) lk_X6_ofPolynomial_7 rfl dX6_ofPolynomial_74 ?_
          refine g_iload_n C hl 1 rfl rfl dX6_ofPolynomial_77 ?_
          refine g_iald C hw 0 rfl (by omega) (Nat.le_of_ble_eq_true rfl) dX6_ofPolynomial_78 ?_
          refine g_goto C 97 dX6_ofPolynomial_79 (by decide) ?_
          exact g_iret C hr (ws' := [oX6 h a ft pn ra rm rP rS rD rQ al rw rc tr, cA G (a 2) 4 kd, cA G (a 3) 12 nu]) hw [2, 0, 1] (by decide) rfl ⟨(congrArg iI (by unfold R_ofp; (try rw [show 3 * pp + wh - 10 = 3 * pp + (wh - 10) by omega]); (repeat' split) <;> omega)), rfl⟩ dX6_ofPolynomial_97
      · skip
        refine g_aload_n C hl 0 rfl rfl dX6_ofPolynomial_55 ?_
        refine g_iload_n C hl 1 rfl rfl dX6_ofPolynomial_56 ?_
        refine g_iload_n C hl 2 rfl rfl dX6_ofPolynomial_57 ?_
        refine g_bipush C dX6_ofPolynomial_58 (by decide) ?_
        refine g_isub C dX6_ofPolynomial_60 ?_
        refine g_callVl C hw (wr := []) (As := [.int (iI pp), .int (iI (wh - 20))]) (rest := []) (m_X6_is l D G (h := h) (a := a) (ft := ft) (pn := pn) (ra := ra) (rm := rm) (rP := rP) (rS := rS) (rD := rD) (rQ := rQ) (al := al) (rw := rw) (rc := rc) (tr := tr) (kd := kd) (nu := nu) (pp := pp) (kk := (wh - 20)) (by first | assumption | omega) (by first | assumption | omega) (by first | assumption | omega) (by first | assumption | omega) (by first | assumption | omega)) (cwV 2 C.1.2.2.2.2 gX6_ofPolynomial_X6_is rfl rfl rfl (by decide +kernel) ⟨Nat.le_of_ble_eq_true rfl, Nat.le_of_ble_eq_true rfl⟩) [2, 0, 1] [] rfl rfl (by decide) (by decide) (by decide) 0 rfl rfl rfl hl.1 _ rfl (Nat.le_of_ble_eq_true rfl) dX6_ofPolynomial_61 ⟨Nat.le_of_ble_eq_true rfl, Nat.le_of_ble_eq_true rfl⟩ ?_
        clear hw
        rintro _ _ H locs ⟨rfl, rfl⟩ hw
        have hw : gW D A s.heap [oX6 h a ft pn ra rm rP rS rD rQ al rw rc tr, cA G (a 2) 4 kd, cA G (a 3) 12 nu] H locs := hw
        refine g_l2i C dX6_ofPolynomial_64 ?_
        refine g_bipush C dX6_ofPolynomial_65 (by decide) ?_
        refine g_iadd C dX6_ofPolynomial_67 ?_
        exact g_iret C hr (ws' := [oX6 h a ft pn ra rm rP rS rD rQ al rw rc tr, cA G (a 2) 4 kd, cA G (a 3) 12 nu]) hw [0, 1, 2] (by decide) rfl ⟨(congrArg iI (by unfold R_ofp; (try rw [show 3 * pp + wh - 10 = 3 * pp + (wh - 10) by omega]); (repeat' split) <;> omega)), rfl⟩ dX6_ofPolynomial_68
    · skip
      refine g_aload_n C hl 0 rfl rfl dX6_ofPolynomial_24 ?_
      refine g_get C hw hin_X6_ofPolynomial_X6 2 rfl rfl 3 (by decide) lk_X6_ofPolynomial_13 rfl dX6_ofPolynomial_25 ?_
      refine g_iconst C dX6_ofPolynomial_28 ?_
      refine g_iload_n C hl 1 rfl rfl dX6_ofPolynomial_29 ?_
      refine g_imul C dX6_ofPolynomial_30 ?_
      refine g_iload_n C hl 2 rfl rfl dX6_ofPolynomial_31 ?_
      refine g_iadd C dX6_ofPolynomial_32 ?_
      refine g_bipush C dX6_ofPolynomial_33 (by decide) ?_
      refine g_isub C dX6_ofPolynomial_35 ?_
      refine g_iald C hw 1 rfl (by omega) (Nat.le_of_ble_eq_true rfl) dX6_ofPolynomial_36 ?_
      refine g_bipush C dX6_ofPolynomial_37 (by decide) ?_
      refine g_iadd C dX6_ofPolynomial_39 ?_
      exact g_iret C hr (ws' := [oX6 h a ft pn ra rm rP rS rD rQ al rw rc tr, cA G (a 2) 4 kd, cA G (a 3) 12 nu]) hw [2, 0, 1] (by decide) rfl ⟨(congrArg iI (by unfold R_ofp; (try rw [show 3 * pp + wh - 10 = 3 * pp + (wh - 10) by omega]); (repeat' split) <;> omega)), rfl⟩ dX6_ofPolynomial_40
  · skip
    refine g_iconst C dX6_ofPolynomial_8 ?_
    exact g_iret C hr (ws' := [oX6 h a ft pn ra rm rP rS rD rQ al rw rc tr, cA G (a 2) 4 kd, cA G (a 3) 12 nu]) hw [2, 0, 1] (by decide) rfl ⟨(congrArg iI (by unfold R_ofp; (try rw [show 3 * pp + wh - 10 = 3 * pp + (wh - 10) by omega]); (repeat' split) <;> omega)), rfl⟩ dX6_ofPolynomial_9

set_option maxRecDepth 20000 in
theorem cn_X6_value_204 : Jvm.Cond.constantLong RX6 204 (-1000000) ∈ wsX6_value := List.mem_cons_of_mem _ (List.mem_append_left _ (List.mem_of_getElem? (i := 0) rfl))
set_option maxRecDepth 20000 in
theorem cn_X6_value_206 : Jvm.Cond.constantLong RX6 206 (1000000) ∈ wsX6_value := List.mem_cons_of_mem _ (List.mem_append_left _ (List.mem_of_getElem? (i := 1) rfl))
set_option maxRecDepth 100000 in
set_option maxHeartbeats 8000000 in
theorem m_X6_value (l : Launch) (D : va_G) (G : gT) (h : Nat) (a : Nat → Nat) (ft : Int) (pn : Int) (ra : Int) (rm : Int) (rP : Int) (rS : Int) (rD : Int) (rQ : Int) (al : Int) (rw : Int) (rc : Int) (tr : Int) (kd : Int → Int) (nu : Int → Int) (pp : Int) (xv : Int) (hkd : kdOK kd) (hnu : nuOK nu) (hn : 0 ≤ pn ∧ pn ≤ 4) (hp : -2147483648 ≤ pp ∧ pp ≤ 2147483647) (hx : -2147483648 ≤ xv ∧ xv ≤ 2147483647) : gMl l yX6_value wsX6_value ({ frames := 2, cells := 0, slots := 0, locals := 46 }) D G [.ref h, .int (iI pp), .int (iI xv)] [oX6 h a ft pn ra rm rP rS rD rQ al rw rc tr, cA G (a 2) 4 kd, cA G (a 3) 12 nu] 0 0 (fun (r : Int64) (w : va_W) => r = (lI (R_val pn kd nu pp xv)) ∧ w = [oX6 h a ft pn ra rm rP rS rD rQ al rw rc tr, cA G (a 2) 4 kd, cA G (a 3) 12 nu]) := by
  refine g_start_l (cc := cX6_value) (nL := 5) (own := RX6) (ret := some .long) (by decide +kernel) rfl rfl (Nat.le_of_ble_eq_true rfl) ?_
  intro p e s m below meth c A ls C hr hnm hw hl
  have hl : lv_has ls 5 [(0, .ref h), (1, .int (iI pp)), (2, .int (iI xv))] := hl
  refine g_aload_n C hl 0 rfl rfl dX6_value_0 ?_
  refine g_iload_n C hl 1 rfl rfl dX6_value_1 ?_
  refine g_callVi C hw (wr := [cA G (a 2) 4 kd, cA G (a 3) 12 nu]) (As := [.int (iI pp)]) (rest := []) (m_X6_noPolynomial l D G (h := h) (a := a) (ft := ft) (pn := pn) (ra := ra) (rm := rm) (rP := rP) (rS := rS) (rD := rD) (rQ := rQ) (al := al) (rw := rw) (rc := rc) (tr := tr) (pp := pp) (by first | assumption | omega) (by first | assumption | omega)) (cwV 1 C.1.2.2.2.2 gX6_value_X6_noPolynomial rfl rfl rfl (by decide +kernel) ⟨Nat.le_of_ble_eq_true rfl, Nat.le_of_ble_eq_true rfl⟩) [0] [1, 2] rfl rfl (by decide) (by decide) (by decide) 0 rfl rfl rfl hl.1 _ rfl (Nat.le_of_ble_eq_true rfl) dX6_value_2 ⟨Nat.le_of_ble_eq_true rfl, Nat.le_of_ble_eq_true rfl⟩ ?_
  clear hw
  rintro _ _ H locs ⟨rfl, rfl⟩ hw
  have hw : gW D A s.heap [cA G (a 2) 4 kd, cA G (a 3) 12 nu, oX6 h a ft pn ra rm rP rS rD rQ al rw rc tr] H locs := hw
  refine g_ifb_ne C 22 dX6_value_5 (by decide) (fun c_1 => ?_) (fun c_1 => ?_)
  · skip
    refine g_callSl C hw (wr := [cA G (a 2) 4 kd, cA G (a 3) 12 nu, oX6 h a ft pn ra rm rP rS rD rQ al rw rc tr]) (As := []) (rest := []) (m_X6_lost l D G  ) (va_cwS 0 C.1.2.2.2.2 gX6_value_X6_lost rfl rfl rfl (by decide +kernel) ⟨Nat.le_of_ble_eq_true rfl, Nat.le_of_ble_eq_true rfl⟩) [] [0, 1, 2] rfl rfl (by decide) (by decide) (by decide) rfl hl.1 _ rfl (Nat.le_of_ble_eq_true rfl) dX6_value_22 ⟨Nat.le_of_ble_eq_true rfl, Nat.le_of_ble_eq_true rfl⟩ ?_
    clear hw
    rintro _ _ H locs ⟨rfl, rfl⟩ hw
    have hw : gW D A s.heap [cA G (a 2) 4 kd, cA G (a 3) 12 nu, oX6 h a ft pn ra rm rP rS rD rQ al rw rc tr] H locs := hw
    exact g_lret C hr (ws' := [oX6 h a ft pn ra rm rP rS rD rQ al rw rc tr, cA G (a 2) 4 kd, cA G (a 3) 12 nu]) hw [2, 0, 1] (by decide) rfl ⟨(congrArg lI (by unfold R_val; (repeat' split) <;> omega)), rfl⟩ dX6_value_25
  · skip
    refine g_iload_n C hl 2 rfl rfl dX6_value_8 ?_
    refine g_i2l C dX6_value_9 (by omega) ?_
    refine g_ldc2 C (-1000000) cn_X6_value_204 (by decide +kernel) dX6_value_10 ?_
    refine g_ldc2 C (1000000) cn_X6_value_206 (by decide +kernel) dX6_value_13 ?_
    refine g_callSi C hw (wr := [cA G (a 2) 4 kd, cA G (a 3) 12 nu, oX6 h a ft pn ra rm rP rS rD rQ al rw rc tr]) (As := [.long (lI (xv)), .long (lI ((-1000000))), .long (lI (1000000))]) (rest := []) (m_X6_in l D G (va := xv) (vb := (-1000000)) (vc := 1000000) (by first | assumption | omega) (by first | assumption | omega) (by first | assumption | omega)) (va_cwS 3 C.1.2.2.2.2 gX6_value_X6_in rfl rfl rfl (by decide +kernel) ⟨Nat.le_of_ble_eq_true rfl, Nat.le_of_ble_eq_true rfl⟩) [] [0, 1, 2] rfl rfl (by decide) (by decide) (by decide) rfl hl.1 _ rfl (Nat.le_of_ble_eq_true rfl) dX6_value_16 ⟨Nat.le_of_ble_eq_true rfl, Nat.le_of_ble_eq_true rfl⟩ ?_
    clear hw
    rintro _ _ H locs ⟨rfl, rfl⟩ hw
    have hw : gW D A s.heap [cA G (a 2) 4 kd, cA G (a 3) 12 nu, oX6 h a ft pn ra rm rP rS rD rQ al rw rc tr] H locs := hw
    refine g_ifb_ne C 26 dX6_value_19 (by decide) (fun c_2 => ?_) (fun c_2 => ?_)
    · skip
      refine g_iload_n C hl 2 rfl rfl dX6_value_26 ?_
      refine g_i2l C dX6_value_27 (by omega) ?_
      refine g_lstore_n C [(3, .long (lI (xv))), (0, .ref h), (1, .int (iI pp)), (2, .int (iI xv))] dX6_value_28 rfl hl (by decide) rfl ?_
      clear hl
      intro ls hl
      refine g_aload_n C hl 1 rfl rfl dX6_value_29 ?_
      refine g_iload_n C hl 2 rfl rfl dX6_value_30 ?_
      refine g_iconst C dX6_value_31 ?_
      refine g_callVl C hw (wr := []) (As := [.int (iI pp), .int (iI 0)]) (rest := []) (m_X6_is l D G (h := h) (a := a) (ft := ft) (pn := pn) (ra := ra) (rm := rm) (rP := rP) (rS := rS) (rD := rD) (rQ := rQ) (al := al) (rw := rw) (rc := rc) (tr := tr) (kd := kd) (nu := nu) (pp := pp) (kk := 0) (by first | assumption | omega) (by first | assumption | omega) (by first | assumption | omega) (by first | assumption | omega) (by first | assumption | omega)) (cwV 2 C.1.2.2.2.2 gX6_value_X6_is rfl rfl rfl (by decide +kernel) ⟨Nat.le_of_ble_eq_true rfl, Nat.le_of_ble_eq_true rfl⟩) [2, 0, 1] [] rfl rfl (by decide) (by decide) (by decide) 0 rfl rfl rfl hl.1 _ rfl (Nat.le_of_ble_eq_true rfl) dX6_value_32 ⟨Nat.le_of_ble_eq_true rfl, Nat.le_of_ble_eq_true rfl⟩ ?_
      clear hw
      rintro _ _ H locs ⟨rfl, rfl⟩ hw
      have hw : gW D A s.heap [oX6 h a ft pn ra rm rP rS rD rQ al rw rc tr, cA G (a 2) 4 kd, cA G (a 3) 12 nu] H locs := hw
      refine g_aload_n C hl 1 rfl rfl dX6_value_35 ?_
      refine g_iload_n C hl 2 rfl rfl dX6_value_36 ?_
      refine g_iconst C dX6_value_37 ?_
      refine g_callVl C hw (wr := []) (As := [.int (iI pp), .int (iI 1)]) (rest := [.long (lI ((exT pn kd nu pp 0)))]) (m_X6_is l D G (h := h) (a := a) (ft := ft) (pn := pn) (ra := ra) (rm := rm) (rP := rP) (rS := rS) (rD := rD) (rQ := rQ) (al := al) (rw := rw) (rc := rc) (tr := tr) (kd := kd) (nu := nu) (pp := pp) (kk := 1) (by first | assumption | omega) (by first | assumption | omega) (by first | assumption | omega) (by first | assumption | omega) (by first | assumption | omega)) (cwV 2 C.1.2.2.2.2 gX6_value_X6_is rfl rfl rfl (by decide +kernel) ⟨Nat.le_of_ble_eq_true rfl, Nat.le_of_ble_eq_true rfl⟩) [0, 1, 2] [] rfl rfl (by decide) (by decide) (by decide) 0 rfl rfl rfl hl.1 _ rfl (Nat.le_of_ble_eq_true rfl) dX6_value_38 ⟨Nat.le_of_ble_eq_true rfl, Nat.le_of_ble_eq_true rfl⟩ ?_
      clear hw
      rintro _ _ H locs ⟨rfl, rfl⟩ hw
      have hw : gW D A s.heap [oX6 h a ft pn ra rm rP rS rD rQ al rw rc tr, cA G (a 2) 4 kd, cA G (a 3) 12 nu] H locs := hw
      refine g_lload_n C hl 0 rfl rfl dX6_value_41 ?_
      refine g_lmul C dX6_value_42 ?_
      refine g_ladd C dX6_value_43 ?_
      refine g_aload_n C hl 1 rfl rfl dX6_value_44 ?_
      refine g_iload_n C hl 2 rfl rfl dX6_value_45 ?_
      refine g_iconst C dX6_value_46 ?_
      refine g_callVl C hw (wr := []) (As := [.int (iI pp), .int (iI 2)]) (rest := [.long (lI ((exT pn kd nu pp 0) + ((exT pn kd nu pp 1) * xv)))]) (m_X6_is l D G (h := h) (a := a) (ft := ft) (pn := pn) (ra := ra) (rm := rm) (rP := rP) (rS := rS) (rD := rD) (rQ := rQ) (al := al) (rw := rw) (rc := rc) (tr := tr) (kd := kd) (nu := nu) (pp := pp) (kk := 2) (by first | assumption | omega) (by first | assumption | omega) (by first | assumption | omega) (by first | assumption | omega) (by first | assumption | omega)) (cwV 2 C.1.2.2.2.2 gX6_value_X6_is rfl rfl rfl (by decide +kernel) ⟨Nat.le_of_ble_eq_true rfl, Nat.le_of_ble_eq_true rfl⟩) [0, 1, 2] [] rfl rfl (by decide) (by decide) (by decide) 0 rfl rfl rfl hl.1 _ rfl (Nat.le_of_ble_eq_true rfl) dX6_value_47 ⟨Nat.le_of_ble_eq_true rfl, Nat.le_of_ble_eq_true rfl⟩ ?_
      clear hw
      rintro _ _ H locs ⟨rfl, rfl⟩ hw
      have hw : gW D A s.heap [oX6 h a ft pn ra rm rP rS rD rQ al rw rc tr, cA G (a 2) 4 kd, cA G (a 3) 12 nu] H locs := hw
      refine g_lload_n C hl 0 rfl rfl dX6_value_50 ?_
      refine g_lmul C dX6_value_51 ?_
      refine g_lload_n C hl 0 rfl rfl dX6_value_52 ?_
      refine g_lmul C dX6_value_53 ?_
      refine g_ladd C dX6_value_54 ?_
      exact g_lret C hr (ws' := [oX6 h a ft pn ra rm rP rS rD rQ al rw rc tr, cA G (a 2) 4 kd, cA G (a 3) 12 nu]) hw [0, 1, 2] (by decide) rfl ⟨(congrArg lI (by unfold R_val; (repeat' split) <;> omega)), rfl⟩ dX6_value_55
    · skip
      refine g_callSl C hw (wr := [cA G (a 2) 4 kd, cA G (a 3) 12 nu, oX6 h a ft pn ra rm rP rS rD rQ al rw rc tr]) (As := []) (rest := []) (m_X6_lost l D G  ) (va_cwS 0 C.1.2.2.2.2 gX6_value_X6_lost rfl rfl rfl (by decide +kernel) ⟨Nat.le_of_ble_eq_true rfl, Nat.le_of_ble_eq_true rfl⟩) [] [0, 1, 2] rfl rfl (by decide) (by decide) (by decide) rfl hl.1 _ rfl (Nat.le_of_ble_eq_true rfl) dX6_value_22 ⟨Nat.le_of_ble_eq_true rfl, Nat.le_of_ble_eq_true rfl⟩ ?_
      clear hw
      rintro _ _ H locs ⟨rfl, rfl⟩ hw
      have hw : gW D A s.heap [cA G (a 2) 4 kd, cA G (a 3) 12 nu, oX6 h a ft pn ra rm rP rS rD rQ al rw rc tr] H locs := hw
      exact g_lret C hr (ws' := [oX6 h a ft pn ra rm rP rS rD rQ al rw rc tr, cA G (a 2) 4 kd, cA G (a 3) 12 nu]) hw [2, 0, 1] (by decide) rfl ⟨(congrArg lI (by unfold R_val; (repeat' split) <;> omega)), rfl⟩ dX6_value_25

set_option maxRecDepth 20000 in
theorem cn_X6_tune_117 : Jvm.Cond.constantLong RX6 117 (2) ∈ wsX6_tune := List.mem_cons_of_mem _ (List.mem_append_left _ (List.mem_of_getElem? (i := 0) rfl))
set_option maxRecDepth 20000 in
theorem hin_X6_tune_X6 : ∀ w ∈ u_ws RX6 TX6 30, w ∈ wsX6_tune := by
  intro w h
  exact List.mem_cons_of_mem _ (List.mem_append_right _ (h))
set_option maxRecDepth 20000 in
theorem lk_X6_tune_13 : Cond.fieldLink RX6 13 (TX6 3).1 (TX6 3).2.1 (TX6 3).2.2.1 ∈ wsX6_tune := List.mem_cons_of_mem _ (List.mem_append_left _ (List.mem_of_getElem? (i := 1) rfl))
set_option maxRecDepth 100000 in
set_option maxHeartbeats 8000000 in
theorem m_X6_tune (l : Launch) (D : va_G) (G : gT) (h : Nat) (a : Nat → Nat) (ft : Int) (pn : Int) (ra : Int) (rm : Int) (rP : Int) (rS : Int) (rD : Int) (rQ : Int) (al : Int) (rw : Int) (rc : Int) (tr : Int) (kd : Int → Int) (nu : Int → Int) (pp : Int) (kk : Int) (vv : Int) (hkd : kdOK kd) (hnu : nuOK nu) (hn : 0 ≤ pn ∧ pn ≤ 4) (hp : -2147483648 ≤ pp ∧ pp ≤ 2147483647) (hk : -2147483648 ≤ kk ∧ kk ≤ 2147483647) (hv : -2147483648 ≤ vv ∧ vv ≤ 2147483647) : gMi l yX6_tune wsX6_tune ({ frames := 2, cells := 0, slots := 0, locals := 46 }) D G [.ref h, .int (iI pp), .int (iI kk), .int (iI vv)] [oX6 h a ft pn ra rm rP rS rD rQ al rw rc tr, cA G (a 2) 4 kd, cA G (a 3) 12 nu] 0 0 (fun (r : Int32) (w : va_W) => r = (iI (R_tune pn nu pp kk vv)) ∧ w = [oX6 h a ft pn ra rm rP rS rD rQ al rw rc tr, cA G (a 2) 4 kd, cA G (a 3) 12 (tuF pn nu pp kk vv)]) := by
  refine g_start_i (cc := cX6_tune) (nL := 5) (own := RX6) (ret := some .int) (by decide +kernel) rfl rfl (Nat.le_of_ble_eq_true rfl) ?_
  intro p e s m below meth c A ls C hr hnm hw hl
  have hl : lv_has ls 5 [(0, .ref h), (1, .int (iI pp)), (2, .int (iI kk)), (3, .int (iI vv))] := hl
  refine g_aload_n C hl 0 rfl rfl dX6_tune_0 ?_
  refine g_iload_n C hl 1 rfl rfl dX6_tune_1 ?_
  refine g_callVi C hw (wr := [cA G (a 2) 4 kd, cA G (a 3) 12 nu]) (As := [.int (iI pp)]) (rest := []) (m_X6_noPolynomial l D G (h := h) (a := a) (ft := ft) (pn := pn) (ra := ra) (rm := rm) (rP := rP) (rS := rS) (rD := rD) (rQ := rQ) (al := al) (rw := rw) (rc := rc) (tr := tr) (pp := pp) (by first | assumption | omega) (by first | assumption | omega)) (cwV 1 C.1.2.2.2.2 gX6_tune_X6_noPolynomial rfl rfl rfl (by decide +kernel) ⟨Nat.le_of_ble_eq_true rfl, Nat.le_of_ble_eq_true rfl⟩) [0] [1, 2] rfl rfl (by decide) (by decide) (by decide) 0 rfl rfl rfl hl.1 _ rfl (Nat.le_of_ble_eq_true rfl) dX6_tune_2 ⟨Nat.le_of_ble_eq_true rfl, Nat.le_of_ble_eq_true rfl⟩ ?_
  clear hw
  rintro _ _ H locs ⟨rfl, rfl⟩ hw
  have hw : gW D A s.heap [cA G (a 2) 4 kd, cA G (a 3) 12 nu, oX6 h a ft pn ra rm rP rS rD rQ al rw rc tr] H locs := hw
  refine g_ifb_eq C 10 dX6_tune_5 (by decide) (fun c_1 => ?_) (fun c_1 => ?_)
  · skip
    refine g_iload_n C hl 2 rfl rfl dX6_tune_10 ?_
    refine g_i2l C dX6_tune_11 (by omega) ?_
    refine g_lconst0 C dX6_tune_12 ?_
    refine g_ldc2 C (2) cn_X6_tune_117 (by decide +kernel) dX6_tune_13 ?_
    refine g_callSi C hw (wr := [cA G (a 2) 4 kd, cA G (a 3) 12 nu, oX6 h a ft pn ra rm rP rS rD rQ al rw rc tr]) (As := [.long (lI (kk)), .long (lI (0)), .long (lI (2))]) (rest := []) (m_X6_in l D G (va := kk) (vb := 0) (vc := 2) (by first | assumption | omega) (by first | assumption | omega) (by first | assumption | omega)) (va_cwS 3 C.1.2.2.2.2 gX6_tune_X6_in rfl rfl rfl (by decide +kernel) ⟨Nat.le_of_ble_eq_true rfl, Nat.le_of_ble_eq_true rfl⟩) [] [0, 1, 2] rfl rfl (by decide) (by decide) (by decide) rfl hl.1 _ rfl (Nat.le_of_ble_eq_true rfl) dX6_tune_16 ⟨Nat.le_of_ble_eq_true rfl, Nat.le_of_ble_eq_true rfl⟩ ?_
    clear hw
    rintro _ _ H locs ⟨rfl, rfl⟩ hw
    have hw : gW D A s.heap [cA G (a 2) 4 kd, cA G (a 3) 12 nu, oX6 h a ft pn ra rm rP rS rD rQ al rw rc tr] H locs := hw
    refine g_ifb_eq C 29 dX6_tune_19 (by decide) (fun c_2 => ?_) (fun c_2 => ?_)
    · skip
      refine g_bipush C dX6_tune_29 (by decide) ?_
      exact g_iret C hr (ws' := [oX6 h a ft pn ra rm rP rS rD rQ al rw rc tr, cA G (a 2) 4 kd, cA G (a 3) 12 nu]) hw [2, 0, 1] (by decide) rfl ⟨(congrArg iI (by unfold R_tune; (repeat' split) <;> omega)), (by first | rw [tuF_t (by omega)] | rw [tuF_f (by omega)])⟩ dX6_tune_31
    · skip
      refine g_iload_n C hl 3 rfl rfl dX6_tune_22 ?_
      refine g_callSi C hw (wr := [cA G (a 2) 4 kd, cA G (a 3) 12 nu, oX6 h a ft pn ra rm rP rS rD rQ al rw rc tr]) (As := [.int (iI vv)]) (rest := []) (m_X6_isCoefficient l D G (vv := vv) (by first | assumption | omega)) (va_cwS 1 C.1.2.2.2.2 gX6_tune_X6_isCoefficient rfl rfl rfl (by decide +kernel) ⟨Nat.le_of_ble_eq_true rfl, Nat.le_of_ble_eq_true rfl⟩) [] [0, 1, 2] rfl rfl (by decide) (by decide) (by decide) rfl hl.1 _ rfl (Nat.le_of_ble_eq_true rfl) dX6_tune_23 ⟨Nat.le_of_ble_eq_true rfl, Nat.le_of_ble_eq_true rfl⟩ ?_
      clear hw
      rintro _ _ H locs ⟨rfl, rfl⟩ hw
      have hw : gW D A s.heap [cA G (a 2) 4 kd, cA G (a 3) 12 nu, oX6 h a ft pn ra rm rP rS rD rQ al rw rc tr] H locs := hw
      refine g_ifb_ne C 32 dX6_tune_26 (by decide) (fun c_3 => ?_) (fun c_3 => ?_)
      · skip
        refine g_aload_n C hl 0 rfl rfl dX6_tune_32 ?_
        refine g_get C hw hin_X6_tune_X6 2 rfl rfl 3 (by decide) lk_X6_tune_13 rfl dX6_tune_33 ?_
        refine g_iconst C dX6_tune_36 ?_
        refine g_iload_n C hl 1 rfl rfl dX6_tune_37 ?_
        refine g_imul C dX6_tune_38 ?_
        refine g_iload_n C hl 2 rfl rfl dX6_tune_39 ?_
        refine g_iadd C dX6_tune_40 ?_
        refine g_iald C hw 1 rfl (by omega) (Nat.le_of_ble_eq_true rfl) dX6_tune_41 ?_
        refine g_istore C [(4, .int (iI (nu ((3 * pp) + kk)))), (0, .ref h), (1, .int (iI pp)), (2, .int (iI kk)), (3, .int (iI vv))] dX6_tune_42 hl (by decide) rfl ?_
        clear hl
        intro ls hl
        refine g_aload_n C hl 1 rfl rfl dX6_tune_44 ?_
        refine g_get C hw hin_X6_tune_X6 2 rfl rfl 3 (by decide) lk_X6_tune_13 rfl dX6_tune_45 ?_
        refine g_iconst C dX6_tune_48 ?_
        refine g_iload_n C hl 2 rfl rfl dX6_tune_49 ?_
        refine g_imul C dX6_tune_50 ?_
        refine g_iload_n C hl 3 rfl rfl dX6_tune_51 ?_
        refine g_iadd C dX6_tune_52 ?_
        refine g_iload_n C hl 4 rfl rfl dX6_tune_53 ?_
        refine g_iast C hw [cA G (a 2) 4 kd, cA G (a 3) 12 (up nu ((3 * pp) + kk) vv), oX6 h a ft pn ra rm rP rS rD rQ al rw rc tr] 1 rfl (by omega) (Nat.le_of_ble_eq_true rfl) rfl dX6_tune_54 ?_
        clear hw
        intro H locs hw
        refine g_iload C hl 0 rfl dX6_tune_55 ?_
        refine g_bipush C dX6_tune_57 (by decide) ?_
        refine g_iadd C dX6_tune_59 ?_
        exact g_iret C hr (ws' := [oX6 h a ft pn ra rm rP rS rD rQ al rw rc tr, cA G (a 2) 4 kd, cA G (a 3) 12 (up nu ((3 * pp) + kk) vv)]) hw [2, 0, 1] (by decide) rfl ⟨(congrArg iI (by unfold R_tune; (repeat' split) <;> omega)), (by first | rw [tuF_t (by omega)] | rw [tuF_f (by omega)])⟩ dX6_tune_60
      · skip
        refine g_bipush C dX6_tune_29 (by decide) ?_
        exact g_iret C hr (ws' := [oX6 h a ft pn ra rm rP rS rD rQ al rw rc tr, cA G (a 2) 4 kd, cA G (a 3) 12 nu]) hw [2, 0, 1] (by decide) rfl ⟨(congrArg iI (by unfold R_tune; (repeat' split) <;> omega)), (by first | rw [tuF_t (by omega)] | rw [tuF_f (by omega)])⟩ dX6_tune_31
  · skip
    refine g_iconst C dX6_tune_8 ?_
    exact g_iret C hr (ws' := [oX6 h a ft pn ra rm rP rS rD rQ al rw rc tr, cA G (a 2) 4 kd, cA G (a 3) 12 nu]) hw [2, 0, 1] (by decide) rfl ⟨(congrArg iI (by unfold R_tune; (repeat' split) <;> omega)), (by first | rw [tuF_t (by omega)] | rw [tuF_f (by omega)])⟩ dX6_tune_9
