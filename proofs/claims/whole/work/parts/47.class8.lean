set_option maxRecDepth 20000 in
theorem hin_X5_kinds_X5 : ∀ w ∈ u_ws RX5 TX5 9, w ∈ wsX5_kinds := by
  intro w h
  exact List.mem_cons_of_mem _ (List.mem_append_left _ (List.mem_append_left _ (List.mem_append_left _ (List.mem_append_right _ (h)))))
set_option maxRecDepth 20000 in
theorem lk_X5_kinds_31 : Cond.fieldLink RX5 31 (TX5 3).1 (TX5 3).2.1 (TX5 3).2.2.1 ∈ wsX5_kinds := List.mem_cons_of_mem _ (List.mem_append_left _ (List.mem_append_left _ (List.mem_append_left _ (List.mem_append_left _ (List.mem_append_left _ (List.mem_of_getElem? (i := 0) rfl))))))
set_option maxRecDepth 20000 in
theorem lk_X5_kinds_20 : Cond.fieldLink RX5 20 (TX5 1).1 (TX5 1).2.1 (TX5 1).2.2.1 ∈ wsX5_kinds := List.mem_cons_of_mem _ (List.mem_append_left _ (List.mem_append_left _ (List.mem_append_left _ (List.mem_append_left _ (List.mem_append_left _ (List.mem_of_getElem? (i := 1) rfl))))))
set_option maxRecDepth 20000 in
theorem hin_X5_kinds_X4 : ∀ w ∈ u_ws RX4 TX4 3, w ∈ wsX5_kinds := by
  intro w h
  exact List.mem_cons_of_mem _ (List.mem_append_left _ (List.mem_append_left _ (List.mem_append_right _ (h))))
set_option maxRecDepth 20000 in
theorem lk_X5_kinds_96 : Cond.fieldLink RX5 96 (TX4 1).1 (TX4 1).2.1 (TX4 1).2.2.1 ∈ wsX5_kinds := List.mem_cons_of_mem _ (List.mem_append_left _ (List.mem_append_left _ (List.mem_append_left _ (List.mem_append_left _ (List.mem_append_left _ (List.mem_of_getElem? (i := 2) rfl))))))
set_option maxRecDepth 20000 in
theorem lk_X5_kinds_34 : Cond.fieldLink RX5 34 (TX5 4).1 (TX5 4).2.1 (TX5 4).2.2.1 ∈ wsX5_kinds := List.mem_cons_of_mem _ (List.mem_append_left _ (List.mem_append_left _ (List.mem_append_left _ (List.mem_append_left _ (List.mem_append_left _ (List.mem_of_getElem? (i := 3) rfl))))))
set_option maxRecDepth 20000 in
theorem lk_X5_kinds_47 : Cond.fieldLink RX5 47 (TX5 6).1 (TX5 6).2.1 (TX5 6).2.2.1 ∈ wsX5_kinds := List.mem_cons_of_mem _ (List.mem_append_left _ (List.mem_append_left _ (List.mem_append_left _ (List.mem_append_left _ (List.mem_append_left _ (List.mem_of_getElem? (i := 4) rfl))))))
set_option maxRecDepth 100000 in
set_option maxHeartbeats 8000000 in
theorem m_X5_kinds (l : Launch) (D : va_G) (G : gT) (h : Nat) (a : Nat → Nat) (tr : Int) (lf : Int) (ta : Nat → Nat) (cn : Int) (kd : Int → Int) (nu : Int → Int) (tb : Nat → Nat) (tc : Int) (kt : Int → Int) (nt : Int → Int) (lb : Nat → Nat) (xc : Int) (xu : Int) (xw : Int) (tex : Int → Int) (trt : Int → Int) (tmi : Int → Int) (tsi : Int → Int) (tun : Int → Int) (tbe : Int → Int) (tka : Int → Int) (tbr : Int → Int) (ga : Nat → Nat) (rc : Int) (r1 : Int → Int) (r2 : Int → Int) (r3 : Int → Int) (pp : Int) (hkd : kdOK kd) (hnu : nuOK nu) (hkt : kdOK kt) (hnt : nuOK nt) (hcn : 0 ≤ cn ∧ cn ≤ 4) (hrd : rdOK cn rc r1 r2 r3) (hp : -2147483648 ≤ pp ∧ pp ≤ 2147483647) : gMi l yX5_kinds wsX5_kinds ({ frames := 6, cells := 0, slots := 0, locals := 169 }) D G [.ref h, .int (iI pp)] [oX5 h a tr lf, oX4 (a 1) ta cn, cA G (ta 1) 4 kd, cA G (ta 2) 12 nu, oX4 (a 3) tb tc, cA G (tb 1) 4 kt, cA G (tb 2) 12 nt, oX0 (a 4) lb xc xu xw, cA G (lb 1) 12 tex, cA G (lb 2) 4 trt, cA G (lb 3) 8 tmi, cA G (lb 4) 8 tsi, cA G (lb 5) 8 tun, cA G (lb 6) 8 tbe, cA G (lb 8) 8 tka, cA G (lb 9) 8 tbr, oX1 (a 6) ga rc, cA G (ga 1) 8 r1, cA G (ga 2) 8 r2, cA G (ga 3) 8 r3] 0 0 (fun (r : Int32) (w : va_W) => ∃ (tc2 : Int) (kt2 : Int → Int) (nt2 : Int → Int) (xc2 : Int) (xu2 : Int) (tex2 : Int → Int) (trt2 : Int → Int) (tmi2 : Int → Int) (tsi2 : Int → Int) (tun2 : Int → Int) (tbe2 : Int → Int) (tka2 : Int → Int) (tbr2 : Int → Int), r = (R_kin cn kd nu rc r1 r2 r3 pp) ∧ w = [oX5 h a tr lf, oX4 (a 1) ta cn, cA G (ta 1) 4 kd, cA G (ta 2) 12 nu, oX4 (a 3) tb tc2, cA G (tb 1) 4 kt2, cA G (tb 2) 12 nt2, oX0 (a 4) lb xc2 xu2 xw, cA G (lb 1) 12 tex2, cA G (lb 2) 4 trt2, cA G (lb 3) 8 tmi2, cA G (lb 4) 8 tsi2, cA G (lb 5) 8 tun2, cA G (lb 6) 8 tbe2, cA G (lb 8) 8 tka2, cA G (lb 9) 8 tbr2, oX1 (a 6) ga rc, cA G (ga 1) 8 r1, cA G (ga 2) 8 r2, cA G (ga 3) 8 r3] ∧ (kdOK kt2 ∧ nuOK nt2)) := by
  refine g_start_i (cc := cX5_kinds) (nL := 4) (own := RX5) (ret := some .int) (by decide +kernel) rfl rfl (Nat.le_of_ble_eq_true rfl) ?_
  intro p e s m below meth c A ls C hr hnm hw hl
  have hl : lv_has ls 4 [(0, .ref h), (1, .int (iI pp))] := hl
  refine g_aload_n C hl 0 rfl rfl dX5_kinds_0 ?_
  refine g_iload_n C hl 1 rfl rfl dX5_kinds_1 ?_
  refine g_callVi C hw (wr := [cA G (ta 1) 4 kd, cA G (ta 2) 12 nu, oX4 (a 3) tb tc, cA G (tb 1) 4 kt, cA G (tb 2) 12 nt, oX0 (a 4) lb xc xu xw, cA G (lb 1) 12 tex, cA G (lb 2) 4 trt, cA G (lb 3) 8 tmi, cA G (lb 4) 8 tsi, cA G (lb 5) 8 tun, cA G (lb 6) 8 tbe, cA G (lb 8) 8 tka, cA G (lb 9) 8 tbr, oX1 (a 6) ga rc, cA G (ga 1) 8 r1, cA G (ga 2) 8 r2, cA G (ga 3) 8 r3]) (As := [.int (iI pp)]) (rest := []) (m_X5_isPolynomial l D G (h := h) (a := a) (tr := tr) (lf := lf) (ta := ta) (cn := cn) (pp := pp) (by first | assumption | omega) (by first | assumption | omega)) (cwV 1 C.1.2.2.2.2 gX5_kinds_X5_isPolynomial rfl rfl rfl (by decide +kernel) ⟨Nat.le_of_ble_eq_true rfl, Nat.le_of_ble_eq_true rfl⟩) [0, 1] [2, 3, 4, 5, 6, 7, 8, 9, 10, 11, 12, 13, 14, 15, 16, 17, 18, 19] rfl rfl (by decide) (by decide) (by decide) 0 rfl rfl rfl hl.1 _ rfl (Nat.le_of_ble_eq_true rfl) dX5_kinds_2 ⟨Nat.le_of_ble_eq_true rfl, Nat.le_of_ble_eq_true rfl⟩ ?_
  clear hw
  rintro _ _ H locs ⟨rfl, rfl⟩ hw
  have hw : gW D A s.heap [cA G (ta 1) 4 kd, cA G (ta 2) 12 nu, oX4 (a 3) tb tc, cA G (tb 1) 4 kt, cA G (tb 2) 12 nt, oX0 (a 4) lb xc xu xw, cA G (lb 1) 12 tex, cA G (lb 2) 4 trt, cA G (lb 3) 8 tmi, cA G (lb 4) 8 tsi, cA G (lb 5) 8 tun, cA G (lb 6) 8 tbe, cA G (lb 8) 8 tka, cA G (lb 9) 8 tbr, oX1 (a 6) ga rc, cA G (ga 1) 8 r1, cA G (ga 2) 8 r2, cA G (ga 3) 8 r3, oX5 h a tr lf, oX4 (a 1) ta cn] H locs := hw
  refine g_ifb_ne C 10 dX5_kinds_5 (by decide) (fun c_1 => ?_) (fun c_1 => ?_)
  · skip
    refine g_iconst C dX5_kinds_10 ?_
    refine g_istore_n C [(2, .int (iI 0)), (0, .ref h), (1, .int (iI pp))] dX5_kinds_11 rfl hl (by decide) rfl ?_
    clear hl
    intro ls hl
    refine g_aload_n C hl 1 rfl rfl dX5_kinds_12 ?_
    refine g_get C hw hin_X5_kinds_X5 18 rfl rfl 3 (by decide) lk_X5_kinds_31 rfl dX5_kinds_13 ?_
    refine g_aload_n C hl 1 rfl rfl dX5_kinds_16 ?_
    refine g_get C hw hin_X5_kinds_X5 18 rfl rfl 1 (by decide) lk_X5_kinds_20 rfl dX5_kinds_17 ?_
    refine g_callVv C hw (wr := [oX0 (a 4) lb xc xu xw, cA G (lb 1) 12 tex, cA G (lb 2) 4 trt, cA G (lb 3) 8 tmi, cA G (lb 4) 8 tsi, cA G (lb 5) 8 tun, cA G (lb 6) 8 tbe, cA G (lb 8) 8 tka, cA G (lb 9) 8 tbr, oX1 (a 6) ga rc, cA G (ga 1) 8 r1, cA G (ga 2) 8 r2, cA G (ga 3) 8 r3, oX5 h a tr lf]) (As := [.ref ((a 1))]) (rest := []) (m_X4_become l D G (h := (a 3)) (a := tb) (cn := tc) (kd := kt) (nu := nt) (o := (a 1)) (b := ta) (cn2 := cn) (kd2 := kd) (nu2 := nu) (by exact hkt) (by exact hnt) (by exact hkd) (by exact hnu)) (cwV 1 C.1.2.2.2.2 gX5_kinds_X4_become rfl rfl rfl (by decide +kernel) ⟨Nat.le_of_ble_eq_true rfl, Nat.le_of_ble_eq_true rfl⟩) [2, 3, 4, 19, 0, 1] [5, 6, 7, 8, 9, 10, 11, 12, 13, 14, 15, 16, 17, 18] rfl rfl (by decide) (by decide) (by decide) 0 rfl rfl rfl hl.1 _ rfl (Nat.le_of_ble_eq_true rfl) dX5_kinds_20 ⟨Nat.le_of_ble_eq_true rfl, Nat.le_of_ble_eq_true rfl⟩ ?_
    clear hw
    rintro _ H locs ⟨kt3, nt3, rfl, hp_2, hp_3⟩ hw
    have hw : gW D A s.heap [oX0 (a 4) lb xc xu xw, cA G (lb 1) 12 tex, cA G (lb 2) 4 trt, cA G (lb 3) 8 tmi, cA G (lb 4) 8 tsi, cA G (lb 5) 8 tun, cA G (lb 6) 8 tbe, cA G (lb 8) 8 tka, cA G (lb 9) 8 tbr, oX1 (a 6) ga rc, cA G (ga 1) 8 r1, cA G (ga 2) 8 r2, cA G (ga 3) 8 r3, oX5 h a tr lf, oX4 (a 3) tb cn, cA G (tb 1) 4 kt3, cA G (tb 2) 12 nt3, oX4 (a 1) ta cn, cA G (ta 1) 4 kd, cA G (ta 2) 12 nu] H locs := hw
    have hp_2 : (∀ j, 0 ≤ j → j < 4 → kt3 j = kd j) ∧ (∀ j, 0 ≤ j → j < 12 → nt3 j = nu j) := hp_2
    have hp_3 : kdOK kt3 ∧ nuOK nt3 := hp_3
    have hbc := hp_2
    have hbk := hp_3
    refine g_iconst C dX5_kinds_23 ?_
    refine g_istore_n C [(3, .int (iI 0)), (2, .int (iI 0)), (0, .ref h), (1, .int (iI pp))] dX5_kinds_24 rfl hl (by decide) rfl ?_
    clear hl
    intro ls hl
    refine g_loop (σ := (Int32) × (Int) × (Int) × (Int) × (Int → Int) × (Int → Int) × (Int → Int) × (Int → Int) × (Int → Int) × (Int → Int) × (Int → Int) × (Int → Int) × (Int → Int)) (fun z_ => [oX0 (a 4) lb z_.2.2.1 z_.2.2.2.1 xw, cA G (lb 1) 12 z_.2.2.2.2.2.1, cA G (lb 2) 4 z_.2.2.2.2.2.2.1, cA G (lb 3) 8 z_.2.2.2.2.2.2.2.1, cA G (lb 4) 8 z_.2.2.2.2.2.2.2.2.1, cA G (lb 5) 8 z_.2.2.2.2.2.2.2.2.2.1, cA G (lb 6) 8 z_.2.2.2.2.2.2.2.2.2.2.1, cA G (lb 8) 8 z_.2.2.2.2.2.2.2.2.2.2.2.1, cA G (lb 9) 8 z_.2.2.2.2.2.2.2.2.2.2.2.2, oX1 (a 6) ga rc, cA G (ga 1) 8 r1, cA G (ga 2) 8 r2, cA G (ga 3) 8 r3, oX5 h a tr lf, oX4 (a 3) tb cn, cA G (tb 1) 4 z_.2.2.2.2.1, cA G (tb 2) 12 nt3, oX4 (a 1) ta cn, cA G (ta 1) 4 kd, cA G (ta 2) 12 nu]) (fun z_ => [(3, .int (iI (z_.2.1))), (2, .int (z_.1)), (0, .ref h), (1, .int (iI pp))]) (fun z_ => (0 ≤ z_.2.1 ∧ z_.2.1 ≤ 3) ∧ (kdOK z_.2.2.2.2.1) ∧ (∀ q, 0 ≤ q → q < 4 → ¬ q = pp → z_.2.2.2.2.1 q = kd q) ∧ (z_.1 = seM (fun k => soB (exT cn (up kd pp k) nu) cn rc r1 r2 r3) z_.2.1.toNat)) (fun z_ => (3 - z_.2.1).toNat) ((iI 0), 0, xc, xu, kt3, tex, trt, tmi, tsi, tun, tbe, tka, tbr) ⟨by (try dsimp only); omega, by (try dsimp only); exact hbk.1, by (try dsimp only); intro q h1 h2 h3; exact hbc.1 q h1 h2, by (try dsimp only); rfl⟩ hw (lv_sub hl [0, 1, 2, 3] rfl) ?_
    clear hw hl
    rintro ⟨se, kk, xc1, xu1, kt1, tex1, trt1, tmi1, tsi1, tun1, tbe1, tka1, tbr1⟩ ⟨hkk, hk0, hk1, hse⟩ H locs ls hw hl ih_4
    replace hkk : 0 ≤ kk ∧ kk ≤ 3 := hkk
    replace hk0 : kdOK kt1 := hk0
    replace hk1 : ∀ q, 0 ≤ q → q < 4 → ¬ q = pp → kt1 q = kd q := hk1
    replace hse : se = seM (fun k => soB (exT cn (up kd pp k) nu) cn rc r1 r2 r3) kk.toNat := hse
    replace hw : gW D A s.heap [oX0 (a 4) lb xc1 xu1 xw, cA G (lb 1) 12 tex1, cA G (lb 2) 4 trt1, cA G (lb 3) 8 tmi1, cA G (lb 4) 8 tsi1, cA G (lb 5) 8 tun1, cA G (lb 6) 8 tbe1, cA G (lb 8) 8 tka1, cA G (lb 9) 8 tbr1, oX1 (a 6) ga rc, cA G (ga 1) 8 r1, cA G (ga 2) 8 r2, cA G (ga 3) 8 r3, oX5 h a tr lf, oX4 (a 3) tb cn, cA G (tb 1) 4 kt1, cA G (tb 2) 12 nt3, oX4 (a 1) ta cn, cA G (ta 1) 4 kd, cA G (ta 2) 12 nu] H locs := hw
    replace hl : lv_has ls 4 [(3, .int (iI kk)), (2, .int (se)), (0, .ref h), (1, .int (iI pp))] := hl
    replace ih_4 : ∀ (se' : Int32) (kk' : Int) (xc1' : Int) (xu1' : Int) (kt1' : Int → Int) (tex1' : Int → Int) (trt1' : Int → Int) (tmi1' : Int → Int) (tsi1' : Int → Int) (tun1' : Int → Int) (tbe1' : Int → Int) (tka1' : Int → Int) (tbr1' : Int → Int), ((0 ≤ kk' ∧ kk' ≤ 3) ∧ (kdOK kt1') ∧ (∀ q, 0 ≤ q → q < 4 → ¬ q = pp → kt1' q = kd q) ∧ (se' = seM (fun k => soB (exT cn (up kd pp k) nu) cn rc r1 r2 r3) kk'.toNat)) → ((3 - kk').toNat) < ((3 - kk).toNat) → ∀ (H : Heap) (locs : List Loc) (ls : Array Slot), gW D A s.heap [oX0 (a 4) lb xc1' xu1' xw, cA G (lb 1) 12 tex1', cA G (lb 2) 4 trt1', cA G (lb 3) 8 tmi1', cA G (lb 4) 8 tsi1', cA G (lb 5) 8 tun1', cA G (lb 6) 8 tbe1', cA G (lb 8) 8 tka1', cA G (lb 9) 8 tbr1', oX1 (a 6) ga rc, cA G (ga 1) 8 r1, cA G (ga 2) 8 r2, cA G (ga 3) 8 r3, oX5 h a tr lf, oX4 (a 3) tb cn, cA G (tb 1) 4 kt1', cA G (tb 2) 12 nt3, oX4 (a 1) ta cn, cA G (ta 1) 4 kd, cA G (ta 2) 12 nu] H locs → lv_has ls 4 [(3, .int (iI (kk'))), (2, .int (se')), (0, .ref h), (1, .int (iI pp))] → W p l e _ s m _ below meth c H locs _ _ _ (F0 m 25 ls []) := fun se' kk' xc1' xu1' kt1' tex1' trt1' tmi1' tsi1' tun1' tbe1' tka1' tbr1' => ih_4 (se', kk', xc1', xu1', kt1', tex1', trt1', tmi1', tsi1', tun1', tbe1', tka1', tbr1')
    have hcg : exT cn (up kt1 pp kk) nt3 = exT cn (up kd pp kk) nu := exT_cg (fun q h1 h2 => by unfold up; split; rfl; exact hk1 q h1 (by omega) (by assumption)) (fun j h1 h2 => hbc.2 j h1 (by omega))
    refine g_iload_n C hl 0 rfl rfl dX5_kinds_25 ?_
    refine g_iconst C dX5_kinds_26 ?_
    refine g_icmp_ge C 77 dX5_kinds_27 (by decide) (by omega) (by omega) (fun c_5 => ?_) (fun c_5 => ?_)
    · skip
      refine g_iload_n C hl 1 rfl rfl dX5_kinds_77 ?_
      exact g_iret C hr (ws' := [oX5 h a tr lf, oX4 (a 1) ta cn, cA G (ta 1) 4 kd, cA G (ta 2) 12 nu, oX4 (a 3) tb cn, cA G (tb 1) 4 kt1, cA G (tb 2) 12 nt3, oX0 (a 4) lb xc1 xu1 xw, cA G (lb 1) 12 tex1, cA G (lb 2) 4 trt1, cA G (lb 3) 8 tmi1, cA G (lb 4) 8 tsi1, cA G (lb 5) 8 tun1, cA G (lb 6) 8 tbe1, cA G (lb 8) 8 tka1, cA G (lb 9) 8 tbr1, oX1 (a 6) ga rc, cA G (ga 1) 8 r1, cA G (ga 2) 8 r2, cA G (ga 3) 8 r3]) hw [13, 17, 18, 19, 14, 15, 16, 0, 1, 2, 3, 4, 5, 6, 7, 8, 9, 10, 11, 12] (by decide) rfl ⟨cn, kt1, nt3, xc1, xu1, tex1, trt1, tmi1, tsi1, tun1, tbe1, tka1, tbr1, (by unfold R_kin; rw [if_neg (by omega), hse, show kk.toNat = 3 by omega]), rfl, (by first | exact ⟨hkt, hnt⟩ | exact ⟨hk0, hbk.2⟩)⟩ dX5_kinds_78
    · skip
      refine g_aload_n C hl 2 rfl rfl dX5_kinds_30 ?_
      refine g_get C hw hin_X5_kinds_X5 13 rfl rfl 3 (by decide) lk_X5_kinds_31 rfl dX5_kinds_31 ?_
      refine g_get C hw hin_X5_kinds_X4 14 rfl rfl 1 (by decide) lk_X5_kinds_96 rfl dX5_kinds_34 ?_
      refine g_iload_n C hl 3 rfl rfl dX5_kinds_37 ?_
      refine g_iload_n C hl 0 rfl rfl dX5_kinds_38 ?_
      refine g_iast C hw [oX0 (a 4) lb xc1 xu1 xw, cA G (lb 1) 12 tex1, cA G (lb 2) 4 trt1, cA G (lb 3) 8 tmi1, cA G (lb 4) 8 tsi1, cA G (lb 5) 8 tun1, cA G (lb 6) 8 tbe1, cA G (lb 8) 8 tka1, cA G (lb 9) 8 tbr1, oX1 (a 6) ga rc, cA G (ga 1) 8 r1, cA G (ga 2) 8 r2, cA G (ga 3) 8 r3, oX5 h a tr lf, oX4 (a 3) tb cn, cA G (tb 1) 4 (up kt1 pp kk), cA G (tb 2) 12 nt3, oX4 (a 1) ta cn, cA G (ta 1) 4 kd, cA G (ta 2) 12 nu] 15 rfl (by omega) (Nat.le_of_ble_eq_true rfl) rfl dX5_kinds_39 ?_
      clear hw
      intro H locs hw
      refine g_aload_n C hl 2 rfl rfl dX5_kinds_40 ?_
      refine g_get C hw hin_X5_kinds_X5 13 rfl rfl 4 (by decide) lk_X5_kinds_34 rfl dX5_kinds_41 ?_
      refine g_aload_n C hl 2 rfl rfl dX5_kinds_44 ?_
      refine g_get C hw hin_X5_kinds_X5 13 rfl rfl 3 (by decide) lk_X5_kinds_31 rfl dX5_kinds_45 ?_
      refine g_callVv C hw (wr := [oX1 (a 6) ga rc, cA G (ga 1) 8 r1, cA G (ga 2) 8 r2, cA G (ga 3) 8 r3, oX5 h a tr lf, oX4 (a 1) ta cn, cA G (ta 1) 4 kd, cA G (ta 2) 12 nu]) (As := [.ref ((a 3))]) (rest := []) (m_X0_lay l D G (h := (a 4)) (a := lb) (cn := xc1) (ul := xu1) (rw := xw) (ex := tex1) (rt := trt1) (mi := tmi1) (si := tsi1) (un := tun1) (be := tbe1) (ka := tka1) (br := tbr1) (o := (a 3)) (b := tb) (ct := cn) (kd := (up kt1 pp kk)) (nu := nt3) (by exact kdOK_up hk0 (by omega)) (by exact hbk.2) (by first | assumption | omega)) (cwV 1 C.1.2.2.2.2 gX5_kinds_X0_lay rfl rfl rfl (by decide +kernel) ⟨Nat.le_of_ble_eq_true rfl, Nat.le_of_ble_eq_true rfl⟩) [0, 1, 2, 3, 4, 5, 6, 7, 8, 14, 15, 16] [9, 10, 11, 12, 13, 17, 18, 19] rfl rfl (by decide) (by decide) (by decide) 0 rfl rfl rfl hl.1 _ rfl (Nat.le_of_ble_eq_true rfl) dX5_kinds_48 ⟨Nat.le_of_ble_eq_true rfl, Nat.le_of_ble_eq_true rfl⟩ ?_
      clear hw
      rintro _ H locs ⟨ex2__6, rt2__7, mi2__8, si2__9, un2__10, be2__11, ka2__12, br2__13, rfl, hp_14, hp_15, hp_16, hp_17⟩ hw
      have hw : gW D A s.heap [oX1 (a 6) ga rc, cA G (ga 1) 8 r1, cA G (ga 2) 8 r2, cA G (ga 3) 8 r3, oX5 h a tr lf, oX4 (a 1) ta cn, cA G (ta 1) 4 kd, cA G (ta 2) 12 nu, oX0 (a 4) lb cn ((ALb (exT cn (up kt1 pp kk) nt3) cn.toNat).length : Int) xw, cA G (lb 1) 12 ex2__6, cA G (lb 2) 4 rt2__7, cA G (lb 3) 8 mi2__8, cA G (lb 4) 8 si2__9, cA G (lb 5) 8 un2__10, cA G (lb 6) 8 be2__11, cA G (lb 8) 8 ka2__12, cA G (lb 9) 8 br2__13, oX4 (a 3) tb cn, cA G (tb 1) 4 (up kt1 pp kk), cA G (tb 2) 12 nt3] H locs := hw
      have hp_14 : LnX (exT cn (up kt1 pp kk) nt3) cn ex2__6 := hp_14
      have hp_15 : LnT (exT cn (up kt1 pp kk) nt3) cn rt2__7 := hp_15
      have hp_16 : LnZ (exT cn (up kt1 pp kk) nt3) cn mi2__8 si2__9 un2__10 be2__11 := hp_16
      have hp_17 : hasB ka2__12 br2__13 (ALb (exT cn (up kt1 pp kk) nt3) cn.toNat) := hp_17
      have hX9 := hp_14
      have hZ9 := hp_16
      have hB9 := hp_17
      have hL9 := hasB_L hB9
      have hlen9 := ALb_len (exT cn (up kt1 pp kk) nt3) cn.toNat
      rw [hcg] at hX9 hZ9 hL9 hlen9
      refine g_aload_n C hl 2 rfl rfl dX5_kinds_51 ?_
      refine g_get C hw hin_X5_kinds_X5 4 rfl rfl 6 (by decide) lk_X5_kinds_47 rfl dX5_kinds_52 ?_
      refine g_aload_n C hl 2 rfl rfl dX5_kinds_55 ?_
      refine g_get C hw hin_X5_kinds_X5 4 rfl rfl 4 (by decide) lk_X5_kinds_34 rfl dX5_kinds_56 ?_
      refine g_callVi C hw (wr := [oX5 h a tr lf, oX4 (a 1) ta cn, cA G (ta 1) 4 kd, cA G (ta 2) 12 nu, cA G (lb 2) 4 rt2__7, cA G (lb 9) 8 br2__13, oX4 (a 3) tb cn, cA G (tb 1) 4 (up kt1 pp kk), cA G (tb 2) 12 nt3]) (As := [.ref ((a 4))]) (rest := []) (m_X1_holdOn l D G (h := (a 6)) (a := ga) (rc := rc) (r1 := r1) (r2 := r2) (r3 := r3) (o := (a 4)) (b := lb) (cn := cn) (ul := ((ALb (exT cn (up kt1 pp kk) nt3) cn.toNat).length : Int)) (rw := xw) (ex := ex2__6) (mi := mi2__8) (si := si2__9) (un := un2__10) (be := be2__11) (ka := ka2__12) (E := (exT cn (up kd pp kk) nu)) (by exact exT_B cn _ hnu) (by first | assumption | omega) (by exact hX9) (by exact hZ9) (by exact hL9) (by rw [hcg]; omega) (by first | assumption | omega)) (cwV 1 C.1.2.2.2.2 gX5_kinds_X1_holdOn rfl rfl rfl (by decide +kernel) ⟨Nat.le_of_ble_eq_true rfl, Nat.le_of_ble_eq_true rfl⟩) [0, 1, 2, 3, 8, 9, 11, 12, 13, 14, 15] [4, 5, 6, 7, 10, 16, 17, 18, 19] rfl rfl (by decide) (by decide) (by decide) 0 rfl rfl rfl hl.1 _ rfl (Nat.le_of_ble_eq_true rfl) dX5_kinds_59 ⟨Nat.le_of_ble_eq_true rfl, Nat.le_of_ble_eq_true rfl⟩ ?_
      clear hw
      rintro _ _ H locs ⟨rfl, rfl⟩ hw
      have hw : gW D A s.heap [oX5 h a tr lf, oX4 (a 1) ta cn, cA G (ta 1) 4 kd, cA G (ta 2) 12 nu, cA G (lb 2) 4 rt2__7, cA G (lb 9) 8 br2__13, oX4 (a 3) tb cn, cA G (tb 1) 4 (up kt1 pp kk), cA G (tb 2) 12 nt3, oX1 (a 6) ga rc, cA G (ga 1) 8 r1, cA G (ga 2) 8 r2, cA G (ga 3) 8 r3, oX0 (a 4) lb cn ((ALb (exT cn (up kt1 pp kk) nt3) cn.toNat).length : Int) xw, cA G (lb 1) 12 ex2__6, cA G (lb 3) 8 mi2__8, cA G (lb 4) 8 si2__9, cA G (lb 5) 8 un2__10, cA G (lb 6) 8 be2__11, cA G (lb 8) 8 ka2__12] H locs := hw
      skip
      refine g_ifb_eq C 71 dX5_kinds_62 (by decide) (fun c_18 => ?_) (fun c_18 => ?_)
      · skip
        refine g_iinc C [(3, .int (iI (kk + 1))), (2, .int (se)), (0, .ref h), (1, .int (iI pp))] 0 dX5_kinds_71 hl rfl (by decide) rfl ?_
        clear hl
        intro ls hl
        refine g_goto C 25 dX5_kinds_74 (by decide) ?_
        have hw : gW D A s.heap [oX0 (a 4) lb cn ((ALb (exT cn (up kt1 pp kk) nt3) cn.toNat).length : Int) xw, cA G (lb 1) 12 ex2__6, cA G (lb 2) 4 rt2__7, cA G (lb 3) 8 mi2__8, cA G (lb 4) 8 si2__9, cA G (lb 5) 8 un2__10, cA G (lb 6) 8 be2__11, cA G (lb 8) 8 ka2__12, cA G (lb 9) 8 br2__13, oX1 (a 6) ga rc, cA G (ga 1) 8 r1, cA G (ga 2) 8 r2, cA G (ga 3) 8 r3, oX5 h a tr lf, oX4 (a 3) tb cn, cA G (tb 1) 4 (up kt1 pp kk), cA G (tb 2) 12 nt3, oX4 (a 1) ta cn, cA G (ta 1) 4 kd, cA G (ta 2) 12 nu] H locs := g_perm hw [13, 14, 4, 15, 16, 17, 18, 19, 5, 9, 10, 11, 12, 0, 6, 7, 8, 1, 2, 3] (by decide) rfl
        exact ih_4 (se) (kk + 1) cn ((ALb (exT cn (up kt1 pp kk) nt3) cn.toNat).length : Int) (up kt1 pp kk) ex2__6 rt2__7 mi2__8 si2__9 un2__10 be2__11 ka2__12 br2__13 ⟨by omega, by exact kdOK_up hk0 (by omega), by intro q h1 h2 h3; unfold up; rw [if_neg (by omega)]; exact hk1 q h1 h2 h3, by rw [seM_s hkk.1, hse]; first | (rw [if_pos (by rw [show ((kk.toNat : Nat) : Int) = kk by omega]; assumption)]; done) | (rw [if_neg (by rw [show ((kk.toNat : Nat) : Int) = kk by omega]; assumption)]; done)⟩ (by omega) H locs ls hw (lv_sub hl [0, 1, 2, 3] rfl)
      · skip
        refine g_iload_n C hl 1 rfl rfl dX5_kinds_65 ?_
        refine g_iconst C dX5_kinds_66 ?_
        refine g_iload_n C hl 0 rfl rfl dX5_kinds_67 ?_
        refine g_ishl C dX5_kinds_68 ?_
        refine g_ior C dX5_kinds_69 ?_
        refine g_istore_n C [(2, .int (((se)) ||| (((iI 1) <<< ((iI kk) &&& 31))))), (3, .int (iI kk)), (0, .ref h), (1, .int (iI pp))] dX5_kinds_70 rfl hl (by decide) rfl ?_
        clear hl
        intro ls hl
        refine g_iinc C [(3, .int (iI (kk + 1))), (2, .int (((se)) ||| (((iI 1) <<< ((iI kk) &&& 31))))), (0, .ref h), (1, .int (iI pp))] 1 dX5_kinds_71 hl rfl (by decide) rfl ?_
        clear hl
        intro ls hl
        refine g_goto C 25 dX5_kinds_74 (by decide) ?_
        have hw : gW D A s.heap [oX0 (a 4) lb cn ((ALb (exT cn (up kt1 pp kk) nt3) cn.toNat).length : Int) xw, cA G (lb 1) 12 ex2__6, cA G (lb 2) 4 rt2__7, cA G (lb 3) 8 mi2__8, cA G (lb 4) 8 si2__9, cA G (lb 5) 8 un2__10, cA G (lb 6) 8 be2__11, cA G (lb 8) 8 ka2__12, cA G (lb 9) 8 br2__13, oX1 (a 6) ga rc, cA G (ga 1) 8 r1, cA G (ga 2) 8 r2, cA G (ga 3) 8 r3, oX5 h a tr lf, oX4 (a 3) tb cn, cA G (tb 1) 4 (up kt1 pp kk), cA G (tb 2) 12 nt3, oX4 (a 1) ta cn, cA G (ta 1) 4 kd, cA G (ta 2) 12 nu] H locs := g_perm hw [13, 14, 4, 15, 16, 17, 18, 19, 5, 9, 10, 11, 12, 0, 6, 7, 8, 1, 2, 3] (by decide) rfl
        exact ih_4 (((se)) ||| (((iI 1) <<< ((iI kk) &&& 31)))) (kk + 1) cn ((ALb (exT cn (up kt1 pp kk) nt3) cn.toNat).length : Int) (up kt1 pp kk) ex2__6 rt2__7 mi2__8 si2__9 un2__10 be2__11 ka2__12 br2__13 ⟨by omega, by exact kdOK_up hk0 (by omega), by intro q h1 h2 h3; unfold up; rw [if_neg (by omega)]; exact hk1 q h1 h2 h3, by rw [seM_s hkk.1, hse]; first | (rw [if_pos (by rw [show ((kk.toNat : Nat) : Int) = kk by omega]; assumption)]; done) | (rw [if_neg (by rw [show ((kk.toNat : Nat) : Int) = kk by omega]; assumption)]; done)⟩ (by omega) H locs ls hw (lv_sub hl [0, 1, 2, 3] rfl)
  · skip
    refine g_iconst C dX5_kinds_8 ?_
    exact g_iret C hr (ws' := [oX5 h a tr lf, oX4 (a 1) ta cn, cA G (ta 1) 4 kd, cA G (ta 2) 12 nu, oX4 (a 3) tb tc, cA G (tb 1) 4 kt, cA G (tb 2) 12 nt, oX0 (a 4) lb xc xu xw, cA G (lb 1) 12 tex, cA G (lb 2) 4 trt, cA G (lb 3) 8 tmi, cA G (lb 4) 8 tsi, cA G (lb 5) 8 tun, cA G (lb 6) 8 tbe, cA G (lb 8) 8 tka, cA G (lb 9) 8 tbr, oX1 (a 6) ga rc, cA G (ga 1) 8 r1, cA G (ga 2) 8 r2, cA G (ga 3) 8 r3]) hw [18, 19, 0, 1, 2, 3, 4, 5, 6, 7, 8, 9, 10, 11, 12, 13, 14, 15, 16, 17] (by decide) rfl ⟨tc, kt, nt, xc, xu, tex, trt, tmi, tsi, tun, tbe, tka, tbr, (by unfold R_kin; rw [if_pos (by omega)]), rfl, (by first | exact ⟨hkt, hnt⟩ | exact ⟨hk0, hbk.2⟩)⟩ dX5_kinds_9

set_option maxRecDepth 20000 in
theorem hin_X5_lows_X5 : ∀ w ∈ u_ws RX5 TX5 9, w ∈ wsX5_lows := by
  intro w h
  exact List.mem_cons_of_mem _ (List.mem_append_left _ (List.mem_append_left _ (List.mem_append_left _ (List.mem_append_right _ (h)))))
set_option maxRecDepth 20000 in
theorem lk_X5_lows_31 : Cond.fieldLink RX5 31 (TX5 3).1 (TX5 3).2.1 (TX5 3).2.2.1 ∈ wsX5_lows := List.mem_cons_of_mem _ (List.mem_append_left _ (List.mem_append_left _ (List.mem_append_left _ (List.mem_append_left _ (List.mem_append_left _ (List.mem_of_getElem? (i := 0) rfl))))))
set_option maxRecDepth 20000 in
theorem lk_X5_lows_20 : Cond.fieldLink RX5 20 (TX5 1).1 (TX5 1).2.1 (TX5 1).2.2.1 ∈ wsX5_lows := List.mem_cons_of_mem _ (List.mem_append_left _ (List.mem_append_left _ (List.mem_append_left _ (List.mem_append_left _ (List.mem_append_left _ (List.mem_of_getElem? (i := 1) rfl))))))
set_option maxRecDepth 20000 in
theorem hin_X5_lows_X4 : ∀ w ∈ u_ws RX4 TX4 3, w ∈ wsX5_lows := by
  intro w h
  exact List.mem_cons_of_mem _ (List.mem_append_left _ (List.mem_append_left _ (List.mem_append_right _ (h))))
set_option maxRecDepth 20000 in
theorem lk_X5_lows_102 : Cond.fieldLink RX5 102 (TX4 2).1 (TX4 2).2.1 (TX4 2).2.2.1 ∈ wsX5_lows := List.mem_cons_of_mem _ (List.mem_append_left _ (List.mem_append_left _ (List.mem_append_left _ (List.mem_append_left _ (List.mem_append_left _ (List.mem_of_getElem? (i := 2) rfl))))))
set_option maxRecDepth 20000 in
theorem lk_X5_lows_34 : Cond.fieldLink RX5 34 (TX5 4).1 (TX5 4).2.1 (TX5 4).2.2.1 ∈ wsX5_lows := List.mem_cons_of_mem _ (List.mem_append_left _ (List.mem_append_left _ (List.mem_append_left _ (List.mem_append_left _ (List.mem_append_left _ (List.mem_of_getElem? (i := 3) rfl))))))
set_option maxRecDepth 20000 in
theorem lk_X5_lows_47 : Cond.fieldLink RX5 47 (TX5 6).1 (TX5 6).2.1 (TX5 6).2.2.1 ∈ wsX5_lows := List.mem_cons_of_mem _ (List.mem_append_left _ (List.mem_append_left _ (List.mem_append_left _ (List.mem_append_left _ (List.mem_append_left _ (List.mem_of_getElem? (i := 4) rfl))))))
set_option maxRecDepth 100000 in
set_option maxHeartbeats 8000000 in
theorem m_X5_lows (l : Launch) (D : va_G) (G : gT) (h : Nat) (a : Nat → Nat) (tr : Int) (lf : Int) (ta : Nat → Nat) (cn : Int) (kd : Int → Int) (nu : Int → Int) (tb : Nat → Nat) (tc : Int) (kt : Int → Int) (nt : Int → Int) (lb : Nat → Nat) (xc : Int) (xu : Int) (xw : Int) (tex : Int → Int) (trt : Int → Int) (tmi : Int → Int) (tsi : Int → Int) (tun : Int → Int) (tbe : Int → Int) (tka : Int → Int) (tbr : Int → Int) (ga : Nat → Nat) (rc : Int) (r1 : Int → Int) (r2 : Int → Int) (r3 : Int → Int) (pp : Int) (hkd : kdOK kd) (hnu : nuOK nu) (hkt : kdOK kt) (hnt : nuOK nt) (hcn : 0 ≤ cn ∧ cn ≤ 4) (hrd : rdOK cn rc r1 r2 r3) (hp : -2147483648 ≤ pp ∧ pp ≤ 2147483647) : gMi l yX5_lows wsX5_lows ({ frames := 6, cells := 0, slots := 0, locals := 169 }) D G [.ref h, .int (iI pp)] [oX5 h a tr lf, oX4 (a 1) ta cn, cA G (ta 1) 4 kd, cA G (ta 2) 12 nu, oX4 (a 3) tb tc, cA G (tb 1) 4 kt, cA G (tb 2) 12 nt, oX0 (a 4) lb xc xu xw, cA G (lb 1) 12 tex, cA G (lb 2) 4 trt, cA G (lb 3) 8 tmi, cA G (lb 4) 8 tsi, cA G (lb 5) 8 tun, cA G (lb 6) 8 tbe, cA G (lb 8) 8 tka, cA G (lb 9) 8 tbr, oX1 (a 6) ga rc, cA G (ga 1) 8 r1, cA G (ga 2) 8 r2, cA G (ga 3) 8 r3] 0 0 (fun (r : Int32) (w : va_W) => ∃ (tc2 : Int) (kt2 : Int → Int) (nt2 : Int → Int) (xc2 : Int) (xu2 : Int) (tex2 : Int → Int) (trt2 : Int → Int) (tmi2 : Int → Int) (tsi2 : Int → Int) (tun2 : Int → Int) (tbe2 : Int → Int) (tka2 : Int → Int) (tbr2 : Int → Int), r = (R_low cn kd nu rc r1 r2 r3 pp) ∧ w = [oX5 h a tr lf, oX4 (a 1) ta cn, cA G (ta 1) 4 kd, cA G (ta 2) 12 nu, oX4 (a 3) tb tc2, cA G (tb 1) 4 kt2, cA G (tb 2) 12 nt2, oX0 (a 4) lb xc2 xu2 xw, cA G (lb 1) 12 tex2, cA G (lb 2) 4 trt2, cA G (lb 3) 8 tmi2, cA G (lb 4) 8 tsi2, cA G (lb 5) 8 tun2, cA G (lb 6) 8 tbe2, cA G (lb 8) 8 tka2, cA G (lb 9) 8 tbr2, oX1 (a 6) ga rc, cA G (ga 1) 8 r1, cA G (ga 2) 8 r2, cA G (ga 3) 8 r3] ∧ (kdOK kt2 ∧ nuOK nt2)) := by
  refine g_start_i (cc := cX5_lows) (nL := 4) (own := RX5) (ret := some .int) (by decide +kernel) rfl rfl (Nat.le_of_ble_eq_true rfl) ?_
  intro p e s m below meth c A ls C hr hnm hw hl
  have hl : lv_has ls 4 [(0, .ref h), (1, .int (iI pp))] := hl
  refine g_aload_n C hl 0 rfl rfl dX5_lows_0 ?_
  refine g_iload_n C hl 1 rfl rfl dX5_lows_1 ?_
  refine g_callVi C hw (wr := [cA G (ta 1) 4 kd, cA G (ta 2) 12 nu, oX4 (a 3) tb tc, cA G (tb 1) 4 kt, cA G (tb 2) 12 nt, oX0 (a 4) lb xc xu xw, cA G (lb 1) 12 tex, cA G (lb 2) 4 trt, cA G (lb 3) 8 tmi, cA G (lb 4) 8 tsi, cA G (lb 5) 8 tun, cA G (lb 6) 8 tbe, cA G (lb 8) 8 tka, cA G (lb 9) 8 tbr, oX1 (a 6) ga rc, cA G (ga 1) 8 r1, cA G (ga 2) 8 r2, cA G (ga 3) 8 r3]) (As := [.int (iI pp)]) (rest := []) (m_X5_isPolynomial l D G (h := h) (a := a) (tr := tr) (lf := lf) (ta := ta) (cn := cn) (pp := pp) (by first | assumption | omega) (by first | assumption | omega)) (cwV 1 C.1.2.2.2.2 gX5_lows_X5_isPolynomial rfl rfl rfl (by decide +kernel) ⟨Nat.le_of_ble_eq_true rfl, Nat.le_of_ble_eq_true rfl⟩) [0, 1] [2, 3, 4, 5, 6, 7, 8, 9, 10, 11, 12, 13, 14, 15, 16, 17, 18, 19] rfl rfl (by decide) (by decide) (by decide) 0 rfl rfl rfl hl.1 _ rfl (Nat.le_of_ble_eq_true rfl) dX5_lows_2 ⟨Nat.le_of_ble_eq_true rfl, Nat.le_of_ble_eq_true rfl⟩ ?_
  clear hw
  rintro _ _ H locs ⟨rfl, rfl⟩ hw
  have hw : gW D A s.heap [cA G (ta 1) 4 kd, cA G (ta 2) 12 nu, oX4 (a 3) tb tc, cA G (tb 1) 4 kt, cA G (tb 2) 12 nt, oX0 (a 4) lb xc xu xw, cA G (lb 1) 12 tex, cA G (lb 2) 4 trt, cA G (lb 3) 8 tmi, cA G (lb 4) 8 tsi, cA G (lb 5) 8 tun, cA G (lb 6) 8 tbe, cA G (lb 8) 8 tka, cA G (lb 9) 8 tbr, oX1 (a 6) ga rc, cA G (ga 1) 8 r1, cA G (ga 2) 8 r2, cA G (ga 3) 8 r3, oX5 h a tr lf, oX4 (a 1) ta cn] H locs := hw
  refine g_ifb_ne C 10 dX5_lows_5 (by decide) (fun c_1 => ?_) (fun c_1 => ?_)
  · skip
    refine g_iconst C dX5_lows_10 ?_
    refine g_istore_n C [(2, .int (iI 0)), (0, .ref h), (1, .int (iI pp))] dX5_lows_11 rfl hl (by decide) rfl ?_
    clear hl
    intro ls hl
    refine g_aload_n C hl 1 rfl rfl dX5_lows_12 ?_
    refine g_get C hw hin_X5_lows_X5 18 rfl rfl 3 (by decide) lk_X5_lows_31 rfl dX5_lows_13 ?_
    refine g_aload_n C hl 1 rfl rfl dX5_lows_16 ?_
    refine g_get C hw hin_X5_lows_X5 18 rfl rfl 1 (by decide) lk_X5_lows_20 rfl dX5_lows_17 ?_
    refine g_callVv C hw (wr := [oX0 (a 4) lb xc xu xw, cA G (lb 1) 12 tex, cA G (lb 2) 4 trt, cA G (lb 3) 8 tmi, cA G (lb 4) 8 tsi, cA G (lb 5) 8 tun, cA G (lb 6) 8 tbe, cA G (lb 8) 8 tka, cA G (lb 9) 8 tbr, oX1 (a 6) ga rc, cA G (ga 1) 8 r1, cA G (ga 2) 8 r2, cA G (ga 3) 8 r3, oX5 h a tr lf]) (As := [.ref ((a 1))]) (rest := []) (m_X4_become l D G (h := (a 3)) (a := tb) (cn := tc) (kd := kt) (nu := nt) (o := (a 1)) (b := ta) (cn2 := cn) (kd2 := kd) (nu2 := nu) (by exact hkt) (by exact hnt) (by exact hkd) (by exact hnu)) (cwV 1 C.1.2.2.2.2 gX5_lows_X4_become rfl rfl rfl (by decide +kernel) ⟨Nat.le_of_ble_eq_true rfl, Nat.le_of_ble_eq_true rfl⟩) [2, 3, 4, 19, 0, 1] [5, 6, 7, 8, 9, 10, 11, 12, 13, 14, 15, 16, 17, 18] rfl rfl (by decide) (by decide) (by decide) 0 rfl rfl rfl hl.1 _ rfl (Nat.le_of_ble_eq_true rfl) dX5_lows_20 ⟨Nat.le_of_ble_eq_true rfl, Nat.le_of_ble_eq_true rfl⟩ ?_
    clear hw
    rintro _ H locs ⟨kt3, nt3, rfl, hp_2, hp_3⟩ hw
    have hw : gW D A s.heap [oX0 (a 4) lb xc xu xw, cA G (lb 1) 12 tex, cA G (lb 2) 4 trt, cA G (lb 3) 8 tmi, cA G (lb 4) 8 tsi, cA G (lb 5) 8 tun, cA G (lb 6) 8 tbe, cA G (lb 8) 8 tka, cA G (lb 9) 8 tbr, oX1 (a 6) ga rc, cA G (ga 1) 8 r1, cA G (ga 2) 8 r2, cA G (ga 3) 8 r3, oX5 h a tr lf, oX4 (a 3) tb cn, cA G (tb 1) 4 kt3, cA G (tb 2) 12 nt3, oX4 (a 1) ta cn, cA G (ta 1) 4 kd, cA G (ta 2) 12 nu] H locs := hw
    have hp_2 : (∀ j, 0 ≤ j → j < 4 → kt3 j = kd j) ∧ (∀ j, 0 ≤ j → j < 12 → nt3 j = nu j) := hp_2
    have hp_3 : kdOK kt3 ∧ nuOK nt3 := hp_3
    have hbc := hp_2
    have hbk := hp_3
    refine g_bipush C dX5_lows_23 (by decide) ?_
    refine g_istore_n C [(3, .int (iI ((-9)))), (2, .int (iI 0)), (0, .ref h), (1, .int (iI pp))] dX5_lows_25 rfl hl (by decide) rfl ?_
    clear hl
    intro ls hl
    refine g_loop (σ := (Int32) × (Int) × (Int) × (Int) × (Int → Int) × (Int → Int) × (Int → Int) × (Int → Int) × (Int → Int) × (Int → Int) × (Int → Int) × (Int → Int) × (Int → Int)) (fun z_ => [oX0 (a 4) lb z_.2.2.1 z_.2.2.2.1 xw, cA G (lb 1) 12 z_.2.2.2.2.2.1, cA G (lb 2) 4 z_.2.2.2.2.2.2.1, cA G (lb 3) 8 z_.2.2.2.2.2.2.2.1, cA G (lb 4) 8 z_.2.2.2.2.2.2.2.2.1, cA G (lb 5) 8 z_.2.2.2.2.2.2.2.2.2.1, cA G (lb 6) 8 z_.2.2.2.2.2.2.2.2.2.2.1, cA G (lb 8) 8 z_.2.2.2.2.2.2.2.2.2.2.2.1, cA G (lb 9) 8 z_.2.2.2.2.2.2.2.2.2.2.2.2, oX1 (a 6) ga rc, cA G (ga 1) 8 r1, cA G (ga 2) 8 r2, cA G (ga 3) 8 r3, oX5 h a tr lf, oX4 (a 3) tb cn, cA G (tb 1) 4 kt3, cA G (tb 2) 12 z_.2.2.2.2.1, oX4 (a 1) ta cn, cA G (ta 1) 4 kd, cA G (ta 2) 12 nu]) (fun z_ => [(3, .int (iI (z_.2.1))), (2, .int (z_.1)), (0, .ref h), (1, .int (iI pp))]) (fun z_ => (-9 ≤ z_.2.1 ∧ z_.2.1 ≤ 10) ∧ (nuOK z_.2.2.2.2.1) ∧ (∀ q, 0 ≤ q → q < 12 → ¬ q = 3 * pp → z_.2.2.2.2.1 q = nu q) ∧ (z_.1 = seM (fun k => soB (exT cn kd (up nu (3 * pp) ((k : Int) - 9))) cn rc r1 r2 r3) (z_.2.1 + 9).toNat)) (fun z_ => (10 - z_.2.1).toNat) ((iI 0), (-9), xc, xu, nt3, tex, trt, tmi, tsi, tun, tbe, tka, tbr) ⟨by (try dsimp only); omega, by (try dsimp only); exact hbk.2, by (try dsimp only); intro q h1 h2 h3; exact hbc.2 q h1 h2, by (try dsimp only); rfl⟩ hw (lv_sub hl [0, 1, 2, 3] rfl) ?_
    clear hw hl
    rintro ⟨se, vv, xc1, xu1, nt1, tex1, trt1, tmi1, tsi1, tun1, tbe1, tka1, tbr1⟩ ⟨hkk, hk0, hk1, hse⟩ H locs ls hw hl ih_4
    replace hkk : -9 ≤ vv ∧ vv ≤ 10 := hkk
    replace hk0 : nuOK nt1 := hk0
    replace hk1 : ∀ q, 0 ≤ q → q < 12 → ¬ q = 3 * pp → nt1 q = nu q := hk1
    replace hse : se = seM (fun k => soB (exT cn kd (up nu (3 * pp) ((k : Int) - 9))) cn rc r1 r2 r3) (vv + 9).toNat := hse
    replace hw : gW D A s.heap [oX0 (a 4) lb xc1 xu1 xw, cA G (lb 1) 12 tex1, cA G (lb 2) 4 trt1, cA G (lb 3) 8 tmi1, cA G (lb 4) 8 tsi1, cA G (lb 5) 8 tun1, cA G (lb 6) 8 tbe1, cA G (lb 8) 8 tka1, cA G (lb 9) 8 tbr1, oX1 (a 6) ga rc, cA G (ga 1) 8 r1, cA G (ga 2) 8 r2, cA G (ga 3) 8 r3, oX5 h a tr lf, oX4 (a 3) tb cn, cA G (tb 1) 4 kt3, cA G (tb 2) 12 nt1, oX4 (a 1) ta cn, cA G (ta 1) 4 kd, cA G (ta 2) 12 nu] H locs := hw
    replace hl : lv_has ls 4 [(3, .int (iI vv)), (2, .int (se)), (0, .ref h), (1, .int (iI pp))] := hl
    replace ih_4 : ∀ (se' : Int32) (vv' : Int) (xc1' : Int) (xu1' : Int) (nt1' : Int → Int) (tex1' : Int → Int) (trt1' : Int → Int) (tmi1' : Int → Int) (tsi1' : Int → Int) (tun1' : Int → Int) (tbe1' : Int → Int) (tka1' : Int → Int) (tbr1' : Int → Int), ((-9 ≤ vv' ∧ vv' ≤ 10) ∧ (nuOK nt1') ∧ (∀ q, 0 ≤ q → q < 12 → ¬ q = 3 * pp → nt1' q = nu q) ∧ (se' = seM (fun k => soB (exT cn kd (up nu (3 * pp) ((k : Int) - 9))) cn rc r1 r2 r3) (vv' + 9).toNat)) → ((10 - vv').toNat) < ((10 - vv).toNat) → ∀ (H : Heap) (locs : List Loc) (ls : Array Slot), gW D A s.heap [oX0 (a 4) lb xc1' xu1' xw, cA G (lb 1) 12 tex1', cA G (lb 2) 4 trt1', cA G (lb 3) 8 tmi1', cA G (lb 4) 8 tsi1', cA G (lb 5) 8 tun1', cA G (lb 6) 8 tbe1', cA G (lb 8) 8 tka1', cA G (lb 9) 8 tbr1', oX1 (a 6) ga rc, cA G (ga 1) 8 r1, cA G (ga 2) 8 r2, cA G (ga 3) 8 r3, oX5 h a tr lf, oX4 (a 3) tb cn, cA G (tb 1) 4 kt3, cA G (tb 2) 12 nt1', oX4 (a 1) ta cn, cA G (ta 1) 4 kd, cA G (ta 2) 12 nu] H locs → lv_has ls 4 [(3, .int (iI (vv'))), (2, .int (se')), (0, .ref h), (1, .int (iI pp))] → W p l e _ s m _ below meth c H locs _ _ _ (F0 m 26 ls []) := fun se' vv' xc1' xu1' nt1' tex1' trt1' tmi1' tsi1' tun1' tbe1' tka1' tbr1' => ih_4 (se', vv', xc1', xu1', nt1', tex1', trt1', tmi1', tsi1', tun1', tbe1', tka1', tbr1')
    have h3p : pp * 3 = 3 * pp := by omega
    have hcg : exT cn kt3 (up nt1 (pp * 3) vv) = exT cn kd (up nu (3 * pp) vv) := by rw [h3p]; exact exT_cg (fun q h1 h2 => hbc.1 q h1 (by omega)) (fun j h1 h2 => by unfold up; split; rfl; exact hk1 j h1 (by omega) (by assumption))
    refine g_iload_n C hl 0 rfl rfl dX5_lows_26 ?_
    refine g_bipush C dX5_lows_27 (by decide) ?_
    refine g_icmp_gt C 84 dX5_lows_29 (by decide) (by omega) (by omega) (fun c_5 => ?_) (fun c_5 => ?_)
    · skip
      refine g_iload_n C hl 1 rfl rfl dX5_lows_84 ?_
      exact g_iret C hr (ws' := [oX5 h a tr lf, oX4 (a 1) ta cn, cA G (ta 1) 4 kd, cA G (ta 2) 12 nu, oX4 (a 3) tb cn, cA G (tb 1) 4 kt3, cA G (tb 2) 12 nt1, oX0 (a 4) lb xc1 xu1 xw, cA G (lb 1) 12 tex1, cA G (lb 2) 4 trt1, cA G (lb 3) 8 tmi1, cA G (lb 4) 8 tsi1, cA G (lb 5) 8 tun1, cA G (lb 6) 8 tbe1, cA G (lb 8) 8 tka1, cA G (lb 9) 8 tbr1, oX1 (a 6) ga rc, cA G (ga 1) 8 r1, cA G (ga 2) 8 r2, cA G (ga 3) 8 r3]) hw [13, 17, 18, 19, 14, 15, 16, 0, 1, 2, 3, 4, 5, 6, 7, 8, 9, 10, 11, 12] (by decide) rfl ⟨cn, kt3, nt1, xc1, xu1, tex1, trt1, tmi1, tsi1, tun1, tbe1, tka1, tbr1, (by unfold R_low; rw [if_neg (by omega), hse, show (vv + 9).toNat = 19 by omega]), rfl, (by first | exact ⟨hkt, hnt⟩ | exact ⟨hbk.1, hk0⟩)⟩ dX5_lows_85
    · skip
      refine g_aload_n C hl 2 rfl rfl dX5_lows_32 ?_
      refine g_get C hw hin_X5_lows_X5 13 rfl rfl 3 (by decide) lk_X5_lows_31 rfl dX5_lows_33 ?_
      refine g_get C hw hin_X5_lows_X4 14 rfl rfl 2 (by decide) lk_X5_lows_102 rfl dX5_lows_36 ?_
      refine g_iload_n C hl 3 rfl rfl dX5_lows_39 ?_
      refine g_iconst C dX5_lows_40 ?_
      refine g_imul C dX5_lows_41 ?_
      refine g_iload_n C hl 0 rfl rfl dX5_lows_42 ?_
      refine g_iast C hw [oX0 (a 4) lb xc1 xu1 xw, cA G (lb 1) 12 tex1, cA G (lb 2) 4 trt1, cA G (lb 3) 8 tmi1, cA G (lb 4) 8 tsi1, cA G (lb 5) 8 tun1, cA G (lb 6) 8 tbe1, cA G (lb 8) 8 tka1, cA G (lb 9) 8 tbr1, oX1 (a 6) ga rc, cA G (ga 1) 8 r1, cA G (ga 2) 8 r2, cA G (ga 3) 8 r3, oX5 h a tr lf, oX4 (a 3) tb cn, cA G (tb 1) 4 kt3, cA G (tb 2) 12 (up nt1 (pp * 3) vv), oX4 (a 1) ta cn, cA G (ta 1) 4 kd, cA G (ta 2) 12 nu] 16 rfl (by omega) (Nat.le_of_ble_eq_true rfl) rfl dX5_lows_43 ?_
      clear hw
      intro H locs hw
      refine g_aload_n C hl 2 rfl rfl dX5_lows_44 ?_
      refine g_get C hw hin_X5_lows_X5 13 rfl rfl 4 (by decide) lk_X5_lows_34 rfl dX5_lows_45 ?_
      refine g_aload_n C hl 2 rfl rfl dX5_lows_48 ?_
      refine g_get C hw hin_X5_lows_X5 13 rfl rfl 3 (by decide) lk_X5_lows_31 rfl dX5_lows_49 ?_
      refine g_callVv C hw (wr := [oX1 (a 6) ga rc, cA G (ga 1) 8 r1, cA G (ga 2) 8 r2, cA G (ga 3) 8 r3, oX5 h a tr lf, oX4 (a 1) ta cn, cA G (ta 1) 4 kd, cA G (ta 2) 12 nu]) (As := [.ref ((a 3))]) (rest := []) (m_X0_lay l D G (h := (a 4)) (a := lb) (cn := xc1) (ul := xu1) (rw := xw) (ex := tex1) (rt := trt1) (mi := tmi1) (si := tsi1) (un := tun1) (be := tbe1) (ka := tka1) (br := tbr1) (o := (a 3)) (b := tb) (ct := cn) (kd := kt3) (nu := (up nt1 (pp * 3) vv)) (by exact hbk.1) (by exact nuOK_up hk0 (by omega)) (by first | assumption | omega)) (cwV 1 C.1.2.2.2.2 gX5_lows_X0_lay rfl rfl rfl (by decide +kernel) ⟨Nat.le_of_ble_eq_true rfl, Nat.le_of_ble_eq_true rfl⟩) [0, 1, 2, 3, 4, 5, 6, 7, 8, 14, 15, 16] [9, 10, 11, 12, 13, 17, 18, 19] rfl rfl (by decide) (by decide) (by decide) 0 rfl rfl rfl hl.1 _ rfl (Nat.le_of_ble_eq_true rfl) dX5_lows_52 ⟨Nat.le_of_ble_eq_true rfl, Nat.le_of_ble_eq_true rfl⟩ ?_
      clear hw
      rintro _ H locs ⟨ex2__6, rt2__7, mi2__8, si2__9, un2__10, be2__11, ka2__12, br2__13, rfl, hp_14, hp_15, hp_16, hp_17⟩ hw
      have hw : gW D A s.heap [oX1 (a 6) ga rc, cA G (ga 1) 8 r1, cA G (ga 2) 8 r2, cA G (ga 3) 8 r3, oX5 h a tr lf, oX4 (a 1) ta cn, cA G (ta 1) 4 kd, cA G (ta 2) 12 nu, oX0 (a 4) lb cn ((ALb (exT cn kt3 (up nt1 (pp * 3) vv)) cn.toNat).length : Int) xw, cA G (lb 1) 12 ex2__6, cA G (lb 2) 4 rt2__7, cA G (lb 3) 8 mi2__8, cA G (lb 4) 8 si2__9, cA G (lb 5) 8 un2__10, cA G (lb 6) 8 be2__11, cA G (lb 8) 8 ka2__12, cA G (lb 9) 8 br2__13, oX4 (a 3) tb cn, cA G (tb 1) 4 kt3, cA G (tb 2) 12 (up nt1 (pp * 3) vv)] H locs := hw
      have hp_14 : LnX (exT cn kt3 (up nt1 (pp * 3) vv)) cn ex2__6 := hp_14
      have hp_15 : LnT (exT cn kt3 (up nt1 (pp * 3) vv)) cn rt2__7 := hp_15
      have hp_16 : LnZ (exT cn kt3 (up nt1 (pp * 3) vv)) cn mi2__8 si2__9 un2__10 be2__11 := hp_16
      have hp_17 : hasB ka2__12 br2__13 (ALb (exT cn kt3 (up nt1 (pp * 3) vv)) cn.toNat) := hp_17
      have hX9 := hp_14
      have hZ9 := hp_16
      have hB9 := hp_17
      have hL9 := hasB_L hB9
      have hlen9 := ALb_len (exT cn kt3 (up nt1 (pp * 3) vv)) cn.toNat
      rw [hcg] at hX9 hZ9 hL9 hlen9
      refine g_aload_n C hl 2 rfl rfl dX5_lows_55 ?_
      refine g_get C hw hin_X5_lows_X5 4 rfl rfl 6 (by decide) lk_X5_lows_47 rfl dX5_lows_56 ?_
      refine g_aload_n C hl 2 rfl rfl dX5_lows_59 ?_
      refine g_get C hw hin_X5_lows_X5 4 rfl rfl 4 (by decide) lk_X5_lows_34 rfl dX5_lows_60 ?_
      refine g_callVi C hw (wr := [oX5 h a tr lf, oX4 (a 1) ta cn, cA G (ta 1) 4 kd, cA G (ta 2) 12 nu, cA G (lb 2) 4 rt2__7, cA G (lb 9) 8 br2__13, oX4 (a 3) tb cn, cA G (tb 1) 4 kt3, cA G (tb 2) 12 (up nt1 (pp * 3) vv)]) (As := [.ref ((a 4))]) (rest := []) (m_X1_holdOn l D G (h := (a 6)) (a := ga) (rc := rc) (r1 := r1) (r2 := r2) (r3 := r3) (o := (a 4)) (b := lb) (cn := cn) (ul := ((ALb (exT cn kt3 (up nt1 (pp * 3) vv)) cn.toNat).length : Int)) (rw := xw) (ex := ex2__6) (mi := mi2__8) (si := si2__9) (un := un2__10) (be := be2__11) (ka := ka2__12) (E := (exT cn kd (up nu (3 * pp) vv))) (by exact exT_B cn _ (nuOK_up hnu (by omega))) (by first | assumption | omega) (by exact hX9) (by exact hZ9) (by exact hL9) (by rw [hcg]; omega) (by first | assumption | omega)) (cwV 1 C.1.2.2.2.2 gX5_lows_X1_holdOn rfl rfl rfl (by decide +kernel) ⟨Nat.le_of_ble_eq_true rfl, Nat.le_of_ble_eq_true rfl⟩) [0, 1, 2, 3, 8, 9, 11, 12, 13, 14, 15] [4, 5, 6, 7, 10, 16, 17, 18, 19] rfl rfl (by decide) (by decide) (by decide) 0 rfl rfl rfl hl.1 _ rfl (Nat.le_of_ble_eq_true rfl) dX5_lows_63 ⟨Nat.le_of_ble_eq_true rfl, Nat.le_of_ble_eq_true rfl⟩ ?_
      clear hw
      rintro _ _ H locs ⟨rfl, rfl⟩ hw
      have hw : gW D A s.heap [oX5 h a tr lf, oX4 (a 1) ta cn, cA G (ta 1) 4 kd, cA G (ta 2) 12 nu, cA G (lb 2) 4 rt2__7, cA G (lb 9) 8 br2__13, oX4 (a 3) tb cn, cA G (tb 1) 4 kt3, cA G (tb 2) 12 (up nt1 (pp * 3) vv), oX1 (a 6) ga rc, cA G (ga 1) 8 r1, cA G (ga 2) 8 r2, cA G (ga 3) 8 r3, oX0 (a 4) lb cn ((ALb (exT cn kt3 (up nt1 (pp * 3) vv)) cn.toNat).length : Int) xw, cA G (lb 1) 12 ex2__6, cA G (lb 3) 8 mi2__8, cA G (lb 4) 8 si2__9, cA G (lb 5) 8 un2__10, cA G (lb 6) 8 be2__11, cA G (lb 8) 8 ka2__12] H locs := hw
      skip
      refine g_ifb_eq C 78 dX5_lows_66 (by decide) (fun c_18 => ?_) (fun c_18 => ?_)
      · skip
        refine g_iinc C [(3, .int (iI (vv + 1))), (2, .int (se)), (0, .ref h), (1, .int (iI pp))] 0 dX5_lows_78 hl rfl (by decide) rfl ?_
        clear hl
        intro ls hl
        refine g_goto C 26 dX5_lows_81 (by decide) ?_
        have hw : gW D A s.heap [oX0 (a 4) lb cn ((ALb (exT cn kt3 (up nt1 (pp * 3) vv)) cn.toNat).length : Int) xw, cA G (lb 1) 12 ex2__6, cA G (lb 2) 4 rt2__7, cA G (lb 3) 8 mi2__8, cA G (lb 4) 8 si2__9, cA G (lb 5) 8 un2__10, cA G (lb 6) 8 be2__11, cA G (lb 8) 8 ka2__12, cA G (lb 9) 8 br2__13, oX1 (a 6) ga rc, cA G (ga 1) 8 r1, cA G (ga 2) 8 r2, cA G (ga 3) 8 r3, oX5 h a tr lf, oX4 (a 3) tb cn, cA G (tb 1) 4 kt3, cA G (tb 2) 12 (up nt1 (pp * 3) vv), oX4 (a 1) ta cn, cA G (ta 1) 4 kd, cA G (ta 2) 12 nu] H locs := g_perm hw [13, 14, 4, 15, 16, 17, 18, 19, 5, 9, 10, 11, 12, 0, 6, 7, 8, 1, 2, 3] (by decide) rfl
        exact ih_4 (se) (vv + 1) cn ((ALb (exT cn kt3 (up nt1 (pp * 3) vv)) cn.toNat).length : Int) (up nt1 (pp * 3) vv) ex2__6 rt2__7 mi2__8 si2__9 un2__10 be2__11 ka2__12 br2__13 ⟨by omega, by exact nuOK_up hk0 (by omega), by intro q h1 h2 h3; unfold up; rw [if_neg (by omega)]; exact hk1 q h1 h2 h3, by rw [show vv + 1 + 9 = (vv + 9) + 1 by omega, seM_s (by omega), hse]; first | (rw [if_pos (by rw [show (((vv + 9).toNat : Nat) : Int) - 9 = vv by omega]; assumption)]; done) | (rw [if_neg (by rw [show (((vv + 9).toNat : Nat) : Int) - 9 = vv by omega]; assumption)]; done)⟩ (by omega) H locs ls hw (lv_sub hl [0, 1, 2, 3] rfl)
      · skip
        refine g_iload_n C hl 1 rfl rfl dX5_lows_69 ?_
        refine g_iconst C dX5_lows_70 ?_
        refine g_iload_n C hl 0 rfl rfl dX5_lows_71 ?_
        refine g_bipush C dX5_lows_72 (by decide) ?_
        refine g_iadd C dX5_lows_74 ?_
        refine g_ishl C dX5_lows_75 ?_
        refine g_ior C dX5_lows_76 ?_
        refine g_istore_n C [(2, .int (((se)) ||| (((iI 1) <<< ((iI (vv + 9)) &&& 31))))), (3, .int (iI vv)), (0, .ref h), (1, .int (iI pp))] dX5_lows_77 rfl hl (by decide) rfl ?_
        clear hl
        intro ls hl
        refine g_iinc C [(3, .int (iI (vv + 1))), (2, .int (((se)) ||| (((iI 1) <<< ((iI (vv + 9)) &&& 31))))), (0, .ref h), (1, .int (iI pp))] 1 dX5_lows_78 hl rfl (by decide) rfl ?_
        clear hl
        intro ls hl
        refine g_goto C 26 dX5_lows_81 (by decide) ?_
        have hw : gW D A s.heap [oX0 (a 4) lb cn ((ALb (exT cn kt3 (up nt1 (pp * 3) vv)) cn.toNat).length : Int) xw, cA G (lb 1) 12 ex2__6, cA G (lb 2) 4 rt2__7, cA G (lb 3) 8 mi2__8, cA G (lb 4) 8 si2__9, cA G (lb 5) 8 un2__10, cA G (lb 6) 8 be2__11, cA G (lb 8) 8 ka2__12, cA G (lb 9) 8 br2__13, oX1 (a 6) ga rc, cA G (ga 1) 8 r1, cA G (ga 2) 8 r2, cA G (ga 3) 8 r3, oX5 h a tr lf, oX4 (a 3) tb cn, cA G (tb 1) 4 kt3, cA G (tb 2) 12 (up nt1 (pp * 3) vv), oX4 (a 1) ta cn, cA G (ta 1) 4 kd, cA G (ta 2) 12 nu] H locs := g_perm hw [13, 14, 4, 15, 16, 17, 18, 19, 5, 9, 10, 11, 12, 0, 6, 7, 8, 1, 2, 3] (by decide) rfl
        exact ih_4 (((se)) ||| (((iI 1) <<< ((iI (vv + 9)) &&& 31)))) (vv + 1) cn ((ALb (exT cn kt3 (up nt1 (pp * 3) vv)) cn.toNat).length : Int) (up nt1 (pp * 3) vv) ex2__6 rt2__7 mi2__8 si2__9 un2__10 be2__11 ka2__12 br2__13 ⟨by omega, by exact nuOK_up hk0 (by omega), by intro q h1 h2 h3; unfold up; rw [if_neg (by omega)]; exact hk1 q h1 h2 h3, by rw [show vv + 1 + 9 = (vv + 9) + 1 by omega, seM_s (by omega), hse]; first | (rw [if_pos (by rw [show (((vv + 9).toNat : Nat) : Int) - 9 = vv by omega]; assumption)]; done) | (rw [if_neg (by rw [show (((vv + 9).toNat : Nat) : Int) - 9 = vv by omega]; assumption)]; done)⟩ (by omega) H locs ls hw (lv_sub hl [0, 1, 2, 3] rfl)
  · skip
    refine g_iconst C dX5_lows_8 ?_
    exact g_iret C hr (ws' := [oX5 h a tr lf, oX4 (a 1) ta cn, cA G (ta 1) 4 kd, cA G (ta 2) 12 nu, oX4 (a 3) tb tc, cA G (tb 1) 4 kt, cA G (tb 2) 12 nt, oX0 (a 4) lb xc xu xw, cA G (lb 1) 12 tex, cA G (lb 2) 4 trt, cA G (lb 3) 8 tmi, cA G (lb 4) 8 tsi, cA G (lb 5) 8 tun, cA G (lb 6) 8 tbe, cA G (lb 8) 8 tka, cA G (lb 9) 8 tbr, oX1 (a 6) ga rc, cA G (ga 1) 8 r1, cA G (ga 2) 8 r2, cA G (ga 3) 8 r3]) hw [18, 19, 0, 1, 2, 3, 4, 5, 6, 7, 8, 9, 10, 11, 12, 13, 14, 15, 16, 17] (by decide) rfl ⟨tc, kt, nt, xc, xu, tex, trt, tmi, tsi, tun, tbe, tka, tbr, (by unfold R_low; rw [if_pos (by omega)]), rfl, (by first | exact ⟨hkt, hnt⟩ | exact ⟨hbk.1, hk0⟩)⟩ dX5_lows_9
