set_option maxRecDepth 20000 in
theorem hin_X0_rowWith_X0 : ∀ w ∈ u_ws RX0 TX0 14, w ∈ wsX0_rowWith := by
  intro w h
  exact List.mem_cons_of_mem _ (List.mem_append_right _ (h))
set_option maxRecDepth 20000 in
theorem lk_X0_rowWith_97 : Cond.fieldLink RX0 97 (TX0 10).1 (TX0 10).2.1 (TX0 10).2.2.1 ∈ wsX0_rowWith := List.mem_cons_of_mem _ (List.mem_append_left _ (List.mem_of_getElem? (i := 0) rfl))
set_option maxRecDepth 20000 in
theorem lk_X0_rowWith_36 : Cond.fieldLink RX0 36 (TX0 11).1 (TX0 11).2.1 (TX0 11).2.2.1 ∈ wsX0_rowWith := List.mem_cons_of_mem _ (List.mem_append_left _ (List.mem_of_getElem? (i := 1) rfl))
set_option maxRecDepth 100000 in
set_option maxHeartbeats 8000000 in
theorem m_X0_rowWith (l : Launch) (D : va_G) (G : gT) (h : Nat) (a : Nat → Nat) (cn : Int) (ul : Int) (rw : Int) (rs : Int → Int) (sn : Int) (hrw : 0 ≤ rw ∧ rw ≤ 17) (hsn : 0 ≤ sn ∧ sn ≤ 80) (hrs : ∀ j, 0 ≤ j → j < rw → 0 ≤ rs j ∧ rs j ≤ 80) : gMi l yX0_rowWith wsX0_rowWith ({ frames := 0, cells := 0, slots := 0, locals := 0 }) D G [.ref h, .int (iI sn)] [oX0 h a cn ul rw, cA G (a 11) 17 rs] 0 0 (fun (r : Int32) (w : va_W) => ∃ (rr : Int), r = (iI rr) ∧ w = [oX0 h a cn ul rw, cA G (a 11) 17 rs] ∧ ((0 ≤ rr ∧ rr ≤ rw) ∧ (∀ j, 0 ≤ j → j < rr → ¬ rs j = sn) ∧ (rr < rw → rs rr = sn))) := by
  refine g_start_i (cc := cX0_rowWith) (nL := 3) (own := RX0) (ret := some .int) (by decide +kernel) rfl rfl (Nat.le_of_ble_eq_true rfl) ?_
  intro p e s m below meth c A ls C hr hnm hw hl
  have hl : lv_has ls 3 [(0, .ref h), (1, .int (iI sn))] := hl
  refine g_iconst C dX0_rowWith_0 ?_
  refine g_istore_n C [(2, .int (iI 0)), (0, .ref h), (1, .int (iI sn))] dX0_rowWith_1 rfl hl (by decide) rfl ?_
  clear hl
  intro ls hl
  refine g_loop (σ := (Int)) (fun z_ => [oX0 h a cn ul rw, cA G (a 11) 17 rs]) (fun z_ => [(2, .int (iI z_)), (0, .ref h), (1, .int (iI sn))]) (fun z_ => (0 ≤ z_ ∧ z_ ≤ rw) ∧ (∀ j, 0 ≤ j → j < z_ → ¬ rs j = sn)) (fun z_ => (rw - z_).toNat) 0 ⟨by (try dsimp only); omega, by (try dsimp only); intro j h1 h2; omega⟩ hw (lv_sub hl [0, 1, 2] rfl) ?_
  clear hw hl
  rintro kk ⟨hkk, hne⟩ H locs ls hw hl ih_1
  replace hkk : 0 ≤ kk ∧ kk ≤ rw := hkk
  replace hne : ∀ j, 0 ≤ j → j < kk → ¬ rs j = sn := hne
  replace hw : gW D A s.heap [oX0 h a cn ul rw, cA G (a 11) 17 rs] H locs := hw
  replace hl : lv_has ls 3 [(2, .int (iI kk)), (0, .ref h), (1, .int (iI sn))] := hl
  replace ih_1 : ∀ (kk' : Int), ((0 ≤ kk' ∧ kk' ≤ rw) ∧ (∀ j, 0 ≤ j → j < kk' → ¬ rs j = sn)) → ((rw - kk').toNat) < ((rw - kk).toNat) → ∀ (H : Heap) (locs : List Loc) (ls : Array Slot), gW D A s.heap [oX0 h a cn ul rw, cA G (a 11) 17 rs] H locs → lv_has ls 3 [(2, .int (iI (kk'))), (0, .ref h), (1, .int (iI sn))] → W p l e _ s m _ below meth c H locs _ _ _ (F0 m 2 ls []) := fun kk' => ih_1 kk'
  have hr9 := hrs kk hkk.1
  refine g_iload_n C hl 0 rfl rfl dX0_rowWith_2 ?_
  refine g_aload_n C hl 1 rfl rfl dX0_rowWith_3 ?_
  refine g_get C hw hin_X0_rowWith_X0 0 rfl rfl 10 (by decide) lk_X0_rowWith_97 rfl dX0_rowWith_4 ?_
  refine g_icmp_ge C 28 dX0_rowWith_7 (by decide) (by omega) (by omega) (fun c_2 => ?_) (fun c_2 => ?_)
  · skip
    refine g_aload_n C hl 1 rfl rfl dX0_rowWith_28 ?_
    refine g_get C hw hin_X0_rowWith_X0 0 rfl rfl 10 (by decide) lk_X0_rowWith_97 rfl dX0_rowWith_29 ?_
    exact g_iret C hr (ws' := [oX0 h a cn ul rw, cA G (a 11) 17 rs]) hw [0, 1] (by decide) rfl ⟨rw, rfl, rfl, (by first | exact ⟨by omega, hne, fun _ => by assumption⟩ | exact ⟨by omega, fun j h1 h2 => hne j h1 (by omega), fun q => by omega⟩)⟩ dX0_rowWith_32
  · skip
    refine g_aload_n C hl 1 rfl rfl dX0_rowWith_10 ?_
    refine g_get C hw hin_X0_rowWith_X0 0 rfl rfl 11 (by decide) lk_X0_rowWith_36 rfl dX0_rowWith_11 ?_
    refine g_iload_n C hl 0 rfl rfl dX0_rowWith_14 ?_
    refine g_iald C hw 1 rfl (by omega) (Nat.le_of_ble_eq_true rfl) dX0_rowWith_15 ?_
    refine g_iload_n C hl 2 rfl rfl dX0_rowWith_16 ?_
    refine g_icmp_ne C 22 dX0_rowWith_17 (by decide) (by omega) (by omega) (fun c_3 => ?_) (fun c_3 => ?_)
    · skip
      refine g_iinc C [(2, .int (iI (kk + 1))), (0, .ref h), (1, .int (iI sn))] 0 dX0_rowWith_22 hl rfl (by decide) rfl ?_
      clear hl
      intro ls hl
      refine g_goto C 2 dX0_rowWith_25 (by decide) ?_
      have hw : gW D A s.heap [oX0 h a cn ul rw, cA G (a 11) 17 rs] H locs := g_perm hw [0, 1] (by decide) rfl
      exact ih_1 (kk + 1) ⟨by omega, by intro j h1 h2; by_cases q : j = kk; rw [q]; assumption; exact hne j h1 (by omega)⟩ (by omega) H locs ls hw (lv_sub hl [0, 1, 2] rfl)
    · skip
      refine g_iload_n C hl 0 rfl rfl dX0_rowWith_20 ?_
      exact g_iret C hr (ws' := [oX0 h a cn ul rw, cA G (a 11) 17 rs]) hw [0, 1] (by decide) rfl ⟨kk, rfl, rfl, (by first | exact ⟨by omega, hne, fun _ => by assumption⟩ | exact ⟨by omega, fun j h1 h2 => hne j h1 (by omega), fun q => by omega⟩)⟩ dX0_rowWith_21

set_option maxRecDepth 20000 in
theorem hin_X0_gatherRows_X0 : ∀ w ∈ u_ws RX0 TX0 14, w ∈ wsX0_gatherRows := by
  intro w h
  exact List.mem_cons_of_mem _ (List.mem_append_right _ (h))
set_option maxRecDepth 20000 in
theorem lk_X0_gatherRows_97 : Cond.fieldLink RX0 97 (TX0 10).1 (TX0 10).2.1 (TX0 10).2.2.1 ∈ wsX0_gatherRows := List.mem_cons_of_mem _ (List.mem_append_left _ (List.mem_append_left _ (List.mem_of_getElem? (i := 0) rfl)))
set_option maxRecDepth 20000 in
theorem lk_X0_gatherRows_42 : Cond.fieldLink RX0 42 (TX0 13).1 (TX0 13).2.1 (TX0 13).2.2.1 ∈ wsX0_gatherRows := List.mem_cons_of_mem _ (List.mem_append_left _ (List.mem_append_left _ (List.mem_of_getElem? (i := 3) rfl)))
set_option maxRecDepth 20000 in
theorem lk_X0_gatherRows_36 : Cond.fieldLink RX0 36 (TX0 11).1 (TX0 11).2.1 (TX0 11).2.2.1 ∈ wsX0_gatherRows := List.mem_cons_of_mem _ (List.mem_append_left _ (List.mem_append_left _ (List.mem_of_getElem? (i := 1) rfl)))
set_option maxRecDepth 20000 in
theorem lk_X0_gatherRows_39 : Cond.fieldLink RX0 39 (TX0 12).1 (TX0 12).2.1 (TX0 12).2.2.1 ∈ wsX0_gatherRows := List.mem_cons_of_mem _ (List.mem_append_left _ (List.mem_append_left _ (List.mem_of_getElem? (i := 2) rfl)))
set_option maxRecDepth 100000 in
set_option maxHeartbeats 8000000 in
theorem m_X0_gatherRows (l : Launch) (D : va_G) (G : gT) (h : Nat) (a : Nat → Nat) (cn : Int) (ul : Int) (rw : Int) (ex : Int → Int) (mi : Int → Int) (si : Int → Int) (un : Int → Int) (be : Int → Int) (ka : Int → Int) (rs : Int → Int) (rf : Int → Int) (rp : Int → Int) (E : Int → Int → Int) (hE : EB E) (hnc : 0 ≤ cn ∧ cn ≤ 4) (hX : LnX E cn ex) (hZ : LnZ E cn mi si un be) (hKA : hasL ka (ALn E cn.toNat)) (hul : ul = ((ALn E cn.toNat).length : Int)) : gMv l yX0_gatherRows wsX0_gatherRows ({ frames := 5, cells := 0, slots := 0, locals := 140 }) D G [.ref h] [oX0 h a cn ul rw, cA G (a 1) 12 ex, cA G (a 3) 8 mi, cA G (a 4) 8 si, cA G (a 5) 8 un, cA G (a 6) 8 be, cA G (a 8) 8 ka, cA G (a 11) 17 rs, cA G (a 12) 17 rf, cA G (a 13) 17 rp] 0 0 (fun (w : va_W) => ∃ (rs2 : Int → Int) (rf2 : Int → Int) (rp2 : Int → Int), w = [oX0 h a cn ul ((fsL E (ALn E cn.toNat) cn (2 * (ALn E cn.toNat).length + 1)).length : Int), cA G (a 1) 12 ex, cA G (a 3) 8 mi, cA G (a 4) 8 si, cA G (a 5) 8 un, cA G (a 6) 8 be, cA G (a 8) 8 ka, cA G (a 11) 17 rs2, cA G (a 12) 17 rf2, cA G (a 13) 17 rp2] ∧ (grP E (ALn E cn.toNat) cn (2 * ((ALn E cn.toNat).length : Int) + 1) ((fsL E (ALn E cn.toNat) cn (2 * (ALn E cn.toNat).length + 1)).length : Int) rs2 rf2 rp2)) := by
  refine g_start_v (cc := cX0_gatherRows) (nL := 4) (own := RX0) (ret := none) (by decide +kernel) rfl rfl (Nat.le_of_ble_eq_true rfl) ?_
  intro p e s m below meth c A ls C hr hnm hw hl
  have hl : lv_has ls 4 [(0, .ref h)] := hl
  have hlen := ALn_len E cn.toNat
  refine g_aload_n C hl 0 rfl rfl dX0_gatherRows_0 ?_
  refine g_iconst C dX0_gatherRows_1 ?_
  refine g_put C hw [oX0 h a cn ul 0, cA G (a 1) 12 ex, cA G (a 3) 8 mi, cA G (a 4) 8 si, cA G (a 5) 8 un, cA G (a 6) 8 be, cA G (a 8) 8 ka, cA G (a 11) 17 rs, cA G (a 12) 17 rf, cA G (a 13) 17 rp] hin_X0_gatherRows_X0 tyX0 tyX0_ok nmX0 0 rfl rfl 10 (by decide) lk_X0_gatherRows_97 rfl rfl rfl rfl (Nat.le_of_ble_eq_true rfl) rfl dX0_gatherRows_2 ?_
  clear hw
  intro H locs hw
  refine g_iconst C dX0_gatherRows_5 ?_
  refine g_istore_n C [(1, .int (iI 0)), (0, .ref h)] dX0_gatherRows_6 rfl hl (by decide) rfl ?_
  clear hl
  intro ls hl
  refine g_loop (σ := (Int) × (Int) × (Int → Int) × (Int → Int) × (Int → Int)) (fun z_ => [oX0 h a cn ul z_.2.1, cA G (a 1) 12 ex, cA G (a 3) 8 mi, cA G (a 4) 8 si, cA G (a 5) 8 un, cA G (a 6) 8 be, cA G (a 8) 8 ka, cA G (a 11) 17 z_.2.2.1, cA G (a 12) 17 z_.2.2.2.1, cA G (a 13) 17 z_.2.2.2.2]) (fun z_ => [(1, .int (iI (z_.1))), (0, .ref h)]) (fun z_ => (0 ≤ z_.1 ∧ z_.1 ≤ 2 * ul + 1) ∧ (grP E (ALn E cn.toNat) cn z_.1 z_.2.1 z_.2.2.1 z_.2.2.2.1 z_.2.2.2.2)) (fun z_ => (2 * ul + 1 - z_.1).toNat) (0, 0, rs, rf, rp) ⟨by (try dsimp only); omega, by (try dsimp only); exact grq_0⟩ hw (lv_sub hl [0, 1] rfl) ?_
  clear hw hl
  rintro ⟨kk, w1, s1, f1, p1⟩ ⟨hkk, hgr⟩ H locs ls hw hl ih_1
  replace hkk : 0 ≤ kk ∧ kk ≤ 2 * ul + 1 := hkk
  replace hgr : grP E (ALn E cn.toNat) cn kk w1 s1 f1 p1 := hgr
  replace hw : gW D A s.heap [oX0 h a cn ul w1, cA G (a 1) 12 ex, cA G (a 3) 8 mi, cA G (a 4) 8 si, cA G (a 5) 8 un, cA G (a 6) 8 be, cA G (a 8) 8 ka, cA G (a 11) 17 s1, cA G (a 12) 17 f1, cA G (a 13) 17 p1] H locs := hw
  replace hl : lv_has ls 4 [(1, .int (iI kk)), (0, .ref h)] := hl
  replace ih_1 : ∀ (kk' : Int) (w1' : Int) (s1' : Int → Int) (f1' : Int → Int) (p1' : Int → Int), ((0 ≤ kk' ∧ kk' ≤ 2 * ul + 1) ∧ (grP E (ALn E cn.toNat) cn kk' w1' s1' f1' p1')) → ((2 * ul + 1 - kk').toNat) < ((2 * ul + 1 - kk).toNat) → ∀ (H : Heap) (locs : List Loc) (ls : Array Slot), gW D A s.heap [oX0 h a cn ul w1', cA G (a 1) 12 ex, cA G (a 3) 8 mi, cA G (a 4) 8 si, cA G (a 5) 8 un, cA G (a 6) 8 be, cA G (a 8) 8 ka, cA G (a 11) 17 s1', cA G (a 12) 17 f1', cA G (a 13) 17 p1'] H locs → lv_has ls 4 [(1, .int (iI (kk'))), (0, .ref h)] → W p l e _ s m _ below meth c H locs _ _ _ (F0 m 7 ls []) := fun kk' w1' s1' f1' p1' => ih_1 (kk', w1', s1', f1', p1')
  have hfl := fsL_len E (ALn E cn.toNat) cn kk.toNat
  obtain ⟨g1, g2, g3⟩ := id hgr
  have hn5 := rnF_r E (ALn E cn.toNat) kk (p := cn.toNat) (by omega)
  replace hn5 : 0 ≤ rwN E (ALn E cn.toNat) cn kk ∧ rwN E (ALn E cn.toNat) cn kk ≤ 80 := hn5
  have hrs9 : ∀ j, 0 ≤ j → j < w1 → 0 ≤ s1 j ∧ s1 j ≤ 80 := by
    intro j h1 h2
    rw [(g3 j h1 h2).1]
    exact rnF_r E (ALn E cn.toNat) (f1 j) (p := cn.toNat) (by omega)
  refine g_iload_n C hl 0 rfl rfl dX0_gatherRows_7 ?_
  refine g_aload_n C hl 1 rfl rfl dX0_gatherRows_8 ?_
  refine g_callVi C hw (wr := [cA G (a 1) 12 ex, cA G (a 3) 8 mi, cA G (a 4) 8 si, cA G (a 5) 8 un, cA G (a 6) 8 be, cA G (a 8) 8 ka, cA G (a 11) 17 s1, cA G (a 12) 17 f1, cA G (a 13) 17 p1]) (As := []) (rest := [.int (iI kk)]) (m_X0_spots l D G (h := h) (a := a) (cn := cn) (ul := ul) (rw := w1) ) (cwV 0 C.1.2.2.2.2 gX0_gatherRows_X0_spots rfl rfl rfl (by decide +kernel) ⟨Nat.le_of_ble_eq_true rfl, Nat.le_of_ble_eq_true rfl⟩) [0] [1, 2, 3, 4, 5, 6, 7, 8, 9] rfl rfl (by decide) (by decide) (by decide) 0 rfl rfl rfl hl.1 _ rfl (Nat.le_of_ble_eq_true rfl) dX0_gatherRows_9 ⟨Nat.le_of_ble_eq_true rfl, Nat.le_of_ble_eq_true rfl⟩ ?_
  clear hw
  rintro _ _ H locs ⟨rfl, rfl⟩ hw
  have hw : gW D A s.heap [cA G (a 1) 12 ex, cA G (a 3) 8 mi, cA G (a 4) 8 si, cA G (a 5) 8 un, cA G (a 6) 8 be, cA G (a 8) 8 ka, cA G (a 11) 17 s1, cA G (a 12) 17 f1, cA G (a 13) 17 p1, oX0 h a cn ul w1] H locs := hw
  refine g_icmp_ge C 82 dX0_gatherRows_12 (by decide) (by omega) (by omega) (fun c_2 => ?_) (fun c_2 => ?_)
  · skip
    exact g_vret C hr (ws' := [oX0 h a cn ul w1, cA G (a 1) 12 ex, cA G (a 3) 8 mi, cA G (a 4) 8 si, cA G (a 5) 8 un, cA G (a 6) 8 be, cA G (a 8) 8 ka, cA G (a 11) 17 s1, cA G (a 12) 17 f1, cA G (a 13) 17 p1]) hw [9, 0, 1, 2, 3, 4, 5, 6, 7, 8] (by decide) rfl ⟨s1, f1, p1, (by have e9 : kk = 2 * ((ALn E cn.toNat).length : Int) + 1 := (by omega); rw [g1, e9, show (2 * ((ALn E cn.toNat).length : Int) + 1).toNat = 2 * (ALn E cn.toNat).length + 1 by omega]), (by have e9 : kk = 2 * ((ALn E cn.toNat).length : Int) + 1 := (by omega); rw [g1, e9, show (2 * ((ALn E cn.toNat).length : Int) + 1).toNat = 2 * (ALn E cn.toNat).length + 1 by omega] at hgr; exact hgr)⟩ dX0_gatherRows_82
  · skip
    refine g_aload_n C hl 1 rfl rfl dX0_gatherRows_15 ?_
    refine g_iload_n C hl 0 rfl rfl dX0_gatherRows_16 ?_
    refine g_callVi C hw (wr := [cA G (a 11) 17 s1, cA G (a 12) 17 f1, cA G (a 13) 17 p1]) (As := [.int (iI kk)]) (rest := []) (m_X0_signsIn l D G (h := h) (a := a) (cn := cn) (ul := ul) (rw := w1) (ex := ex) (mi := mi) (si := si) (un := un) (be := be) (ka := ka) (E := E) (kk := kk) (by first | assumption | omega) (by first | assumption | omega) (by first | assumption | omega) (by first | assumption | omega) (by first | assumption | omega) (by first | assumption | omega) (by first | assumption | omega)) (cwV 1 C.1.2.2.2.2 gX0_gatherRows_X0_signsIn rfl rfl rfl (by decide +kernel) ⟨Nat.le_of_ble_eq_true rfl, Nat.le_of_ble_eq_true rfl⟩) [9, 0, 1, 2, 3, 4, 5] [6, 7, 8] rfl rfl (by decide) (by decide) (by decide) 0 rfl rfl rfl hl.1 _ rfl (Nat.le_of_ble_eq_true rfl) dX0_gatherRows_17 ⟨Nat.le_of_ble_eq_true rfl, Nat.le_of_ble_eq_true rfl⟩ ?_
    clear hw
    rintro _ _ H locs ⟨rfl, rfl⟩ hw
    have hw : gW D A s.heap [cA G (a 11) 17 s1, cA G (a 12) 17 f1, cA G (a 13) 17 p1, oX0 h a cn ul w1, cA G (a 1) 12 ex, cA G (a 3) 8 mi, cA G (a 4) 8 si, cA G (a 5) 8 un, cA G (a 6) 8 be, cA G (a 8) 8 ka] H locs := hw
    refine g_istore_n C [(2, .int (iI ((rwN E (ALn E cn.toNat) cn kk)))), (1, .int (iI kk)), (0, .ref h)] dX0_gatherRows_20 rfl hl (by decide) rfl ?_
    clear hl
    intro ls hl
    refine g_aload_n C hl 2 rfl rfl dX0_gatherRows_21 ?_
    refine g_iload_n C hl 0 rfl rfl dX0_gatherRows_22 ?_
    refine g_callVi C hw (wr := [cA G (a 12) 17 f1, cA G (a 13) 17 p1, cA G (a 1) 12 ex, cA G (a 3) 8 mi, cA G (a 4) 8 si, cA G (a 5) 8 un, cA G (a 6) 8 be, cA G (a 8) 8 ka]) (As := [.int (iI ((rwN E (ALn E cn.toNat) cn kk)))]) (rest := []) (m_X0_rowWith l D G (h := h) (a := a) (cn := cn) (ul := ul) (rw := w1) (rs := s1) (sn := (rwN E (ALn E cn.toNat) cn kk)) (by first | assumption | omega) (by first | assumption | omega) (by first | assumption | omega)) (cwV 1 C.1.2.2.2.2 gX0_gatherRows_X0_rowWith rfl rfl rfl (by decide +kernel) ⟨Nat.le_of_ble_eq_true rfl, Nat.le_of_ble_eq_true rfl⟩) [3, 0] [1, 2, 4, 5, 6, 7, 8, 9] rfl rfl (by decide) (by decide) (by decide) 0 rfl rfl rfl hl.1 _ rfl (Nat.le_of_ble_eq_true rfl) dX0_gatherRows_23 ⟨Nat.le_of_ble_eq_true rfl, Nat.le_of_ble_eq_true rfl⟩ ?_
    clear hw
    rintro _ _ H locs ⟨rrN, rfl, rfl, hp_3⟩ hw
    have hw : gW D A s.heap [cA G (a 12) 17 f1, cA G (a 13) 17 p1, cA G (a 1) 12 ex, cA G (a 3) 8 mi, cA G (a 4) 8 si, cA G (a 5) 8 un, cA G (a 6) 8 be, cA G (a 8) 8 ka, oX0 h a cn ul w1, cA G (a 11) 17 s1] H locs := hw
    have hp_3 : (0 ≤ rrN ∧ rrN ≤ w1) ∧ (∀ j, 0 ≤ j → j < rrN → ¬ s1 j = (rwN E (ALn E cn.toNat) cn kk)) ∧ (rrN < w1 → s1 rrN = (rwN E (ALn E cn.toNat) cn kk)) := hp_3
    have hrr := hp_3
    refine g_istore_n C [(3, .int (iI rrN)), (2, .int (iI ((rwN E (ALn E cn.toNat) cn kk)))), (1, .int (iI kk)), (0, .ref h)] dX0_gatherRows_26 rfl hl (by decide) rfl ?_
    clear hl
    intro ls hl
    refine g_iload_n C hl 0 rfl rfl dX0_gatherRows_27 ?_
    refine g_aload_n C hl 3 rfl rfl dX0_gatherRows_28 ?_
    refine g_get C hw hin_X0_gatherRows_X0 8 rfl rfl 10 (by decide) lk_X0_gatherRows_97 rfl dX0_gatherRows_29 ?_
    refine g_icmp_ne C 66 dX0_gatherRows_32 (by decide) (by omega) (by omega) (fun c_4 => ?_) (fun c_4 => ?_)
    · skip
      refine g_aload_n C hl 3 rfl rfl dX0_gatherRows_66 ?_
      refine g_get C hw hin_X0_gatherRows_X0 8 rfl rfl 13 (by decide) lk_X0_gatherRows_42 rfl dX0_gatherRows_67 ?_
      refine g_iload_n C hl 0 rfl rfl dX0_gatherRows_70 ?_
      refine g_dup2 C dX0_gatherRows_71 rfl rfl ?_
      refine g_iald C hw 1 rfl (by omega) (Nat.le_of_ble_eq_true rfl) dX0_gatherRows_72 ?_
      refine g_iconst C dX0_gatherRows_73 ?_
      refine g_iadd C dX0_gatherRows_74 ?_
      refine g_iast C hw [cA G (a 12) 17 f1, cA G (a 13) 17 (up p1 rrN ((p1 rrN) + 1)), cA G (a 1) 12 ex, cA G (a 3) 8 mi, cA G (a 4) 8 si, cA G (a 5) 8 un, cA G (a 6) 8 be, cA G (a 8) 8 ka, oX0 h a cn ul w1, cA G (a 11) 17 s1] 1 rfl (by omega) (Nat.le_of_ble_eq_true rfl) rfl dX0_gatherRows_75 ?_
      clear hw
      intro H locs hw
      refine g_iinc C [(1, .int (iI (kk + 1))), (3, .int (iI rrN)), (2, .int (iI ((rwN E (ALn E cn.toNat) cn kk)))), (0, .ref h)] 2 dX0_gatherRows_76 hl rfl (by decide) rfl ?_
      clear hl
      intro ls hl
      refine g_goto C 7 dX0_gatherRows_79 (by decide) ?_
      have hw : gW D A s.heap [oX0 h a cn ul w1, cA G (a 1) 12 ex, cA G (a 3) 8 mi, cA G (a 4) 8 si, cA G (a 5) 8 un, cA G (a 6) 8 be, cA G (a 8) 8 ka, cA G (a 11) 17 s1, cA G (a 12) 17 f1, cA G (a 13) 17 (up p1 rrN ((p1 rrN) + 1))] H locs := g_perm hw [8, 2, 3, 4, 5, 6, 7, 9, 0, 1] (by decide) rfl
      exact ih_1 (kk + 1) w1 s1 f1 (up p1 rrN ((p1 rrN) + 1)) ⟨by omega, by first | exact grq_old hgr hkk.1 ⟨hrr.1.1, by omega⟩ (hrr.2.2 (by omega)) | (have e9 : rrN = w1 := (by omega); rw [e9]; rw [e9] at hrr; exact grq_new hgr hkk.1 hrr.2.1)⟩ (by omega) H locs ls hw (lv_sub hl [0, 3] rfl)
    · skip
      refine g_aload_n C hl 3 rfl rfl dX0_gatherRows_35 ?_
      refine g_get C hw hin_X0_gatherRows_X0 8 rfl rfl 11 (by decide) lk_X0_gatherRows_36 rfl dX0_gatherRows_36 ?_
      refine g_iload_n C hl 0 rfl rfl dX0_gatherRows_39 ?_
      refine g_iload_n C hl 1 rfl rfl dX0_gatherRows_40 ?_
      refine g_iast C hw [cA G (a 12) 17 f1, cA G (a 13) 17 p1, cA G (a 1) 12 ex, cA G (a 3) 8 mi, cA G (a 4) 8 si, cA G (a 5) 8 un, cA G (a 6) 8 be, cA G (a 8) 8 ka, oX0 h a cn ul w1, cA G (a 11) 17 (up s1 rrN (rwN E (ALn E cn.toNat) cn kk))] 9 rfl (by omega) (Nat.le_of_ble_eq_true rfl) rfl dX0_gatherRows_41 ?_
      clear hw
      intro H locs hw
      refine g_aload_n C hl 3 rfl rfl dX0_gatherRows_42 ?_
      refine g_get C hw hin_X0_gatherRows_X0 8 rfl rfl 12 (by decide) lk_X0_gatherRows_39 rfl dX0_gatherRows_43 ?_
      refine g_iload_n C hl 0 rfl rfl dX0_gatherRows_46 ?_
      refine g_iload_n C hl 2 rfl rfl dX0_gatherRows_47 ?_
      refine g_iast C hw [cA G (a 12) 17 (up f1 rrN kk), cA G (a 13) 17 p1, cA G (a 1) 12 ex, cA G (a 3) 8 mi, cA G (a 4) 8 si, cA G (a 5) 8 un, cA G (a 6) 8 be, cA G (a 8) 8 ka, oX0 h a cn ul w1, cA G (a 11) 17 (up s1 rrN (rwN E (ALn E cn.toNat) cn kk))] 0 rfl (by omega) (Nat.le_of_ble_eq_true rfl) rfl dX0_gatherRows_48 ?_
      clear hw
      intro H locs hw
      refine g_aload_n C hl 3 rfl rfl dX0_gatherRows_49 ?_
      refine g_get C hw hin_X0_gatherRows_X0 8 rfl rfl 13 (by decide) lk_X0_gatherRows_42 rfl dX0_gatherRows_50 ?_
      refine g_iload_n C hl 0 rfl rfl dX0_gatherRows_53 ?_
      refine g_iconst C dX0_gatherRows_54 ?_
      refine g_iast C hw [cA G (a 12) 17 (up f1 rrN kk), cA G (a 13) 17 (up p1 rrN 0), cA G (a 1) 12 ex, cA G (a 3) 8 mi, cA G (a 4) 8 si, cA G (a 5) 8 un, cA G (a 6) 8 be, cA G (a 8) 8 ka, oX0 h a cn ul w1, cA G (a 11) 17 (up s1 rrN (rwN E (ALn E cn.toNat) cn kk))] 1 rfl (by omega) (Nat.le_of_ble_eq_true rfl) rfl dX0_gatherRows_55 ?_
      clear hw
      intro H locs hw
      refine g_aload_n C hl 3 rfl rfl dX0_gatherRows_56 ?_
      refine g_dup C dX0_gatherRows_57 rfl ?_
      refine g_get C hw hin_X0_gatherRows_X0 8 rfl rfl 10 (by decide) lk_X0_gatherRows_97 rfl dX0_gatherRows_58 ?_
      refine g_iconst C dX0_gatherRows_61 ?_
      refine g_iadd C dX0_gatherRows_62 ?_
      refine g_put C hw [cA G (a 12) 17 (up f1 rrN kk), cA G (a 13) 17 (up p1 rrN 0), cA G (a 1) 12 ex, cA G (a 3) 8 mi, cA G (a 4) 8 si, cA G (a 5) 8 un, cA G (a 6) 8 be, cA G (a 8) 8 ka, oX0 h a cn ul (w1 + 1), cA G (a 11) 17 (up s1 rrN (rwN E (ALn E cn.toNat) cn kk))] hin_X0_gatherRows_X0 tyX0 tyX0_ok nmX0 8 rfl rfl 10 (by decide) lk_X0_gatherRows_97 rfl rfl rfl rfl (Nat.le_of_ble_eq_true rfl) rfl dX0_gatherRows_63 ?_
      clear hw
      intro H locs hw
      refine g_aload_n C hl 3 rfl rfl dX0_gatherRows_66 ?_
      refine g_get C hw hin_X0_gatherRows_X0 8 rfl rfl 13 (by decide) lk_X0_gatherRows_42 rfl dX0_gatherRows_67 ?_
      refine g_iload_n C hl 0 rfl rfl dX0_gatherRows_70 ?_
      refine g_dup2 C dX0_gatherRows_71 rfl rfl ?_
      refine g_iald C hw 1 rfl (by omega) (Nat.le_of_ble_eq_true rfl) dX0_gatherRows_72 ?_
      refine g_nI (show ((up p1 rrN 0) rrN : Int) = 0 by exact up_s) ?_
      refine g_iconst C dX0_gatherRows_73 ?_
      refine g_iadd C dX0_gatherRows_74 ?_
      refine g_nI (show (0 + 1 : Int) = 1 by decide) ?_
      refine g_iast C hw [cA G (a 12) 17 (up f1 rrN kk), cA G (a 13) 17 (up (up p1 rrN 0) rrN 1), cA G (a 1) 12 ex, cA G (a 3) 8 mi, cA G (a 4) 8 si, cA G (a 5) 8 un, cA G (a 6) 8 be, cA G (a 8) 8 ka, oX0 h a cn ul (w1 + 1), cA G (a 11) 17 (up s1 rrN (rwN E (ALn E cn.toNat) cn kk))] 1 rfl (by omega) (Nat.le_of_ble_eq_true rfl) rfl dX0_gatherRows_75 ?_
      clear hw
      intro H locs hw
      refine g_iinc C [(1, .int (iI (kk + 1))), (3, .int (iI rrN)), (2, .int (iI ((rwN E (ALn E cn.toNat) cn kk)))), (0, .ref h)] 2 dX0_gatherRows_76 hl rfl (by decide) rfl ?_
      clear hl
      intro ls hl
      refine g_goto C 7 dX0_gatherRows_79 (by decide) ?_
      have hw : gW D A s.heap [oX0 h a cn ul (w1 + 1), cA G (a 1) 12 ex, cA G (a 3) 8 mi, cA G (a 4) 8 si, cA G (a 5) 8 un, cA G (a 6) 8 be, cA G (a 8) 8 ka, cA G (a 11) 17 (up s1 rrN (rwN E (ALn E cn.toNat) cn kk)), cA G (a 12) 17 (up f1 rrN kk), cA G (a 13) 17 (up (up p1 rrN 0) rrN 1)] H locs := g_perm hw [8, 2, 3, 4, 5, 6, 7, 9, 0, 1] (by decide) rfl
      exact ih_1 (kk + 1) (w1 + 1) (up s1 rrN (rwN E (ALn E cn.toNat) cn kk)) (up f1 rrN kk) (up (up p1 rrN 0) rrN 1) ⟨by omega, by first | exact grq_old hgr hkk.1 ⟨hrr.1.1, by omega⟩ (hrr.2.2 (by omega)) | (have e9 : rrN = w1 := (by omega); rw [e9]; rw [e9] at hrr; exact grq_new hgr hkk.1 hrr.2.1)⟩ (by omega) H locs ls hw (lv_sub hl [0, 3] rfl)

set_option maxRecDepth 20000 in
theorem hin_X1_add_X1 : ∀ w ∈ u_ws RX1 TX1 4, w ∈ wsX1_add := by
  intro w h
  exact List.mem_cons_of_mem _ (List.mem_append_right _ (h))
set_option maxRecDepth 20000 in
theorem lk_X1_add_9 : Cond.fieldLink RX1 9 (TX1 1).1 (TX1 1).2.1 (TX1 1).2.2.1 ∈ wsX1_add := List.mem_cons_of_mem _ (List.mem_append_left _ (List.mem_of_getElem? (i := 0) rfl))
set_option maxRecDepth 20000 in
theorem lk_X1_add_21 : Cond.fieldLink RX1 21 (TX1 0).1 (TX1 0).2.1 (TX1 0).2.2.1 ∈ wsX1_add := List.mem_cons_of_mem _ (List.mem_append_left _ (List.mem_of_getElem? (i := 1) rfl))
set_option maxRecDepth 20000 in
theorem lk_X1_add_15 : Cond.fieldLink RX1 15 (TX1 2).1 (TX1 2).2.1 (TX1 2).2.2.1 ∈ wsX1_add := List.mem_cons_of_mem _ (List.mem_append_left _ (List.mem_of_getElem? (i := 2) rfl))
set_option maxRecDepth 20000 in
theorem lk_X1_add_18 : Cond.fieldLink RX1 18 (TX1 3).1 (TX1 3).2.1 (TX1 3).2.2.1 ∈ wsX1_add := List.mem_cons_of_mem _ (List.mem_append_left _ (List.mem_of_getElem? (i := 3) rfl))
set_option maxRecDepth 100000 in
set_option maxHeartbeats 8000000 in
theorem m_X1_add (l : Launch) (D : va_G) (G : gT) (h : Nat) (a : Nat → Nat) (rc : Int) (r1 : Int → Int) (r2 : Int → Int) (r3 : Int → Int) (kk : Int) (pp : Int) (sv : Int) (hrc : 0 ≤ rc ∧ rc ≤ 7) : gMi l yX1_add wsX1_add ({ frames := 0, cells := 0, slots := 0, locals := 0 }) D G [.ref h, .int (iI kk), .int (iI pp), .int (iI sv)] [oX1 h a rc, cA G (a 1) 8 r1, cA G (a 2) 8 r2, cA G (a 3) 8 r3] 0 0 (fun (r : Int32) (w : va_W) => r = (iI rc) ∧ w = [oX1 h a (rc + 1), cA G (a 1) 8 (up r1 rc kk), cA G (a 2) 8 (up r2 rc pp), cA G (a 3) 8 (up r3 rc sv)]) := by
  refine g_start_i (cc := cX1_add) (nL := 4) (own := RX1) (ret := some .int) (by decide +kernel) rfl rfl (Nat.le_of_ble_eq_true rfl) ?_
  intro p e s m below meth c A ls C hr hnm hw hl
  have hl : lv_has ls 4 [(0, .ref h), (1, .int (iI kk)), (2, .int (iI pp)), (3, .int (iI sv))] := hl
  refine g_aload_n C hl 0 rfl rfl dX1_add_0 ?_
  refine g_get C hw hin_X1_add_X1 0 rfl rfl 1 (by decide) lk_X1_add_9 rfl dX1_add_1 ?_
  refine g_aload_n C hl 0 rfl rfl dX1_add_4 ?_
  refine g_get C hw hin_X1_add_X1 0 rfl rfl 0 (by decide) lk_X1_add_21 rfl dX1_add_5 ?_
  refine g_iload_n C hl 1 rfl rfl dX1_add_8 ?_
  refine g_iast C hw [oX1 h a rc, cA G (a 1) 8 (up r1 rc kk), cA G (a 2) 8 r2, cA G (a 3) 8 r3] 1 rfl (by omega) (Nat.le_of_ble_eq_true rfl) rfl dX1_add_9 ?_
  clear hw
  intro H locs hw
  refine g_aload_n C hl 0 rfl rfl dX1_add_10 ?_
  refine g_get C hw hin_X1_add_X1 0 rfl rfl 2 (by decide) lk_X1_add_15 rfl dX1_add_11 ?_
  refine g_aload_n C hl 0 rfl rfl dX1_add_14 ?_
  refine g_get C hw hin_X1_add_X1 0 rfl rfl 0 (by decide) lk_X1_add_21 rfl dX1_add_15 ?_
  refine g_iload_n C hl 2 rfl rfl dX1_add_18 ?_
  refine g_iast C hw [oX1 h a rc, cA G (a 1) 8 (up r1 rc kk), cA G (a 2) 8 (up r2 rc pp), cA G (a 3) 8 r3] 2 rfl (by omega) (Nat.le_of_ble_eq_true rfl) rfl dX1_add_19 ?_
  clear hw
  intro H locs hw
  refine g_aload_n C hl 0 rfl rfl dX1_add_20 ?_
  refine g_get C hw hin_X1_add_X1 0 rfl rfl 3 (by decide) lk_X1_add_18 rfl dX1_add_21 ?_
  refine g_aload_n C hl 0 rfl rfl dX1_add_24 ?_
  refine g_get C hw hin_X1_add_X1 0 rfl rfl 0 (by decide) lk_X1_add_21 rfl dX1_add_25 ?_
  refine g_iload_n C hl 3 rfl rfl dX1_add_28 ?_
  refine g_iast C hw [oX1 h a rc, cA G (a 1) 8 (up r1 rc kk), cA G (a 2) 8 (up r2 rc pp), cA G (a 3) 8 (up r3 rc sv)] 3 rfl (by omega) (Nat.le_of_ble_eq_true rfl) rfl dX1_add_29 ?_
  clear hw
  intro H locs hw
  refine g_aload_n C hl 0 rfl rfl dX1_add_30 ?_
  refine g_dup C dX1_add_31 rfl ?_
  refine g_get C hw hin_X1_add_X1 0 rfl rfl 0 (by decide) lk_X1_add_21 rfl dX1_add_32 ?_
  refine g_iconst C dX1_add_35 ?_
  refine g_iadd C dX1_add_36 ?_
  refine g_put C hw [oX1 h a (rc + 1), cA G (a 1) 8 (up r1 rc kk), cA G (a 2) 8 (up r2 rc pp), cA G (a 3) 8 (up r3 rc sv)] hin_X1_add_X1 tyX1 tyX1_ok nmX1 0 rfl rfl 0 (by decide) lk_X1_add_21 rfl rfl rfl rfl (Nat.le_of_ble_eq_true rfl) rfl dX1_add_37 ?_
  clear hw
  intro H locs hw
  refine g_aload_n C hl 0 rfl rfl dX1_add_40 ?_
  refine g_get C hw hin_X1_add_X1 0 rfl rfl 0 (by decide) lk_X1_add_21 rfl dX1_add_41 ?_
  refine g_iconst C dX1_add_44 ?_
  refine g_isub C dX1_add_45 ?_
  exact g_iret C hr (ws' := [oX1 h a (rc + 1), cA G (a 1) 8 (up r1 rc kk), cA G (a 2) 8 (up r2 rc pp), cA G (a 3) 8 (up r3 rc sv)]) hw [0, 1, 2, 3] (by decide) rfl ⟨(congrArg iI (by omega)), rfl⟩ dX1_add_46

set_option maxRecDepth 20000 in
theorem hin_X1_holdOn_X1 : ∀ w ∈ u_ws RX1 TX1 4, w ∈ wsX1_holdOn := by
  intro w h
  exact List.mem_cons_of_mem _ (List.mem_append_left _ (List.mem_append_right _ (h)))
set_option maxRecDepth 20000 in
theorem lk_X1_holdOn_21 : Cond.fieldLink RX1 21 (TX1 0).1 (TX1 0).2.1 (TX1 0).2.2.1 ∈ wsX1_holdOn := List.mem_cons_of_mem _ (List.mem_append_left _ (List.mem_append_left _ (List.mem_append_left _ (List.mem_of_getElem? (i := 0) rfl))))
set_option maxRecDepth 20000 in
theorem lk_X1_holdOn_9 : Cond.fieldLink RX1 9 (TX1 1).1 (TX1 1).2.1 (TX1 1).2.2.1 ∈ wsX1_holdOn := List.mem_cons_of_mem _ (List.mem_append_left _ (List.mem_append_left _ (List.mem_append_left _ (List.mem_of_getElem? (i := 1) rfl))))
set_option maxRecDepth 20000 in
theorem lk_X1_holdOn_15 : Cond.fieldLink RX1 15 (TX1 2).1 (TX1 2).2.1 (TX1 2).2.2.1 ∈ wsX1_holdOn := List.mem_cons_of_mem _ (List.mem_append_left _ (List.mem_append_left _ (List.mem_append_left _ (List.mem_of_getElem? (i := 2) rfl))))
set_option maxRecDepth 20000 in
theorem lk_X1_holdOn_18 : Cond.fieldLink RX1 18 (TX1 3).1 (TX1 3).2.1 (TX1 3).2.2.1 ∈ wsX1_holdOn := List.mem_cons_of_mem _ (List.mem_append_left _ (List.mem_append_left _ (List.mem_append_left _ (List.mem_of_getElem? (i := 3) rfl))))
set_option maxRecDepth 100000 in
set_option maxHeartbeats 8000000 in
theorem m_X1_holdOn (l : Launch) (D : va_G) (G : gT) (h : Nat) (a : Nat → Nat) (rc : Int) (r1 : Int → Int) (r2 : Int → Int) (r3 : Int → Int) (o : Nat) (b : Nat → Nat) (cn : Int) (ul : Int) (rw : Int) (ex : Int → Int) (mi : Int → Int) (si : Int → Int) (un : Int → Int) (be : Int → Int) (ka : Int → Int) (E : Int → Int → Int) (hE : EB E) (hnc : 0 ≤ cn ∧ cn ≤ 4) (hX : LnX E cn ex) (hZ : LnZ E cn mi si un be) (hKA : hasL ka (ALn E cn.toNat)) (hul : ul = ((ALn E cn.toNat).length : Int)) (hrd : rdOK cn rc r1 r2 r3) : gMi l yX1_holdOn wsX1_holdOn ({ frames := 4, cells := 0, slots := 0, locals := 117 }) D G [.ref h, .ref o] [oX1 h a rc, cA G (a 1) 8 r1, cA G (a 2) 8 r2, cA G (a 3) 8 r3, oX0 o b cn ul rw, cA G (b 1) 12 ex, cA G (b 3) 8 mi, cA G (b 4) 8 si, cA G (b 5) 8 un, cA G (b 6) 8 be, cA G (b 8) 8 ka] 0 0 (fun (r : Int32) (w : va_W) => r = (iI (bI (soB E cn rc r1 r2 r3 = true))) ∧ w = [oX1 h a rc, cA G (a 1) 8 r1, cA G (a 2) 8 r2, cA G (a 3) 8 r3, oX0 o b cn ul rw, cA G (b 1) 12 ex, cA G (b 3) 8 mi, cA G (b 4) 8 si, cA G (b 5) 8 un, cA G (b 6) 8 be, cA G (b 8) 8 ka]) := by
  refine g_start_i (cc := cX1_holdOn) (nL := 3) (own := RX1) (ret := some .boolean) (by decide +kernel) rfl rfl (Nat.le_of_ble_eq_true rfl) ?_
  intro p e s m below meth c A ls C hr hnm hw hl
  have hl : lv_has ls 3 [(0, .ref h), (1, .ref o)] := hl
  have hlen := ALn_len E cn.toNat
  obtain ⟨hrc, hrx⟩ := id hrd
  refine g_iconst C dX1_holdOn_0 ?_
  refine g_istore_n C [(2, .int (iI 0)), (0, .ref h), (1, .ref o)] dX1_holdOn_1 rfl hl (by decide) rfl ?_
  clear hl
  intro ls hl
  refine g_loop (σ := (Int)) (fun z_ => [oX1 h a rc, cA G (a 1) 8 r1, cA G (a 2) 8 r2, cA G (a 3) 8 r3, oX0 o b cn ul rw, cA G (b 1) 12 ex, cA G (b 3) 8 mi, cA G (b 4) 8 si, cA G (b 5) 8 un, cA G (b 6) 8 be, cA G (b 8) 8 ka]) (fun z_ => [(2, .int (iI z_)), (0, .ref h), (1, .ref o)]) (fun z_ => (0 ≤ z_ ∧ z_ ≤ rc) ∧ (allB (soP E (ALn E cn.toNat) r1 r2 r3) z_.toNat = true)) (fun z_ => (rc - z_).toNat) 0 ⟨by (try dsimp only); omega, by (try dsimp only); rfl⟩ hw (lv_sub hl [0, 1, 2] rfl) ?_
  clear hw hl
  rintro xx ⟨hxx, hal⟩ H locs ls hw hl ih_1
  replace hxx : 0 ≤ xx ∧ xx ≤ rc := hxx
  replace hal : allB (soP E (ALn E cn.toNat) r1 r2 r3) xx.toNat = true := hal
  replace hw : gW D A s.heap [oX1 h a rc, cA G (a 1) 8 r1, cA G (a 2) 8 r2, cA G (a 3) 8 r3, oX0 o b cn ul rw, cA G (b 1) 12 ex, cA G (b 3) 8 mi, cA G (b 4) 8 si, cA G (b 5) 8 un, cA G (b 6) 8 be, cA G (b 8) 8 ka] H locs := hw
  replace hl : lv_has ls 3 [(2, .int (iI xx)), (0, .ref h), (1, .ref o)] := hl
  replace ih_1 : ∀ (xx' : Int), ((0 ≤ xx' ∧ xx' ≤ rc) ∧ (allB (soP E (ALn E cn.toNat) r1 r2 r3) xx'.toNat = true)) → ((rc - xx').toNat) < ((rc - xx).toNat) → ∀ (H : Heap) (locs : List Loc) (ls : Array Slot), gW D A s.heap [oX1 h a rc, cA G (a 1) 8 r1, cA G (a 2) 8 r2, cA G (a 3) 8 r3, oX0 o b cn ul rw, cA G (b 1) 12 ex, cA G (b 3) 8 mi, cA G (b 4) 8 si, cA G (b 5) 8 un, cA G (b 6) 8 be, cA G (b 8) 8 ka] H locs → lv_has ls 3 [(2, .int (iI (xx'))), (0, .ref h), (1, .ref o)] → W p l e _ s m _ below meth c H locs _ _ _ (F0 m 2 ls []) := fun xx' => ih_1 xx'
  have hx9 := hrx xx hxx.1
  refine g_iload_n C hl 0 rfl rfl dX1_holdOn_2 ?_
  refine g_aload_n C hl 1 rfl rfl dX1_holdOn_3 ?_
  refine g_get C hw hin_X1_holdOn_X1 0 rfl rfl 0 (by decide) lk_X1_holdOn_21 rfl dX1_holdOn_4 ?_
  refine g_icmp_ge C 58 dX1_holdOn_7 (by decide) (by omega) (by omega) (fun c_2 => ?_) (fun c_2 => ?_)
  · skip
    refine g_iconst C dX1_holdOn_58 ?_
    exact g_zret C hr (ws' := [oX1 h a rc, cA G (a 1) 8 r1, cA G (a 2) 8 r2, cA G (a 3) 8 r3, oX0 o b cn ul rw, cA G (b 1) 12 ex, cA G (b 3) 8 mi, cA G (b 4) 8 si, cA G (b 5) 8 un, cA G (b 6) 8 be, cA G (b 8) 8 ka]) hw [0, 1, 2, 3, 4, 5, 6, 7, 8, 9, 10] (by decide) rfl (Or.inr rfl) ⟨(congrArg iI (by rw [bI_t]; have e9 : xx = rc := (by omega); rw [e9] at hal; exact hal)), rfl⟩ dX1_holdOn_59
  · skip
    refine g_aload_n C hl 1 rfl rfl dX1_holdOn_10 ?_
    refine g_get C hw hin_X1_holdOn_X1 0 rfl rfl 1 (by decide) lk_X1_holdOn_9 rfl dX1_holdOn_11 ?_
    refine g_iload_n C hl 0 rfl rfl dX1_holdOn_14 ?_
    refine g_iald C hw 1 rfl (by omega) (Nat.le_of_ble_eq_true rfl) dX1_holdOn_15 ?_
    refine g_aload_n C hl 2 rfl rfl dX1_holdOn_16 ?_
    refine g_callVi C hw (wr := [oX1 h a rc, cA G (a 1) 8 r1, cA G (a 2) 8 r2, cA G (a 3) 8 r3, cA G (b 1) 12 ex, cA G (b 3) 8 mi, cA G (b 4) 8 si, cA G (b 5) 8 un, cA G (b 6) 8 be, cA G (b 8) 8 ka]) (As := []) (rest := [.int (iI (r1 xx))]) (m_X0_spots l D G (h := o) (a := b) (cn := cn) (ul := ul) (rw := rw) ) (cwV 0 C.1.2.2.2.2 gX1_holdOn_X0_spots rfl rfl rfl (by decide +kernel) ⟨Nat.le_of_ble_eq_true rfl, Nat.le_of_ble_eq_true rfl⟩) [4] [0, 1, 2, 3, 5, 6, 7, 8, 9, 10] rfl rfl (by decide) (by decide) (by decide) 0 rfl rfl rfl hl.1 _ rfl (Nat.le_of_ble_eq_true rfl) dX1_holdOn_17 ⟨Nat.le_of_ble_eq_true rfl, Nat.le_of_ble_eq_true rfl⟩ ?_
    clear hw
    rintro _ _ H locs ⟨rfl, rfl⟩ hw
    have hw : gW D A s.heap [oX1 h a rc, cA G (a 1) 8 r1, cA G (a 2) 8 r2, cA G (a 3) 8 r3, cA G (b 1) 12 ex, cA G (b 3) 8 mi, cA G (b 4) 8 si, cA G (b 5) 8 un, cA G (b 6) 8 be, cA G (b 8) 8 ka, oX0 o b cn ul rw] H locs := hw
    refine g_icmp_ge C 50 dX1_holdOn_20 (by decide) (by omega) (by omega) (fun c_3 => ?_) (fun c_3 => ?_)
    · skip
      refine g_iconst C dX1_holdOn_50 ?_
      exact g_zret C hr (ws' := [oX1 h a rc, cA G (a 1) 8 r1, cA G (a 2) 8 r2, cA G (a 3) 8 r3, oX0 o b cn ul rw, cA G (b 1) 12 ex, cA G (b 3) 8 mi, cA G (b 4) 8 si, cA G (b 5) 8 un, cA G (b 6) 8 be, cA G (b 8) 8 ka]) hw [0, 1, 2, 3, 10, 4, 5, 6, 7, 8, 9] (by decide) rfl (Or.inl rfl) ⟨(congrArg iI (by rw [bI_f]; intro q9; have q8 := allB_i q9 xx hxx.1 (by omega); rw [soP_f (by omega)] at q8; exact Bool.false_ne_true q8)), rfl⟩ dX1_holdOn_51
    · skip
      refine g_aload_n C hl 2 rfl rfl dX1_holdOn_23 ?_
      refine g_aload_n C hl 1 rfl rfl dX1_holdOn_24 ?_
      refine g_get C hw hin_X1_holdOn_X1 0 rfl rfl 1 (by decide) lk_X1_holdOn_9 rfl dX1_holdOn_25 ?_
      refine g_iload_n C hl 0 rfl rfl dX1_holdOn_28 ?_
      refine g_iald C hw 1 rfl (by omega) (Nat.le_of_ble_eq_true rfl) dX1_holdOn_29 ?_
      refine g_aload_n C hl 1 rfl rfl dX1_holdOn_30 ?_
      refine g_get C hw hin_X1_holdOn_X1 0 rfl rfl 2 (by decide) lk_X1_holdOn_15 rfl dX1_holdOn_31 ?_
      refine g_iload_n C hl 0 rfl rfl dX1_holdOn_34 ?_
      refine g_iald C hw 2 rfl (by omega) (Nat.le_of_ble_eq_true rfl) dX1_holdOn_35 ?_
      refine g_callVi C hw (wr := [oX1 h a rc, cA G (a 1) 8 r1, cA G (a 2) 8 r2, cA G (a 3) 8 r3]) (As := [.int (iI (r1 xx)), .int (iI (r2 xx))]) (rest := []) (m_X0_signInSpot l D G (h := o) (a := b) (cn := cn) (ul := ul) (rw := rw) (ex := ex) (mi := mi) (si := si) (un := un) (be := be) (ka := ka) (E := E) (kk := (r1 xx)) (qq := (r2 xx)) (by first | assumption | omega) (by first | assumption | omega) (by first | assumption | omega) (by first | assumption | omega) (by first | assumption | omega) (by first | assumption | omega) (by first | assumption | omega) (by first | assumption | omega)) (cwV 2 C.1.2.2.2.2 gX1_holdOn_X0_signInSpot rfl rfl rfl (by decide +kernel) ⟨Nat.le_of_ble_eq_true rfl, Nat.le_of_ble_eq_true rfl⟩) [10, 4, 5, 6, 7, 8, 9] [0, 1, 2, 3] rfl rfl (by decide) (by decide) (by decide) 0 rfl rfl rfl hl.1 _ rfl (Nat.le_of_ble_eq_true rfl) dX1_holdOn_36 ⟨Nat.le_of_ble_eq_true rfl, Nat.le_of_ble_eq_true rfl⟩ ?_
      clear hw
      rintro _ _ H locs ⟨rfl, rfl⟩ hw
      have hw : gW D A s.heap [oX1 h a rc, cA G (a 1) 8 r1, cA G (a 2) 8 r2, cA G (a 3) 8 r3, oX0 o b cn ul rw, cA G (b 1) 12 ex, cA G (b 3) 8 mi, cA G (b 4) 8 si, cA G (b 5) 8 un, cA G (b 6) 8 be, cA G (b 8) 8 ka] H locs := hw
      refine g_iconst C dX1_holdOn_39 ?_
      refine g_iadd C dX1_holdOn_40 ?_
      refine g_aload_n C hl 1 rfl rfl dX1_holdOn_41 ?_
      refine g_get C hw hin_X1_holdOn_X1 0 rfl rfl 3 (by decide) lk_X1_holdOn_18 rfl dX1_holdOn_42 ?_
      refine g_iload_n C hl 0 rfl rfl dX1_holdOn_45 ?_
      refine g_iald C hw 3 rfl (by omega) (Nat.le_of_ble_eq_true rfl) dX1_holdOn_46 ?_
      refine g_icmp_eq C 52 dX1_holdOn_47 (by decide) (by have hsb := sSp_r E (ALn E cn.toNat) (r1 xx) (r2 xx); omega) (by omega) (fun c_4 => ?_) (fun c_4 => ?_)
      · skip
        refine g_iinc C [(2, .int (iI (xx + 1))), (0, .ref h), (1, .ref o)] 0 dX1_holdOn_52 hl rfl (by decide) rfl ?_
        clear hl
        intro ls hl
        refine g_goto C 2 dX1_holdOn_55 (by decide) ?_
        have hw : gW D A s.heap [oX1 h a rc, cA G (a 1) 8 r1, cA G (a 2) 8 r2, cA G (a 3) 8 r3, oX0 o b cn ul rw, cA G (b 1) 12 ex, cA G (b 3) 8 mi, cA G (b 4) 8 si, cA G (b 5) 8 un, cA G (b 6) 8 be, cA G (b 8) 8 ka] H locs := g_perm hw [0, 1, 2, 3, 4, 5, 6, 7, 8, 9, 10] (by decide) rfl
        exact ih_1 (xx + 1) ⟨by omega, by rw [allB_s hxx.1, hal, soP_t (by omega)]; rfl⟩ (by omega) H locs ls hw (lv_sub hl [0, 1, 2] rfl)
      · skip
        refine g_iconst C dX1_holdOn_50 ?_
        exact g_zret C hr (ws' := [oX1 h a rc, cA G (a 1) 8 r1, cA G (a 2) 8 r2, cA G (a 3) 8 r3, oX0 o b cn ul rw, cA G (b 1) 12 ex, cA G (b 3) 8 mi, cA G (b 4) 8 si, cA G (b 5) 8 un, cA G (b 6) 8 be, cA G (b 8) 8 ka]) hw [0, 1, 2, 3, 4, 5, 6, 7, 8, 9, 10] (by decide) rfl (Or.inl rfl) ⟨(congrArg iI (by rw [bI_f]; intro q9; have q8 := allB_i q9 xx hxx.1 (by omega); rw [soP_f (by omega)] at q8; exact Bool.false_ne_true q8)), rfl⟩ dX1_holdOn_51

set_option maxRecDepth 20000 in
theorem hin_X3_takesLetter_X3 : ∀ w ∈ u_ws RX3 TX3 4, w ∈ wsX3_takesLetter := by
  intro w h
  exact List.mem_cons_of_mem _ (List.mem_append_left _ (List.mem_append_right _ (h)))
set_option maxRecDepth 20000 in
theorem lk_X3_takesLetter_12 : Cond.fieldLink RX3 12 (TX3 0).1 (TX3 0).2.1 (TX3 0).2.2.1 ∈ wsX3_takesLetter := List.mem_cons_of_mem _ (List.mem_append_left _ (List.mem_append_left _ (List.mem_of_getElem? (i := 0) rfl)))
set_option maxRecDepth 20000 in
theorem hin_X3_takesLetter_X4 : ∀ w ∈ u_ws RX4 TX4 3, w ∈ wsX3_takesLetter := by
  intro w h
  exact List.mem_cons_of_mem _ (List.mem_append_right _ (h))
set_option maxRecDepth 20000 in
theorem lk_X3_takesLetter_39 : Cond.fieldLink RX3 39 (TX4 1).1 (TX4 1).2.1 (TX4 1).2.2.1 ∈ wsX3_takesLetter := List.mem_cons_of_mem _ (List.mem_append_left _ (List.mem_append_left _ (List.mem_of_getElem? (i := 1) rfl)))
set_option maxRecDepth 20000 in
theorem lk_X3_takesLetter_18 : Cond.fieldLink RX3 18 (TX4 0).1 (TX4 0).2.1 (TX4 0).2.2.1 ∈ wsX3_takesLetter := List.mem_cons_of_mem _ (List.mem_append_left _ (List.mem_append_left _ (List.mem_of_getElem? (i := 2) rfl)))
set_option maxRecDepth 20000 in
theorem lk_X3_takesLetter_43 : Cond.fieldLink RX3 43 (TX3 2).1 (TX3 2).2.1 (TX3 2).2.2.1 ∈ wsX3_takesLetter := List.mem_cons_of_mem _ (List.mem_append_left _ (List.mem_append_left _ (List.mem_of_getElem? (i := 3) rfl)))
set_option maxRecDepth 20000 in
theorem lk_X3_takesLetter_22 : Cond.fieldLink RX3 22 (TX3 1).1 (TX3 1).2.1 (TX3 1).2.2.1 ∈ wsX3_takesLetter := List.mem_cons_of_mem _ (List.mem_append_left _ (List.mem_append_left _ (List.mem_of_getElem? (i := 4) rfl)))
set_option maxRecDepth 100000 in
set_option maxHeartbeats 8000000 in
theorem m_X3_takesLetter (l : Launch) (D : va_G) (G : gT) (h : Nat) (a : Nat → Nat) (sp : Int) (ce : Int) (da : Int) (b : Nat → Nat) (dc : Int) (dk : Int → Int) (dn : Int → Int) (kn : Int) (vs : List Int) (acc : List pyT) (cc0 : Int) (hc0 : -2147483648 ≤ cc0 ∧ cc0 ≤ 2147483647) (hdr : drOK 2 kn vs acc sp ce da dc dk dn) (hdk : kdOK dk) (hdn : nuOK dn) : gMi l yX3_takesLetter wsX3_takesLetter ({ frames := 0, cells := 0, slots := 0, locals := 0 }) D G [.ref h, .int (iI cc0)] [oX3 h a sp ce da, oX4 (a 0) b dc, cA G (b 1) 4 dk, cA G (b 2) 12 dn] 0 0 (fun (r : Int32) (w : va_W) => ∃ (ok : Int) (sp2 : Int) (ce2 : Int) (da2 : Int) (dc2 : Int) (dk2 : Int → Int) (dn2 : Int → Int), r = (iI ok) ∧ w = [oX3 h a sp2 ce2 da2, oX4 (a 0) b dc2, cA G (b 1) 4 dk2, cA G (b 2) 12 dn2] ∧ (goP cc0 2 kn vs acc ok sp2 ce2 da2 dc2 dk2 dn2) ∧ (kdOK dk2 ∧ nuOK dn2)) := by
  refine g_start_i (cc := cX3_takesLetter) (nL := 3) (own := RX3) (ret := some .boolean) (by decide +kernel) rfl rfl (Nat.le_of_ble_eq_true rfl) ?_
  intro p e s m below meth c A ls C hr hnm hw hl
  have hl : lv_has ls 3 [(0, .ref h), (1, .int (iI cc0))] := hl
  obtain ⟨-, -, d2, d3, d4, d5, -, -⟩ := id hdr
  have d6 := d5 (by omega)
  refine g_iload_n C hl 1 rfl rfl dX3_takesLetter_0 ?_
  refine g_bipush C dX3_takesLetter_1 (by decide) ?_
  refine g_icmp_ne C 10 dX3_takesLetter_3 (by decide) (by omega) (by omega) (fun c_1 => ?_) (fun c_1 => ?_)
  · skip
    refine g_iload_n C hl 1 rfl rfl dX3_takesLetter_10 ?_
    refine g_bipush C dX3_takesLetter_11 (by decide) ?_
    refine g_icmp_ne C 20 dX3_takesLetter_13 (by decide) (by omega) (by omega) (fun c_2 => ?_) (fun c_2 => ?_)
    · skip
      refine g_iload_n C hl 1 rfl rfl dX3_takesLetter_20 ?_
      refine g_bipush C dX3_takesLetter_21 (by decide) ?_
      refine g_icmp_ne C 30 dX3_takesLetter_23 (by decide) (by omega) (by omega) (fun c_3 => ?_) (fun c_3 => ?_)
      · skip
        refine g_bipush C dX3_takesLetter_30 (by decide) ?_
        refine g_istore_n C [(2, .int (iI ((-9)))), (0, .ref h), (1, .int (iI cc0))] dX3_takesLetter_32 rfl hl (by decide) rfl ?_
        clear hl
        intro ls hl
        refine g_iload_n C hl 0 rfl rfl dX3_takesLetter_33 ?_
        refine g_bipush C dX3_takesLetter_34 (by decide) ?_
        refine g_icmp_ne C 41 dX3_takesLetter_36 (by decide) (by decide) (by decide) (fun c_4 => absurd c_4 (by decide)) (fun c_4 => ?_)
        refine g_iconst C dX3_takesLetter_39 ?_
        exact g_zret C hr (ws' := [oX3 h a sp ce da, oX4 (a 0) b dc, cA G (b 1) 4 dk, cA G (b 2) 12 dn]) hw [0, 1, 2, 3] (by decide) rfl (Or.inl rfl) ⟨0, sp, ce, da, dc, dk, dn, rfl, rfl, (by first | (exfalso; omega) | exact go_letf (by omega) | exact go_let hdr (by omega) rfl), (by first | exact ⟨kdOK_up hdk (by decide), hdn⟩ | exact ⟨hdk, hdn⟩)⟩ dX3_takesLetter_40
      · skip
        refine g_iconst C dX3_takesLetter_26 ?_
        refine g_goto C 32 dX3_takesLetter_27 (by decide) ?_
        refine g_istore_n C [(2, .int (iI 2)), (0, .ref h), (1, .int (iI cc0))] dX3_takesLetter_32 rfl hl (by decide) rfl ?_
        clear hl
        intro ls hl
        refine g_iload_n C hl 0 rfl rfl dX3_takesLetter_33 ?_
        refine g_bipush C dX3_takesLetter_34 (by decide) ?_
        refine g_icmp_ne C 41 dX3_takesLetter_36 (by decide) (by decide) (by decide) (fun c_5 => ?_) (fun c_5 => absurd c_5 (by decide))
        refine g_aload_n C hl 1 rfl rfl dX3_takesLetter_41 ?_
        refine g_get C hw hin_X3_takesLetter_X3 0 rfl rfl 0 (by decide) lk_X3_takesLetter_12 rfl dX3_takesLetter_42 ?_
        refine g_get C hw hin_X3_takesLetter_X4 1 rfl rfl 1 (by decide) lk_X3_takesLetter_39 rfl dX3_takesLetter_45 ?_
        refine g_aload_n C hl 1 rfl rfl dX3_takesLetter_48 ?_
        refine g_get C hw hin_X3_takesLetter_X3 0 rfl rfl 0 (by decide) lk_X3_takesLetter_12 rfl dX3_takesLetter_49 ?_
        refine g_get C hw hin_X3_takesLetter_X4 1 rfl rfl 0 (by decide) lk_X3_takesLetter_18 rfl dX3_takesLetter_52 ?_
        refine g_iload_n C hl 0 rfl rfl dX3_takesLetter_55 ?_
        refine g_iast C hw [oX3 h a sp ce da, oX4 (a 0) b dc, cA G (b 1) 4 (up dk dc 2), cA G (b 2) 12 dn] 2 rfl (by omega) (Nat.le_of_ble_eq_true rfl) rfl dX3_takesLetter_56 ?_
        clear hw
        intro H locs hw
        refine g_aload_n C hl 1 rfl rfl dX3_takesLetter_57 ?_
        refine g_iconst C dX3_takesLetter_58 ?_
        refine g_put C hw [oX3 h a sp 0 da, oX4 (a 0) b dc, cA G (b 1) 4 (up dk dc 2), cA G (b 2) 12 dn] hin_X3_takesLetter_X3 tyX3 tyX3_ok nmX3 0 rfl rfl 2 (by decide) lk_X3_takesLetter_43 rfl rfl rfl rfl (Nat.le_of_ble_eq_true rfl) rfl dX3_takesLetter_59 ?_
        clear hw
        intro H locs hw
        refine g_aload_n C hl 1 rfl rfl dX3_takesLetter_62 ?_
        refine g_iconst C dX3_takesLetter_63 ?_
        refine g_put C hw [oX3 h a 3 0 da, oX4 (a 0) b dc, cA G (b 1) 4 (up dk dc 2), cA G (b 2) 12 dn] hin_X3_takesLetter_X3 tyX3 tyX3_ok nmX3 0 rfl rfl 1 (by decide) lk_X3_takesLetter_22 rfl rfl rfl rfl (Nat.le_of_ble_eq_true rfl) rfl dX3_takesLetter_64 ?_
        clear hw
        intro H locs hw
        refine g_iconst C dX3_takesLetter_67 ?_
        exact g_zret C hr (ws' := [oX3 h a 3 0 da, oX4 (a 0) b dc, cA G (b 1) 4 (up dk dc 2), cA G (b 2) 12 dn]) hw [0, 1, 2, 3] (by decide) rfl (Or.inr rfl) ⟨1, 3, 0, da, dc, (up dk dc 2), dn, rfl, rfl, (by first | (exfalso; omega) | exact go_letf (by omega) | exact go_let hdr (by omega) rfl), (by first | exact ⟨kdOK_up hdk (by decide), hdn⟩ | exact ⟨hdk, hdn⟩)⟩ dX3_takesLetter_68
    · skip
      refine g_iconst C dX3_takesLetter_16 ?_
      refine g_goto C 32 dX3_takesLetter_17 (by decide) ?_
      refine g_istore_n C [(2, .int (iI 1)), (0, .ref h), (1, .int (iI cc0))] dX3_takesLetter_32 rfl hl (by decide) rfl ?_
      clear hl
      intro ls hl
      refine g_iload_n C hl 0 rfl rfl dX3_takesLetter_33 ?_
      refine g_bipush C dX3_takesLetter_34 (by decide) ?_
      refine g_icmp_ne C 41 dX3_takesLetter_36 (by decide) (by decide) (by decide) (fun c_6 => ?_) (fun c_6 => absurd c_6 (by decide))
      refine g_aload_n C hl 1 rfl rfl dX3_takesLetter_41 ?_
      refine g_get C hw hin_X3_takesLetter_X3 0 rfl rfl 0 (by decide) lk_X3_takesLetter_12 rfl dX3_takesLetter_42 ?_
      refine g_get C hw hin_X3_takesLetter_X4 1 rfl rfl 1 (by decide) lk_X3_takesLetter_39 rfl dX3_takesLetter_45 ?_
      refine g_aload_n C hl 1 rfl rfl dX3_takesLetter_48 ?_
      refine g_get C hw hin_X3_takesLetter_X3 0 rfl rfl 0 (by decide) lk_X3_takesLetter_12 rfl dX3_takesLetter_49 ?_
      refine g_get C hw hin_X3_takesLetter_X4 1 rfl rfl 0 (by decide) lk_X3_takesLetter_18 rfl dX3_takesLetter_52 ?_
      refine g_iload_n C hl 0 rfl rfl dX3_takesLetter_55 ?_
      refine g_iast C hw [oX3 h a sp ce da, oX4 (a 0) b dc, cA G (b 1) 4 (up dk dc 1), cA G (b 2) 12 dn] 2 rfl (by omega) (Nat.le_of_ble_eq_true rfl) rfl dX3_takesLetter_56 ?_
      clear hw
      intro H locs hw
      refine g_aload_n C hl 1 rfl rfl dX3_takesLetter_57 ?_
      refine g_iconst C dX3_takesLetter_58 ?_
      refine g_put C hw [oX3 h a sp 0 da, oX4 (a 0) b dc, cA G (b 1) 4 (up dk dc 1), cA G (b 2) 12 dn] hin_X3_takesLetter_X3 tyX3 tyX3_ok nmX3 0 rfl rfl 2 (by decide) lk_X3_takesLetter_43 rfl rfl rfl rfl (Nat.le_of_ble_eq_true rfl) rfl dX3_takesLetter_59 ?_
      clear hw
      intro H locs hw
      refine g_aload_n C hl 1 rfl rfl dX3_takesLetter_62 ?_
      refine g_iconst C dX3_takesLetter_63 ?_
      refine g_put C hw [oX3 h a 3 0 da, oX4 (a 0) b dc, cA G (b 1) 4 (up dk dc 1), cA G (b 2) 12 dn] hin_X3_takesLetter_X3 tyX3 tyX3_ok nmX3 0 rfl rfl 1 (by decide) lk_X3_takesLetter_22 rfl rfl rfl rfl (Nat.le_of_ble_eq_true rfl) rfl dX3_takesLetter_64 ?_
      clear hw
      intro H locs hw
      refine g_iconst C dX3_takesLetter_67 ?_
      exact g_zret C hr (ws' := [oX3 h a 3 0 da, oX4 (a 0) b dc, cA G (b 1) 4 (up dk dc 1), cA G (b 2) 12 dn]) hw [0, 1, 2, 3] (by decide) rfl (Or.inr rfl) ⟨1, 3, 0, da, dc, (up dk dc 1), dn, rfl, rfl, (by first | (exfalso; omega) | exact go_letf (by omega) | exact go_let hdr (by omega) rfl), (by first | exact ⟨kdOK_up hdk (by decide), hdn⟩ | exact ⟨hdk, hdn⟩)⟩ dX3_takesLetter_68
  · skip
    refine g_iconst C dX3_takesLetter_6 ?_
    refine g_goto C 32 dX3_takesLetter_7 (by decide) ?_
    refine g_istore_n C [(2, .int (iI 0)), (0, .ref h), (1, .int (iI cc0))] dX3_takesLetter_32 rfl hl (by decide) rfl ?_
    clear hl
    intro ls hl
    refine g_iload_n C hl 0 rfl rfl dX3_takesLetter_33 ?_
    refine g_bipush C dX3_takesLetter_34 (by decide) ?_
    refine g_icmp_ne C 41 dX3_takesLetter_36 (by decide) (by decide) (by decide) (fun c_7 => ?_) (fun c_7 => absurd c_7 (by decide))
    refine g_aload_n C hl 1 rfl rfl dX3_takesLetter_41 ?_
    refine g_get C hw hin_X3_takesLetter_X3 0 rfl rfl 0 (by decide) lk_X3_takesLetter_12 rfl dX3_takesLetter_42 ?_
    refine g_get C hw hin_X3_takesLetter_X4 1 rfl rfl 1 (by decide) lk_X3_takesLetter_39 rfl dX3_takesLetter_45 ?_
    refine g_aload_n C hl 1 rfl rfl dX3_takesLetter_48 ?_
    refine g_get C hw hin_X3_takesLetter_X3 0 rfl rfl 0 (by decide) lk_X3_takesLetter_12 rfl dX3_takesLetter_49 ?_
    refine g_get C hw hin_X3_takesLetter_X4 1 rfl rfl 0 (by decide) lk_X3_takesLetter_18 rfl dX3_takesLetter_52 ?_
    refine g_iload_n C hl 0 rfl rfl dX3_takesLetter_55 ?_
    refine g_iast C hw [oX3 h a sp ce da, oX4 (a 0) b dc, cA G (b 1) 4 (up dk dc 0), cA G (b 2) 12 dn] 2 rfl (by omega) (Nat.le_of_ble_eq_true rfl) rfl dX3_takesLetter_56 ?_
    clear hw
    intro H locs hw
    refine g_aload_n C hl 1 rfl rfl dX3_takesLetter_57 ?_
    refine g_iconst C dX3_takesLetter_58 ?_
    refine g_put C hw [oX3 h a sp 0 da, oX4 (a 0) b dc, cA G (b 1) 4 (up dk dc 0), cA G (b 2) 12 dn] hin_X3_takesLetter_X3 tyX3 tyX3_ok nmX3 0 rfl rfl 2 (by decide) lk_X3_takesLetter_43 rfl rfl rfl rfl (Nat.le_of_ble_eq_true rfl) rfl dX3_takesLetter_59 ?_
    clear hw
    intro H locs hw
    refine g_aload_n C hl 1 rfl rfl dX3_takesLetter_62 ?_
    refine g_iconst C dX3_takesLetter_63 ?_
    refine g_put C hw [oX3 h a 3 0 da, oX4 (a 0) b dc, cA G (b 1) 4 (up dk dc 0), cA G (b 2) 12 dn] hin_X3_takesLetter_X3 tyX3 tyX3_ok nmX3 0 rfl rfl 1 (by decide) lk_X3_takesLetter_22 rfl rfl rfl rfl (Nat.le_of_ble_eq_true rfl) rfl dX3_takesLetter_64 ?_
    clear hw
    intro H locs hw
    refine g_iconst C dX3_takesLetter_67 ?_
    exact g_zret C hr (ws' := [oX3 h a 3 0 da, oX4 (a 0) b dc, cA G (b 1) 4 (up dk dc 0), cA G (b 2) 12 dn]) hw [0, 1, 2, 3] (by decide) rfl (Or.inr rfl) ⟨1, 3, 0, da, dc, (up dk dc 0), dn, rfl, rfl, (by first | (exfalso; omega) | exact go_letf (by omega) | exact go_let hdr (by omega) rfl), (by first | exact ⟨kdOK_up hdk (by decide), hdn⟩ | exact ⟨hdk, hdn⟩)⟩ dX3_takesLetter_68

set_option maxRecDepth 20000 in
theorem hin_X3_takesDigit_X3 : ∀ w ∈ u_ws RX3 TX3 4, w ∈ wsX3_takesDigit := by
  intro w h
  exact List.mem_cons_of_mem _ (List.mem_append_left _ (List.mem_append_right _ (h)))
set_option maxRecDepth 20000 in
theorem lk_X3_takesDigit_12 : Cond.fieldLink RX3 12 (TX3 0).1 (TX3 0).2.1 (TX3 0).2.2.1 ∈ wsX3_takesDigit := List.mem_cons_of_mem _ (List.mem_append_left _ (List.mem_append_left _ (List.mem_of_getElem? (i := 0) rfl)))
set_option maxRecDepth 20000 in
theorem hin_X3_takesDigit_X4 : ∀ w ∈ u_ws RX4 TX4 3, w ∈ wsX3_takesDigit := by
  intro w h
  exact List.mem_cons_of_mem _ (List.mem_append_right _ (h))
set_option maxRecDepth 20000 in
theorem lk_X3_takesDigit_46 : Cond.fieldLink RX3 46 (TX4 2).1 (TX4 2).2.1 (TX4 2).2.2.1 ∈ wsX3_takesDigit := List.mem_cons_of_mem _ (List.mem_append_left _ (List.mem_append_left _ (List.mem_of_getElem? (i := 1) rfl)))
set_option maxRecDepth 20000 in
theorem lk_X3_takesDigit_18 : Cond.fieldLink RX3 18 (TX4 0).1 (TX4 0).2.1 (TX4 0).2.2.1 ∈ wsX3_takesDigit := List.mem_cons_of_mem _ (List.mem_append_left _ (List.mem_append_left _ (List.mem_of_getElem? (i := 2) rfl)))
set_option maxRecDepth 20000 in
theorem lk_X3_takesDigit_43 : Cond.fieldLink RX3 43 (TX3 2).1 (TX3 2).2.1 (TX3 2).2.2.1 ∈ wsX3_takesDigit := List.mem_cons_of_mem _ (List.mem_append_left _ (List.mem_append_left _ (List.mem_of_getElem? (i := 3) rfl)))
set_option maxRecDepth 20000 in
theorem lk_X3_takesDigit_32 : Cond.fieldLink RX3 32 (TX3 3).1 (TX3 3).2.1 (TX3 3).2.2.1 ∈ wsX3_takesDigit := List.mem_cons_of_mem _ (List.mem_append_left _ (List.mem_append_left _ (List.mem_of_getElem? (i := 4) rfl)))
set_option maxRecDepth 20000 in
theorem lk_X3_takesDigit_22 : Cond.fieldLink RX3 22 (TX3 1).1 (TX3 1).2.1 (TX3 1).2.2.1 ∈ wsX3_takesDigit := List.mem_cons_of_mem _ (List.mem_append_left _ (List.mem_append_left _ (List.mem_of_getElem? (i := 5) rfl)))
set_option maxRecDepth 100000 in
set_option maxHeartbeats 8000000 in
theorem m_X3_takesDigit (l : Launch) (D : va_G) (G : gT) (h : Nat) (a : Nat → Nat) (sp : Int) (ce : Int) (da : Int) (b : Nat → Nat) (dc : Int) (dk : Int → Int) (dn : Int → Int) (sq : Int) (kn : Int) (vs : List Int) (acc : List pyT) (cc0 : Int) (hc0 : -2147483648 ≤ cc0 ∧ cc0 ≤ 2147483647) (hdr : drOK sq kn vs acc sp ce da dc dk dn) (hsq : sq = 3 ∨ sq = 4) (hda : (sq = 3 ∧ da = 0) ∨ (sq = 4 ∧ da = 1)) (h45 : ¬ (sq = 3 ∧ cc0 = 45)) (hdk : kdOK dk) (hdn : nuOK dn) : gMi l yX3_takesDigit wsX3_takesDigit ({ frames := 0, cells := 0, slots := 0, locals := 0 }) D G [.ref h, .int (iI cc0)] [oX3 h a sp ce da, oX4 (a 0) b dc, cA G (b 1) 4 dk, cA G (b 2) 12 dn] 0 0 (fun (r : Int32) (w : va_W) => ∃ (ok : Int) (sp2 : Int) (ce2 : Int) (da2 : Int) (dc2 : Int) (dk2 : Int → Int) (dn2 : Int → Int), r = (iI ok) ∧ w = [oX3 h a sp2 ce2 da2, oX4 (a 0) b dc2, cA G (b 1) 4 dk2, cA G (b 2) 12 dn2] ∧ (goP cc0 sq kn vs acc ok sp2 ce2 da2 dc2 dk2 dn2) ∧ (kdOK dk2 ∧ nuOK dn2)) := by
  refine g_start_i (cc := cX3_takesDigit) (nL := 3) (own := RX3) (ret := some .boolean) (by decide +kernel) rfl rfl (Nat.le_of_ble_eq_true rfl) ?_
  intro p e s m below meth c A ls C hr hnm hw hl
  have hl : lv_has ls 3 [(0, .ref h), (1, .int (iI cc0))] := hl
  obtain ⟨d1, d2, d3, d4, d5, d6⟩ := dr_f hdr
  have d7 := d4 (by omega)
  have d8 := d5 (by omega)
  refine g_iload_n C hl 1 rfl rfl dX3_takesDigit_0 ?_
  refine g_bipush C dX3_takesDigit_1 (by decide) ?_
  refine g_icmp_lt C 12 dX3_takesDigit_3 (by decide) (by omega) (by omega) (fun c_1 => ?_) (fun c_1 => ?_)
  · skip
    refine g_iconst C dX3_takesDigit_12 ?_
    exact g_zret C hr (ws' := [oX3 h a sp ce da, oX4 (a 0) b dc, cA G (b 1) 4 dk, cA G (b 2) 12 dn]) hw [0, 1, 2, 3] (by decide) rfl (Or.inl rfl) ⟨0, sp, ce, da, dc, dk, dn, rfl, rfl, (by first | exact go_nd hsq h45 (by omega) | exact (go_dg hdr hsq h45 (by omega) (by unfold vlD; (repeat' split) <;> omega)).1 (by omega) | exact (go_dg hdr hsq h45 (by omega) (by unfold vlD; (repeat' split) <;> omega)).2 (by omega)), (by first | exact ⟨hdk, nuOK_up hdn (by omega)⟩ | exact ⟨hdk, hdn⟩)⟩ dX3_takesDigit_13
  · skip
    refine g_iload_n C hl 1 rfl rfl dX3_takesDigit_6 ?_
    refine g_bipush C dX3_takesDigit_7 (by decide) ?_
    refine g_icmp_le C 14 dX3_takesDigit_9 (by decide) (by omega) (by omega) (fun c_2 => ?_) (fun c_2 => ?_)
    · skip
      refine g_iload_n C hl 1 rfl rfl dX3_takesDigit_14 ?_
      refine g_bipush C dX3_takesDigit_15 (by decide) ?_
      refine g_isub C dX3_takesDigit_17 ?_
      refine g_istore_n C [(2, .int (iI (cc0 - 48))), (0, .ref h), (1, .int (iI cc0))] dX3_takesDigit_18 rfl hl (by decide) rfl ?_
      clear hl
      intro ls hl
      refine g_aload_n C hl 1 rfl rfl dX3_takesDigit_19 ?_
      refine g_get C hw hin_X3_takesDigit_X3 0 rfl rfl 0 (by decide) lk_X3_takesDigit_12 rfl dX3_takesDigit_20 ?_
      refine g_get C hw hin_X3_takesDigit_X4 1 rfl rfl 2 (by decide) lk_X3_takesDigit_46 rfl dX3_takesDigit_23 ?_
      refine g_aload_n C hl 1 rfl rfl dX3_takesDigit_26 ?_
      refine g_get C hw hin_X3_takesDigit_X3 0 rfl rfl 0 (by decide) lk_X3_takesDigit_12 rfl dX3_takesDigit_27 ?_
      refine g_get C hw hin_X3_takesDigit_X4 1 rfl rfl 0 (by decide) lk_X3_takesDigit_18 rfl dX3_takesDigit_30 ?_
      refine g_iconst C dX3_takesDigit_33 ?_
      refine g_imul C dX3_takesDigit_34 ?_
      refine g_aload_n C hl 1 rfl rfl dX3_takesDigit_35 ?_
      refine g_get C hw hin_X3_takesDigit_X3 0 rfl rfl 2 (by decide) lk_X3_takesDigit_43 rfl dX3_takesDigit_36 ?_
      refine g_iadd C dX3_takesDigit_39 ?_
      refine g_aload_n C hl 1 rfl rfl dX3_takesDigit_40 ?_
      refine g_get C hw hin_X3_takesDigit_X3 0 rfl rfl 3 (by decide) lk_X3_takesDigit_32 rfl dX3_takesDigit_41 ?_
      refine g_if_eq C 52 dX3_takesDigit_44 (by decide) (by omega) (fun c_3 => ?_) (fun c_3 => ?_)
      · skip
        refine g_iload_n C hl 0 rfl rfl dX3_takesDigit_52 ?_
        refine g_iast C hw [oX3 h a sp ce da, oX4 (a 0) b dc, cA G (b 1) 4 dk, cA G (b 2) 12 (up dn ((dc * 3) + ce) (cc0 - 48))] 3 rfl (by omega) (Nat.le_of_ble_eq_true rfl) rfl dX3_takesDigit_53 ?_
        clear hw
        intro H locs hw
        refine g_aload_n C hl 1 rfl rfl dX3_takesDigit_54 ?_
        refine g_dup C dX3_takesDigit_55 rfl ?_
        refine g_get C hw hin_X3_takesDigit_X3 0 rfl rfl 2 (by decide) lk_X3_takesDigit_43 rfl dX3_takesDigit_56 ?_
        refine g_iconst C dX3_takesDigit_59 ?_
        refine g_iadd C dX3_takesDigit_60 ?_
        refine g_put C hw [oX3 h a sp (ce + 1) da, oX4 (a 0) b dc, cA G (b 1) 4 dk, cA G (b 2) 12 (up dn ((dc * 3) + ce) (cc0 - 48))] hin_X3_takesDigit_X3 tyX3 tyX3_ok nmX3 0 rfl rfl 2 (by decide) lk_X3_takesDigit_43 rfl rfl rfl rfl (Nat.le_of_ble_eq_true rfl) rfl dX3_takesDigit_61 ?_
        clear hw
        intro H locs hw
        refine g_aload_n C hl 1 rfl rfl dX3_takesDigit_64 ?_
        refine g_iconst C dX3_takesDigit_65 ?_
        refine g_put C hw [oX3 h a 3 (ce + 1) da, oX4 (a 0) b dc, cA G (b 1) 4 dk, cA G (b 2) 12 (up dn ((dc * 3) + ce) (cc0 - 48))] hin_X3_takesDigit_X3 tyX3 tyX3_ok nmX3 0 rfl rfl 1 (by decide) lk_X3_takesDigit_22 rfl rfl rfl rfl (Nat.le_of_ble_eq_true rfl) rfl dX3_takesDigit_66 ?_
        clear hw
        intro H locs hw
        refine g_aload_n C hl 1 rfl rfl dX3_takesDigit_69 ?_
        refine g_get C hw hin_X3_takesDigit_X3 0 rfl rfl 2 (by decide) lk_X3_takesDigit_43 rfl dX3_takesDigit_70 ?_
        refine g_iconst C dX3_takesDigit_73 ?_
        refine g_icmp_ne C 95 dX3_takesDigit_74 (by decide) (by omega) (by omega) (fun c_4 => ?_) (fun c_4 => ?_)
        · skip
          refine g_iconst C dX3_takesDigit_95 ?_
          exact g_zret C hr (ws' := [oX3 h a 3 (ce + 1) da, oX4 (a 0) b dc, cA G (b 1) 4 dk, cA G (b 2) 12 (up dn ((dc * 3) + ce) (cc0 - 48))]) hw [0, 1, 2, 3] (by decide) rfl (Or.inr rfl) ⟨1, 3, (ce + 1), da, dc, dk, (up dn ((dc * 3) + ce) (cc0 - 48)), rfl, rfl, (by first | exact go_nd hsq h45 (by omega) | exact (go_dg hdr hsq h45 (by omega) (by unfold vlD; (repeat' split) <;> omega)).1 (by omega) | exact (go_dg hdr hsq h45 (by omega) (by unfold vlD; (repeat' split) <;> omega)).2 (by omega)), (by first | exact ⟨hdk, nuOK_up hdn (by omega)⟩ | exact ⟨hdk, hdn⟩)⟩ dX3_takesDigit_96
        · skip
          refine g_aload_n C hl 1 rfl rfl dX3_takesDigit_77 ?_
          refine g_get C hw hin_X3_takesDigit_X3 0 rfl rfl 0 (by decide) lk_X3_takesDigit_12 rfl dX3_takesDigit_78 ?_
          refine g_dup C dX3_takesDigit_81 rfl ?_
          refine g_get C hw hin_X3_takesDigit_X4 1 rfl rfl 0 (by decide) lk_X3_takesDigit_18 rfl dX3_takesDigit_82 ?_
          refine g_iconst C dX3_takesDigit_85 ?_
          refine g_iadd C dX3_takesDigit_86 ?_
          refine g_put C hw [oX3 h a 3 (ce + 1) da, oX4 (a 0) b (dc + 1), cA G (b 1) 4 dk, cA G (b 2) 12 (up dn ((dc * 3) + ce) (cc0 - 48))] hin_X3_takesDigit_X4 tyX4 tyX4_ok nmX4 1 rfl rfl 0 (by decide) lk_X3_takesDigit_18 rfl rfl rfl rfl (Nat.le_of_ble_eq_true rfl) rfl dX3_takesDigit_87 ?_
          clear hw
          intro H locs hw
          refine g_aload_n C hl 1 rfl rfl dX3_takesDigit_90 ?_
          refine g_iconst C dX3_takesDigit_91 ?_
          refine g_put C hw [oX3 h a 1 (ce + 1) da, oX4 (a 0) b (dc + 1), cA G (b 1) 4 dk, cA G (b 2) 12 (up dn ((dc * 3) + ce) (cc0 - 48))] hin_X3_takesDigit_X3 tyX3 tyX3_ok nmX3 0 rfl rfl 1 (by decide) lk_X3_takesDigit_22 rfl rfl rfl rfl (Nat.le_of_ble_eq_true rfl) rfl dX3_takesDigit_92 ?_
          clear hw
          intro H locs hw
          refine g_iconst C dX3_takesDigit_95 ?_
          exact g_zret C hr (ws' := [oX3 h a 1 (ce + 1) da, oX4 (a 0) b (dc + 1), cA G (b 1) 4 dk, cA G (b 2) 12 (up dn ((dc * 3) + ce) (cc0 - 48))]) hw [0, 1, 2, 3] (by decide) rfl (Or.inr rfl) ⟨1, 1, (ce + 1), da, (dc + 1), dk, (up dn ((dc * 3) + ce) (cc0 - 48)), rfl, rfl, (by first | exact go_nd hsq h45 (by omega) | exact (go_dg hdr hsq h45 (by omega) (by unfold vlD; (repeat' split) <;> omega)).1 (by omega) | exact (go_dg hdr hsq h45 (by omega) (by unfold vlD; (repeat' split) <;> omega)).2 (by omega)), (by first | exact ⟨hdk, nuOK_up hdn (by omega)⟩ | exact ⟨hdk, hdn⟩)⟩ dX3_takesDigit_96
      · skip
        refine g_iload_n C hl 0 rfl rfl dX3_takesDigit_47 ?_
        refine g_ineg C dX3_takesDigit_48 ?_
        refine g_goto C 53 dX3_takesDigit_49 (by decide) ?_
        refine g_iast C hw [oX3 h a sp ce da, oX4 (a 0) b dc, cA G (b 1) 4 dk, cA G (b 2) 12 (up dn ((dc * 3) + ce) (-(cc0 - 48)))] 3 rfl (by omega) (Nat.le_of_ble_eq_true rfl) rfl dX3_takesDigit_53 ?_
        clear hw
        intro H locs hw
        refine g_aload_n C hl 1 rfl rfl dX3_takesDigit_54 ?_
        refine g_dup C dX3_takesDigit_55 rfl ?_
        refine g_get C hw hin_X3_takesDigit_X3 0 rfl rfl 2 (by decide) lk_X3_takesDigit_43 rfl dX3_takesDigit_56 ?_
        refine g_iconst C dX3_takesDigit_59 ?_
        refine g_iadd C dX3_takesDigit_60 ?_
        refine g_put C hw [oX3 h a sp (ce + 1) da, oX4 (a 0) b dc, cA G (b 1) 4 dk, cA G (b 2) 12 (up dn ((dc * 3) + ce) (-(cc0 - 48)))] hin_X3_takesDigit_X3 tyX3 tyX3_ok nmX3 0 rfl rfl 2 (by decide) lk_X3_takesDigit_43 rfl rfl rfl rfl (Nat.le_of_ble_eq_true rfl) rfl dX3_takesDigit_61 ?_
        clear hw
        intro H locs hw
        refine g_aload_n C hl 1 rfl rfl dX3_takesDigit_64 ?_
        refine g_iconst C dX3_takesDigit_65 ?_
        refine g_put C hw [oX3 h a 3 (ce + 1) da, oX4 (a 0) b dc, cA G (b 1) 4 dk, cA G (b 2) 12 (up dn ((dc * 3) + ce) (-(cc0 - 48)))] hin_X3_takesDigit_X3 tyX3 tyX3_ok nmX3 0 rfl rfl 1 (by decide) lk_X3_takesDigit_22 rfl rfl rfl rfl (Nat.le_of_ble_eq_true rfl) rfl dX3_takesDigit_66 ?_
        clear hw
        intro H locs hw
        refine g_aload_n C hl 1 rfl rfl dX3_takesDigit_69 ?_
        refine g_get C hw hin_X3_takesDigit_X3 0 rfl rfl 2 (by decide) lk_X3_takesDigit_43 rfl dX3_takesDigit_70 ?_
        refine g_iconst C dX3_takesDigit_73 ?_
        refine g_icmp_ne C 95 dX3_takesDigit_74 (by decide) (by omega) (by omega) (fun c_5 => ?_) (fun c_5 => ?_)
        · skip
          refine g_iconst C dX3_takesDigit_95 ?_
          exact g_zret C hr (ws' := [oX3 h a 3 (ce + 1) da, oX4 (a 0) b dc, cA G (b 1) 4 dk, cA G (b 2) 12 (up dn ((dc * 3) + ce) (-(cc0 - 48)))]) hw [0, 1, 2, 3] (by decide) rfl (Or.inr rfl) ⟨1, 3, (ce + 1), da, dc, dk, (up dn ((dc * 3) + ce) (-(cc0 - 48))), rfl, rfl, (by first | exact go_nd hsq h45 (by omega) | exact (go_dg hdr hsq h45 (by omega) (by unfold vlD; (repeat' split) <;> omega)).1 (by omega) | exact (go_dg hdr hsq h45 (by omega) (by unfold vlD; (repeat' split) <;> omega)).2 (by omega)), (by first | exact ⟨hdk, nuOK_up hdn (by omega)⟩ | exact ⟨hdk, hdn⟩)⟩ dX3_takesDigit_96
        · skip
          refine g_aload_n C hl 1 rfl rfl dX3_takesDigit_77 ?_
          refine g_get C hw hin_X3_takesDigit_X3 0 rfl rfl 0 (by decide) lk_X3_takesDigit_12 rfl dX3_takesDigit_78 ?_
          refine g_dup C dX3_takesDigit_81 rfl ?_
          refine g_get C hw hin_X3_takesDigit_X4 1 rfl rfl 0 (by decide) lk_X3_takesDigit_18 rfl dX3_takesDigit_82 ?_
          refine g_iconst C dX3_takesDigit_85 ?_
          refine g_iadd C dX3_takesDigit_86 ?_
          refine g_put C hw [oX3 h a 3 (ce + 1) da, oX4 (a 0) b (dc + 1), cA G (b 1) 4 dk, cA G (b 2) 12 (up dn ((dc * 3) + ce) (-(cc0 - 48)))] hin_X3_takesDigit_X4 tyX4 tyX4_ok nmX4 1 rfl rfl 0 (by decide) lk_X3_takesDigit_18 rfl rfl rfl rfl (Nat.le_of_ble_eq_true rfl) rfl dX3_takesDigit_87 ?_
          clear hw
          intro H locs hw
          refine g_aload_n C hl 1 rfl rfl dX3_takesDigit_90 ?_
          refine g_iconst C dX3_takesDigit_91 ?_
          refine g_put C hw [oX3 h a 1 (ce + 1) da, oX4 (a 0) b (dc + 1), cA G (b 1) 4 dk, cA G (b 2) 12 (up dn ((dc * 3) + ce) (-(cc0 - 48)))] hin_X3_takesDigit_X3 tyX3 tyX3_ok nmX3 0 rfl rfl 1 (by decide) lk_X3_takesDigit_22 rfl rfl rfl rfl (Nat.le_of_ble_eq_true rfl) rfl dX3_takesDigit_92 ?_
          clear hw
          intro H locs hw
          refine g_iconst C dX3_takesDigit_95 ?_
          exact g_zret C hr (ws' := [oX3 h a 1 (ce + 1) da, oX4 (a 0) b (dc + 1), cA G (b 1) 4 dk, cA G (b 2) 12 (up dn ((dc * 3) + ce) (-(cc0 - 48)))]) hw [0, 1, 2, 3] (by decide) rfl (Or.inr rfl) ⟨1, 1, (ce + 1), da, (dc + 1), dk, (up dn ((dc * 3) + ce) (-(cc0 - 48))), rfl, rfl, (by first | exact go_nd hsq h45 (by omega) | exact (go_dg hdr hsq h45 (by omega) (by unfold vlD; (repeat' split) <;> omega)).1 (by omega) | exact (go_dg hdr hsq h45 (by omega) (by unfold vlD; (repeat' split) <;> omega)).2 (by omega)), (by first | exact ⟨hdk, nuOK_up hdn (by omega)⟩ | exact ⟨hdk, hdn⟩)⟩ dX3_takesDigit_96
    · skip
      refine g_iconst C dX3_takesDigit_12 ?_
      exact g_zret C hr (ws' := [oX3 h a sp ce da, oX4 (a 0) b dc, cA G (b 1) 4 dk, cA G (b 2) 12 dn]) hw [0, 1, 2, 3] (by decide) rfl (Or.inl rfl) ⟨0, sp, ce, da, dc, dk, dn, rfl, rfl, (by first | exact go_nd hsq h45 (by omega) | exact (go_dg hdr hsq h45 (by omega) (by unfold vlD; (repeat' split) <;> omega)).1 (by omega) | exact (go_dg hdr hsq h45 (by omega) (by unfold vlD; (repeat' split) <;> omega)).2 (by omega)), (by first | exact ⟨hdk, nuOK_up hdn (by omega)⟩ | exact ⟨hdk, hdn⟩)⟩ dX3_takesDigit_13

set_option maxRecDepth 20000 in
theorem hin_X3_goesOnWith_X3 : ∀ w ∈ u_ws RX3 TX3 4, w ∈ wsX3_goesOnWith := by
  intro w h
  exact List.mem_cons_of_mem _ (List.mem_append_left _ (List.mem_append_right _ (h)))
set_option maxRecDepth 20000 in
theorem lk_X3_goesOnWith_22 : Cond.fieldLink RX3 22 (TX3 1).1 (TX3 1).2.1 (TX3 1).2.2.1 ∈ wsX3_goesOnWith := List.mem_cons_of_mem _ (List.mem_append_left _ (List.mem_append_left _ (List.mem_of_getElem? (i := 0) rfl)))
set_option maxRecDepth 20000 in
theorem lk_X3_goesOnWith_12 : Cond.fieldLink RX3 12 (TX3 0).1 (TX3 0).2.1 (TX3 0).2.2.1 ∈ wsX3_goesOnWith := List.mem_cons_of_mem _ (List.mem_append_left _ (List.mem_append_left _ (List.mem_of_getElem? (i := 1) rfl)))
set_option maxRecDepth 20000 in
theorem hin_X3_goesOnWith_X4 : ∀ w ∈ u_ws RX4 TX4 3, w ∈ wsX3_goesOnWith := by
  intro w h
  exact List.mem_cons_of_mem _ (List.mem_append_right _ (h))
set_option maxRecDepth 20000 in
theorem lk_X3_goesOnWith_18 : Cond.fieldLink RX3 18 (TX4 0).1 (TX4 0).2.1 (TX4 0).2.2.1 ∈ wsX3_goesOnWith := List.mem_cons_of_mem _ (List.mem_append_left _ (List.mem_append_left _ (List.mem_of_getElem? (i := 2) rfl)))
set_option maxRecDepth 20000 in
theorem lk_X3_goesOnWith_32 : Cond.fieldLink RX3 32 (TX3 3).1 (TX3 3).2.1 (TX3 3).2.2.1 ∈ wsX3_goesOnWith := List.mem_cons_of_mem _ (List.mem_append_left _ (List.mem_append_left _ (List.mem_of_getElem? (i := 3) rfl)))
set_option maxRecDepth 100000 in
set_option maxHeartbeats 8000000 in
theorem m_X3_goesOnWith (l : Launch) (D : va_G) (G : gT) (h : Nat) (a : Nat → Nat) (sp : Int) (ce : Int) (da : Int) (b : Nat → Nat) (dc : Int) (dk : Int → Int) (dn : Int → Int) (sq : Int) (kn : Int) (vs : List Int) (acc : List pyT) (cc0 : Int) (hc0 : -2147483648 ≤ cc0 ∧ cc0 ≤ 2147483647) (hdr : drOK sq kn vs acc sp ce da dc dk dn) (hdk : kdOK dk) (hdn : nuOK dn) : gMi l yX3_goesOnWith wsX3_goesOnWith ({ frames := 1, cells := 0, slots := 0, locals := 22 }) D G [.ref h, .int (iI cc0)] [oX3 h a sp ce da, oX4 (a 0) b dc, cA G (b 1) 4 dk, cA G (b 2) 12 dn] 0 0 (fun (r : Int32) (w : va_W) => ∃ (ok : Int) (sp2 : Int) (ce2 : Int) (da2 : Int) (dc2 : Int) (dk2 : Int → Int) (dn2 : Int → Int), r = (iI ok) ∧ w = [oX3 h a sp2 ce2 da2, oX4 (a 0) b dc2, cA G (b 1) 4 dk2, cA G (b 2) 12 dn2] ∧ (goP cc0 sq kn vs acc ok sp2 ce2 da2 dc2 dk2 dn2) ∧ (kdOK dk2 ∧ nuOK dn2)) := by
  refine g_start_i (cc := cX3_goesOnWith) (nL := 2) (own := RX3) (ret := some .boolean) (by decide +kernel) rfl rfl (Nat.le_of_ble_eq_true rfl) ?_
  intro p e s m below meth c A ls C hr hnm hw hl
  have hl : lv_has ls 2 [(0, .ref h), (1, .int (iI cc0))] := hl
  obtain ⟨d1, d2, d3, d4, d5, d6⟩ := dr_f hdr
  refine g_aload_n C hl 0 rfl rfl dX3_goesOnWith_0 ?_
  refine g_get C hw hin_X3_goesOnWith_X3 0 rfl rfl 1 (by decide) lk_X3_goesOnWith_22 rfl dX3_goesOnWith_1 ?_
  rcases (by omega : sp = 0 ∨ sp = 1 ∨ sp = 2 ∨ sp = 3 ∨ (sp < 0 ∨ 3 < sp)) with hs_1 | hs_1 | hs_1 | hs_1 | hs_1
  · skip
    refine g_tabIn C 0 32 36 hs_1 (by decide) dX3_goesOnWith_4 (by decide) (by decide) (by decide +kernel) (by decide) ?_
    have hs9 : sq = 0 := by omega
    subst hs9
    refine g_aload_n C hl 0 rfl rfl dX3_goesOnWith_36 ?_
    refine g_iconst C dX3_goesOnWith_37 ?_
    refine g_put C hw [oX3 h a 1 ce da, oX4 (a 0) b dc, cA G (b 1) 4 dk, cA G (b 2) 12 dn] hin_X3_goesOnWith_X3 tyX3 tyX3_ok nmX3 0 rfl rfl 1 (by decide) lk_X3_goesOnWith_22 rfl rfl rfl rfl (Nat.le_of_ble_eq_true rfl) rfl dX3_goesOnWith_38 ?_
    clear hw
    intro H locs hw
    refine g_iload_n C hl 1 rfl rfl dX3_goesOnWith_41 ?_
    refine g_bipush C dX3_goesOnWith_42 (by decide) ?_
    refine g_icmp_ne C 51 dX3_goesOnWith_44 (by decide) (by omega) (by omega) (fun c_2 => ?_) (fun c_2 => ?_)
    · skip
      refine g_iconst C dX3_goesOnWith_51 ?_
      exact g_zret C hr (ws' := [oX3 h a 1 ce da, oX4 (a 0) b dc, cA G (b 1) 4 dk, cA G (b 2) 12 dn]) hw [0, 1, 2, 3] (by decide) rfl (Or.inl rfl) ⟨0, 1, ce, da, dc, dk, dn, rfl, rfl, (by first | exact hg9 | exact (go_head hdr).1 (by omega) | exact (go_head hdr).2 (by omega) | exact (go_mark hdr).1 (by omega) | exact (go_mark hdr).2 (by omega) | exact go_dash hdr (by omega)), (by first | exact hk9 | exact ⟨hdk, hdn⟩)⟩ dX3_goesOnWith_52
    · skip
      refine g_iconst C dX3_goesOnWith_47 ?_
      refine g_goto C 52 dX3_goesOnWith_48 (by decide) ?_
      exact g_zret C hr (ws' := [oX3 h a 1 ce da, oX4 (a 0) b dc, cA G (b 1) 4 dk, cA G (b 2) 12 dn]) hw [0, 1, 2, 3] (by decide) rfl (Or.inr rfl) ⟨1, 1, ce, da, dc, dk, dn, rfl, rfl, (by first | exact hg9 | exact (go_head hdr).1 (by omega) | exact (go_head hdr).2 (by omega) | exact (go_mark hdr).1 (by omega) | exact (go_mark hdr).2 (by omega) | exact go_dash hdr (by omega)), (by first | exact hk9 | exact ⟨hdk, hdn⟩)⟩ dX3_goesOnWith_52
  · skip
    refine g_tabIn C 1 49 53 hs_1 (by decide) dX3_goesOnWith_4 (by decide) (by decide) (by decide +kernel) (by decide) ?_
    have hs9 : sq = 1 := by omega
    subst hs9
    refine g_aload_n C hl 0 rfl rfl dX3_goesOnWith_53 ?_
    refine g_iconst C dX3_goesOnWith_54 ?_
    refine g_put C hw [oX3 h a 2 ce da, oX4 (a 0) b dc, cA G (b 1) 4 dk, cA G (b 2) 12 dn] hin_X3_goesOnWith_X3 tyX3 tyX3_ok nmX3 0 rfl rfl 1 (by decide) lk_X3_goesOnWith_22 rfl rfl rfl rfl (Nat.le_of_ble_eq_true rfl) rfl dX3_goesOnWith_55 ?_
    clear hw
    intro H locs hw
    refine g_iload_n C hl 1 rfl rfl dX3_goesOnWith_58 ?_
    refine g_bipush C dX3_goesOnWith_59 (by decide) ?_
    refine g_icmp_ne C 79 dX3_goesOnWith_61 (by decide) (by omega) (by omega) (fun c_3 => ?_) (fun c_3 => ?_)
    · skip
      refine g_iconst C dX3_goesOnWith_79 ?_
      exact g_zret C hr (ws' := [oX3 h a 2 ce da, oX4 (a 0) b dc, cA G (b 1) 4 dk, cA G (b 2) 12 dn]) hw [0, 1, 2, 3] (by decide) rfl (Or.inl rfl) ⟨0, 2, ce, da, dc, dk, dn, rfl, rfl, (by first | exact hg9 | exact (go_head hdr).1 (by omega) | exact (go_head hdr).2 (by omega) | exact (go_mark hdr).1 (by omega) | exact (go_mark hdr).2 (by omega) | exact go_dash hdr (by omega)), (by first | exact hk9 | exact ⟨hdk, hdn⟩)⟩ dX3_goesOnWith_80
    · skip
      refine g_aload_n C hl 0 rfl rfl dX3_goesOnWith_64 ?_
      refine g_get C hw hin_X3_goesOnWith_X3 0 rfl rfl 0 (by decide) lk_X3_goesOnWith_12 rfl dX3_goesOnWith_65 ?_
      refine g_get C hw hin_X3_goesOnWith_X4 1 rfl rfl 0 (by decide) lk_X3_goesOnWith_18 rfl dX3_goesOnWith_68 ?_
      refine g_iconst C dX3_goesOnWith_71 ?_
      refine g_icmp_ge C 79 dX3_goesOnWith_72 (by decide) (by omega) (by omega) (fun c_4 => ?_) (fun c_4 => ?_)
      · skip
        refine g_iconst C dX3_goesOnWith_79 ?_
        exact g_zret C hr (ws' := [oX3 h a 2 ce da, oX4 (a 0) b dc, cA G (b 1) 4 dk, cA G (b 2) 12 dn]) hw [0, 1, 2, 3] (by decide) rfl (Or.inl rfl) ⟨0, 2, ce, da, dc, dk, dn, rfl, rfl, (by first | exact hg9 | exact (go_head hdr).1 (by omega) | exact (go_head hdr).2 (by omega) | exact (go_mark hdr).1 (by omega) | exact (go_mark hdr).2 (by omega) | exact go_dash hdr (by omega)), (by first | exact hk9 | exact ⟨hdk, hdn⟩)⟩ dX3_goesOnWith_80
      · skip
        refine g_iconst C dX3_goesOnWith_75 ?_
        refine g_goto C 80 dX3_goesOnWith_76 (by decide) ?_
        exact g_zret C hr (ws' := [oX3 h a 2 ce da, oX4 (a 0) b dc, cA G (b 1) 4 dk, cA G (b 2) 12 dn]) hw [0, 1, 2, 3] (by decide) rfl (Or.inr rfl) ⟨1, 2, ce, da, dc, dk, dn, rfl, rfl, (by first | exact hg9 | exact (go_head hdr).1 (by omega) | exact (go_head hdr).2 (by omega) | exact (go_mark hdr).1 (by omega) | exact (go_mark hdr).2 (by omega) | exact go_dash hdr (by omega)), (by first | exact hk9 | exact ⟨hdk, hdn⟩)⟩ dX3_goesOnWith_80
  · skip
    refine g_tabIn C 2 77 81 hs_1 (by decide) dX3_goesOnWith_4 (by decide) (by decide) (by decide +kernel) (by decide) ?_
    have hs9 : sq = 2 := by omega
    subst hs9
    refine g_aload_n C hl 0 rfl rfl dX3_goesOnWith_81 ?_
    refine g_iload_n C hl 1 rfl rfl dX3_goesOnWith_82 ?_
    refine g_callVi C hw (wr := []) (As := [.int (iI cc0)]) (rest := []) (m_X3_takesLetter l D G (h := h) (a := a) (sp := sp) (ce := ce) (da := da) (b := b) (dc := dc) (dk := dk) (dn := dn) (kn := kn) (vs := vs) (acc := acc) (cc0 := cc0) (by first | assumption | omega) (by exact hdr) (by first | assumption | omega) (by first | assumption | omega)) (cwV 1 C.1.2.2.2.2 gX3_goesOnWith_X3_takesLetter rfl rfl rfl (by decide +kernel) ⟨Nat.le_of_ble_eq_true rfl, Nat.le_of_ble_eq_true rfl⟩) [0, 1, 2, 3] [] rfl rfl (by decide) (by decide) (by decide) 0 rfl rfl rfl hl.1 _ rfl (Nat.le_of_ble_eq_true rfl) dX3_goesOnWith_83 ⟨Nat.le_of_ble_eq_true rfl, Nat.le_of_ble_eq_true rfl⟩ ?_
    clear hw
    rintro _ _ H locs ⟨ok__5, sp2__6, ce2__7, da2__8, dc2__9, dk2__10, dn2__11, rfl, rfl, hp_12, hp_13⟩ hw
    have hw : gW D A s.heap [oX3 h a sp2__6 ce2__7 da2__8, oX4 (a 0) b dc2__9, cA G (b 1) 4 dk2__10, cA G (b 2) 12 dn2__11] H locs := hw
    have hp_12 : goP cc0 2 kn vs acc ok__5 sp2__6 ce2__7 da2__8 dc2__9 dk2__10 dn2__11 := hp_12
    have hp_13 : kdOK dk2__10 ∧ nuOK dn2__11 := hp_13
    have hz := go_r hp_12
    have hg9 := hp_12
    have hk9 := hp_13
    exact g_zret C hr (ws' := [oX3 h a sp2__6 ce2__7 da2__8, oX4 (a 0) b dc2__9, cA G (b 1) 4 dk2__10, cA G (b 2) 12 dn2__11]) hw [0, 1, 2, 3] (by decide) rfl (by rcases hz with q | q; exact Or.inl (congrArg iI q); exact Or.inr (congrArg iI q)) ⟨ok__5, sp2__6, ce2__7, da2__8, dc2__9, dk2__10, dn2__11, rfl, rfl, (by first | exact hg9 | exact (go_head hdr).1 (by omega) | exact (go_head hdr).2 (by omega) | exact (go_mark hdr).1 (by omega) | exact (go_mark hdr).2 (by omega) | exact go_dash hdr (by omega)), (by first | exact hk9 | exact ⟨hdk, hdn⟩)⟩ dX3_goesOnWith_86
  · skip
    refine g_tabIn C 3 83 87 hs_1 (by decide) dX3_goesOnWith_4 (by decide) (by decide) (by decide +kernel) (by decide) ?_
    have hs9 : sq = 3 := by omega
    subst hs9
    refine g_aload_n C hl 0 rfl rfl dX3_goesOnWith_87 ?_
    refine g_iload_n C hl 1 rfl rfl dX3_goesOnWith_88 ?_
    refine g_bipush C dX3_goesOnWith_89 (by decide) ?_
    refine g_icmp_ne C 98 dX3_goesOnWith_91 (by decide) (by omega) (by omega) (fun c_14 => ?_) (fun c_14 => ?_)
    · skip
      refine g_iconst C dX3_goesOnWith_98 ?_
      refine g_put C hw [oX3 h a sp ce 0, oX4 (a 0) b dc, cA G (b 1) 4 dk, cA G (b 2) 12 dn] hin_X3_goesOnWith_X3 tyX3 tyX3_ok nmX3 0 rfl rfl 3 (by decide) lk_X3_goesOnWith_32 rfl rfl (by decide +kernel) (by decide +kernel) (Nat.le_of_ble_eq_true rfl) rfl dX3_goesOnWith_99 ?_
      clear hw
      intro H locs hw
      refine g_aload_n C hl 0 rfl rfl dX3_goesOnWith_102 ?_
      refine g_get C hw hin_X3_goesOnWith_X3 0 rfl rfl 3 (by decide) lk_X3_goesOnWith_32 rfl dX3_goesOnWith_103 ?_
      refine g_if_eq C 116 dX3_goesOnWith_106 (by decide) (by decide) (fun c_15 => ?_) (fun c_15 => absurd c_15 (by decide))
      refine g_aload_n C hl 0 rfl rfl dX3_goesOnWith_116 ?_
      refine g_iload_n C hl 1 rfl rfl dX3_goesOnWith_117 ?_
      refine g_callVi C hw (wr := []) (As := [.int (iI cc0)]) (rest := []) (m_X3_takesDigit l D G (h := h) (a := a) (sp := sp) (ce := ce) (da := 0) (b := b) (dc := dc) (dk := dk) (dn := dn) (sq := 3) (kn := kn) (vs := vs) (acc := acc) (cc0 := cc0) (by first | assumption | omega) (by exact dr_da hdr) (by first | assumption | omega) (by first | assumption | omega) (by first | assumption | omega) (by first | assumption | omega) (by first | assumption | omega)) (cwV 1 C.1.2.2.2.2 gX3_goesOnWith_X3_takesDigit rfl rfl rfl (by decide +kernel) ⟨Nat.le_of_ble_eq_true rfl, Nat.le_of_ble_eq_true rfl⟩) [0, 1, 2, 3] [] rfl rfl (by decide) (by decide) (by decide) 0 rfl rfl rfl hl.1 _ rfl (Nat.le_of_ble_eq_true rfl) dX3_goesOnWith_118 ⟨Nat.le_of_ble_eq_true rfl, Nat.le_of_ble_eq_true rfl⟩ ?_
      clear hw
      rintro _ _ H locs ⟨ok__16, sp2__17, ce2__18, da2__19, dc2__20, dk2__21, dn2__22, rfl, rfl, hp_23, hp_24⟩ hw
      have hw : gW D A s.heap [oX3 h a sp2__17 ce2__18 da2__19, oX4 (a 0) b dc2__20, cA G (b 1) 4 dk2__21, cA G (b 2) 12 dn2__22] H locs := hw
      have hp_23 : goP cc0 3 kn vs acc ok__16 sp2__17 ce2__18 da2__19 dc2__20 dk2__21 dn2__22 := hp_23
      have hp_24 : kdOK dk2__21 ∧ nuOK dn2__22 := hp_24
      have hz := go_r hp_23
      have hg9 := hp_23
      have hk9 := hp_24
      exact g_zret C hr (ws' := [oX3 h a sp2__17 ce2__18 da2__19, oX4 (a 0) b dc2__20, cA G (b 1) 4 dk2__21, cA G (b 2) 12 dn2__22]) hw [0, 1, 2, 3] (by decide) rfl (by rcases hz with q | q; exact Or.inl (congrArg iI q); exact Or.inr (congrArg iI q)) ⟨ok__16, sp2__17, ce2__18, da2__19, dc2__20, dk2__21, dn2__22, rfl, rfl, (by first | exact hg9 | exact (go_head hdr).1 (by omega) | exact (go_head hdr).2 (by omega) | exact (go_mark hdr).1 (by omega) | exact (go_mark hdr).2 (by omega) | exact go_dash hdr (by omega)), (by first | exact hk9 | exact ⟨hdk, hdn⟩)⟩ dX3_goesOnWith_121
    · skip
      refine g_iconst C dX3_goesOnWith_94 ?_
      refine g_goto C 99 dX3_goesOnWith_95 (by decide) ?_
      refine g_put C hw [oX3 h a sp ce 1, oX4 (a 0) b dc, cA G (b 1) 4 dk, cA G (b 2) 12 dn] hin_X3_goesOnWith_X3 tyX3 tyX3_ok nmX3 0 rfl rfl 3 (by decide) lk_X3_goesOnWith_32 rfl rfl (by decide +kernel) (by decide +kernel) (Nat.le_of_ble_eq_true rfl) rfl dX3_goesOnWith_99 ?_
      clear hw
      intro H locs hw
      refine g_aload_n C hl 0 rfl rfl dX3_goesOnWith_102 ?_
      refine g_get C hw hin_X3_goesOnWith_X3 0 rfl rfl 3 (by decide) lk_X3_goesOnWith_32 rfl dX3_goesOnWith_103 ?_
      refine g_if_eq C 116 dX3_goesOnWith_106 (by decide) (by decide) (fun c_25 => absurd c_25 (by decide)) (fun c_25 => ?_)
      refine g_aload_n C hl 0 rfl rfl dX3_goesOnWith_109 ?_
      refine g_iconst C dX3_goesOnWith_110 ?_
      refine g_put C hw [oX3 h a 4 ce 1, oX4 (a 0) b dc, cA G (b 1) 4 dk, cA G (b 2) 12 dn] hin_X3_goesOnWith_X3 tyX3 tyX3_ok nmX3 0 rfl rfl 1 (by decide) lk_X3_goesOnWith_22 rfl rfl rfl rfl (Nat.le_of_ble_eq_true rfl) rfl dX3_goesOnWith_111 ?_
      clear hw
      intro H locs hw
      refine g_iconst C dX3_goesOnWith_114 ?_
      exact g_zret C hr (ws' := [oX3 h a 4 ce 1, oX4 (a 0) b dc, cA G (b 1) 4 dk, cA G (b 2) 12 dn]) hw [0, 1, 2, 3] (by decide) rfl (Or.inr rfl) ⟨1, 4, ce, 1, dc, dk, dn, rfl, rfl, (by first | exact hg9 | exact (go_head hdr).1 (by omega) | exact (go_head hdr).2 (by omega) | exact (go_mark hdr).1 (by omega) | exact (go_mark hdr).2 (by omega) | exact go_dash hdr (by omega)), (by first | exact hk9 | exact ⟨hdk, hdn⟩)⟩ dX3_goesOnWith_115
  · skip
    refine g_tabOut C 122 (by omega) dX3_goesOnWith_4 (by omega) (by decide) ?_
    have hs9 : sq = 4 := by omega
    subst hs9
    refine g_aload_n C hl 0 rfl rfl dX3_goesOnWith_122 ?_
    refine g_iload_n C hl 1 rfl rfl dX3_goesOnWith_123 ?_
    refine g_callVi C hw (wr := []) (As := [.int (iI cc0)]) (rest := []) (m_X3_takesDigit l D G (h := h) (a := a) (sp := sp) (ce := ce) (da := da) (b := b) (dc := dc) (dk := dk) (dn := dn) (sq := 4) (kn := kn) (vs := vs) (acc := acc) (cc0 := cc0) (by first | assumption | omega) (by exact hdr) (by first | assumption | omega) (by first | assumption | omega) (by first | assumption | omega) (by first | assumption | omega) (by first | assumption | omega)) (cwV 1 C.1.2.2.2.2 gX3_goesOnWith_X3_takesDigit rfl rfl rfl (by decide +kernel) ⟨Nat.le_of_ble_eq_true rfl, Nat.le_of_ble_eq_true rfl⟩) [0, 1, 2, 3] [] rfl rfl (by decide) (by decide) (by decide) 0 rfl rfl rfl hl.1 _ rfl (Nat.le_of_ble_eq_true rfl) dX3_goesOnWith_124 ⟨Nat.le_of_ble_eq_true rfl, Nat.le_of_ble_eq_true rfl⟩ ?_
    clear hw
    rintro _ _ H locs ⟨ok__26, sp2__27, ce2__28, da2__29, dc2__30, dk2__31, dn2__32, rfl, rfl, hp_33, hp_34⟩ hw
    have hw : gW D A s.heap [oX3 h a sp2__27 ce2__28 da2__29, oX4 (a 0) b dc2__30, cA G (b 1) 4 dk2__31, cA G (b 2) 12 dn2__32] H locs := hw
    have hp_33 : goP cc0 4 kn vs acc ok__26 sp2__27 ce2__28 da2__29 dc2__30 dk2__31 dn2__32 := hp_33
    have hp_34 : kdOK dk2__31 ∧ nuOK dn2__32 := hp_34
    have hz := go_r hp_33
    have hg9 := hp_33
    have hk9 := hp_34
    exact g_zret C hr (ws' := [oX3 h a sp2__27 ce2__28 da2__29, oX4 (a 0) b dc2__30, cA G (b 1) 4 dk2__31, cA G (b 2) 12 dn2__32]) hw [0, 1, 2, 3] (by decide) rfl (by rcases hz with q | q; exact Or.inl (congrArg iI q); exact Or.inr (congrArg iI q)) ⟨ok__26, sp2__27, ce2__28, da2__29, dc2__30, dk2__31, dn2__32, rfl, rfl, (by first | exact hg9 | exact (go_head hdr).1 (by omega) | exact (go_head hdr).2 (by omega) | exact (go_mark hdr).1 (by omega) | exact (go_mark hdr).2 (by omega) | exact go_dash hdr (by omega)), (by first | exact hk9 | exact ⟨hdk, hdn⟩)⟩ dX3_goesOnWith_127

set_option maxRecDepth 20000 in
theorem hin_X3_firstFault_X3 : ∀ w ∈ u_ws RX3 TX3 4, w ∈ wsX3_firstFault := by
  intro w h
  exact List.mem_cons_of_mem _ (List.mem_append_left _ (List.mem_append_right _ (h)))
set_option maxRecDepth 20000 in
theorem lk_X3_firstFault_12 : Cond.fieldLink RX3 12 (TX3 0).1 (TX3 0).2.1 (TX3 0).2.2.1 ∈ wsX3_firstFault := List.mem_cons_of_mem _ (List.mem_append_left _ (List.mem_append_left _ (List.mem_of_getElem? (i := 0) rfl)))
set_option maxRecDepth 20000 in
theorem hin_X3_firstFault_X4 : ∀ w ∈ u_ws RX4 TX4 3, w ∈ wsX3_firstFault := by
  intro w h
  exact List.mem_cons_of_mem _ (List.mem_append_right _ (h))
set_option maxRecDepth 20000 in
theorem lk_X3_firstFault_18 : Cond.fieldLink RX3 18 (TX4 0).1 (TX4 0).2.1 (TX4 0).2.2.1 ∈ wsX3_firstFault := List.mem_cons_of_mem _ (List.mem_append_left _ (List.mem_append_left _ (List.mem_of_getElem? (i := 1) rfl)))
set_option maxRecDepth 20000 in
theorem lk_X3_firstFault_22 : Cond.fieldLink RX3 22 (TX3 1).1 (TX3 1).2.1 (TX3 1).2.2.1 ∈ wsX3_firstFault := List.mem_cons_of_mem _ (List.mem_append_left _ (List.mem_append_left _ (List.mem_of_getElem? (i := 2) rfl)))
set_option maxRecDepth 100000 in
set_option maxHeartbeats 8000000 in
theorem m_X3_firstFault (l : Launch) (D : va_G) (G : gT) (h : Nat) (a : Nat → Nat) (sp : Int) (ce : Int) (da : Int) (b : Nat → Nat) (dc : Int) (dk : Int → Int) (dn : Int → Int) (ca : Nat) (zn : Nat) (g : Int → Int) (cd : Int → Int) (fr : Int) (nn : Int) (hdk : kdOK dk) (hdn : nuOK dn) (hnn : 0 ≤ nn) (hfr : 0 ≤ fr ∧ fr + nn ≤ zn) (hzn : zn ≤ 60) (hcd : ∀ x, 0 ≤ x → x < nn → cd x = g (fr + x)) (hcr : ∀ x, -2147483648 ≤ cd x ∧ cd x ≤ 2147483647) : gMi l yX3_firstFault wsX3_firstFault ({ frames := 2, cells := 0, slots := 0, locals := 43 }) D G [.ref h, .ref ca, .int (iI fr), .int (iI nn)] [oX3 h a sp ce da, oX4 (a 0) b dc, cA G (b 1) 4 dk, cA G (b 2) 12 dn, cA G ca zn g] 0 0 (fun (r : Int32) (w : va_W) => ∃ (sp2 : Int) (ce2 : Int) (da2 : Int) (dc2 : Int) (dk2 : Int → Int) (dn2 : Int → Int), r = (iI ((RUN cd nn 0 0 0 [] []).1)) ∧ w = [oX3 h a sp2 ce2 da2, oX4 (a 0) b dc2, cA G (b 1) 4 dk2, cA G (b 2) 12 dn2, cA G ca zn g] ∧ ((RUN cd nn 0 0 0 [] []).1 = -9 → dc2 = ((RUN cd nn 0 0 0 [] []).2.length : Int) ∧ hasP dk2 dn2 (RUN cd nn 0 0 0 [] []).2) ∧ (kdOK dk2 ∧ nuOK dn2)) := by
  refine g_start_i (cc := cX3_firstFault) (nL := 5) (own := RX3) (ret := some .int) (by decide +kernel) rfl rfl (Nat.le_of_ble_eq_true rfl) ?_
  intro p e s m below meth c A ls C hr hnm hw hl
  have hl : lv_has ls 5 [(0, .ref h), (1, .ref ca), (2, .int (iI fr)), (3, .int (iI nn))] := hl
  refine g_aload_n C hl 0 rfl rfl dX3_firstFault_0 ?_
  refine g_get C hw hin_X3_firstFault_X3 0 rfl rfl 0 (by decide) lk_X3_firstFault_12 rfl dX3_firstFault_1 ?_
  refine g_iconst C dX3_firstFault_4 ?_
  refine g_put C hw [oX3 h a sp ce da, oX4 (a 0) b 0, cA G (b 1) 4 dk, cA G (b 2) 12 dn, cA G ca zn g] hin_X3_firstFault_X4 tyX4 tyX4_ok nmX4 1 rfl rfl 0 (by decide) lk_X3_firstFault_18 rfl rfl rfl rfl (Nat.le_of_ble_eq_true rfl) rfl dX3_firstFault_5 ?_
  clear hw
  intro H locs hw
  refine g_aload_n C hl 0 rfl rfl dX3_firstFault_8 ?_
  refine g_iconst C dX3_firstFault_9 ?_
  refine g_put C hw [oX3 h a 0 ce da, oX4 (a 0) b 0, cA G (b 1) 4 dk, cA G (b 2) 12 dn, cA G ca zn g] hin_X3_firstFault_X3 tyX3 tyX3_ok nmX3 0 rfl rfl 1 (by decide) lk_X3_firstFault_22 rfl rfl rfl rfl (Nat.le_of_ble_eq_true rfl) rfl dX3_firstFault_10 ?_
  clear hw
  intro H locs hw
  refine g_iconst C dX3_firstFault_13 ?_
  refine g_istore C [(4, .int (iI 0)), (0, .ref h), (1, .ref ca), (2, .int (iI fr)), (3, .int (iI nn))] dX3_firstFault_14 hl (by decide) rfl ?_
  clear hl
  intro ls hl
  refine g_loop (σ := (Int) × (Int) × (Int) × (Int) × (Int) × (Int → Int) × (Int → Int)) (fun z_ => [oX3 h a z_.2.1 z_.2.2.1 z_.2.2.2.1, oX4 (a 0) b z_.2.2.2.2.1, cA G (b 1) 4 z_.2.2.2.2.2.1, cA G (b 2) 12 z_.2.2.2.2.2.2, cA G ca zn g]) (fun z_ => [(4, .int (iI (z_.1))), (0, .ref h), (1, .ref ca), (2, .int (iI fr)), (3, .int (iI nn))]) (fun z_ => (0 ≤ z_.1 ∧ z_.1 ≤ nn) ∧ (drI cd nn z_.1 z_.2.1 z_.2.2.1 z_.2.2.2.1 z_.2.2.2.2.1 z_.2.2.2.2.2.1 z_.2.2.2.2.2.2) ∧ (kdOK z_.2.2.2.2.2.1) ∧ (nuOK z_.2.2.2.2.2.2)) (fun z_ => (nn - z_.1).toNat) (0, 0, ce, da, 0, dk, dn) ⟨by (try dsimp only); omega, by (try dsimp only); exact dr_start, by (try dsimp only); exact hdk, by (try dsimp only); exact hdn⟩ hw (lv_sub hl [0, 1, 2, 3, 4] rfl) ?_
  clear hw hl
  rintro ⟨xx, sp1, ce1, da1, dc1, dk1, dn1⟩ ⟨hxx, hdr, hk1, hn1⟩ H locs ls hw hl ih_1
  replace hxx : 0 ≤ xx ∧ xx ≤ nn := hxx
  replace hdr : drI cd nn xx sp1 ce1 da1 dc1 dk1 dn1 := hdr
  replace hk1 : kdOK dk1 := hk1
  replace hn1 : nuOK dn1 := hn1
  replace hw : gW D A s.heap [oX3 h a sp1 ce1 da1, oX4 (a 0) b dc1, cA G (b 1) 4 dk1, cA G (b 2) 12 dn1, cA G ca zn g] H locs := hw
  replace hl : lv_has ls 5 [(4, .int (iI xx)), (0, .ref h), (1, .ref ca), (2, .int (iI fr)), (3, .int (iI nn))] := hl
  replace ih_1 : ∀ (xx' : Int) (sp1' : Int) (ce1' : Int) (da1' : Int) (dc1' : Int) (dk1' : Int → Int) (dn1' : Int → Int), ((0 ≤ xx' ∧ xx' ≤ nn) ∧ (drI cd nn xx' sp1' ce1' da1' dc1' dk1' dn1') ∧ (kdOK dk1') ∧ (nuOK dn1')) → ((nn - xx').toNat) < ((nn - xx).toNat) → ∀ (H : Heap) (locs : List Loc) (ls : Array Slot), gW D A s.heap [oX3 h a sp1' ce1' da1', oX4 (a 0) b dc1', cA G (b 1) 4 dk1', cA G (b 2) 12 dn1', cA G ca zn g] H locs → lv_has ls 5 [(4, .int (iI (xx'))), (0, .ref h), (1, .ref ca), (2, .int (iI fr)), (3, .int (iI nn))] → W p l e _ s m _ below meth c H locs _ _ _ (F0 m 16 ls []) := fun xx' sp1' ce1' da1' dc1' dk1' dn1' => ih_1 (xx', sp1', ce1', da1', dc1', dk1', dn1')
  obtain ⟨st9, kn9, vs9, ac9, hd9, hr9⟩ := id hdr
  obtain ⟨d1, d2, d3, d4, d5, d6⟩ := dr_f hd9
  have hc9 := hcr xx
  refine g_iload C hl 0 rfl dX3_firstFault_16 ?_
  refine g_iload_n C hl 4 rfl rfl dX3_firstFault_18 ?_
  refine g_icmp_ge C 44 dX3_firstFault_19 (by decide) (by omega) (by omega) (fun c_2 => ?_) (fun c_2 => ?_)
  · skip
    have hxe : xx = nn := by omega
    rw [hxe] at hdr
    have hend := dr_end hdr
    refine g_aload_n C hl 1 rfl rfl dX3_firstFault_44 ?_
    refine g_get C hw hin_X3_firstFault_X3 0 rfl rfl 1 (by decide) lk_X3_firstFault_22 rfl dX3_firstFault_45 ?_
    refine g_iconst C dX3_firstFault_48 ?_
    refine g_icmp_ne C 67 dX3_firstFault_49 (by decide) (by omega) (by omega) (fun c_3 => ?_) (fun c_3 => ?_)
    · skip
      refine g_iload_n C hl 4 rfl rfl dX3_firstFault_67 ?_
      exact g_iret C hr (ws' := [oX3 h a sp1 ce1 da1, oX4 (a 0) b dc1, cA G (b 1) 4 dk1, cA G (b 2) 12 dn1, cA G ca zn g]) hw [0, 1, 2, 3, 4] (by decide) rfl ⟨sp1, ce1, da1, dc1, dk1, dn1, (congrArg iI (by first | (have := hend.1 (by omega); omega) | (have := hend.2 (by omega); omega))), rfl, (by first | (intro q9; rw [hru] at q9; exfalso; revert q9; show ¬ xx = -9; omega) | exact fun _ => (hend.1 (by omega)).2 | (intro q9; exfalso; have := hend.2 (by omega); omega)), (by first | exact hkk9 | exact ⟨hk1, hn1⟩)⟩ dX3_firstFault_68
    · skip
      refine g_aload_n C hl 1 rfl rfl dX3_firstFault_52 ?_
      refine g_get C hw hin_X3_firstFault_X3 0 rfl rfl 0 (by decide) lk_X3_firstFault_12 rfl dX3_firstFault_53 ?_
      refine g_get C hw hin_X3_firstFault_X4 1 rfl rfl 0 (by decide) lk_X3_firstFault_18 rfl dX3_firstFault_56 ?_
      refine g_if_le C 67 dX3_firstFault_59 (by decide) (by omega) (fun c_4 => ?_) (fun c_4 => ?_)
      · skip
        refine g_iload_n C hl 4 rfl rfl dX3_firstFault_67 ?_
        exact g_iret C hr (ws' := [oX3 h a sp1 ce1 da1, oX4 (a 0) b dc1, cA G (b 1) 4 dk1, cA G (b 2) 12 dn1, cA G ca zn g]) hw [0, 1, 2, 3, 4] (by decide) rfl ⟨sp1, ce1, da1, dc1, dk1, dn1, (congrArg iI (by first | (have := hend.1 (by omega); omega) | (have := hend.2 (by omega); omega))), rfl, (by first | (intro q9; rw [hru] at q9; exfalso; revert q9; show ¬ xx = -9; omega) | exact fun _ => (hend.1 (by omega)).2 | (intro q9; exfalso; have := hend.2 (by omega); omega)), (by first | exact hkk9 | exact ⟨hk1, hn1⟩)⟩ dX3_firstFault_68
      · skip
        refine g_bipush C dX3_firstFault_62 (by decide) ?_
        refine g_goto C 68 dX3_firstFault_64 (by decide) ?_
        exact g_iret C hr (ws' := [oX3 h a sp1 ce1 da1, oX4 (a 0) b dc1, cA G (b 1) 4 dk1, cA G (b 2) 12 dn1, cA G ca zn g]) hw [0, 1, 2, 3, 4] (by decide) rfl ⟨sp1, ce1, da1, dc1, dk1, dn1, (congrArg iI (by first | (have := hend.1 (by omega); omega) | (have := hend.2 (by omega); omega))), rfl, (by first | (intro q9; rw [hru] at q9; exfalso; revert q9; show ¬ xx = -9; omega) | exact fun _ => (hend.1 (by omega)).2 | (intro q9; exfalso; have := hend.2 (by omega); omega)), (by first | exact hkk9 | exact ⟨hk1, hn1⟩)⟩ dX3_firstFault_68
  · skip
    refine g_aload_n C hl 1 rfl rfl dX3_firstFault_22 ?_
    refine g_aload_n C hl 2 rfl rfl dX3_firstFault_23 ?_
    refine g_iload_n C hl 3 rfl rfl dX3_firstFault_24 ?_
    refine g_iload C hl 0 rfl dX3_firstFault_25 ?_
    refine g_iadd C dX3_firstFault_27 ?_
    refine g_iald C hw 4 rfl (by omega) (by omega) dX3_firstFault_28 ?_
    refine g_nI (show (g (fr + xx) : Int) = cd xx by exact (hcd xx hxx.1 (by omega)).symm) ?_
    refine g_callVi C hw (wr := [cA G ca zn g]) (As := [.int (iI (cd xx))]) (rest := []) (m_X3_goesOnWith l D G (h := h) (a := a) (sp := sp1) (ce := ce1) (da := da1) (b := b) (dc := dc1) (dk := dk1) (dn := dn1) (sq := st9) (kn := kn9) (vs := vs9) (acc := ac9) (cc0 := (cd xx)) (by exact hc9) (by exact hd9) (by first | assumption | omega) (by first | assumption | omega)) (cwV 1 C.1.2.2.2.2 gX3_firstFault_X3_goesOnWith rfl rfl rfl (by decide +kernel) ⟨Nat.le_of_ble_eq_true rfl, Nat.le_of_ble_eq_true rfl⟩) [0, 1, 2, 3] [4] rfl rfl (by decide) (by decide) (by decide) 0 rfl rfl rfl hl.1 _ rfl (Nat.le_of_ble_eq_true rfl) dX3_firstFault_29 ⟨Nat.le_of_ble_eq_true rfl, Nat.le_of_ble_eq_true rfl⟩ ?_
    clear hw
    rintro _ _ H locs ⟨okN, sp2__5, ce2__6, da2__7, dc2__8, dk2__9, dn2__10, rfl, rfl, hp_11, hp_12⟩ hw
    have hw : gW D A s.heap [cA G ca zn g, oX3 h a sp2__5 ce2__6 da2__7, oX4 (a 0) b dc2__8, cA G (b 1) 4 dk2__9, cA G (b 2) 12 dn2__10] H locs := hw
    have hp_11 : goP (cd xx) st9 kn9 vs9 ac9 okN sp2__5 ce2__6 da2__7 dc2__8 dk2__9 dn2__10 := hp_11
    have hp_12 : kdOK dk2__9 ∧ nuOK dn2__10 := hp_12
    have hgo := hp_11
    have hkk9 := hp_12
    have hz := go_r hgo
    have hdst := dr_step (by omega) hr9 hgo
    refine g_if_ne C 38 dX3_firstFault_32 (by decide) (by omega) (fun c_13 => ?_) (fun c_13 => ?_)
    · skip
      refine g_iinc C [(4, .int (iI (xx + 1))), (0, .ref h), (1, .ref ca), (2, .int (iI fr)), (3, .int (iI nn))] 0 dX3_firstFault_38 hl rfl (by decide) rfl ?_
      clear hl
      intro ls hl
      refine g_goto C 16 dX3_firstFault_41 (by decide) ?_
      have hw : gW D A s.heap [oX3 h a sp2__5 ce2__6 da2__7, oX4 (a 0) b dc2__8, cA G (b 1) 4 dk2__9, cA G (b 2) 12 dn2__10, cA G ca zn g] H locs := g_perm hw [1, 2, 3, 4, 0] (by decide) rfl
      exact ih_1 (xx + 1) sp2__5 ce2__6 da2__7 dc2__8 dk2__9 dn2__10 ⟨by omega, by exact hdst.2 (by omega), by exact hkk9.1, by exact hkk9.2⟩ (by omega) H locs ls hw (lv_sub hl [0, 1, 2, 3, 4] rfl)
    · skip
      have hru := hdst.1 (by omega)
      obtain ⟨f1, f2, f3⟩ : 0 ≤ 0 ∧ True ∧ True := ⟨by omega, trivial, trivial⟩
      refine g_iload C hl 0 rfl dX3_firstFault_35 ?_
      exact g_iret C hr (ws' := [oX3 h a sp2__5 ce2__6 da2__7, oX4 (a 0) b dc2__8, cA G (b 1) 4 dk2__9, cA G (b 2) 12 dn2__10, cA G ca zn g]) hw [1, 2, 3, 4, 0] (by decide) rfl ⟨sp2__5, ce2__6, da2__7, dc2__8, dk2__9, dn2__10, (congrArg iI (by rw [hru])), rfl, (by first | (intro q9; rw [hru] at q9; exfalso; revert q9; show ¬ xx = -9; omega) | exact fun _ => (hend.1 (by omega)).2 | (intro q9; exfalso; have := hend.2 (by omega); omega)), (by first | exact hkk9 | exact ⟨hk1, hn1⟩)⟩ dX3_firstFault_37

set_option maxRecDepth 20000 in
theorem hin_X2_cut_X2 : ∀ w ∈ u_ws RX2 TX2 2, w ∈ wsX2_cut := by
  intro w h
  exact List.mem_cons_of_mem _ (List.mem_append_right _ (h))
set_option maxRecDepth 20000 in
theorem lk_X2_cut_9 : Cond.fieldLink RX2 9 (TX2 0).1 (TX2 0).2.1 (TX2 0).2.2.1 ∈ wsX2_cut := List.mem_cons_of_mem _ (List.mem_append_left _ (List.mem_of_getElem? (i := 0) rfl))
set_option maxRecDepth 100000 in
set_option maxHeartbeats 8000000 in
theorem m_X2_cut (l : Launch) (D : va_G) (G : gT) (h : Nat) (a : Nat → Nat) (la : Int) (vv : Int) (hla : 0 ≤ la ∧ la ≤ 2) : gMi l yX2_cut wsX2_cut ({ frames := 0, cells := 0, slots := 0, locals := 0 }) D G [.ref h, .int (iI vv)] [oX2 h a la] 0 0 (fun (r : Int32) (w : va_W) => r = (iI (cutF la vv)) ∧ w = [oX2 h a la]) := by
  refine g_start_i (cc := cX2_cut) (nL := 2) (own := RX2) (ret := some .int) (by decide +kernel) rfl rfl (Nat.le_of_ble_eq_true rfl) ?_
  intro p e s m below meth c A ls C hr hnm hw hl
  have hl : lv_has ls 2 [(0, .ref h), (1, .int (iI vv))] := hl
  refine g_aload_n C hl 0 rfl rfl dX2_cut_0 ?_
  refine g_get C hw hin_X2_cut_X2 0 rfl rfl 0 (by decide) lk_X2_cut_9 rfl dX2_cut_1 ?_
  refine g_if_ne C 10 dX2_cut_4 (by decide) (by omega) (fun c_1 => ?_) (fun c_1 => ?_)
  · skip
    refine g_aload_n C hl 0 rfl rfl dX2_cut_10 ?_
    refine g_get C hw hin_X2_cut_X2 0 rfl rfl 0 (by decide) lk_X2_cut_9 rfl dX2_cut_11 ?_
    refine g_iconst C dX2_cut_14 ?_
    refine g_icmp_ne C 23 dX2_cut_15 (by decide) (by omega) (by omega) (fun c_2 => ?_) (fun c_2 => ?_)
    · skip
      refine g_iload_n C hl 1 rfl rfl dX2_cut_23 ?_
      exact g_iret C hr (ws' := [oX2 h a la]) hw [0] (by decide) rfl ⟨(congrArg iI (by unfold cutF; (repeat' split) <;> first | rfl | omega)), rfl⟩ dX2_cut_24
    · skip
      refine g_iload_n C hl 1 rfl rfl dX2_cut_18 ?_
      refine g_i2s C dX2_cut_19 ?_
      refine g_topi (show ((((iI vv)).toInt16.toInt32) : Int32) = (iI (cuS vv)) by exact iI_of _) ?_
      refine g_goto C 24 dX2_cut_20 (by decide) ?_
      exact g_iret C hr (ws' := [oX2 h a la]) hw [0] (by decide) rfl ⟨(congrArg iI (by unfold cutF; (repeat' split) <;> first | rfl | omega)), rfl⟩ dX2_cut_24
  · skip
    refine g_iload_n C hl 1 rfl rfl dX2_cut_7 ?_
    refine g_i2b C dX2_cut_8 ?_
    exact g_iret C hr (ws' := [oX2 h a la]) hw [0] (by decide) rfl ⟨(by unfold cutF; rw [if_pos (by omega)]; exact iI_of _), rfl⟩ dX2_cut_9

set_option maxRecDepth 20000 in
theorem hin_X2_hasCells_X2 : ∀ w ∈ u_ws RX2 TX2 2, w ∈ wsX2_hasCells := by
  intro w h
  exact List.mem_cons_of_mem _ (List.mem_append_right _ (h))
set_option maxRecDepth 20000 in
theorem lk_X2_hasCells_15 : Cond.fieldLink RX2 15 (TX2 1).1 (TX2 1).2.1 (TX2 1).2.2.1 ∈ wsX2_hasCells := List.mem_cons_of_mem _ (List.mem_append_left _ (List.mem_of_getElem? (i := 0) rfl))
set_option maxRecDepth 100000 in
set_option maxHeartbeats 8000000 in
theorem m_X2_hasCells (l : Launch) (D : va_G) (G : gT) (h : Nat) (a : Nat → Nat) (la : Int) (zn : Nat) (g : Int → Int) (ii : Int) (nn : Int) (hzn : zn ≤ 60) (hi : -2147483648 ≤ ii ∧ ii ≤ 2147483647) (hn : -2147483648 ≤ nn ∧ nn ≤ 2147483647) : gMi l yX2_hasCells wsX2_hasCells ({ frames := 0, cells := 0, slots := 0, locals := 0 }) D G [.ref h, .int (iI ii), .int (iI nn)] [oX2 h a la, cA G (a 1) zn g] 0 0 (fun (r : Int32) (w : va_W) => r = (iI (bI (0 ≤ ii ∧ ii ≤ (zn : Int) ∧ 0 ≤ nn ∧ nn ≤ (zn : Int) - ii))) ∧ w = [oX2 h a la, cA G (a 1) zn g]) := by
  refine g_start_i (cc := cX2_hasCells) (nL := 3) (own := RX2) (ret := some .boolean) (by decide +kernel) rfl rfl (Nat.le_of_ble_eq_true rfl) ?_
  intro p e s m below meth c A ls C hr hnm hw hl
  have hl : lv_has ls 3 [(0, .ref h), (1, .int (iI ii)), (2, .int (iI nn))] := hl
  refine g_iload_n C hl 1 rfl rfl dX2_hasCells_0 ?_
  refine g_if_lt C 32 dX2_hasCells_1 (by decide) (by omega) (fun c_1 => ?_) (fun c_1 => ?_)
  · skip
    refine g_iconst C dX2_hasCells_32 ?_
    exact g_zret C hr (ws' := [oX2 h a la, cA G (a 1) zn g]) hw [0, 1] (by decide) rfl (Or.inl rfl) ⟨(congrArg iI (by first | rfl | omega | (simp only [bI]; (repeat' split) <;> omega) | (simp_all [bI]; done) | (simp_all [bI]; omega))), rfl⟩ dX2_hasCells_33
  · skip
    refine g_iload_n C hl 1 rfl rfl dX2_hasCells_4 ?_
    refine g_aload_n C hl 0 rfl rfl dX2_hasCells_5 ?_
    refine g_get C hw hin_X2_hasCells_X2 0 rfl rfl 1 (by decide) lk_X2_hasCells_15 rfl dX2_hasCells_6 ?_
    refine g_alen C hw 1 rfl dX2_hasCells_9 ?_
    refine g_icmp_gt C 32 dX2_hasCells_10 (by decide) (by omega) (by omega) (fun c_2 => ?_) (fun c_2 => ?_)
    · skip
      refine g_iconst C dX2_hasCells_32 ?_
      exact g_zret C hr (ws' := [oX2 h a la, cA G (a 1) zn g]) hw [0, 1] (by decide) rfl (Or.inl rfl) ⟨(congrArg iI (by first | rfl | omega | (simp only [bI]; (repeat' split) <;> omega) | (simp_all [bI]; done) | (simp_all [bI]; omega))), rfl⟩ dX2_hasCells_33
    · skip
      refine g_iload_n C hl 2 rfl rfl dX2_hasCells_13 ?_
      refine g_if_lt C 32 dX2_hasCells_14 (by decide) (by omega) (fun c_3 => ?_) (fun c_3 => ?_)
      · skip
        refine g_iconst C dX2_hasCells_32 ?_
        exact g_zret C hr (ws' := [oX2 h a la, cA G (a 1) zn g]) hw [0, 1] (by decide) rfl (Or.inl rfl) ⟨(congrArg iI (by first | rfl | omega | (simp only [bI]; (repeat' split) <;> omega) | (simp_all [bI]; done) | (simp_all [bI]; omega))), rfl⟩ dX2_hasCells_33
      · skip
        refine g_iload_n C hl 2 rfl rfl dX2_hasCells_17 ?_
        refine g_aload_n C hl 0 rfl rfl dX2_hasCells_18 ?_
        refine g_get C hw hin_X2_hasCells_X2 0 rfl rfl 1 (by decide) lk_X2_hasCells_15 rfl dX2_hasCells_19 ?_
        refine g_alen C hw 1 rfl dX2_hasCells_22 ?_
        refine g_iload_n C hl 1 rfl rfl dX2_hasCells_23 ?_
        refine g_isub C dX2_hasCells_24 ?_
        refine g_icmp_gt C 32 dX2_hasCells_25 (by decide) (by omega) (by omega) (fun c_4 => ?_) (fun c_4 => ?_)
        · skip
          refine g_iconst C dX2_hasCells_32 ?_
          exact g_zret C hr (ws' := [oX2 h a la, cA G (a 1) zn g]) hw [0, 1] (by decide) rfl (Or.inl rfl) ⟨(congrArg iI (by first | rfl | omega | (simp only [bI]; (repeat' split) <;> omega) | (simp_all [bI]; done) | (simp_all [bI]; omega))), rfl⟩ dX2_hasCells_33
        · skip
          refine g_iconst C dX2_hasCells_28 ?_
          refine g_goto C 33 dX2_hasCells_29 (by decide) ?_
          exact g_zret C hr (ws' := [oX2 h a la, cA G (a 1) zn g]) hw [0, 1] (by decide) rfl (Or.inr rfl) ⟨(congrArg iI (by first | rfl | omega | (simp only [bI]; (repeat' split) <;> omega) | (simp_all [bI]; done) | (simp_all [bI]; omega))), rfl⟩ dX2_hasCells_33
