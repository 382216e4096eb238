set_option maxRecDepth 100000 in
set_option maxHeartbeats 8000000 in
theorem m_X5_areActs (l : Launch) (D : va_G) (G : gT) (ca : Nat) (zn : Nat) (gg : Int → Int) (ce : Int → Int) (fb : Int) (fr : Int) (mm : Int) (hzn : zn ≤ 60) (hmm : 0 ≤ mm ∧ mm ≤ 20) (hfr : 0 ≤ fr ∧ fr + 3 * mm ≤ zn) (hce : ∀ j, 0 ≤ j → j < 3 * mm → gg (fr + j) = ce (fb + j) ∧ -2147483648 ≤ gg (fr + j) ∧ gg (fr + j) ≤ 2147483647) : gMi l yX5_areActs wsX5_areActs ({ frames := 1, cells := 0, slots := 0, locals := 21 }) D G [.ref ca, .int (iI fr), .int (iI mm)] [cA G ca zn gg] 0 0 (fun (r : Int32) (w : va_W) => r = (iI (bI (allB (dcP ce fb) mm.toNat = true))) ∧ w = [cA G ca zn gg]) := by
  refine g_start_i (cc := cX5_areActs) (nL := 5) (own := RX5) (ret := some .boolean) (by decide +kernel) rfl rfl (Nat.le_of_ble_eq_true rfl) ?_
  intro p e s m below meth c A ls C hr hnm hw hl
  have hl : lv_has ls 5 [(0, .ref ca), (1, .int (iI fr)), (2, .int (iI mm))] := hl
  refine g_iconst C dX5_areActs_0 ?_
  refine g_istore_n C [(3, .int (iI 0)), (0, .ref ca), (1, .int (iI fr)), (2, .int (iI mm))] dX5_areActs_1 rfl hl (by decide) rfl ?_
  clear hl
  intro ls hl
  refine g_loop (σ := (Int)) (fun z_ => [cA G ca zn gg]) (fun z_ => [(3, .int (iI z_)), (0, .ref ca), (1, .int (iI fr)), (2, .int (iI mm))]) (fun z_ => (0 ≤ z_ ∧ z_ ≤ mm) ∧ (allB (dcP ce fb) z_.toNat = true)) (fun z_ => (mm - z_).toNat) 0 ⟨by (try dsimp only); omega, by (try dsimp only); rfl⟩ hw (lv_sub hl [0, 1, 2, 3] rfl) ?_
  clear hw hl
  rintro xx ⟨hxx, hal⟩ H locs ls hw hl ih_1
  replace hxx : 0 ≤ xx ∧ xx ≤ mm := hxx
  replace hal : allB (dcP ce fb) xx.toNat = true := hal
  replace hw : gW D A s.heap [cA G ca zn gg] H locs := hw
  replace hl : lv_has ls 5 [(3, .int (iI xx)), (0, .ref ca), (1, .int (iI fr)), (2, .int (iI mm))] := hl
  replace ih_1 : ∀ (xx' : Int), ((0 ≤ xx' ∧ xx' ≤ mm) ∧ (allB (dcP ce fb) xx'.toNat = true)) → ((mm - xx').toNat) < ((mm - xx).toNat) → ∀ (H : Heap) (locs : List Loc) (ls : Array Slot), gW D A s.heap [cA G ca zn gg] H locs → lv_has ls 5 [(3, .int (iI (xx'))), (0, .ref ca), (1, .int (iI fr)), (2, .int (iI mm))] → W p l e _ s m _ below meth c H locs _ _ _ (F0 m 2 ls []) := fun xx' => ih_1 xx'
  have c0 : xx < mm → gg (fr + xx * 3) = ce (fb + 3 * xx) ∧ -2147483648 ≤ gg (fr + xx * 3) ∧ gg (fr + xx * 3) ≤ 2147483647 := fun hlt => (by have q9 := hce (3 * xx) (by omega) (by omega); rw [show fr + 3 * xx = fr + xx * 3 by omega] at q9; exact q9)
  have c1 : xx < mm → gg (fr + xx * 3 + 1) = ce (fb + 3 * xx + 1) ∧ -2147483648 ≤ gg (fr + xx * 3 + 1) ∧ gg (fr + xx * 3 + 1) ≤ 2147483647 := fun hlt => (by have q9 := hce (3 * xx + 1) (by omega) (by omega); rw [show fr + (3 * xx + 1) = fr + xx * 3 + 1 by omega, show fb + (3 * xx + 1) = fb + 3 * xx + 1 by omega] at q9; exact q9)
  have c2 : xx < mm → gg (fr + xx * 3 + 2) = ce (fb + 3 * xx + 2) ∧ -2147483648 ≤ gg (fr + xx * 3 + 2) ∧ gg (fr + xx * 3 + 2) ≤ 2147483647 := fun hlt => (by have q9 := hce (3 * xx + 2) (by omega) (by omega); rw [show fr + (3 * xx + 2) = fr + xx * 3 + 2 by omega, show fb + (3 * xx + 2) = fb + 3 * xx + 2 by omega] at q9; exact q9)
  refine g_iload_n C hl 0 rfl rfl dX5_areActs_2 ?_
  refine g_iload_n C hl 3 rfl rfl dX5_areActs_3 ?_
  refine g_icmp_ge C 47 dX5_areActs_4 (by decide) (by omega) (by omega) (fun c_2 => ?_) (fun c_2 => ?_)
  · skip
    refine g_iconst C dX5_areActs_47 ?_
    exact g_zret C hr (ws' := [cA G ca zn gg]) hw [0] (by decide) rfl (Or.inr rfl) ⟨(congrArg iI (by rw [bI_t]; have e9 : xx = mm := (by omega); rw [e9] at hal; exact hal)), rfl⟩ dX5_areActs_48
  · skip
    refine g_iload_n C hl 2 rfl rfl dX5_areActs_7 ?_
    refine g_iload_n C hl 0 rfl rfl dX5_areActs_8 ?_
    refine g_iconst C dX5_areActs_9 ?_
    refine g_imul C dX5_areActs_10 ?_
    refine g_iadd C dX5_areActs_11 ?_
    refine g_istore C [(4, .int (iI (fr + (xx * 3)))), (3, .int (iI xx)), (0, .ref ca), (1, .int (iI fr)), (2, .int (iI mm))] dX5_areActs_12 hl (by decide) rfl ?_
    clear hl
    intro ls hl
    refine g_aload_n C hl 2 rfl rfl dX5_areActs_14 ?_
    refine g_iload C hl 0 rfl dX5_areActs_15 ?_
    refine g_iconst C dX5_areActs_17 ?_
    refine g_iadd C dX5_areActs_18 ?_
    refine g_iald C hw 0 rfl (by omega) (by omega) dX5_areActs_19 ?_
    refine g_nI (show (gg ((fr + (xx * 3)) + 1) : Int) = ce (fb + 3 * xx + 1) by exact (c1 (by omega)).1) ?_
    refine g_iconst C dX5_areActs_20 ?_
    refine g_callSi C hw (wr := [cA G ca zn gg]) (As := [.int (iI (ce (fb + 3 * xx + 1))), .int (iI 3)]) (rest := []) (m_X5_isBelow l D G (na := (ce (fb + 3 * xx + 1))) (nb := 3) (by first | assumption | omega) (by first | assumption | omega)) (va_cwS 2 C.1.2.2.2.2 gX5_areActs_X5_isBelow rfl rfl rfl (by decide +kernel) ⟨Nat.le_of_ble_eq_true rfl, Nat.le_of_ble_eq_true rfl⟩) [] [0] rfl rfl (by decide) (by decide) (by decide) rfl hl.1 _ rfl (Nat.le_of_ble_eq_true rfl) dX5_areActs_21 ⟨Nat.le_of_ble_eq_true rfl, Nat.le_of_ble_eq_true rfl⟩ ?_
    clear hw
    rintro _ _ H locs ⟨rfl, rfl⟩ hw
    have hw : gW D A s.heap [cA G ca zn gg] H locs := hw
    refine g_ifb_eq C 39 dX5_areActs_24 (by decide) (fun c_3 => ?_) (fun c_3 => ?_)
    · skip
      refine g_iconst C dX5_areActs_39 ?_
      exact g_zret C hr (ws' := [cA G ca zn gg]) hw [0] (by decide) rfl (Or.inl rfl) ⟨(congrArg iI (by rw [bI_f]; intro q9; have q8 := dcP_i (allB_i q9 xx hxx.1 (by omega)); omega)), rfl⟩ dX5_areActs_40
    · skip
      refine g_aload_n C hl 2 rfl rfl dX5_areActs_27 ?_
      refine g_iload C hl 0 rfl dX5_areActs_28 ?_
      refine g_iconst C dX5_areActs_30 ?_
      refine g_iadd C dX5_areActs_31 ?_
      refine g_iald C hw 0 rfl (by omega) (by omega) dX5_areActs_32 ?_
      refine g_nI (show (gg ((fr + (xx * 3)) + 2) : Int) = ce (fb + 3 * xx + 2) by exact (c2 (by omega)).1) ?_
      refine g_callSi C hw (wr := [cA G ca zn gg]) (As := [.int (iI (ce (fb + 3 * xx + 2)))]) (rest := []) (m_X5_isNumber l D G (vv := (ce (fb + 3 * xx + 2))) (by first | assumption | omega)) (va_cwS 1 C.1.2.2.2.2 gX5_areActs_X5_isNumber rfl rfl rfl (by decide +kernel) ⟨Nat.le_of_ble_eq_true rfl, Nat.le_of_ble_eq_true rfl⟩) [] [0] rfl rfl (by decide) (by decide) (by decide) rfl hl.1 _ rfl (Nat.le_of_ble_eq_true rfl) dX5_areActs_33 ⟨Nat.le_of_ble_eq_true rfl, Nat.le_of_ble_eq_true rfl⟩ ?_
      clear hw
      rintro _ _ H locs ⟨rfl, rfl⟩ hw
      have hw : gW D A s.heap [cA G ca zn gg] H locs := hw
      refine g_ifb_ne C 41 dX5_areActs_36 (by decide) (fun c_4 => ?_) (fun c_4 => ?_)
      · skip
        refine g_iinc C [(3, .int (iI (xx + 1))), (4, .int (iI (fr + (xx * 3)))), (0, .ref ca), (1, .int (iI fr)), (2, .int (iI mm))] 1 dX5_areActs_41 hl rfl (by decide) rfl ?_
        clear hl
        intro ls hl
        refine g_goto C 2 dX5_areActs_44 (by decide) ?_
        have hw : gW D A s.heap [cA G ca zn gg] H locs := g_perm hw [0] (by decide) rfl
        exact ih_1 (xx + 1) ⟨by omega, by rw [allB_s hxx.1, hal, dcP_t (by omega)]; rfl⟩ (by omega) H locs ls hw (lv_sub hl [0, 2, 3, 4] rfl)
      · skip
        refine g_iconst C dX5_areActs_39 ?_
        exact g_zret C hr (ws' := [cA G ca zn gg]) hw [0] (by decide) rfl (Or.inl rfl) ⟨(congrArg iI (by rw [bI_f]; intro q9; have q8 := dcP_i (allB_i q9 xx hxx.1 (by omega)); omega)), rfl⟩ dX5_areActs_40

set_option maxRecDepth 100000 in
set_option maxHeartbeats 8000000 in
theorem m_X5_firstWrong (l : Launch) (D : va_G) (G : gT) (h : Nat) (a : Nat → Nat) (tr : Int) (lf : Int) (ta : Nat → Nat) (cn : Int) (ca : Nat) (zn : Nat) (gg : Int → Int) (ce : Int → Int) (fb : Int) (fr : Int) (mm : Int) (hcn : 0 ≤ cn ∧ cn ≤ 4) (hzn : zn ≤ 60) (hmm : 0 ≤ mm ∧ mm ≤ 20) (hfr : 0 ≤ fr ∧ fr + 3 * mm ≤ zn) (hce : ∀ j, 0 ≤ j → j < 3 * mm → gg (fr + j) = ce (fb + j) ∧ -2147483648 ≤ gg (fr + j) ∧ gg (fr + j) ≤ 2147483647) : gMi l yX5_firstWrong wsX5_firstWrong ({ frames := 2, cells := 0, slots := 0, locals := 42 }) D G [.ref h, .ref ca, .int (iI fr), .int (iI mm)] [oX5 h a tr lf, oX4 (a 1) ta cn, cA G ca zn gg] 0 0 (fun (r : Int32) (w : va_W) => r = (iI (lsF (fwP cn ce fb) 0 mm.toNat)) ∧ w = [oX5 h a tr lf, oX4 (a 1) ta cn, cA G ca zn gg]) := by
  refine g_start_i (cc := cX5_firstWrong) (nL := 5) (own := RX5) (ret := some .int) (by decide +kernel) rfl rfl (Nat.le_of_ble_eq_true rfl) ?_
  intro p e s m below meth c A ls C hr hnm hw hl
  have hl : lv_has ls 5 [(0, .ref h), (1, .ref ca), (2, .int (iI fr)), (3, .int (iI mm))] := hl
  refine g_iconst C dX5_firstWrong_0 ?_
  refine g_istore C [(4, .int (iI 0)), (0, .ref h), (1, .ref ca), (2, .int (iI fr)), (3, .int (iI mm))] dX5_firstWrong_1 hl (by decide) rfl ?_
  clear hl
  intro ls hl
  refine g_loop (σ := (Int)) (fun z_ => [oX5 h a tr lf, oX4 (a 1) ta cn, cA G ca zn gg]) (fun z_ => [(4, .int (iI z_)), (0, .ref h), (1, .ref ca), (2, .int (iI fr)), (3, .int (iI mm))]) (fun z_ => (0 ≤ z_ ∧ z_ ≤ mm) ∧ (lsF (fwP cn ce fb) 0 mm.toNat = lsF (fwP cn ce fb) z_ (mm - z_).toNat)) (fun z_ => (mm - z_).toNat) 0 ⟨by (try dsimp only); omega, by (try dsimp only); rw [show mm - 0 = mm by omega]⟩ hw (lv_sub hl [0, 1, 2, 3, 4] rfl) ?_
  clear hw hl
  rintro xx ⟨hxx, hls⟩ H locs ls hw hl ih_1
  replace hxx : 0 ≤ xx ∧ xx ≤ mm := hxx
  replace hls : lsF (fwP cn ce fb) 0 mm.toNat = lsF (fwP cn ce fb) xx (mm - xx).toNat := hls
  replace hw : gW D A s.heap [oX5 h a tr lf, oX4 (a 1) ta cn, cA G ca zn gg] H locs := hw
  replace hl : lv_has ls 5 [(4, .int (iI xx)), (0, .ref h), (1, .ref ca), (2, .int (iI fr)), (3, .int (iI mm))] := hl
  replace ih_1 : ∀ (xx' : Int), ((0 ≤ xx' ∧ xx' ≤ mm) ∧ (lsF (fwP cn ce fb) 0 mm.toNat = lsF (fwP cn ce fb) xx' (mm - xx').toNat)) → ((mm - xx').toNat) < ((mm - xx).toNat) → ∀ (H : Heap) (locs : List Loc) (ls : Array Slot), gW D A s.heap [oX5 h a tr lf, oX4 (a 1) ta cn, cA G ca zn gg] H locs → lv_has ls 5 [(4, .int (iI (xx'))), (0, .ref h), (1, .ref ca), (2, .int (iI fr)), (3, .int (iI mm))] → W p l e _ s m _ below meth c H locs _ _ _ (F0 m 3 ls []) := fun xx' => ih_1 xx'
  have c0 : xx < mm → gg (fr + xx * 3) = ce (fb + 3 * xx) ∧ -2147483648 ≤ gg (fr + xx * 3) ∧ gg (fr + xx * 3) ≤ 2147483647 := fun hlt => (by have q9 := hce (3 * xx) (by omega) (by omega); rw [show fr + 3 * xx = fr + xx * 3 by omega] at q9; exact q9)
  have c1 : xx < mm → gg (fr + xx * 3 + 1) = ce (fb + 3 * xx + 1) ∧ -2147483648 ≤ gg (fr + xx * 3 + 1) ∧ gg (fr + xx * 3 + 1) ≤ 2147483647 := fun hlt => (by have q9 := hce (3 * xx + 1) (by omega) (by omega); rw [show fr + (3 * xx + 1) = fr + xx * 3 + 1 by omega, show fb + (3 * xx + 1) = fb + 3 * xx + 1 by omega] at q9; exact q9)
  have c2 : xx < mm → gg (fr + xx * 3 + 2) = ce (fb + 3 * xx + 2) ∧ -2147483648 ≤ gg (fr + xx * 3 + 2) ∧ gg (fr + xx * 3 + 2) ≤ 2147483647 := fun hlt => (by have q9 := hce (3 * xx + 2) (by omega) (by omega); rw [show fr + (3 * xx + 2) = fr + xx * 3 + 2 by omega, show fb + (3 * xx + 2) = fb + 3 * xx + 2 by omega] at q9; exact q9)
  refine g_iload C hl 0 rfl dX5_firstWrong_3 ?_
  refine g_iload_n C hl 4 rfl rfl dX5_firstWrong_5 ?_
  refine g_icmp_ge C 33 dX5_firstWrong_6 (by decide) (by omega) (by omega) (fun c_2 => ?_) (fun c_2 => ?_)
  · skip
    refine g_bipush C dX5_firstWrong_33 (by decide) ?_
    exact g_iret C hr (ws' := [oX5 h a tr lf, oX4 (a 1) ta cn, cA G ca zn gg]) hw [0, 1, 2] (by decide) rfl ⟨(congrArg iI (by rw [hls, show (mm - xx).toNat = 0 by omega]; rfl)), rfl⟩ dX5_firstWrong_35
  · skip
    refine g_aload_n C hl 1 rfl rfl dX5_firstWrong_9 ?_
    refine g_aload_n C hl 2 rfl rfl dX5_firstWrong_10 ?_
    refine g_iload_n C hl 3 rfl rfl dX5_firstWrong_11 ?_
    refine g_iload C hl 0 rfl dX5_firstWrong_12 ?_
    refine g_iconst C dX5_firstWrong_14 ?_
    refine g_imul C dX5_firstWrong_15 ?_
    refine g_iadd C dX5_firstWrong_16 ?_
    refine g_iald C hw 2 rfl (by omega) (by omega) dX5_firstWrong_17 ?_
    refine g_nI (show (gg (fr + (xx * 3)) : Int) = ce (fb + 3 * xx) by exact (c0 (by omega)).1) ?_
    refine g_callVi C hw (wr := [cA G ca zn gg]) (As := [.int (iI (ce (fb + 3 * xx)))]) (rest := []) (m_X5_isPolynomial l D G (h := h) (a := a) (tr := tr) (lf := lf) (ta := ta) (cn := cn) (pp := (ce (fb + 3 * xx))) (by first | assumption | omega) (by first | assumption | omega)) (cwV 1 C.1.2.2.2.2 gX5_firstWrong_X5_isPolynomial rfl rfl rfl (by decide +kernel) ⟨Nat.le_of_ble_eq_true rfl, Nat.le_of_ble_eq_true rfl⟩) [0, 1] [2] rfl rfl (by decide) (by decide) (by decide) 0 rfl rfl rfl hl.1 _ rfl (Nat.le_of_ble_eq_true rfl) dX5_firstWrong_18 ⟨Nat.le_of_ble_eq_true rfl, Nat.le_of_ble_eq_true rfl⟩ ?_
    clear hw
    rintro _ _ H locs ⟨rfl, rfl⟩ hw
    have hw : gW D A s.heap [cA G ca zn gg, oX5 h a tr lf, oX4 (a 1) ta cn] H locs := hw
    refine g_ifb_ne C 27 dX5_firstWrong_21 (by decide) (fun c_3 => ?_) (fun c_3 => ?_)
    · skip
      refine g_iinc C [(4, .int (iI (xx + 1))), (0, .ref h), (1, .ref ca), (2, .int (iI fr)), (3, .int (iI mm))] 0 dX5_firstWrong_27 hl rfl (by decide) rfl ?_
      clear hl
      intro ls hl
      refine g_goto C 3 dX5_firstWrong_30 (by decide) ?_
      have hw : gW D A s.heap [oX5 h a tr lf, oX4 (a 1) ta cn, cA G ca zn gg] H locs := g_perm hw [1, 2, 0] (by decide) rfl
      exact ih_1 (xx + 1) ⟨by omega, by rw [hls, show mm - xx = (mm - (xx + 1)) + 1 by omega, lsF_s (by omega), if_neg (fwP_f (by omega))]⟩ (by omega) H locs ls hw (lv_sub hl [0, 1, 2, 3, 4] rfl)
    · skip
      refine g_iload C hl 0 rfl dX5_firstWrong_24 ?_
      exact g_iret C hr (ws' := [oX5 h a tr lf, oX4 (a 1) ta cn, cA G ca zn gg]) hw [1, 2, 0] (by decide) rfl ⟨(congrArg iI (by rw [hls, show mm - xx = (mm - (xx + 1)) + 1 by omega, lsF_s (by omega), if_pos (fwP_t (by omega))])), rfl⟩ dX5_firstWrong_26

set_option maxRecDepth 20000 in
theorem hin_X5_tellDay_X5 : ∀ w ∈ u_ws RX5 TX5 9, w ∈ wsX5_tellDay := by
  intro w h
  exact List.mem_cons_of_mem _ (List.mem_append_left _ (List.mem_append_right _ (h)))
set_option maxRecDepth 20000 in
theorem lk_X5_tellDay_31 : Cond.fieldLink RX5 31 (TX5 3).1 (TX5 3).2.1 (TX5 3).2.2.1 ∈ wsX5_tellDay := List.mem_cons_of_mem _ (List.mem_append_left _ (List.mem_append_left _ (List.mem_of_getElem? (i := 0) rfl)))
set_option maxRecDepth 20000 in
theorem lk_X5_tellDay_20 : Cond.fieldLink RX5 20 (TX5 1).1 (TX5 1).2.1 (TX5 1).2.2.1 ∈ wsX5_tellDay := List.mem_cons_of_mem _ (List.mem_append_left _ (List.mem_append_left _ (List.mem_of_getElem? (i := 1) rfl)))
set_option maxRecDepth 20000 in
theorem hin_X5_tellDay_X4 : ∀ w ∈ u_ws RX4 TX4 3, w ∈ wsX5_tellDay := by
  intro w h
  exact List.mem_cons_of_mem _ (List.mem_append_right _ (h))
set_option maxRecDepth 20000 in
theorem lk_X5_tellDay_102 : Cond.fieldLink RX5 102 (TX4 2).1 (TX4 2).2.1 (TX4 2).2.2.1 ∈ wsX5_tellDay := List.mem_cons_of_mem _ (List.mem_append_left _ (List.mem_append_left _ (List.mem_of_getElem? (i := 2) rfl)))
set_option maxRecDepth 100000 in
set_option maxHeartbeats 8000000 in
theorem m_X5_tellDay (l : Launch) (D : va_G) (G : gT) (h : Nat) (a : Nat → Nat) (tr : Int) (lf : Int) (ta : Nat → Nat) (cn : Int) (kd : Int → Int) (nu : Int → Int) (tb : Nat → Nat) (tc : Int) (kt : Int → Int) (nt : Int → Int) (ca : Nat) (zn : Nat) (gg : Int → Int) (ce : Int → Int) (fb : Int) (fr : Int) (mm : Int) (hkd : kdOK kd) (hnu : nuOK nu) (hkt : kdOK kt) (hnt : nuOK nt) (hcn : 0 ≤ cn ∧ cn ≤ 4) (hzn : zn ≤ 60) (hmm : 0 ≤ mm ∧ mm ≤ 20) (hfr : 0 ≤ fr ∧ fr + 3 * mm ≤ zn) (hce : ∀ j, 0 ≤ j → j < 3 * mm → gg (fr + j) = ce (fb + j) ∧ -2147483648 ≤ gg (fr + j) ∧ gg (fr + j) ≤ 2147483647) (hdc : allX (dcP ce fb) mm) (hfw : lsF (fwP cn ce fb) 0 mm.toNat = -9) : gMv l yX5_tellDay wsX5_tellDay ({ frames := 2, cells := 0, slots := 0, locals := 61 }) D G [.ref h, .ref ca, .int (iI fr), .int (iI mm)] [oX5 h a tr lf, oX4 (a 1) ta cn, cA G (ta 1) 4 kd, cA G (ta 2) 12 nu, oX4 (a 3) tb tc, cA G (tb 1) 4 kt, cA G (tb 2) 12 nt, cA G ca zn gg] 0 0 (fun (w : va_W) => ∃ (kt2 : Int → Int) (nt2 : Int → Int), w = [oX5 h a tr lf, oX4 (a 1) ta cn, cA G (ta 1) 4 kd, cA G (ta 2) 12 nu, oX4 (a 3) tb cn, cA G (tb 1) 4 kt2, cA G (tb 2) 12 nt2, cA G ca zn gg] ∧ (exT cn kt2 nt2 = exT cn kd (dyF cn nu ce fb mm.toNat)) ∧ (kdOK kt2 ∧ nuOK nt2)) := by
  refine g_start_v (cc := cX5_tellDay) (nL := 6) (own := RX5) (ret := none) (by decide +kernel) rfl rfl (Nat.le_of_ble_eq_true rfl) ?_
  intro p e s m below meth c A ls C hr hnm hw hl
  have hl : lv_has ls 6 [(0, .ref h), (1, .ref ca), (2, .int (iI fr)), (3, .int (iI mm))] := hl
  have hnw := lsF_none mm.toNat 0 (by omega) hfw
  refine g_aload_n C hl 0 rfl rfl dX5_tellDay_0 ?_
  refine g_get C hw hin_X5_tellDay_X5 0 rfl rfl 3 (by decide) lk_X5_tellDay_31 rfl dX5_tellDay_1 ?_
  refine g_aload_n C hl 0 rfl rfl dX5_tellDay_4 ?_
  refine g_get C hw hin_X5_tellDay_X5 0 rfl rfl 1 (by decide) lk_X5_tellDay_20 rfl dX5_tellDay_5 ?_
  refine g_callVv C hw (wr := [oX5 h a tr lf, cA G ca zn gg]) (As := [.ref ((a 1))]) (rest := []) (m_X4_become l D G (h := (a 3)) (a := tb) (cn := tc) (kd := kt) (nu := nt) (o := (a 1)) (b := ta) (cn2 := cn) (kd2 := kd) (nu2 := nu) (by exact hkt) (by exact hnt) (by exact hkd) (by exact hnu)) (cwV 1 C.1.2.2.2.2 gX5_tellDay_X4_become rfl rfl rfl (by decide +kernel) ⟨Nat.le_of_ble_eq_true rfl, Nat.le_of_ble_eq_true rfl⟩) [4, 5, 6, 1, 2, 3] [0, 7] rfl rfl (by decide) (by decide) (by decide) 0 rfl rfl rfl hl.1 _ rfl (Nat.le_of_ble_eq_true rfl) dX5_tellDay_8 ⟨Nat.le_of_ble_eq_true rfl, Nat.le_of_ble_eq_true rfl⟩ ?_
  clear hw
  rintro _ H locs ⟨kt3, nt3, rfl, hp_1, hp_2⟩ hw
  have hw : gW D A s.heap [oX5 h a tr lf, cA G ca zn gg, oX4 (a 3) tb cn, cA G (tb 1) 4 kt3, cA G (tb 2) 12 nt3, oX4 (a 1) ta cn, cA G (ta 1) 4 kd, cA G (ta 2) 12 nu] H locs := hw
  have hp_1 : (∀ j, 0 ≤ j → j < 4 → kt3 j = kd j) ∧ (∀ j, 0 ≤ j → j < 12 → nt3 j = nu j) := hp_1
  have hp_2 : kdOK kt3 ∧ nuOK nt3 := hp_2
  have hbc := hp_1
  have hbk := hp_2
  refine g_iconst C dX5_tellDay_11 ?_
  refine g_istore C [(4, .int (iI 0)), (0, .ref h), (1, .ref ca), (2, .int (iI fr)), (3, .int (iI mm))] dX5_tellDay_12 hl (by decide) rfl ?_
  clear hl
  intro ls hl
  refine g_loop (σ := (Int) × (Int → Int)) (fun z_ => [oX5 h a tr lf, cA G ca zn gg, oX4 (a 3) tb cn, cA G (tb 1) 4 kt3, cA G (tb 2) 12 z_.2, oX4 (a 1) ta cn, cA G (ta 1) 4 kd, cA G (ta 2) 12 nu]) (fun z_ => [(4, .int (iI (z_.1))), (0, .ref h), (1, .ref ca), (2, .int (iI fr)), (3, .int (iI mm))]) (fun z_ => (0 ≤ z_.1 ∧ z_.1 ≤ mm) ∧ (∀ j, 0 ≤ j → j < 12 → z_.2 j = dyF cn nu ce fb z_.1.toNat j) ∧ (nuOK z_.2)) (fun z_ => (mm - z_.1).toNat) (0, nt3) ⟨by (try dsimp only); omega, by (try dsimp only); exact hbc.2, by (try dsimp only); exact hbk.2⟩ hw (lv_sub hl [0, 1, 2, 3, 4] rfl) ?_
  clear hw hl
  rintro ⟨xx, nt1⟩ ⟨hxx, hn1, hno⟩ H locs ls hw hl ih_3
  replace hxx : 0 ≤ xx ∧ xx ≤ mm := hxx
  replace hn1 : ∀ j, 0 ≤ j → j < 12 → nt1 j = dyF cn nu ce fb xx.toNat j := hn1
  replace hno : nuOK nt1 := hno
  replace hw : gW D A s.heap [oX5 h a tr lf, cA G ca zn gg, oX4 (a 3) tb cn, cA G (tb 1) 4 kt3, cA G (tb 2) 12 nt1, oX4 (a 1) ta cn, cA G (ta 1) 4 kd, cA G (ta 2) 12 nu] H locs := hw
  replace hl : lv_has ls 6 [(4, .int (iI xx)), (0, .ref h), (1, .ref ca), (2, .int (iI fr)), (3, .int (iI mm))] := hl
  replace ih_3 : ∀ (xx' : Int) (nt1' : Int → Int), ((0 ≤ xx' ∧ xx' ≤ mm) ∧ (∀ j, 0 ≤ j → j < 12 → nt1' j = dyF cn nu ce fb xx'.toNat j) ∧ (nuOK nt1')) → ((mm - xx').toNat) < ((mm - xx).toNat) → ∀ (H : Heap) (locs : List Loc) (ls : Array Slot), gW D A s.heap [oX5 h a tr lf, cA G ca zn gg, oX4 (a 3) tb cn, cA G (tb 1) 4 kt3, cA G (tb 2) 12 nt1', oX4 (a 1) ta cn, cA G (ta 1) 4 kd, cA G (ta 2) 12 nu] H locs → lv_has ls 6 [(4, .int (iI (xx'))), (0, .ref h), (1, .ref ca), (2, .int (iI fr)), (3, .int (iI mm))] → W p l e _ s m _ below meth c H locs _ _ _ (F0 m 14 ls []) := fun xx' nt1' => ih_3 (xx', nt1')
  have c0 : xx < mm → gg (fr + xx * 3) = ce (fb + 3 * xx) ∧ -2147483648 ≤ gg (fr + xx * 3) ∧ gg (fr + xx * 3) ≤ 2147483647 := fun hlt => (by have q9 := hce (3 * xx) (by omega) (by omega); rw [show fr + 3 * xx = fr + xx * 3 by omega] at q9; exact q9)
  have c1 : xx < mm → gg (fr + xx * 3 + 1) = ce (fb + 3 * xx + 1) ∧ -2147483648 ≤ gg (fr + xx * 3 + 1) ∧ gg (fr + xx * 3 + 1) ≤ 2147483647 := fun hlt => (by have q9 := hce (3 * xx + 1) (by omega) (by omega); rw [show fr + (3 * xx + 1) = fr + xx * 3 + 1 by omega, show fb + (3 * xx + 1) = fb + 3 * xx + 1 by omega] at q9; exact q9)
  have c2 : xx < mm → gg (fr + xx * 3 + 2) = ce (fb + 3 * xx + 2) ∧ -2147483648 ≤ gg (fr + xx * 3 + 2) ∧ gg (fr + xx * 3 + 2) ≤ 2147483647 := fun hlt => (by have q9 := hce (3 * xx + 2) (by omega) (by omega); rw [show fr + (3 * xx + 2) = fr + xx * 3 + 2 by omega, show fb + (3 * xx + 2) = fb + 3 * xx + 2 by omega] at q9; exact q9)
  have hd9 : xx < mm → (0 ≤ ce (fb + 3 * xx) ∧ ce (fb + 3 * xx) < cn) ∧ (0 ≤ ce (fb + 3 * xx + 1) ∧ ce (fb + 3 * xx + 1) ≤ 2) ∧ (-9 ≤ ce (fb + 3 * xx + 2) ∧ ce (fb + 3 * xx + 2) ≤ 9) := fun hlt => ⟨by have q9 := hnw xx (by omega) (by omega); unfold fwP at q9; simp at q9; omega, dcP_i (hdc xx (by omega) (by omega))⟩
  refine g_iload C hl 0 rfl dX5_tellDay_14 ?_
  refine g_iload_n C hl 4 rfl rfl dX5_tellDay_16 ?_
  refine g_icmp_ge C 61 dX5_tellDay_17 (by decide) (by omega) (by omega) (fun c_4 => ?_) (fun c_4 => ?_)
  · skip
    exact g_vret C hr (ws' := [oX5 h a tr lf, oX4 (a 1) ta cn, cA G (ta 1) 4 kd, cA G (ta 2) 12 nu, oX4 (a 3) tb cn, cA G (tb 1) 4 kt3, cA G (tb 2) 12 nt1, cA G ca zn gg]) hw [0, 5, 6, 7, 2, 3, 4, 1] (by decide) rfl ⟨kt3, nt1, rfl, (by rw [show mm = xx by omega]; exact exT_cg (fun q h1 h2 => hbc.1 q h1 (by omega)) (fun j h1 h2 => hn1 j h1 (by omega))), (by exact ⟨hbk.1, hno⟩)⟩ dX5_tellDay_61
  · skip
    refine g_iload_n C hl 3 rfl rfl dX5_tellDay_20 ?_
    refine g_iload C hl 0 rfl dX5_tellDay_21 ?_
    refine g_iconst C dX5_tellDay_23 ?_
    refine g_imul C dX5_tellDay_24 ?_
    refine g_iadd C dX5_tellDay_25 ?_
    refine g_istore C [(5, .int (iI (fr + (xx * 3)))), (4, .int (iI xx)), (0, .ref h), (1, .ref ca), (2, .int (iI fr)), (3, .int (iI mm))] dX5_tellDay_26 hl (by decide) rfl ?_
    clear hl
    intro ls hl
    refine g_aload_n C hl 2 rfl rfl dX5_tellDay_28 ?_
    refine g_get C hw hin_X5_tellDay_X5 0 rfl rfl 3 (by decide) lk_X5_tellDay_31 rfl dX5_tellDay_29 ?_
    refine g_get C hw hin_X5_tellDay_X4 2 rfl rfl 2 (by decide) lk_X5_tellDay_102 rfl dX5_tellDay_32 ?_
    refine g_aload_n C hl 3 rfl rfl dX5_tellDay_35 ?_
    refine g_iload C hl 0 rfl dX5_tellDay_36 ?_
    refine g_iald C hw 1 rfl (by omega) (by omega) dX5_tellDay_38 ?_
    refine g_nI (show (gg (fr + (xx * 3)) : Int) = ce (fb + 3 * xx) by exact (c0 (by omega)).1) ?_
    refine g_iconst C dX5_tellDay_39 ?_
    refine g_imul C dX5_tellDay_40 ?_
    refine g_aload_n C hl 3 rfl rfl dX5_tellDay_41 ?_
    refine g_iload C hl 0 rfl dX5_tellDay_42 ?_
    refine g_iconst C dX5_tellDay_44 ?_
    refine g_iadd C dX5_tellDay_45 ?_
    refine g_iald C hw 1 rfl (by omega) (by omega) dX5_tellDay_46 ?_
    refine g_nI (show (gg ((fr + (xx * 3)) + 1) : Int) = ce (fb + 3 * xx + 1) by exact (c1 (by omega)).1) ?_
    refine g_iadd C dX5_tellDay_47 ?_
    refine g_aload_n C hl 3 rfl rfl dX5_tellDay_48 ?_
    refine g_iload C hl 0 rfl dX5_tellDay_49 ?_
    refine g_iconst C dX5_tellDay_51 ?_
    refine g_iadd C dX5_tellDay_52 ?_
    refine g_iald C hw 1 rfl (by omega) (by omega) dX5_tellDay_53 ?_
    refine g_nI (show (gg ((fr + (xx * 3)) + 2) : Int) = ce (fb + 3 * xx + 2) by exact (c2 (by omega)).1) ?_
    refine g_iast C hw [oX5 h a tr lf, cA G ca zn gg, oX4 (a 3) tb cn, cA G (tb 1) 4 kt3, cA G (tb 2) 12 (up nt1 (((ce (fb + 3 * xx)) * 3) + (ce (fb + 3 * xx + 1))) (ce (fb + 3 * xx + 2))), oX4 (a 1) ta cn, cA G (ta 1) 4 kd, cA G (ta 2) 12 nu] 4 rfl (by have := hd9 (by omega); omega) (Nat.le_of_ble_eq_true rfl) rfl dX5_tellDay_54 ?_
    clear hw
    intro H locs hw
    refine g_iinc C [(4, .int (iI (xx + 1))), (5, .int (iI (fr + (xx * 3)))), (0, .ref h), (1, .ref ca), (2, .int (iI fr)), (3, .int (iI mm))] 1 dX5_tellDay_55 hl rfl (by decide) rfl ?_
    clear hl
    intro ls hl
    refine g_goto C 14 dX5_tellDay_58 (by decide) ?_
    have hw : gW D A s.heap [oX5 h a tr lf, cA G ca zn gg, oX4 (a 3) tb cn, cA G (tb 1) 4 kt3, cA G (tb 2) 12 (up nt1 (((ce (fb + 3 * xx)) * 3) + (ce (fb + 3 * xx + 1))) (ce (fb + 3 * xx + 2))), oX4 (a 1) ta cn, cA G (ta 1) 4 kd, cA G (ta 2) 12 nu] H locs := g_perm hw [0, 1, 2, 3, 4, 5, 6, 7] (by decide) rfl
    exact ih_3 (xx + 1) (up nt1 (((ce (fb + 3 * xx)) * 3) + (ce (fb + 3 * xx + 1))) (ce (fb + 3 * xx + 2))) ⟨by omega, by intro j h1 h2; rw [dyF_s hxx.1, tuF_t (by have := hd9 (by omega); omega), show ce (fb + 3 * xx) * 3 + ce (fb + 3 * xx + 1) = 3 * ce (fb + 3 * xx) + ce (fb + 3 * xx + 1) by omega]; unfold up; split; rfl; exact hn1 j h1 h2, by exact nuOK_up hno (by have := hd9 (by omega); omega)⟩ (by omega) H locs ls hw (lv_sub hl [0, 2, 3, 4, 5] rfl)

set_option maxRecDepth 20000 in
theorem hin_X5_ofDay_X5 : ∀ w ∈ u_ws RX5 TX5 9, w ∈ wsX5_ofDay := by
  intro w h
  exact List.mem_cons_of_mem _ (List.mem_append_left _ (List.mem_append_left _ (List.mem_append_right _ (h))))
set_option maxRecDepth 20000 in
theorem lk_X5_ofDay_34 : Cond.fieldLink RX5 34 (TX5 4).1 (TX5 4).2.1 (TX5 4).2.2.1 ∈ wsX5_ofDay := List.mem_cons_of_mem _ (List.mem_append_left _ (List.mem_append_left _ (List.mem_append_left _ (List.mem_append_left _ (List.mem_of_getElem? (i := 0) rfl)))))
set_option maxRecDepth 20000 in
theorem hin_X5_ofDay_X0 : ∀ w ∈ u_ws RX0 TX0 14, w ∈ wsX5_ofDay := by
  intro w h
  exact List.mem_cons_of_mem _ (List.mem_append_left _ (List.mem_append_right _ (h)))
set_option maxRecDepth 20000 in
theorem lk_X5_ofDay_133 : Cond.fieldLink RX5 133 (TX0 7).1 (TX0 7).2.1 (TX0 7).2.2.1 ∈ wsX5_ofDay := List.mem_cons_of_mem _ (List.mem_append_left _ (List.mem_append_left _ (List.mem_append_left _ (List.mem_append_left _ (List.mem_of_getElem? (i := 1) rfl)))))
set_option maxRecDepth 20000 in
theorem lk_X5_ofDay_99 : Cond.fieldLink RX5 99 (TX0 2).1 (TX0 2).2.1 (TX0 2).2.2.1 ∈ wsX5_ofDay := List.mem_cons_of_mem _ (List.mem_append_left _ (List.mem_append_left _ (List.mem_append_left _ (List.mem_append_left _ (List.mem_of_getElem? (i := 3) rfl)))))
set_option maxRecDepth 20000 in
theorem lk_X5_ofDay_139 : Cond.fieldLink RX5 139 (TX0 10).1 (TX0 10).2.1 (TX0 10).2.2.1 ∈ wsX5_ofDay := List.mem_cons_of_mem _ (List.mem_append_left _ (List.mem_append_left _ (List.mem_append_left _ (List.mem_append_left _ (List.mem_of_getElem? (i := 2) rfl)))))
set_option maxRecDepth 100000 in
set_option maxHeartbeats 8000000 in
theorem m_X5_ofDay (l : Launch) (D : va_G) (G : gT) (h : Nat) (a : Nat → Nat) (tr : Int) (lf : Int) (ta : Nat → Nat) (cn : Int) (lb : Nat → Nat) (xu : Int) (xw : Int) (tex : Int → Int) (trt : Int → Int) (tmi : Int → Int) (tsi : Int → Int) (tun : Int → Int) (tbe : Int → Int) (tka : Int → Int) (trs : Int → Int) (trf : Int → Int) (trp : Int → Int) (E : Int → Int → Int) (wh : Int) (hcn : 0 ≤ cn ∧ cn ≤ 4) (hE : EB E) (hX : LnX E cn tex) (hT : LnT E cn trt) (hZ : LnZ E cn tmi tsi tun tbe) (hKA : hasL tka (ALn E cn.toNat)) (hul : xu = ((ALn E cn.toNat).length : Int)) (hwh : ((0 ≤ wh ∧ wh ≤ 4) ∨ (10 ≤ wh ∧ wh ≤ 13)) ∧ ¬ wh = 1) : gMi l yX5_ofDay wsX5_ofDay ({ frames := 6, cells := 0, slots := 0, locals := 163 }) D G [.ref h, .int (iI wh)] [oX5 h a tr lf, oX4 (a 1) ta cn, oX0 (a 4) lb cn xu xw, cA G (lb 1) 12 tex, cA G (lb 2) 4 trt, cA G (lb 3) 8 tmi, cA G (lb 4) 8 tsi, cA G (lb 5) 8 tun, cA G (lb 6) 8 tbe, cA G (lb 8) 8 tka, cA G (lb 11) 17 trs, cA G (lb 12) 17 trf, cA G (lb 13) 17 trp] 0 0 (fun (r : Int32) (w : va_W) => ∃ (xw2 : Int) (trs2 : Int → Int) (trf2 : Int → Int) (trp2 : Int → Int), r = (iI (R_end cn E (ALn E cn.toNat) wh)) ∧ w = [oX5 h a tr lf, oX4 (a 1) ta cn, oX0 (a 4) lb cn xu xw2, cA G (lb 1) 12 tex, cA G (lb 2) 4 trt, cA G (lb 3) 8 tmi, cA G (lb 4) 8 tsi, cA G (lb 5) 8 tun, cA G (lb 6) 8 tbe, cA G (lb 8) 8 tka, cA G (lb 11) 17 trs2, cA G (lb 12) 17 trf2, cA G (lb 13) 17 trp2]) := by
  refine g_start_i (cc := cX5_ofDay) (nL := 2) (own := RX5) (ret := some .int) (by decide +kernel) rfl rfl (Nat.le_of_ble_eq_true rfl) ?_
  intro p e s m below meth c A ls C hr hnm hw hl
  have hl : lv_has ls 2 [(0, .ref h), (1, .int (iI wh))] := hl
  have hnr := nR_r E (wh - 10)
  refine g_iload_n C hl 1 rfl rfl dX5_ofDay_0 ?_
  rcases (by omega : wh = 0 ∨ wh = 1 ∨ wh = 2 ∨ wh = 3 ∨ wh = 4 ∨ (wh < 0 ∨ 4 < wh)) with hs_1 | hs_1 | hs_1 | hs_1 | hs_1 | hs_1
  · skip
    refine g_tabIn C 0 35 36 hs_1 (by decide) dX5_ofDay_1 (by decide) (by decide) (by decide +kernel) (by decide) ?_
    refine g_aload_n C hl 0 rfl rfl dX5_ofDay_36 ?_
    refine g_get C hw hin_X5_ofDay_X5 0 rfl rfl 4 (by decide) lk_X5_ofDay_34 rfl dX5_ofDay_37 ?_
    refine g_get C hw hin_X5_ofDay_X0 2 rfl rfl 7 (by decide) lk_X5_ofDay_133 rfl dX5_ofDay_40 ?_
    exact g_iret C hr (ws' := [oX5 h a tr lf, oX4 (a 1) ta cn, oX0 (a 4) lb cn xu xw, cA G (lb 1) 12 tex, cA G (lb 2) 4 trt, cA G (lb 3) 8 tmi, cA G (lb 4) 8 tsi, cA G (lb 5) 8 tun, cA G (lb 6) 8 tbe, cA G (lb 8) 8 tka, cA G (lb 11) 17 trs, cA G (lb 12) 17 trf, cA G (lb 13) 17 trp]) hw [0, 1, 2, 3, 4, 5, 6, 7, 8, 9, 10, 11, 12] (by decide) rfl ⟨xw, trs, trf, trp, (congrArg iI (by unfold R_end; (repeat' split) <;> first | rfl | omega)), rfl⟩ dX5_ofDay_43
  · skip
    refine g_tabIn C 1 74 75 hs_1 (by decide) dX5_ofDay_1 (by decide) (by decide) (by decide +kernel) (by decide) ?_
    refine g_aload_n C hl 0 rfl rfl dX5_ofDay_75 ?_
    refine g_iload_n C hl 1 rfl rfl dX5_ofDay_76 ?_
    refine g_bipush C dX5_ofDay_77 (by decide) ?_
    refine g_isub C dX5_ofDay_79 ?_
    refine g_callVi C hw (wr := [oX0 (a 4) lb cn xu xw, cA G (lb 1) 12 tex, cA G (lb 2) 4 trt, cA G (lb 3) 8 tmi, cA G (lb 4) 8 tsi, cA G (lb 5) 8 tun, cA G (lb 6) 8 tbe, cA G (lb 8) 8 tka, cA G (lb 11) 17 trs, cA G (lb 12) 17 trf, cA G (lb 13) 17 trp]) (As := [.int (iI (wh - 10))]) (rest := []) (m_X5_isPolynomial l D G (h := h) (a := a) (tr := tr) (lf := lf) (ta := ta) (cn := cn) (pp := (wh - 10)) (by first | assumption | omega) (by first | assumption | omega)) (cwV 1 C.1.2.2.2.2 gX5_ofDay_X5_isPolynomial rfl rfl rfl (by decide +kernel) ⟨Nat.le_of_ble_eq_true rfl, Nat.le_of_ble_eq_true rfl⟩) [0, 1] [2, 3, 4, 5, 6, 7, 8, 9, 10, 11, 12] rfl rfl (by decide) (by decide) (by decide) 0 rfl rfl rfl hl.1 _ rfl (Nat.le_of_ble_eq_true rfl) dX5_ofDay_80 ⟨Nat.le_of_ble_eq_true rfl, Nat.le_of_ble_eq_true rfl⟩ ?_
    clear hw
    rintro _ _ H locs ⟨rfl, rfl⟩ hw
    have hw : gW D A s.heap [oX0 (a 4) lb cn xu xw, cA G (lb 1) 12 tex, cA G (lb 2) 4 trt, cA G (lb 3) 8 tmi, cA G (lb 4) 8 tsi, cA G (lb 5) 8 tun, cA G (lb 6) 8 tbe, cA G (lb 8) 8 tka, cA G (lb 11) 17 trs, cA G (lb 12) 17 trf, cA G (lb 13) 17 trp, oX5 h a tr lf, oX4 (a 1) ta cn] H locs := hw
    refine g_ifb_eq C 101 dX5_ofDay_83 (by decide) (fun c_2 => ?_) (fun c_2 => ?_)
    · skip
      refine g_bipush C dX5_ofDay_101 (by decide) ?_
      exact g_iret C hr (ws' := [oX5 h a tr lf, oX4 (a 1) ta cn, oX0 (a 4) lb cn xu xw, cA G (lb 1) 12 tex, cA G (lb 2) 4 trt, cA G (lb 3) 8 tmi, cA G (lb 4) 8 tsi, cA G (lb 5) 8 tun, cA G (lb 6) 8 tbe, cA G (lb 8) 8 tka, cA G (lb 11) 17 trs, cA G (lb 12) 17 trf, cA G (lb 13) 17 trp]) hw [11, 12, 0, 1, 2, 3, 4, 5, 6, 7, 8, 9, 10] (by decide) rfl ⟨xw, trs, trf, trp, (congrArg iI (by unfold R_end; (repeat' split) <;> first | rfl | omega)), rfl⟩ dX5_ofDay_103
    · skip
      have ht9 := hT (wh - 10) (by omega) (by omega)
      refine g_aload_n C hl 0 rfl rfl dX5_ofDay_86 ?_
      refine g_get C hw hin_X5_ofDay_X5 11 rfl rfl 4 (by decide) lk_X5_ofDay_34 rfl dX5_ofDay_87 ?_
      refine g_get C hw hin_X5_ofDay_X0 0 rfl rfl 2 (by decide) lk_X5_ofDay_99 rfl dX5_ofDay_90 ?_
      refine g_iload_n C hl 1 rfl rfl dX5_ofDay_93 ?_
      refine g_bipush C dX5_ofDay_94 (by decide) ?_
      refine g_isub C dX5_ofDay_96 ?_
      refine g_iald C hw 2 rfl (by omega) (Nat.le_of_ble_eq_true rfl) dX5_ofDay_97 ?_
      refine g_goto C 103 dX5_ofDay_98 (by decide) ?_
      exact g_iret C hr (ws' := [oX5 h a tr lf, oX4 (a 1) ta cn, oX0 (a 4) lb cn xu xw, cA G (lb 1) 12 tex, cA G (lb 2) 4 trt, cA G (lb 3) 8 tmi, cA G (lb 4) 8 tsi, cA G (lb 5) 8 tun, cA G (lb 6) 8 tbe, cA G (lb 8) 8 tka, cA G (lb 11) 17 trs, cA G (lb 12) 17 trf, cA G (lb 13) 17 trp]) hw [11, 12, 0, 1, 2, 3, 4, 5, 6, 7, 8, 9, 10] (by decide) rfl ⟨xw, trs, trf, trp, (congrArg iI (by unfold R_end; (repeat' split) <;> first | rfl | omega)), rfl⟩ dX5_ofDay_103
  · skip
    refine g_tabIn C 2 43 44 hs_1 (by decide) dX5_ofDay_1 (by decide) (by decide) (by decide +kernel) (by decide) ?_
    refine g_aload_n C hl 0 rfl rfl dX5_ofDay_44 ?_
    refine g_get C hw hin_X5_ofDay_X5 0 rfl rfl 4 (by decide) lk_X5_ofDay_34 rfl dX5_ofDay_45 ?_
    refine g_callVv C hw (wr := [oX5 h a tr lf, oX4 (a 1) ta cn, cA G (lb 2) 4 trt]) (As := []) (rest := []) (m_X0_gatherRows l D G (h := (a 4)) (a := lb) (cn := cn) (ul := xu) (rw := xw) (ex := tex) (mi := tmi) (si := tsi) (un := tun) (be := tbe) (ka := tka) (rs := trs) (rf := trf) (rp := trp) (E := E) (by first | assumption | omega) (by first | assumption | omega) (by first | assumption | omega) (by first | assumption | omega) (by first | assumption | omega) (by first | assumption | omega)) (cwV 0 C.1.2.2.2.2 gX5_ofDay_X0_gatherRows rfl rfl rfl (by decide +kernel) ⟨Nat.le_of_ble_eq_true rfl, Nat.le_of_ble_eq_true rfl⟩) [2, 3, 5, 6, 7, 8, 9, 10, 11, 12] [0, 1, 4] rfl rfl (by decide) (by decide) (by decide) 0 rfl rfl rfl hl.1 _ rfl (Nat.le_of_ble_eq_true rfl) dX5_ofDay_48 ⟨Nat.le_of_ble_eq_true rfl, Nat.le_of_ble_eq_true rfl⟩ ?_
    clear hw
    rintro _ H locs ⟨rs2__3, rf2__4, rp2__5, rfl, hp_6⟩ hw
    have hw : gW D A s.heap [oX5 h a tr lf, oX4 (a 1) ta cn, cA G (lb 2) 4 trt, oX0 (a 4) lb cn xu ((fsL E (ALn E cn.toNat) cn (2 * (ALn E cn.toNat).length + 1)).length : Int), cA G (lb 1) 12 tex, cA G (lb 3) 8 tmi, cA G (lb 4) 8 tsi, cA G (lb 5) 8 tun, cA G (lb 6) 8 tbe, cA G (lb 8) 8 tka, cA G (lb 11) 17 rs2__3, cA G (lb 12) 17 rf2__4, cA G (lb 13) 17 rp2__5] H locs := hw
    have hp_6 : grP E (ALn E cn.toNat) cn (2 * ((ALn E cn.toNat).length : Int) + 1) ((fsL E (ALn E cn.toNat) cn (2 * (ALn E cn.toNat).length + 1)).length : Int) rs2__3 rf2__4 rp2__5 := hp_6
    refine g_aload_n C hl 0 rfl rfl dX5_ofDay_51 ?_
    refine g_get C hw hin_X5_ofDay_X5 0 rfl rfl 4 (by decide) lk_X5_ofDay_34 rfl dX5_ofDay_52 ?_
    refine g_get C hw hin_X5_ofDay_X0 3 rfl rfl 10 (by decide) lk_X5_ofDay_139 rfl dX5_ofDay_55 ?_
    exact g_iret C hr (ws' := [oX5 h a tr lf, oX4 (a 1) ta cn, oX0 (a 4) lb cn xu ((fsL E (ALn E cn.toNat) cn (2 * (ALn E cn.toNat).length + 1)).length : Int), cA G (lb 1) 12 tex, cA G (lb 2) 4 trt, cA G (lb 3) 8 tmi, cA G (lb 4) 8 tsi, cA G (lb 5) 8 tun, cA G (lb 6) 8 tbe, cA G (lb 8) 8 tka, cA G (lb 11) 17 rs2__3, cA G (lb 12) 17 rf2__4, cA G (lb 13) 17 rp2__5]) hw [0, 1, 3, 4, 2, 5, 6, 7, 8, 9, 10, 11, 12] (by decide) rfl ⟨((fsL E (ALn E cn.toNat) cn (2 * (ALn E cn.toNat).length + 1)).length : Int), rs2__3, rf2__4, rp2__5, (congrArg iI (by unfold R_end; (repeat' split) <;> first | rfl | omega)), rfl⟩ dX5_ofDay_58
  · skip
    refine g_tabIn C 3 58 59 hs_1 (by decide) dX5_ofDay_1 (by decide) (by decide) (by decide +kernel) (by decide) ?_
    refine g_aload_n C hl 0 rfl rfl dX5_ofDay_59 ?_
    refine g_get C hw hin_X5_ofDay_X5 0 rfl rfl 4 (by decide) lk_X5_ofDay_34 rfl dX5_ofDay_60 ?_
    refine g_callVi C hw (wr := [oX5 h a tr lf, oX4 (a 1) ta cn, cA G (lb 2) 4 trt, cA G (lb 11) 17 trs, cA G (lb 12) 17 trf, cA G (lb 13) 17 trp]) (As := []) (rest := []) (m_X0_spotsAllAbove l D G (h := (a 4)) (a := lb) (cn := cn) (ul := xu) (rw := xw) (ex := tex) (mi := tmi) (si := tsi) (un := tun) (be := tbe) (ka := tka) (E := E) (by first | assumption | omega) (by first | assumption | omega) (by first | assumption | omega) (by first | assumption | omega) (by first | assumption | omega) (by first | assumption | omega)) (cwV 0 C.1.2.2.2.2 gX5_ofDay_X0_spotsAllAbove rfl rfl rfl (by decide +kernel) ⟨Nat.le_of_ble_eq_true rfl, Nat.le_of_ble_eq_true rfl⟩) [2, 3, 5, 6, 7, 8, 9] [0, 1, 4, 10, 11, 12] rfl rfl (by decide) (by decide) (by decide) 0 rfl rfl rfl hl.1 _ rfl (Nat.le_of_ble_eq_true rfl) dX5_ofDay_63 ⟨Nat.le_of_ble_eq_true rfl, Nat.le_of_ble_eq_true rfl⟩ ?_
    clear hw
    rintro _ _ H locs ⟨rfl, rfl⟩ hw
    have hw : gW D A s.heap [oX5 h a tr lf, oX4 (a 1) ta cn, cA G (lb 2) 4 trt, cA G (lb 11) 17 trs, cA G (lb 12) 17 trf, cA G (lb 13) 17 trp, oX0 (a 4) lb cn xu xw, cA G (lb 1) 12 tex, cA G (lb 3) 8 tmi, cA G (lb 4) 8 tsi, cA G (lb 5) 8 tun, cA G (lb 6) 8 tbe, cA G (lb 8) 8 tka] H locs := hw
    exact g_iret C hr (ws' := [oX5 h a tr lf, oX4 (a 1) ta cn, oX0 (a 4) lb cn xu xw, cA G (lb 1) 12 tex, cA G (lb 2) 4 trt, cA G (lb 3) 8 tmi, cA G (lb 4) 8 tsi, cA G (lb 5) 8 tun, cA G (lb 6) 8 tbe, cA G (lb 8) 8 tka, cA G (lb 11) 17 trs, cA G (lb 12) 17 trf, cA G (lb 13) 17 trp]) hw [0, 1, 6, 7, 2, 8, 9, 10, 11, 12, 3, 4, 5] (by decide) rfl ⟨xw, trs, trf, trp, (congrArg iI (by unfold R_end; (repeat' split) <;> first | rfl | omega)), rfl⟩ dX5_ofDay_66
  · skip
    refine g_tabIn C 4 66 67 hs_1 (by decide) dX5_ofDay_1 (by decide) (by decide) (by decide +kernel) (by decide) ?_
    refine g_aload_n C hl 0 rfl rfl dX5_ofDay_67 ?_
    refine g_get C hw hin_X5_ofDay_X5 0 rfl rfl 4 (by decide) lk_X5_ofDay_34 rfl dX5_ofDay_68 ?_
    refine g_callVi C hw (wr := [oX5 h a tr lf, oX4 (a 1) ta cn, cA G (lb 1) 12 tex, cA G (lb 3) 8 tmi, cA G (lb 4) 8 tsi, cA G (lb 5) 8 tun, cA G (lb 6) 8 tbe, cA G (lb 8) 8 tka, cA G (lb 11) 17 trs, cA G (lb 12) 17 trf, cA G (lb 13) 17 trp]) (As := []) (rest := []) (m_X0_rootless l D G (h := (a 4)) (a := lb) (cn := cn) (ul := xu) (rw := xw) (rt := trt) (E := E) (by first | assumption | omega) (by first | assumption | omega)) (cwV 0 C.1.2.2.2.2 gX5_ofDay_X0_rootless rfl rfl rfl (by decide +kernel) ⟨Nat.le_of_ble_eq_true rfl, Nat.le_of_ble_eq_true rfl⟩) [2, 4] [0, 1, 3, 5, 6, 7, 8, 9, 10, 11, 12] rfl rfl (by decide) (by decide) (by decide) 0 rfl rfl rfl hl.1 _ rfl (Nat.le_of_ble_eq_true rfl) dX5_ofDay_71 ⟨Nat.le_of_ble_eq_true rfl, Nat.le_of_ble_eq_true rfl⟩ ?_
    clear hw
    rintro _ _ H locs ⟨rfl, rfl⟩ hw
    have hw : gW D A s.heap [oX5 h a tr lf, oX4 (a 1) ta cn, cA G (lb 1) 12 tex, cA G (lb 3) 8 tmi, cA G (lb 4) 8 tsi, cA G (lb 5) 8 tun, cA G (lb 6) 8 tbe, cA G (lb 8) 8 tka, cA G (lb 11) 17 trs, cA G (lb 12) 17 trf, cA G (lb 13) 17 trp, oX0 (a 4) lb cn xu xw, cA G (lb 2) 4 trt] H locs := hw
    exact g_iret C hr (ws' := [oX5 h a tr lf, oX4 (a 1) ta cn, oX0 (a 4) lb cn xu xw, cA G (lb 1) 12 tex, cA G (lb 2) 4 trt, cA G (lb 3) 8 tmi, cA G (lb 4) 8 tsi, cA G (lb 5) 8 tun, cA G (lb 6) 8 tbe, cA G (lb 8) 8 tka, cA G (lb 11) 17 trs, cA G (lb 12) 17 trf, cA G (lb 13) 17 trp]) hw [0, 1, 11, 2, 12, 3, 4, 5, 6, 7, 8, 9, 10] (by decide) rfl ⟨xw, trs, trf, trp, (congrArg iI (by unfold R_end; (repeat' split) <;> first | rfl | omega)), rfl⟩ dX5_ofDay_74
  · skip
    refine g_tabOut C 75 (by omega) dX5_ofDay_1 (by omega) (by decide) ?_
    refine g_aload_n C hl 0 rfl rfl dX5_ofDay_75 ?_
    refine g_iload_n C hl 1 rfl rfl dX5_ofDay_76 ?_
    refine g_bipush C dX5_ofDay_77 (by decide) ?_
    refine g_isub C dX5_ofDay_79 ?_
    refine g_callVi C hw (wr := [oX0 (a 4) lb cn xu xw, cA G (lb 1) 12 tex, cA G (lb 2) 4 trt, cA G (lb 3) 8 tmi, cA G (lb 4) 8 tsi, cA G (lb 5) 8 tun, cA G (lb 6) 8 tbe, cA G (lb 8) 8 tka, cA G (lb 11) 17 trs, cA G (lb 12) 17 trf, cA G (lb 13) 17 trp]) (As := [.int (iI (wh - 10))]) (rest := []) (m_X5_isPolynomial l D G (h := h) (a := a) (tr := tr) (lf := lf) (ta := ta) (cn := cn) (pp := (wh - 10)) (by first | assumption | omega) (by first | assumption | omega)) (cwV 1 C.1.2.2.2.2 gX5_ofDay_X5_isPolynomial rfl rfl rfl (by decide +kernel) ⟨Nat.le_of_ble_eq_true rfl, Nat.le_of_ble_eq_true rfl⟩) [0, 1] [2, 3, 4, 5, 6, 7, 8, 9, 10, 11, 12] rfl rfl (by decide) (by decide) (by decide) 0 rfl rfl rfl hl.1 _ rfl (Nat.le_of_ble_eq_true rfl) dX5_ofDay_80 ⟨Nat.le_of_ble_eq_true rfl, Nat.le_of_ble_eq_true rfl⟩ ?_
    clear hw
    rintro _ _ H locs ⟨rfl, rfl⟩ hw
    have hw : gW D A s.heap [oX0 (a 4) lb cn xu xw, cA G (lb 1) 12 tex, cA G (lb 2) 4 trt, cA G (lb 3) 8 tmi, cA G (lb 4) 8 tsi, cA G (lb 5) 8 tun, cA G (lb 6) 8 tbe, cA G (lb 8) 8 tka, cA G (lb 11) 17 trs, cA G (lb 12) 17 trf, cA G (lb 13) 17 trp, oX5 h a tr lf, oX4 (a 1) ta cn] H locs := hw
    refine g_ifb_eq C 101 dX5_ofDay_83 (by decide) (fun c_7 => ?_) (fun c_7 => ?_)
    · skip
      refine g_bipush C dX5_ofDay_101 (by decide) ?_
      exact g_iret C hr (ws' := [oX5 h a tr lf, oX4 (a 1) ta cn, oX0 (a 4) lb cn xu xw, cA G (lb 1) 12 tex, cA G (lb 2) 4 trt, cA G (lb 3) 8 tmi, cA G (lb 4) 8 tsi, cA G (lb 5) 8 tun, cA G (lb 6) 8 tbe, cA G (lb 8) 8 tka, cA G (lb 11) 17 trs, cA G (lb 12) 17 trf, cA G (lb 13) 17 trp]) hw [11, 12, 0, 1, 2, 3, 4, 5, 6, 7, 8, 9, 10] (by decide) rfl ⟨xw, trs, trf, trp, (congrArg iI (by unfold R_end; (repeat' split) <;> first | rfl | omega)), rfl⟩ dX5_ofDay_103
    · skip
      have ht9 := hT (wh - 10) (by omega) (by omega)
      refine g_aload_n C hl 0 rfl rfl dX5_ofDay_86 ?_
      refine g_get C hw hin_X5_ofDay_X5 11 rfl rfl 4 (by decide) lk_X5_ofDay_34 rfl dX5_ofDay_87 ?_
      refine g_get C hw hin_X5_ofDay_X0 0 rfl rfl 2 (by decide) lk_X5_ofDay_99 rfl dX5_ofDay_90 ?_
      refine g_iload_n C hl 1 rfl rfl dX5_ofDay_93 ?_
      refine g_bipush C dX5_ofDay_94 (by decide) ?_
      refine g_isub C dX5_ofDay_96 ?_
      refine g_iald C hw 2 rfl (by omega) (Nat.le_of_ble_eq_true rfl) dX5_ofDay_97 ?_
      refine g_goto C 103 dX5_ofDay_98 (by decide) ?_
      exact g_iret C hr (ws' := [oX5 h a tr lf, oX4 (a 1) ta cn, oX0 (a 4) lb cn xu xw, cA G (lb 1) 12 tex, cA G (lb 2) 4 trt, cA G (lb 3) 8 tmi, cA G (lb 4) 8 tsi, cA G (lb 5) 8 tun, cA G (lb 6) 8 tbe, cA G (lb 8) 8 tka, cA G (lb 11) 17 trs, cA G (lb 12) 17 trf, cA G (lb 13) 17 trp]) hw [11, 12, 0, 1, 2, 3, 4, 5, 6, 7, 8, 9, 10] (by decide) rfl ⟨xw, trs, trf, trp, (congrArg iI (by unfold R_end; (repeat' split) <;> first | rfl | omega)), rfl⟩ dX5_ofDay_103

set_option maxRecDepth 20000 in
theorem hin_X5_day_X5 : ∀ w ∈ u_ws RX5 TX5 9, w ∈ wsX5_day := by
  intro w h
  exact List.mem_cons_of_mem _ (List.mem_append_left _ (List.mem_append_left _ (List.mem_append_left _ (List.mem_append_right _ (h)))))
set_option maxRecDepth 20000 in
theorem lk_X5_day_51 : Cond.fieldLink RX5 51 (TX5 8).1 (TX5 8).2.1 (TX5 8).2.2.1 ∈ wsX5_day := List.mem_cons_of_mem _ (List.mem_append_left _ (List.mem_append_left _ (List.mem_append_left _ (List.mem_append_left _ (List.mem_append_left _ (List.mem_of_getElem? (i := 0) rfl))))))
set_option maxRecDepth 20000 in
theorem lk_X5_day_20 : Cond.fieldLink RX5 20 (TX5 1).1 (TX5 1).2.1 (TX5 1).2.2.1 ∈ wsX5_day := List.mem_cons_of_mem _ (List.mem_append_left _ (List.mem_append_left _ (List.mem_append_left _ (List.mem_append_left _ (List.mem_append_left _ (List.mem_of_getElem? (i := 1) rfl))))))
set_option maxRecDepth 20000 in
theorem hin_X5_day_X4 : ∀ w ∈ u_ws RX4 TX4 3, w ∈ wsX5_day := by
  intro w h
  exact List.mem_cons_of_mem _ (List.mem_append_left _ (List.mem_append_left _ (List.mem_append_right _ (h))))
set_option maxRecDepth 20000 in
theorem lk_X5_day_92 : Cond.fieldLink RX5 92 (TX4 0).1 (TX4 0).2.1 (TX4 0).2.2.1 ∈ wsX5_day := List.mem_cons_of_mem _ (List.mem_append_left _ (List.mem_append_left _ (List.mem_append_left _ (List.mem_append_left _ (List.mem_append_left _ (List.mem_of_getElem? (i := 2) rfl))))))
set_option maxRecDepth 20000 in
theorem lk_X5_day_13 : Cond.fieldLink RX5 13 (TX5 0).1 (TX5 0).2.1 (TX5 0).2.2.1 ∈ wsX5_day := List.mem_cons_of_mem _ (List.mem_append_left _ (List.mem_append_left _ (List.mem_append_left _ (List.mem_append_left _ (List.mem_append_left _ (List.mem_of_getElem? (i := 3) rfl))))))
set_option maxRecDepth 100000 in
set_option maxHeartbeats 8000000 in
theorem m_X5_day_n (l : Launch) (D : va_G) (G : gT) (h : Nat) (a : Nat → Nat) (tr : Int) (lf : Int) (ta : Nat → Nat) (cn : Int) (kd : Int → Int) (nu : Int → Int) (qf : Nat → Option Nat) (sz : Int → Int) (ln : Int → Int) (ce : Int → Int) (kk : Int) (lv : Int) (ii : Int) (mm : Int) (wh : Int) (hcn : 0 ≤ cn ∧ cn ≤ 4) (hk : -2147483648 ≤ kk ∧ kk ≤ 2147483647) (hlv : -2147483648 ≤ lv ∧ lv ≤ 2147483647) (hi : -2147483648 ≤ ii ∧ ii ≤ 2147483647) (hm9 : -2147483648 ≤ mm ∧ mm ≤ 2147483647) (hw1 : -2147483648 ≤ wh ∧ wh ≤ 2147483647) (hqn : 0 ≤ kk → kk ≤ 3 → qf kk.toNat = none) (hsk : 0 ≤ kk → kk ≤ 3 → sz kk = -1) : gMi l yX5_day wsX5_day ({ frames := 7, cells := 0, slots := 0, locals := 184 }) D G [.ref h, .int (iI kk), .int (iI lv), .int (iI ii), .int (iI mm), .int (iI wh)] [oX5 h a tr lf, oX4 (a 1) ta cn, cQ G (a 0) 4 qf] 0 0 (fun (r : Int32) (w : va_W) => r = (iI (R_day cn kd nu sz ln ce kk lv ii mm wh)) ∧ w = [oX5 h a tr (F_day cn sz ln kk lv ii mm wh), oX4 (a 1) ta cn, cQ G (a 0) 4 qf]) := by
  refine g_start_i (cc := cX5_day) (nL := 10) (own := RX5) (ret := some .int) (by decide +kernel) rfl rfl (Nat.le_of_ble_eq_true rfl) ?_
  intro p e s m below meth c A ls C hr hnm hw hl
  have hl : lv_has ls 10 [(0, .ref h), (1, .int (iI kk)), (2, .int (iI lv)), (3, .int (iI ii)), (4, .int (iI mm)), (5, .int (iI wh))] := hl
  refine g_aload_n C hl 0 rfl rfl dX5_day_0 ?_
  refine g_iconst C dX5_day_1 ?_
  refine g_put C hw [oX5 h a tr 0, oX4 (a 1) ta cn, cQ G (a 0) 4 qf] hin_X5_day_X5 tyX5 tyX5_ok nmX5 0 rfl rfl 8 (by decide) lk_X5_day_51 rfl rfl rfl rfl (Nat.le_of_ble_eq_true rfl) rfl dX5_day_2 ?_
  clear hw
  intro H locs hw
  refine g_iload_n C hl 1 rfl rfl dX5_day_5 ?_
  refine g_callSi C hw (wr := [oX5 h a tr 0, oX4 (a 1) ta cn, cQ G (a 0) 4 qf]) (As := [.int (iI kk)]) (rest := []) (m_X5_isSheet l D G (kk := kk) (by first | assumption | omega)) (va_cwS 1 C.1.2.2.2.2 gX5_day_X5_isSheet rfl rfl rfl (by decide +kernel) ⟨Nat.le_of_ble_eq_true rfl, Nat.le_of_ble_eq_true rfl⟩) [] [0, 1, 2] rfl rfl (by decide) (by decide) (by decide) rfl hl.1 _ rfl (Nat.le_of_ble_eq_true rfl) dX5_day_6 ⟨Nat.le_of_ble_eq_true rfl, Nat.le_of_ble_eq_true rfl⟩ ?_
  clear hw
  rintro _ _ H locs ⟨rfl, rfl⟩ hw
  have hw : gW D A s.heap [oX5 h a tr 0, oX4 (a 1) ta cn, cQ G (a 0) 4 qf] H locs := hw
  refine g_ifb_ne C 14 dX5_day_9 (by decide) (fun c_1 => ?_) (fun c_1 => ?_)
  · skip
    refine g_iload_n C hl 2 rfl rfl dX5_day_14 ?_
    refine g_iconst C dX5_day_15 ?_
    refine g_callSi C hw (wr := [oX5 h a tr 0, oX4 (a 1) ta cn, cQ G (a 0) 4 qf]) (As := [.int (iI lv), .int (iI 3)]) (rest := []) (m_X5_isBelow l D G (na := lv) (nb := 3) (by first | assumption | omega) (by first | assumption | omega)) (va_cwS 2 C.1.2.2.2.2 gX5_day_X5_isBelow rfl rfl rfl (by decide +kernel) ⟨Nat.le_of_ble_eq_true rfl, Nat.le_of_ble_eq_true rfl⟩) [] [0, 1, 2] rfl rfl (by decide) (by decide) (by decide) rfl hl.1 _ rfl (Nat.le_of_ble_eq_true rfl) dX5_day_16 ⟨Nat.le_of_ble_eq_true rfl, Nat.le_of_ble_eq_true rfl⟩ ?_
    clear hw
    rintro _ _ H locs ⟨rfl, rfl⟩ hw
    have hw : gW D A s.heap [oX5 h a tr 0, oX4 (a 1) ta cn, cQ G (a 0) 4 qf] H locs := hw
    refine g_ifb_eq C 42 dX5_day_19 (by decide) (fun c_2 => ?_) (fun c_2 => ?_)
    · skip
      have w9 : D_st cn kk lv mm wh = -2 := by unfold D_st; (repeat' split) <;> omega
      obtain ⟨wr9, wf9⟩ := R_day_1 (n := cn) (kd := kd) (nu := nu) (sz := sz) (ln := ln) (ce := ce) (k := kk) (lane := lv) (i := ii) (m := mm) (w := wh) (by rw [w9]; decide)
      rw [w9] at wr9
      refine g_bipush C dX5_day_42 (by decide) ?_
      exact g_iret C hr (ws' := [oX5 h a tr 0, oX4 (a 1) ta cn, cQ G (a 0) 4 qf]) hw [0, 1, 2] (by decide) rfl ⟨(congrArg iI (by rw [wr9]; try omega)), (by rw [wf9])⟩ dX5_day_44
    · skip
      refine g_iload C hl 4 rfl dX5_day_22 ?_
      refine g_if_lt C 42 dX5_day_24 (by decide) (by omega) (fun c_3 => ?_) (fun c_3 => ?_)
      · skip
        have w9 : D_st cn kk lv mm wh = -2 := by unfold D_st; (repeat' split) <;> omega
        obtain ⟨wr9, wf9⟩ := R_day_1 (n := cn) (kd := kd) (nu := nu) (sz := sz) (ln := ln) (ce := ce) (k := kk) (lane := lv) (i := ii) (m := mm) (w := wh) (by rw [w9]; decide)
        rw [w9] at wr9
        refine g_bipush C dX5_day_42 (by decide) ?_
        exact g_iret C hr (ws' := [oX5 h a tr 0, oX4 (a 1) ta cn, cQ G (a 0) 4 qf]) hw [0, 1, 2] (by decide) rfl ⟨(congrArg iI (by rw [wr9]; try omega)), (by rw [wf9])⟩ dX5_day_44
      · skip
        refine g_iload C hl 4 rfl dX5_day_27 ?_
        refine g_bipush C dX5_day_29 (by decide) ?_
        refine g_icmp_gt C 42 dX5_day_31 (by decide) (by omega) (by omega) (fun c_4 => ?_) (fun c_4 => ?_)
        · skip
          have w9 : D_st cn kk lv mm wh = -2 := by unfold D_st; (repeat' split) <;> omega
          obtain ⟨wr9, wf9⟩ := R_day_1 (n := cn) (kd := kd) (nu := nu) (sz := sz) (ln := ln) (ce := ce) (k := kk) (lane := lv) (i := ii) (m := mm) (w := wh) (by rw [w9]; decide)
          rw [w9] at wr9
          refine g_bipush C dX5_day_42 (by decide) ?_
          exact g_iret C hr (ws' := [oX5 h a tr 0, oX4 (a 1) ta cn, cQ G (a 0) 4 qf]) hw [0, 1, 2] (by decide) rfl ⟨(congrArg iI (by rw [wr9]; try omega)), (by rw [wf9])⟩ dX5_day_44
        · skip
          refine g_iload C hl 5 rfl dX5_day_34 ?_
          refine g_callSi C hw (wr := [oX5 h a tr 0, oX4 (a 1) ta cn, cQ G (a 0) 4 qf]) (As := [.int (iI wh)]) (rest := []) (m_X5_isAskedOfDay l D G (wh := wh) (by first | assumption | omega)) (va_cwS 1 C.1.2.2.2.2 gX5_day_X5_isAskedOfDay rfl rfl rfl (by decide +kernel) ⟨Nat.le_of_ble_eq_true rfl, Nat.le_of_ble_eq_true rfl⟩) [] [0, 1, 2] rfl rfl (by decide) (by decide) (by decide) rfl hl.1 _ rfl (Nat.le_of_ble_eq_true rfl) dX5_day_36 ⟨Nat.le_of_ble_eq_true rfl, Nat.le_of_ble_eq_true rfl⟩ ?_
          clear hw
          rintro _ _ H locs ⟨rfl, rfl⟩ hw
          have hw : gW D A s.heap [oX5 h a tr 0, oX4 (a 1) ta cn, cQ G (a 0) 4 qf] H locs := hw
          refine g_ifb_ne C 45 dX5_day_39 (by decide) (fun c_5 => ?_) (fun c_5 => ?_)
          · skip
            refine g_aload_n C hl 0 rfl rfl dX5_day_45 ?_
            refine g_get C hw hin_X5_day_X5 0 rfl rfl 1 (by decide) lk_X5_day_20 rfl dX5_day_46 ?_
            refine g_get C hw hin_X5_day_X4 1 rfl rfl 0 (by decide) lk_X5_day_92 rfl dX5_day_49 ?_
            refine g_if_ne C 58 dX5_day_52 (by decide) (by omega) (fun c_6 => ?_) (fun c_6 => ?_)
            · skip
              refine g_aload_n C hl 0 rfl rfl dX5_day_58 ?_
              refine g_get C hw hin_X5_day_X5 0 rfl rfl 0 (by decide) lk_X5_day_13 rfl dX5_day_59 ?_
              refine g_iload_n C hl 1 rfl rfl dX5_day_62 ?_
              refine g_aald C hw 2 rfl (by omega) (Nat.le_of_ble_eq_true rfl) dX5_day_63 ?_
              refine g_topv (show va_rf (qf kk.toNat) = .null by exact rf_n (hqn (by omega) (by omega))) ?_
              refine g_astoreN C [(6, .null), (0, .ref h), (1, .int (iI kk)), (2, .int (iI lv)), (3, .int (iI ii)), (4, .int (iI mm)), (5, .int (iI wh))] dX5_day_64 hl (by decide) rfl ?_
              clear hl
              intro ls hl
              refine g_aloadN C hl 0 rfl dX5_day_66 ?_
              refine g_iload_n C hl 3 rfl rfl dX5_day_68 ?_
              refine g_iload_n C hl 4 rfl rfl dX5_day_69 ?_
              refine g_iload C hl 5 rfl dX5_day_70 ?_
              refine g_iconst C dX5_day_72 ?_
              refine g_imul C dX5_day_73 ?_
              refine g_nI (show (mm * 3 : Int) = 3 * mm by omega) ?_
              refine g_callSi C hw (wr := [oX5 h a tr 0, oX4 (a 1) ta cn, cQ G (a 0) 4 qf]) (As := [.null, .int (iI lv), .int (iI ii), .int (iI (3 * mm))]) (rest := []) (m_X5_foc_n l D G (lv := lv) (ii := ii) (nn := (3 * mm)) ) (va_cwS 4 C.1.2.2.2.2 gX5_day_X5_faultOfCells rfl rfl rfl (by decide +kernel) ⟨Nat.le_of_ble_eq_true rfl, Nat.le_of_ble_eq_true rfl⟩) [] [0, 1, 2] rfl rfl (by decide) (by decide) (by decide) rfl hl.1 _ rfl (Nat.le_of_ble_eq_true rfl) dX5_day_74 ⟨Nat.le_of_ble_eq_true rfl, Nat.le_of_ble_eq_true rfl⟩ ?_
              clear hw
              rintro _ _ H locs ⟨rfl, rfl⟩ hw
              have hw : gW D A s.heap [oX5 h a tr 0, oX4 (a 1) ta cn, cQ G (a 0) 4 qf] H locs := hw
              refine g_istore C [(7, .int (iI 1)), (6, .null), (0, .ref h), (1, .int (iI kk)), (2, .int (iI lv)), (3, .int (iI ii)), (4, .int (iI mm)), (5, .int (iI wh))] dX5_day_77 hl (by decide) rfl ?_
              clear hl
              intro ls hl
              refine g_iload C hl 0 rfl dX5_day_79 ?_
              refine g_if_eq C 91 dX5_day_81 (by decide) (by decide) (fun c_7 => absurd c_7 (by decide)) (fun c_7 => ?_)
              have hb1 : barC sz ln kk lv ii (3 * mm) = 1 := by have := hsk (by omega) (by omega); unfold barC; rw [if_neg (by omega), if_pos (by omega)]
              have w9 : D_st cn kk lv mm wh = 0 := by unfold D_st; (repeat' split) <;> omega
              obtain ⟨wr9, wf9⟩ := R_day_2 (n := cn) (kd := kd) (nu := nu) (sz := sz) (ln := ln) (ce := ce) (k := kk) (lane := lv) (i := ii) (m := mm) (w := wh) w9 (by omega)
              rw [hb1] at wr9 wf9
              refine g_aload_n C hl 2 rfl rfl dX5_day_84 ?_
              refine g_iload C hl 0 rfl dX5_day_85 ?_
              refine g_callVi C hw (wr := [oX4 (a 1) ta cn, cQ G (a 0) 4 qf]) (As := [.int (iI 1)]) (rest := []) (m_X5_failed l D G (h := h) (a := a) (tr := tr) (lf := 0) (fv := 1) ) (cwV 1 C.1.2.2.2.2 gX5_day_X5_failed rfl rfl rfl (by decide +kernel) ⟨Nat.le_of_ble_eq_true rfl, Nat.le_of_ble_eq_true rfl⟩) [0] [1, 2] rfl rfl (by decide) (by decide) (by decide) 0 rfl rfl rfl hl.1 _ rfl (Nat.le_of_ble_eq_true rfl) dX5_day_87 ⟨Nat.le_of_ble_eq_true rfl, Nat.le_of_ble_eq_true rfl⟩ ?_
              clear hw
              rintro _ _ H locs ⟨rfl, rfl⟩ hw
              have hw : gW D A s.heap [oX4 (a 1) ta cn, cQ G (a 0) 4 qf, oX5 h a tr 1] H locs := hw
              exact g_iret C hr (ws' := [oX5 h a tr 1, oX4 (a 1) ta cn, cQ G (a 0) 4 qf]) hw [2, 0, 1] (by decide) rfl ⟨(congrArg iI (by rw [wr9]; try omega)), (by rw [wf9])⟩ dX5_day_90
            · skip
              have w9 : D_st cn kk lv mm wh = -3 := by unfold D_st; (repeat' split) <;> omega
              obtain ⟨wr9, wf9⟩ := R_day_1 (n := cn) (kd := kd) (nu := nu) (sz := sz) (ln := ln) (ce := ce) (k := kk) (lane := lv) (i := ii) (m := mm) (w := wh) (by rw [w9]; decide)
              rw [w9] at wr9
              refine g_bipush C dX5_day_55 (by decide) ?_
              exact g_iret C hr (ws' := [oX5 h a tr 0, oX4 (a 1) ta cn, cQ G (a 0) 4 qf]) hw [0, 1, 2] (by decide) rfl ⟨(congrArg iI (by rw [wr9]; try omega)), (by rw [wf9])⟩ dX5_day_57
          · skip
            have w9 : D_st cn kk lv mm wh = -2 := by unfold D_st; (repeat' split) <;> omega
            obtain ⟨wr9, wf9⟩ := R_day_1 (n := cn) (kd := kd) (nu := nu) (sz := sz) (ln := ln) (ce := ce) (k := kk) (lane := lv) (i := ii) (m := mm) (w := wh) (by rw [w9]; decide)
            rw [w9] at wr9
            refine g_bipush C dX5_day_42 (by decide) ?_
            exact g_iret C hr (ws' := [oX5 h a tr 0, oX4 (a 1) ta cn, cQ G (a 0) 4 qf]) hw [0, 1, 2] (by decide) rfl ⟨(congrArg iI (by rw [wr9]; try omega)), (by rw [wf9])⟩ dX5_day_44
  · skip
    have w9 : D_st cn kk lv mm wh = -1 := by unfold D_st; (repeat' split) <;> omega
    obtain ⟨wr9, wf9⟩ := R_day_1 (n := cn) (kd := kd) (nu := nu) (sz := sz) (ln := ln) (ce := ce) (k := kk) (lane := lv) (i := ii) (m := mm) (w := wh) (by rw [w9]; decide)
    rw [w9] at wr9
    refine g_iconst C dX5_day_12 ?_
    exact g_iret C hr (ws' := [oX5 h a tr 0, oX4 (a 1) ta cn, cQ G (a 0) 4 qf]) hw [0, 1, 2] (by decide) rfl ⟨(congrArg iI (by rw [wr9]; try omega)), (by rw [wf9])⟩ dX5_day_13

set_option maxRecDepth 20000 in
theorem hin_X5_day_X2 : ∀ w ∈ u_ws RX2 TX2 2, w ∈ wsX5_day := by
  intro w h
  exact List.mem_cons_of_mem _ (List.mem_append_left _ (List.mem_append_right _ (h)))
set_option maxRecDepth 20000 in
theorem lk_X5_day_71 : Cond.fieldLink RX5 71 (TX2 1).1 (TX2 1).2.1 (TX2 1).2.2.1 ∈ wsX5_day := List.mem_cons_of_mem _ (List.mem_append_left _ (List.mem_append_left _ (List.mem_append_left _ (List.mem_append_left _ (List.mem_append_left _ (List.mem_of_getElem? (i := 4) rfl))))))
set_option maxRecDepth 20000 in
theorem lk_X5_day_34 : Cond.fieldLink RX5 34 (TX5 4).1 (TX5 4).2.1 (TX5 4).2.2.1 ∈ wsX5_day := List.mem_cons_of_mem _ (List.mem_append_left _ (List.mem_append_left _ (List.mem_append_left _ (List.mem_append_left _ (List.mem_append_left _ (List.mem_of_getElem? (i := 5) rfl))))))
set_option maxRecDepth 20000 in
theorem lk_X5_day_31 : Cond.fieldLink RX5 31 (TX5 3).1 (TX5 3).2.1 (TX5 3).2.2.1 ∈ wsX5_day := List.mem_cons_of_mem _ (List.mem_append_left _ (List.mem_append_left _ (List.mem_append_left _ (List.mem_append_left _ (List.mem_append_left _ (List.mem_of_getElem? (i := 6) rfl))))))
set_option maxRecDepth 100000 in
set_option maxHeartbeats 8000000 in
theorem m_X5_day_s (l : Launch) (D : va_G) (G : gT) (h : Nat) (a : Nat → Nat) (tr : Int) (lf : Int) (ta : Nat → Nat) (cn : Int) (kd : Int → Int) (nu : Int → Int) (qf : Nat → Option Nat) (sa : Nat) (sb : Nat → Nat) (la1 : Int) (zn : Nat) (gg : Int → Int) (tb : Nat → Nat) (tc : Int) (kt : Int → Int) (nt : Int → Int) (lb : Nat → Nat) (xc : Int) (xu : Int) (xw : Int) (tex : Int → Int) (trt : Int → Int) (tmi : Int → Int) (tsi : Int → Int) (tun : Int → Int) (tbe : Int → Int) (tka : Int → Int) (tbr : Int → Int) (trs : Int → Int) (trf : Int → Int) (trp : Int → Int) (sz : Int → Int) (ln : Int → Int) (ce : Int → Int) (kk : Int) (lv : Int) (ii : Int) (mm : Int) (wh : Int) (hkd : kdOK kd) (hnu : nuOK nu) (hkt : kdOK kt) (hnt : nuOK nt) (hcn : 0 ≤ cn ∧ cn ≤ 4) (hk : -2147483648 ≤ kk ∧ kk ≤ 2147483647) (hlv : -2147483648 ≤ lv ∧ lv ≤ 2147483647) (hi : -2147483648 ≤ ii ∧ ii ≤ 2147483647) (hm9 : -2147483648 ≤ mm ∧ mm ≤ 2147483647) (hw1 : -2147483648 ≤ wh ∧ wh ≤ 2147483647) (hk3 : 0 ≤ kk ∧ kk ≤ 3) (hqs : qf kk.toNat = some sa) (hsk : sz kk = zn) (hlk : ln kk = la1) (hla1 : 0 ≤ la1 ∧ la1 ≤ 2) (hzn : zn ≤ 60) (hce : ∀ j, 0 ≤ j → j < (zn : Int) → gg j = ce (60 * kk + j) ∧ -2147483648 ≤ gg j ∧ gg j ≤ 2147483647) : gMi l yX5_day wsX5_day ({ frames := 7, cells := 0, slots := 0, locals := 184 }) D G [.ref h, .int (iI kk), .int (iI lv), .int (iI ii), .int (iI mm), .int (iI wh)] [oX5 h a tr lf, oX4 (a 1) ta cn, cA G (ta 1) 4 kd, cA G (ta 2) 12 nu, cQ G (a 0) 4 qf, oX2 sa sb la1, cA G (sb 1) zn gg, oX4 (a 3) tb tc, cA G (tb 1) 4 kt, cA G (tb 2) 12 nt, oX0 (a 4) lb xc xu xw, cA G (lb 1) 12 tex, cA G (lb 2) 4 trt, cA G (lb 3) 8 tmi, cA G (lb 4) 8 tsi, cA G (lb 5) 8 tun, cA G (lb 6) 8 tbe, cA G (lb 8) 8 tka, cA G (lb 9) 8 tbr, cA G (lb 11) 17 trs, cA G (lb 12) 17 trf, cA G (lb 13) 17 trp] 0 0 (fun (r : Int32) (w : va_W) => ∃ (tc2 : Int) (kt2 : Int → Int) (nt2 : Int → Int) (xc2 : Int) (xu2 : Int) (tex2 : Int → Int) (trt2 : Int → Int) (tmi2 : Int → Int) (tsi2 : Int → Int) (tun2 : Int → Int) (tbe2 : Int → Int) (tka2 : Int → Int) (tbr2 : Int → Int) (xw2 : Int) (trs2 : Int → Int) (trf2 : Int → Int) (trp2 : Int → Int), r = (iI (R_day cn kd nu sz ln ce kk lv ii mm wh)) ∧ w = [oX5 h a tr (F_day cn sz ln kk lv ii mm wh), oX4 (a 1) ta cn, cA G (ta 1) 4 kd, cA G (ta 2) 12 nu, cQ G (a 0) 4 qf, oX2 sa sb la1, cA G (sb 1) zn gg, oX4 (a 3) tb tc2, cA G (tb 1) 4 kt2, cA G (tb 2) 12 nt2, oX0 (a 4) lb xc2 xu2 xw2, cA G (lb 1) 12 tex2, cA G (lb 2) 4 trt2, cA G (lb 3) 8 tmi2, cA G (lb 4) 8 tsi2, cA G (lb 5) 8 tun2, cA G (lb 6) 8 tbe2, cA G (lb 8) 8 tka2, cA G (lb 9) 8 tbr2, cA G (lb 11) 17 trs2, cA G (lb 12) 17 trf2, cA G (lb 13) 17 trp2] ∧ (kdOK kt2 ∧ nuOK nt2)) := by
  refine g_start_i (cc := cX5_day) (nL := 10) (own := RX5) (ret := some .int) (by decide +kernel) rfl rfl (Nat.le_of_ble_eq_true rfl) ?_
  intro p e s m below meth c A ls C hr hnm hw hl
  have hl : lv_has ls 10 [(0, .ref h), (1, .int (iI kk)), (2, .int (iI lv)), (3, .int (iI ii)), (4, .int (iI mm)), (5, .int (iI wh))] := hl
  have hb9 := barC_r sz ln kk lv ii (3 * mm)
  have hbz : barC sz ln kk lv ii (3 * mm) = 0 → 0 ≤ ii ∧ 0 ≤ mm ∧ ii + 3 * mm ≤ (zn : Int) := by unfold barC; (repeat' split) <;> omega
  have hls := lsF_r (fwP cn ce (60 * kk + ii)) mm.toNat 0
  refine g_aload_n C hl 0 rfl rfl dX5_day_0 ?_
  refine g_iconst C dX5_day_1 ?_
  refine g_put C hw [oX5 h a tr 0, oX4 (a 1) ta cn, cA G (ta 1) 4 kd, cA G (ta 2) 12 nu, cQ G (a 0) 4 qf, oX2 sa sb la1, cA G (sb 1) zn gg, oX4 (a 3) tb tc, cA G (tb 1) 4 kt, cA G (tb 2) 12 nt, oX0 (a 4) lb xc xu xw, cA G (lb 1) 12 tex, cA G (lb 2) 4 trt, cA G (lb 3) 8 tmi, cA G (lb 4) 8 tsi, cA G (lb 5) 8 tun, cA G (lb 6) 8 tbe, cA G (lb 8) 8 tka, cA G (lb 9) 8 tbr, cA G (lb 11) 17 trs, cA G (lb 12) 17 trf, cA G (lb 13) 17 trp] hin_X5_day_X5 tyX5 tyX5_ok nmX5 0 rfl rfl 8 (by decide) lk_X5_day_51 rfl rfl rfl rfl (Nat.le_of_ble_eq_true rfl) rfl dX5_day_2 ?_
  clear hw
  intro H locs hw
  refine g_iload_n C hl 1 rfl rfl dX5_day_5 ?_
  refine g_callSi C hw (wr := [oX5 h a tr 0, oX4 (a 1) ta cn, cA G (ta 1) 4 kd, cA G (ta 2) 12 nu, cQ G (a 0) 4 qf, oX2 sa sb la1, cA G (sb 1) zn gg, oX4 (a 3) tb tc, cA G (tb 1) 4 kt, cA G (tb 2) 12 nt, oX0 (a 4) lb xc xu xw, cA G (lb 1) 12 tex, cA G (lb 2) 4 trt, cA G (lb 3) 8 tmi, cA G (lb 4) 8 tsi, cA G (lb 5) 8 tun, cA G (lb 6) 8 tbe, cA G (lb 8) 8 tka, cA G (lb 9) 8 tbr, cA G (lb 11) 17 trs, cA G (lb 12) 17 trf, cA G (lb 13) 17 trp]) (As := [.int (iI kk)]) (rest := []) (m_X5_isSheet l D G (kk := kk) (by first | assumption | omega)) (va_cwS 1 C.1.2.2.2.2 gX5_day_X5_isSheet rfl rfl rfl (by decide +kernel) ⟨Nat.le_of_ble_eq_true rfl, Nat.le_of_ble_eq_true rfl⟩) [] [0, 1, 2, 3, 4, 5, 6, 7, 8, 9, 10, 11, 12, 13, 14, 15, 16, 17, 18, 19, 20, 21] rfl rfl (by decide) (by decide) (by decide) rfl hl.1 _ rfl (Nat.le_of_ble_eq_true rfl) dX5_day_6 ⟨Nat.le_of_ble_eq_true rfl, Nat.le_of_ble_eq_true rfl⟩ ?_
  clear hw
  rintro _ _ H locs ⟨rfl, rfl⟩ hw
  have hw : gW D A s.heap [oX5 h a tr 0, oX4 (a 1) ta cn, cA G (ta 1) 4 kd, cA G (ta 2) 12 nu, cQ G (a 0) 4 qf, oX2 sa sb la1, cA G (sb 1) zn gg, oX4 (a 3) tb tc, cA G (tb 1) 4 kt, cA G (tb 2) 12 nt, oX0 (a 4) lb xc xu xw, cA G (lb 1) 12 tex, cA G (lb 2) 4 trt, cA G (lb 3) 8 tmi, cA G (lb 4) 8 tsi, cA G (lb 5) 8 tun, cA G (lb 6) 8 tbe, cA G (lb 8) 8 tka, cA G (lb 9) 8 tbr, cA G (lb 11) 17 trs, cA G (lb 12) 17 trf, cA G (lb 13) 17 trp] H locs := hw
  refine g_ifb_ne C 14 dX5_day_9 (by decide) (fun c_1 => ?_) (fun c_1 => ?_)
  · skip
    refine g_iload_n C hl 2 rfl rfl dX5_day_14 ?_
    refine g_iconst C dX5_day_15 ?_
    refine g_callSi C hw (wr := [oX5 h a tr 0, oX4 (a 1) ta cn, cA G (ta 1) 4 kd, cA G (ta 2) 12 nu, cQ G (a 0) 4 qf, oX2 sa sb la1, cA G (sb 1) zn gg, oX4 (a 3) tb tc, cA G (tb 1) 4 kt, cA G (tb 2) 12 nt, oX0 (a 4) lb xc xu xw, cA G (lb 1) 12 tex, cA G (lb 2) 4 trt, cA G (lb 3) 8 tmi, cA G (lb 4) 8 tsi, cA G (lb 5) 8 tun, cA G (lb 6) 8 tbe, cA G (lb 8) 8 tka, cA G (lb 9) 8 tbr, cA G (lb 11) 17 trs, cA G (lb 12) 17 trf, cA G (lb 13) 17 trp]) (As := [.int (iI lv), .int (iI 3)]) (rest := []) (m_X5_isBelow l D G (na := lv) (nb := 3) (by first | assumption | omega) (by first | assumption | omega)) (va_cwS 2 C.1.2.2.2.2 gX5_day_X5_isBelow rfl rfl rfl (by decide +kernel) ⟨Nat.le_of_ble_eq_true rfl, Nat.le_of_ble_eq_true rfl⟩) [] [0, 1, 2, 3, 4, 5, 6, 7, 8, 9, 10, 11, 12, 13, 14, 15, 16, 17, 18, 19, 20, 21] rfl rfl (by decide) (by decide) (by decide) rfl hl.1 _ rfl (Nat.le_of_ble_eq_true rfl) dX5_day_16 ⟨Nat.le_of_ble_eq_true rfl, Nat.le_of_ble_eq_true rfl⟩ ?_
    clear hw
    rintro _ _ H locs ⟨rfl, rfl⟩ hw
    have hw : gW D A s.heap [oX5 h a tr 0, oX4 (a 1) ta cn, cA G (ta 1) 4 kd, cA G (ta 2) 12 nu, cQ G (a 0) 4 qf, oX2 sa sb la1, cA G (sb 1) zn gg, oX4 (a 3) tb tc, cA G (tb 1) 4 kt, cA G (tb 2) 12 nt, oX0 (a 4) lb xc xu xw, cA G (lb 1) 12 tex, cA G (lb 2) 4 trt, cA G (lb 3) 8 tmi, cA G (lb 4) 8 tsi, cA G (lb 5) 8 tun, cA G (lb 6) 8 tbe, cA G (lb 8) 8 tka, cA G (lb 9) 8 tbr, cA G (lb 11) 17 trs, cA G (lb 12) 17 trf, cA G (lb 13) 17 trp] H locs := hw
    refine g_ifb_eq C 42 dX5_day_19 (by decide) (fun c_2 => ?_) (fun c_2 => ?_)
    · skip
      have w9 : D_st cn kk lv mm wh = -2 := by unfold D_st; (repeat' split) <;> omega
      obtain ⟨wr9, wf9⟩ := R_day_1 (n := cn) (kd := kd) (nu := nu) (sz := sz) (ln := ln) (ce := ce) (k := kk) (lane := lv) (i := ii) (m := mm) (w := wh) (by rw [w9]; decide)
      rw [w9] at wr9
      refine g_bipush C dX5_day_42 (by decide) ?_
      exact g_iret C hr (ws' := [oX5 h a tr 0, oX4 (a 1) ta cn, cA G (ta 1) 4 kd, cA G (ta 2) 12 nu, cQ G (a 0) 4 qf, oX2 sa sb la1, cA G (sb 1) zn gg, oX4 (a 3) tb tc, cA G (tb 1) 4 kt, cA G (tb 2) 12 nt, oX0 (a 4) lb xc xu xw, cA G (lb 1) 12 tex, cA G (lb 2) 4 trt, cA G (lb 3) 8 tmi, cA G (lb 4) 8 tsi, cA G (lb 5) 8 tun, cA G (lb 6) 8 tbe, cA G (lb 8) 8 tka, cA G (lb 9) 8 tbr, cA G (lb 11) 17 trs, cA G (lb 12) 17 trf, cA G (lb 13) 17 trp]) hw [0, 1, 2, 3, 4, 5, 6, 7, 8, 9, 10, 11, 12, 13, 14, 15, 16, 17, 18, 19, 20, 21] (by decide) rfl ⟨tc, kt, nt, xc, xu, tex, trt, tmi, tsi, tun, tbe, tka, tbr, xw, trs, trf, trp, (congrArg iI (by rw [wr9]; try omega)), (by rw [wf9]), (by first | exact hk9 | exact ⟨hkt, hnt⟩)⟩ dX5_day_44
    · skip
      refine g_iload C hl 4 rfl dX5_day_22 ?_
      refine g_if_lt C 42 dX5_day_24 (by decide) (by omega) (fun c_3 => ?_) (fun c_3 => ?_)
      · skip
        have w9 : D_st cn kk lv mm wh = -2 := by unfold D_st; (repeat' split) <;> omega
        obtain ⟨wr9, wf9⟩ := R_day_1 (n := cn) (kd := kd) (nu := nu) (sz := sz) (ln := ln) (ce := ce) (k := kk) (lane := lv) (i := ii) (m := mm) (w := wh) (by rw [w9]; decide)
        rw [w9] at wr9
        refine g_bipush C dX5_day_42 (by decide) ?_
        exact g_iret C hr (ws' := [oX5 h a tr 0, oX4 (a 1) ta cn, cA G (ta 1) 4 kd, cA G (ta 2) 12 nu, cQ G (a 0) 4 qf, oX2 sa sb la1, cA G (sb 1) zn gg, oX4 (a 3) tb tc, cA G (tb 1) 4 kt, cA G (tb 2) 12 nt, oX0 (a 4) lb xc xu xw, cA G (lb 1) 12 tex, cA G (lb 2) 4 trt, cA G (lb 3) 8 tmi, cA G (lb 4) 8 tsi, cA G (lb 5) 8 tun, cA G (lb 6) 8 tbe, cA G (lb 8) 8 tka, cA G (lb 9) 8 tbr, cA G (lb 11) 17 trs, cA G (lb 12) 17 trf, cA G (lb 13) 17 trp]) hw [0, 1, 2, 3, 4, 5, 6, 7, 8, 9, 10, 11, 12, 13, 14, 15, 16, 17, 18, 19, 20, 21] (by decide) rfl ⟨tc, kt, nt, xc, xu, tex, trt, tmi, tsi, tun, tbe, tka, tbr, xw, trs, trf, trp, (congrArg iI (by rw [wr9]; try omega)), (by rw [wf9]), (by first | exact hk9 | exact ⟨hkt, hnt⟩)⟩ dX5_day_44
      · skip
        refine g_iload C hl 4 rfl dX5_day_27 ?_
        refine g_bipush C dX5_day_29 (by decide) ?_
        refine g_icmp_gt C 42 dX5_day_31 (by decide) (by omega) (by omega) (fun c_4 => ?_) (fun c_4 => ?_)
        · skip
          have w9 : D_st cn kk lv mm wh = -2 := by unfold D_st; (repeat' split) <;> omega
          obtain ⟨wr9, wf9⟩ := R_day_1 (n := cn) (kd := kd) (nu := nu) (sz := sz) (ln := ln) (ce := ce) (k := kk) (lane := lv) (i := ii) (m := mm) (w := wh) (by rw [w9]; decide)
          rw [w9] at wr9
          refine g_bipush C dX5_day_42 (by decide) ?_
          exact g_iret C hr (ws' := [oX5 h a tr 0, oX4 (a 1) ta cn, cA G (ta 1) 4 kd, cA G (ta 2) 12 nu, cQ G (a 0) 4 qf, oX2 sa sb la1, cA G (sb 1) zn gg, oX4 (a 3) tb tc, cA G (tb 1) 4 kt, cA G (tb 2) 12 nt, oX0 (a 4) lb xc xu xw, cA G (lb 1) 12 tex, cA G (lb 2) 4 trt, cA G (lb 3) 8 tmi, cA G (lb 4) 8 tsi, cA G (lb 5) 8 tun, cA G (lb 6) 8 tbe, cA G (lb 8) 8 tka, cA G (lb 9) 8 tbr, cA G (lb 11) 17 trs, cA G (lb 12) 17 trf, cA G (lb 13) 17 trp]) hw [0, 1, 2, 3, 4, 5, 6, 7, 8, 9, 10, 11, 12, 13, 14, 15, 16, 17, 18, 19, 20, 21] (by decide) rfl ⟨tc, kt, nt, xc, xu, tex, trt, tmi, tsi, tun, tbe, tka, tbr, xw, trs, trf, trp, (congrArg iI (by rw [wr9]; try omega)), (by rw [wf9]), (by first | exact hk9 | exact ⟨hkt, hnt⟩)⟩ dX5_day_44
        · skip
          refine g_iload C hl 5 rfl dX5_day_34 ?_
          refine g_callSi C hw (wr := [oX5 h a tr 0, oX4 (a 1) ta cn, cA G (ta 1) 4 kd, cA G (ta 2) 12 nu, cQ G (a 0) 4 qf, oX2 sa sb la1, cA G (sb 1) zn gg, oX4 (a 3) tb tc, cA G (tb 1) 4 kt, cA G (tb 2) 12 nt, oX0 (a 4) lb xc xu xw, cA G (lb 1) 12 tex, cA G (lb 2) 4 trt, cA G (lb 3) 8 tmi, cA G (lb 4) 8 tsi, cA G (lb 5) 8 tun, cA G (lb 6) 8 tbe, cA G (lb 8) 8 tka, cA G (lb 9) 8 tbr, cA G (lb 11) 17 trs, cA G (lb 12) 17 trf, cA G (lb 13) 17 trp]) (As := [.int (iI wh)]) (rest := []) (m_X5_isAskedOfDay l D G (wh := wh) (by first | assumption | omega)) (va_cwS 1 C.1.2.2.2.2 gX5_day_X5_isAskedOfDay rfl rfl rfl (by decide +kernel) ⟨Nat.le_of_ble_eq_true rfl, Nat.le_of_ble_eq_true rfl⟩) [] [0, 1, 2, 3, 4, 5, 6, 7, 8, 9, 10, 11, 12, 13, 14, 15, 16, 17, 18, 19, 20, 21] rfl rfl (by decide) (by decide) (by decide) rfl hl.1 _ rfl (Nat.le_of_ble_eq_true rfl) dX5_day_36 ⟨Nat.le_of_ble_eq_true rfl, Nat.le_of_ble_eq_true rfl⟩ ?_
          clear hw
          rintro _ _ H locs ⟨rfl, rfl⟩ hw
          have hw : gW D A s.heap [oX5 h a tr 0, oX4 (a 1) ta cn, cA G (ta 1) 4 kd, cA G (ta 2) 12 nu, cQ G (a 0) 4 qf, oX2 sa sb la1, cA G (sb 1) zn gg, oX4 (a 3) tb tc, cA G (tb 1) 4 kt, cA G (tb 2) 12 nt, oX0 (a 4) lb xc xu xw, cA G (lb 1) 12 tex, cA G (lb 2) 4 trt, cA G (lb 3) 8 tmi, cA G (lb 4) 8 tsi, cA G (lb 5) 8 tun, cA G (lb 6) 8 tbe, cA G (lb 8) 8 tka, cA G (lb 9) 8 tbr, cA G (lb 11) 17 trs, cA G (lb 12) 17 trf, cA G (lb 13) 17 trp] H locs := hw
          refine g_ifb_ne C 45 dX5_day_39 (by decide) (fun c_5 => ?_) (fun c_5 => ?_)
          · skip
            refine g_aload_n C hl 0 rfl rfl dX5_day_45 ?_
            refine g_get C hw hin_X5_day_X5 0 rfl rfl 1 (by decide) lk_X5_day_20 rfl dX5_day_46 ?_
            refine g_get C hw hin_X5_day_X4 1 rfl rfl 0 (by decide) lk_X5_day_92 rfl dX5_day_49 ?_
            refine g_if_ne C 58 dX5_day_52 (by decide) (by omega) (fun c_6 => ?_) (fun c_6 => ?_)
            · skip
              refine g_aload_n C hl 0 rfl rfl dX5_day_58 ?_
              refine g_get C hw hin_X5_day_X5 0 rfl rfl 0 (by decide) lk_X5_day_13 rfl dX5_day_59 ?_
              refine g_iload_n C hl 1 rfl rfl dX5_day_62 ?_
              refine g_aald C hw 4 rfl (by omega) (Nat.le_of_ble_eq_true rfl) dX5_day_63 ?_
              refine g_topv (show va_rf (qf kk.toNat) = .ref sa by exact rf_s hqs) ?_
              refine g_astore C [(6, .ref sa), (0, .ref h), (1, .int (iI kk)), (2, .int (iI lv)), (3, .int (iI ii)), (4, .int (iI mm)), (5, .int (iI wh))] dX5_day_64 hl (by decide) rfl ?_
              clear hl
              intro ls hl
              refine g_aload C hl 0 rfl dX5_day_66 ?_
              refine g_iload_n C hl 3 rfl rfl dX5_day_68 ?_
              refine g_iload_n C hl 4 rfl rfl dX5_day_69 ?_
              refine g_iload C hl 5 rfl dX5_day_70 ?_
              refine g_iconst C dX5_day_72 ?_
              refine g_imul C dX5_day_73 ?_
              refine g_nI (show (mm * 3 : Int) = 3 * mm by omega) ?_
              refine g_callSi C hw (wr := [oX5 h a tr 0, oX4 (a 1) ta cn, cA G (ta 1) 4 kd, cA G (ta 2) 12 nu, cQ G (a 0) 4 qf, oX4 (a 3) tb tc, cA G (tb 1) 4 kt, cA G (tb 2) 12 nt, oX0 (a 4) lb xc xu xw, cA G (lb 1) 12 tex, cA G (lb 2) 4 trt, cA G (lb 3) 8 tmi, cA G (lb 4) 8 tsi, cA G (lb 5) 8 tun, cA G (lb 6) 8 tbe, cA G (lb 8) 8 tka, cA G (lb 9) 8 tbr, cA G (lb 11) 17 trs, cA G (lb 12) 17 trf, cA G (lb 13) 17 trp]) (As := [.ref sa, .int (iI lv), .int (iI ii), .int (iI (3 * mm))]) (rest := []) (m_X5_foc_s l D G (sa := sa) (sb := sb) (la1 := la1) (zn := zn) (gg := gg) (sz := sz) (ln := ln) (kk := kk) (lv := lv) (ii := ii) (nn := (3 * mm)) (by first | assumption | omega) (by first | assumption | omega) (by first | assumption | omega) (by first | assumption | omega) (by first | assumption | omega) (by first | assumption | omega) (by first | assumption | omega)) (va_cwS 4 C.1.2.2.2.2 gX5_day_X5_faultOfCells rfl rfl rfl (by decide +kernel) ⟨Nat.le_of_ble_eq_true rfl, Nat.le_of_ble_eq_true rfl⟩) [5, 6] [0, 1, 2, 3, 4, 7, 8, 9, 10, 11, 12, 13, 14, 15, 16, 17, 18, 19, 20, 21] rfl rfl (by decide) (by decide) (by decide) rfl hl.1 _ rfl (Nat.le_of_ble_eq_true rfl) dX5_day_74 ⟨Nat.le_of_ble_eq_true rfl, Nat.le_of_ble_eq_true rfl⟩ ?_
              clear hw
              rintro _ _ H locs ⟨rfl, rfl⟩ hw
              have hw : gW D A s.heap [oX5 h a tr 0, oX4 (a 1) ta cn, cA G (ta 1) 4 kd, cA G (ta 2) 12 nu, cQ G (a 0) 4 qf, oX4 (a 3) tb tc, cA G (tb 1) 4 kt, cA G (tb 2) 12 nt, oX0 (a 4) lb xc xu xw, cA G (lb 1) 12 tex, cA G (lb 2) 4 trt, cA G (lb 3) 8 tmi, cA G (lb 4) 8 tsi, cA G (lb 5) 8 tun, cA G (lb 6) 8 tbe, cA G (lb 8) 8 tka, cA G (lb 9) 8 tbr, cA G (lb 11) 17 trs, cA G (lb 12) 17 trf, cA G (lb 13) 17 trp, oX2 sa sb la1, cA G (sb 1) zn gg] H locs := hw
              refine g_istore C [(7, .int (iI ((barC sz ln kk lv ii (3 * mm))))), (6, .ref sa), (0, .ref h), (1, .int (iI kk)), (2, .int (iI lv)), (3, .int (iI ii)), (4, .int (iI mm)), (5, .int (iI wh))] dX5_day_77 hl (by decide) rfl ?_
              clear hl
              intro ls hl
              refine g_iload C hl 0 rfl dX5_day_79 ?_
              refine g_if_eq C 91 dX5_day_81 (by decide) (by omega) (fun c_7 => ?_) (fun c_7 => ?_)
              · skip
                have b1 : barC sz ln kk lv ii (3 * mm) = 0 := by omega
                have b2 := hbz b1
                refine g_aload C hl 1 rfl dX5_day_91 ?_
                refine g_get C hw hin_X5_day_X2 20 rfl rfl 1 (by decide) lk_X5_day_71 rfl dX5_day_93 ?_
                refine g_astore C [(8, .ref ((sb 1))), (7, .int (iI ((barC sz ln kk lv ii (3 * mm))))), (6, .ref sa), (0, .ref h), (1, .int (iI kk)), (2, .int (iI lv)), (3, .int (iI ii)), (4, .int (iI mm)), (5, .int (iI wh))] dX5_day_96 hl (by decide) rfl ?_
                clear hl
                intro ls hl
                refine g_aload C hl 0 rfl dX5_day_98 ?_
                refine g_iload_n C hl 6 rfl rfl dX5_day_100 ?_
                refine g_iload C hl 7 rfl dX5_day_101 ?_
                refine g_callSi C hw (wr := [oX5 h a tr 0, oX4 (a 1) ta cn, cA G (ta 1) 4 kd, cA G (ta 2) 12 nu, cQ G (a 0) 4 qf, oX4 (a 3) tb tc, cA G (tb 1) 4 kt, cA G (tb 2) 12 nt, oX0 (a 4) lb xc xu xw, cA G (lb 1) 12 tex, cA G (lb 2) 4 trt, cA G (lb 3) 8 tmi, cA G (lb 4) 8 tsi, cA G (lb 5) 8 tun, cA G (lb 6) 8 tbe, cA G (lb 8) 8 tka, cA G (lb 9) 8 tbr, cA G (lb 11) 17 trs, cA G (lb 12) 17 trf, cA G (lb 13) 17 trp, oX2 sa sb la1]) (As := [.ref ((sb 1)), .int (iI ii), .int (iI mm)]) (rest := []) (m_X5_areActs l D G (ca := (sb 1)) (zn := zn) (gg := gg) (ce := ce) (fb := (60 * kk + ii)) (fr := ii) (mm := mm) (by first | assumption | omega) (by first | assumption | omega) (by first | assumption | omega) (by intro j h1 h2; rw [show 60 * kk + ii + j = 60 * kk + (ii + j) by omega]; exact hce (ii + j) (by omega) (by omega))) (va_cwS 3 C.1.2.2.2.2 gX5_day_X5_areActs rfl rfl rfl (by decide +kernel) ⟨Nat.le_of_ble_eq_true rfl, Nat.le_of_ble_eq_true rfl⟩) [21] [0, 1, 2, 3, 4, 5, 6, 7, 8, 9, 10, 11, 12, 13, 14, 15, 16, 17, 18, 19, 20] rfl rfl (by decide) (by decide) (by decide) rfl hl.1 _ rfl (Nat.le_of_ble_eq_true rfl) dX5_day_103 ⟨Nat.le_of_ble_eq_true rfl, Nat.le_of_ble_eq_true rfl⟩ ?_
                clear hw
                rintro _ _ H locs ⟨rfl, rfl⟩ hw
                have hw : gW D A s.heap [oX5 h a tr 0, oX4 (a 1) ta cn, cA G (ta 1) 4 kd, cA G (ta 2) 12 nu, cQ G (a 0) 4 qf, oX4 (a 3) tb tc, cA G (tb 1) 4 kt, cA G (tb 2) 12 nt, oX0 (a 4) lb xc xu xw, cA G (lb 1) 12 tex, cA G (lb 2) 4 trt, cA G (lb 3) 8 tmi, cA G (lb 4) 8 tsi, cA G (lb 5) 8 tun, cA G (lb 6) 8 tbe, cA G (lb 8) 8 tka, cA G (lb 9) 8 tbr, cA G (lb 11) 17 trs, cA G (lb 12) 17 trf, cA G (lb 13) 17 trp, oX2 sa sb la1, cA G (sb 1) zn gg] H locs := hw
                refine g_ifb_ne C 112 dX5_day_106 (by decide) (fun c_8 => ?_) (fun c_8 => ?_)
                · skip
                  have hdc9 : allX (dcP ce (60 * kk + ii)) mm := allB_X (by assumption)
                  have w9 : D_st cn kk lv mm wh = 0 := by unfold D_st; (repeat' split) <;> omega
                  obtain ⟨wr9, wf9⟩ := R_day_4 (n := cn) (kd := kd) (nu := nu) (sz := sz) (ln := ln) (ce := ce) (k := kk) (lane := lv) (i := ii) (m := mm) (w := wh) w9 b1 hdc9
                  refine g_aload_n C hl 3 rfl rfl dX5_day_112 ?_
                  refine g_aload C hl 0 rfl dX5_day_113 ?_
                  refine g_iload_n C hl 6 rfl rfl dX5_day_115 ?_
                  refine g_iload C hl 7 rfl dX5_day_116 ?_
                  refine g_callVi C hw (wr := [cA G (ta 1) 4 kd, cA G (ta 2) 12 nu, cQ G (a 0) 4 qf, oX4 (a 3) tb tc, cA G (tb 1) 4 kt, cA G (tb 2) 12 nt, oX0 (a 4) lb xc xu xw, cA G (lb 1) 12 tex, cA G (lb 2) 4 trt, cA G (lb 3) 8 tmi, cA G (lb 4) 8 tsi, cA G (lb 5) 8 tun, cA G (lb 6) 8 tbe, cA G (lb 8) 8 tka, cA G (lb 9) 8 tbr, cA G (lb 11) 17 trs, cA G (lb 12) 17 trf, cA G (lb 13) 17 trp, oX2 sa sb la1]) (As := [.ref ((sb 1)), .int (iI ii), .int (iI mm)]) (rest := []) (m_X5_firstWrong l D G (h := h) (a := a) (tr := tr) (lf := 0) (ta := ta) (cn := cn) (ca := (sb 1)) (zn := zn) (gg := gg) (ce := ce) (fb := (60 * kk + ii)) (fr := ii) (mm := mm) (by first | assumption | omega) (by first | assumption | omega) (by first | assumption | omega) (by first | assumption | omega) (by intro j h1 h2; rw [show 60 * kk + ii + j = 60 * kk + (ii + j) by omega]; exact hce (ii + j) (by omega) (by omega))) (cwV 3 C.1.2.2.2.2 gX5_day_X5_firstWrong rfl rfl rfl (by decide +kernel) ⟨Nat.le_of_ble_eq_true rfl, Nat.le_of_ble_eq_true rfl⟩) [0, 1, 21] [2, 3, 4, 5, 6, 7, 8, 9, 10, 11, 12, 13, 14, 15, 16, 17, 18, 19, 20] rfl rfl (by decide) (by decide) (by decide) 0 rfl rfl rfl hl.1 _ rfl (Nat.le_of_ble_eq_true rfl) dX5_day_118 ⟨Nat.le_of_ble_eq_true rfl, Nat.le_of_ble_eq_true rfl⟩ ?_
                  clear hw
                  rintro _ _ H locs ⟨rfl, rfl⟩ hw
                  have hw : gW D A s.heap [cA G (ta 1) 4 kd, cA G (ta 2) 12 nu, cQ G (a 0) 4 qf, oX4 (a 3) tb tc, cA G (tb 1) 4 kt, cA G (tb 2) 12 nt, oX0 (a 4) lb xc xu xw, cA G (lb 1) 12 tex, cA G (lb 2) 4 trt, cA G (lb 3) 8 tmi, cA G (lb 4) 8 tsi, cA G (lb 5) 8 tun, cA G (lb 6) 8 tbe, cA G (lb 8) 8 tka, cA G (lb 9) 8 tbr, cA G (lb 11) 17 trs, cA G (lb 12) 17 trf, cA G (lb 13) 17 trp, oX2 sa sb la1, oX5 h a tr 0, oX4 (a 1) ta cn, cA G (sb 1) zn gg] H locs := hw
                  refine g_istore C [(9, .int (iI ((lsF (fwP cn ce (60 * kk + ii)) 0 mm.toNat)))), (8, .ref ((sb 1))), (7, .int (iI ((barC sz ln kk lv ii (3 * mm))))), (6, .ref sa), (0, .ref h), (1, .int (iI kk)), (2, .int (iI lv)), (3, .int (iI ii)), (4, .int (iI mm)), (5, .int (iI wh))] dX5_day_121 hl (by decide) rfl ?_
                  clear hl
                  intro ls hl
                  refine g_iload C hl 9 rfl dX5_day_123 ?_
                  refine g_iconst C dX5_day_125 ?_
                  refine g_icmp_ne C 132 dX5_day_126 (by decide) (by omega) (by omega) (fun c_9 => ?_) (fun c_9 => ?_)
                  · skip
                    refine g_iload C hl 0 rfl dX5_day_132 ?_
                    refine g_bipush C dX5_day_134 (by decide) ?_
                    refine g_icmp_eq C 145 dX5_day_136 (by decide) (by omega) (by omega) (fun c_10 => ?_) (fun c_10 => ?_)
                    · skip
                      refine g_aload_n C hl 4 rfl rfl dX5_day_145 ?_
                      refine g_aload C hl 1 rfl dX5_day_146 ?_
                      refine g_iload_n C hl 7 rfl rfl dX5_day_148 ?_
                      refine g_iload C hl 8 rfl dX5_day_149 ?_
                      refine g_callVv C hw (wr := [cQ G (a 0) 4 qf, oX0 (a 4) lb xc xu xw, cA G (lb 1) 12 tex, cA G (lb 2) 4 trt, cA G (lb 3) 8 tmi, cA G (lb 4) 8 tsi, cA G (lb 5) 8 tun, cA G (lb 6) 8 tbe, cA G (lb 8) 8 tka, cA G (lb 9) 8 tbr, cA G (lb 11) 17 trs, cA G (lb 12) 17 trf, cA G (lb 13) 17 trp, oX2 sa sb la1]) (As := [.ref ((sb 1)), .int (iI ii), .int (iI mm)]) (rest := []) (m_X5_tellDay l D G (h := h) (a := a) (tr := tr) (lf := 0) (ta := ta) (cn := cn) (kd := kd) (nu := nu) (tb := tb) (tc := tc) (kt := kt) (nt := nt) (ca := (sb 1)) (zn := zn) (gg := gg) (ce := ce) (fb := (60 * kk + ii)) (fr := ii) (mm := mm) (by first | assumption | omega) (by first | assumption | omega) (by first | assumption | omega) (by first | assumption | omega) (by first | assumption | omega) (by first | assumption | omega) (by first | assumption | omega) (by first | assumption | omega) (by intro j h1 h2; rw [show 60 * kk + ii + j = 60 * kk + (ii + j) by omega]; exact hce (ii + j) (by omega) (by omega)) (by first | assumption | omega) (by omega)) (cwV 3 C.1.2.2.2.2 gX5_day_X5_tellDay rfl rfl rfl (by decide +kernel) ⟨Nat.le_of_ble_eq_true rfl, Nat.le_of_ble_eq_true rfl⟩) [19, 20, 0, 1, 3, 4, 5, 21] [2, 6, 7, 8, 9, 10, 11, 12, 13, 14, 15, 16, 17, 18] rfl rfl (by decide) (by decide) (by decide) 0 rfl rfl rfl hl.1 _ rfl (Nat.le_of_ble_eq_true rfl) dX5_day_151 ⟨Nat.le_of_ble_eq_true rfl, Nat.le_of_ble_eq_true rfl⟩ ?_
                      clear hw
                      rintro _ H locs ⟨ktN, ntN, rfl, hp_11, hp_12⟩ hw
                      have hw : gW D A s.heap [cQ G (a 0) 4 qf, oX0 (a 4) lb xc xu xw, cA G (lb 1) 12 tex, cA G (lb 2) 4 trt, cA G (lb 3) 8 tmi, cA G (lb 4) 8 tsi, cA G (lb 5) 8 tun, cA G (lb 6) 8 tbe, cA G (lb 8) 8 tka, cA G (lb 9) 8 tbr, cA G (lb 11) 17 trs, cA G (lb 12) 17 trf, cA G (lb 13) 17 trp, oX2 sa sb la1, oX5 h a tr 0, oX4 (a 1) ta cn, cA G (ta 1) 4 kd, cA G (ta 2) 12 nu, oX4 (a 3) tb cn, cA G (tb 1) 4 ktN, cA G (tb 2) 12 ntN, cA G (sb 1) zn gg] H locs := hw
                      have hp_11 : exT cn ktN ntN = exT cn kd (dyF cn nu ce (60 * kk + ii) mm.toNat) := hp_11
                      have hp_12 : kdOK ktN ∧ nuOK ntN := hp_12
                      have hx9 := hp_11
                      have hk9 := hp_12
                      refine g_aload_n C hl 4 rfl rfl dX5_day_154 ?_
                      refine g_get C hw hin_X5_day_X5 14 rfl rfl 4 (by decide) lk_X5_day_34 rfl dX5_day_155 ?_
                      refine g_aload_n C hl 4 rfl rfl dX5_day_158 ?_
                      refine g_get C hw hin_X5_day_X5 14 rfl rfl 3 (by decide) lk_X5_day_31 rfl dX5_day_159 ?_
                      refine g_callVv C hw (wr := [cQ G (a 0) 4 qf, cA G (lb 11) 17 trs, cA G (lb 12) 17 trf, cA G (lb 13) 17 trp, oX2 sa sb la1, oX5 h a tr 0, oX4 (a 1) ta cn, cA G (ta 1) 4 kd, cA G (ta 2) 12 nu, cA G (sb 1) zn gg]) (As := [.ref ((a 3))]) (rest := []) (m_X0_lay l D G (h := (a 4)) (a := lb) (cn := xc) (ul := xu) (rw := xw) (ex := tex) (rt := trt) (mi := tmi) (si := tsi) (un := tun) (be := tbe) (ka := tka) (br := tbr) (o := (a 3)) (b := tb) (ct := cn) (kd := ktN) (nu := ntN) (by exact hk9.1) (by exact hk9.2) (by first | assumption | omega)) (cwV 1 C.1.2.2.2.2 gX5_day_X0_lay rfl rfl rfl (by decide +kernel) ⟨Nat.le_of_ble_eq_true rfl, Nat.le_of_ble_eq_true rfl⟩) [1, 2, 3, 4, 5, 6, 7, 8, 9, 18, 19, 20] [0, 10, 11, 12, 13, 14, 15, 16, 17, 21] rfl rfl (by decide) (by decide) (by decide) 0 rfl rfl rfl hl.1 _ rfl (Nat.le_of_ble_eq_true rfl) dX5_day_162 ⟨Nat.le_of_ble_eq_true rfl, Nat.le_of_ble_eq_true rfl⟩ ?_
                      clear hw
                      rintro _ H locs ⟨ex2__13, rt2__14, mi2__15, si2__16, un2__17, be2__18, ka2__19, br2__20, rfl, hp_21, hp_22, hp_23, hp_24⟩ hw
                      have hw : gW D A s.heap [cQ G (a 0) 4 qf, cA G (lb 11) 17 trs, cA G (lb 12) 17 trf, cA G (lb 13) 17 trp, oX2 sa sb la1, oX5 h a tr 0, oX4 (a 1) ta cn, cA G (ta 1) 4 kd, cA G (ta 2) 12 nu, cA G (sb 1) zn gg, oX0 (a 4) lb cn ((ALb (exT cn ktN ntN) cn.toNat).length : Int) xw, cA G (lb 1) 12 ex2__13, cA G (lb 2) 4 rt2__14, cA G (lb 3) 8 mi2__15, cA G (lb 4) 8 si2__16, cA G (lb 5) 8 un2__17, cA G (lb 6) 8 be2__18, cA G (lb 8) 8 ka2__19, cA G (lb 9) 8 br2__20, oX4 (a 3) tb cn, cA G (tb 1) 4 ktN, cA G (tb 2) 12 ntN] H locs := hw
                      have hp_21 : LnX (exT cn ktN ntN) cn ex2__13 := hp_21
                      have hp_22 : LnT (exT cn ktN ntN) cn rt2__14 := hp_22
                      have hp_23 : LnZ (exT cn ktN ntN) cn mi2__15 si2__16 un2__17 be2__18 := hp_23
                      have hp_24 : hasB ka2__19 br2__20 (ALb (exT cn ktN ntN) cn.toNat) := hp_24
                      have q1 := hp_21
                      have q2 := hp_22
                      have q3 := hp_23
                      have q4 := hp_24
                      have q5 := hasB_L q4
                      rw [hx9] at q1 q2 q3 q5
                      have hE9 : EB (exT cn kd (dyF cn nu ce (60 * kk + ii) mm.toNat)) := exT_B _ _ (dyF_ok _ hnu _)
                      refine g_aload_n C hl 4 rfl rfl dX5_day_165 ?_
                      refine g_iload C hl 9 rfl dX5_day_166 ?_
                      refine g_callVi C hw (wr := [cQ G (a 0) 4 qf, oX2 sa sb la1, cA G (ta 1) 4 kd, cA G (ta 2) 12 nu, cA G (sb 1) zn gg, cA G (lb 9) 8 br2__20, oX4 (a 3) tb cn, cA G (tb 1) 4 ktN, cA G (tb 2) 12 ntN]) (As := [.int (iI wh)]) (rest := []) (m_X5_ofDay l D G (h := h) (a := a) (tr := tr) (lf := 0) (ta := ta) (cn := cn) (lb := lb) (xu := ((ALb (exT cn ktN ntN) cn.toNat).length : Int)) (xw := xw) (tex := ex2__13) (trt := rt2__14) (tmi := mi2__15) (tsi := si2__16) (tun := un2__17) (tbe := be2__18) (tka := ka2__19) (trs := trs) (trf := trf) (trp := trp) (E := (exT cn kd (dyF cn nu ce (60 * kk + ii) mm.toNat))) (wh := wh) (by first | assumption | omega) (by exact hE9) (by exact q1) (by exact q2) (by exact q3) (by exact q5) (by rw [hx9, ALb_len]) (by first | assumption | omega)) (cwV 1 C.1.2.2.2.2 gX5_day_X5_ofDay rfl rfl rfl (by decide +kernel) ⟨Nat.le_of_ble_eq_true rfl, Nat.le_of_ble_eq_true rfl⟩) [5, 6, 10, 11, 12, 13, 14, 15, 16, 17, 1, 2, 3] [0, 4, 7, 8, 9, 18, 19, 20, 21] rfl rfl (by decide) (by decide) (by decide) 0 rfl rfl rfl hl.1 _ rfl (Nat.le_of_ble_eq_true rfl) dX5_day_168 ⟨Nat.le_of_ble_eq_true rfl, Nat.le_of_ble_eq_true rfl⟩ ?_
                      clear hw
                      rintro _ _ H locs ⟨xw2__25, trs2__26, trf2__27, trp2__28, rfl, rfl⟩ hw
                      have hw : gW D A s.heap [cQ G (a 0) 4 qf, oX2 sa sb la1, cA G (ta 1) 4 kd, cA G (ta 2) 12 nu, cA G (sb 1) zn gg, cA G (lb 9) 8 br2__20, oX4 (a 3) tb cn, cA G (tb 1) 4 ktN, cA G (tb 2) 12 ntN, oX5 h a tr 0, oX4 (a 1) ta cn, oX0 (a 4) lb cn ((ALb (exT cn ktN ntN) cn.toNat).length : Int) xw2__25, cA G (lb 1) 12 ex2__13, cA G (lb 2) 4 rt2__14, cA G (lb 3) 8 mi2__15, cA G (lb 4) 8 si2__16, cA G (lb 5) 8 un2__17, cA G (lb 6) 8 be2__18, cA G (lb 8) 8 ka2__19, cA G (lb 11) 17 trs2__26, cA G (lb 12) 17 trf2__27, cA G (lb 13) 17 trp2__28] H locs := hw
                      exact g_iret C hr (ws' := [oX5 h a tr 0, oX4 (a 1) ta cn, cA G (ta 1) 4 kd, cA G (ta 2) 12 nu, cQ G (a 0) 4 qf, oX2 sa sb la1, cA G (sb 1) zn gg, oX4 (a 3) tb cn, cA G (tb 1) 4 ktN, cA G (tb 2) 12 ntN, oX0 (a 4) lb cn ((ALb (exT cn ktN ntN) cn.toNat).length : Int) xw2__25, cA G (lb 1) 12 ex2__13, cA G (lb 2) 4 rt2__14, cA G (lb 3) 8 mi2__15, cA G (lb 4) 8 si2__16, cA G (lb 5) 8 un2__17, cA G (lb 6) 8 be2__18, cA G (lb 8) 8 ka2__19, cA G (lb 9) 8 br2__20, cA G (lb 11) 17 trs2__26, cA G (lb 12) 17 trf2__27, cA G (lb 13) 17 trp2__28]) hw [9, 10, 2, 3, 0, 1, 4, 6, 7, 8, 11, 12, 13, 14, 15, 16, 17, 18, 5, 19, 20, 21] (by decide) rfl ⟨cn, ktN, ntN, cn, ((ALb (exT cn ktN ntN) cn.toNat).length : Int), ex2__13, rt2__14, mi2__15, si2__16, un2__17, be2__18, ka2__19, br2__20, xw2__25, trs2__26, trf2__27, trp2__28, (congrArg iI (by rw [wr9]; unfold R_dyo; rw [if_neg (by omega), if_neg (by omega)])), (by rw [wf9]), (by first | exact hk9 | exact ⟨hkt, hnt⟩)⟩ dX5_day_171
                    · skip
                      refine g_bipush C dX5_day_139 (by decide) ?_
                      refine g_iload C hl 0 rfl dX5_day_141 ?_
                      refine g_isub C dX5_day_143 ?_
                      exact g_iret C hr (ws' := [oX5 h a tr 0, oX4 (a 1) ta cn, cA G (ta 1) 4 kd, cA G (ta 2) 12 nu, cQ G (a 0) 4 qf, oX2 sa sb la1, cA G (sb 1) zn gg, oX4 (a 3) tb tc, cA G (tb 1) 4 kt, cA G (tb 2) 12 nt, oX0 (a 4) lb xc xu xw, cA G (lb 1) 12 tex, cA G (lb 2) 4 trt, cA G (lb 3) 8 tmi, cA G (lb 4) 8 tsi, cA G (lb 5) 8 tun, cA G (lb 6) 8 tbe, cA G (lb 8) 8 tka, cA G (lb 9) 8 tbr, cA G (lb 11) 17 trs, cA G (lb 12) 17 trf, cA G (lb 13) 17 trp]) hw [19, 20, 0, 1, 2, 18, 21, 3, 4, 5, 6, 7, 8, 9, 10, 11, 12, 13, 14, 15, 16, 17] (by decide) rfl ⟨tc, kt, nt, xc, xu, tex, trt, tmi, tsi, tun, tbe, tka, tbr, xw, trs, trf, trp, (congrArg iI (by rw [wr9]; unfold R_dyo; rw [if_neg (by omega), if_pos (by omega)])), (by rw [wf9]), (by first | exact hk9 | exact ⟨hkt, hnt⟩)⟩ dX5_day_144
                  · skip
                    refine g_iload C hl 0 rfl dX5_day_129 ?_
                    exact g_iret C hr (ws' := [oX5 h a tr 0, oX4 (a 1) ta cn, cA G (ta 1) 4 kd, cA G (ta 2) 12 nu, cQ G (a 0) 4 qf, oX2 sa sb la1, cA G (sb 1) zn gg, oX4 (a 3) tb tc, cA G (tb 1) 4 kt, cA G (tb 2) 12 nt, oX0 (a 4) lb xc xu xw, cA G (lb 1) 12 tex, cA G (lb 2) 4 trt, cA G (lb 3) 8 tmi, cA G (lb 4) 8 tsi, cA G (lb 5) 8 tun, cA G (lb 6) 8 tbe, cA G (lb 8) 8 tka, cA G (lb 9) 8 tbr, cA G (lb 11) 17 trs, cA G (lb 12) 17 trf, cA G (lb 13) 17 trp]) hw [19, 20, 0, 1, 2, 18, 21, 3, 4, 5, 6, 7, 8, 9, 10, 11, 12, 13, 14, 15, 16, 17] (by decide) rfl ⟨tc, kt, nt, xc, xu, tex, trt, tmi, tsi, tun, tbe, tka, tbr, xw, trs, trf, trp, (congrArg iI (by rw [wr9]; unfold R_dyo; rw [if_pos (by omega)])), (by rw [wf9]), (by first | exact hk9 | exact ⟨hkt, hnt⟩)⟩ dX5_day_131
                · skip
                  have w9 : D_st cn kk lv mm wh = 0 := by unfold D_st; (repeat' split) <;> omega
                  obtain ⟨wr9, wf9⟩ := R_day_3 (n := cn) (kd := kd) (nu := nu) (sz := sz) (ln := ln) (ce := ce) (k := kk) (lane := lv) (i := ii) (m := mm) (w := wh) w9 b1 (nX_allB (by omega) (by assumption))
                  refine g_bipush C dX5_day_109 (by decide) ?_
                  exact g_iret C hr (ws' := [oX5 h a tr 0, oX4 (a 1) ta cn, cA G (ta 1) 4 kd, cA G (ta 2) 12 nu, cQ G (a 0) 4 qf, oX2 sa sb la1, cA G (sb 1) zn gg, oX4 (a 3) tb tc, cA G (tb 1) 4 kt, cA G (tb 2) 12 nt, oX0 (a 4) lb xc xu xw, cA G (lb 1) 12 tex, cA G (lb 2) 4 trt, cA G (lb 3) 8 tmi, cA G (lb 4) 8 tsi, cA G (lb 5) 8 tun, cA G (lb 6) 8 tbe, cA G (lb 8) 8 tka, cA G (lb 9) 8 tbr, cA G (lb 11) 17 trs, cA G (lb 12) 17 trf, cA G (lb 13) 17 trp]) hw [0, 1, 2, 3, 4, 20, 21, 5, 6, 7, 8, 9, 10, 11, 12, 13, 14, 15, 16, 17, 18, 19] (by decide) rfl ⟨tc, kt, nt, xc, xu, tex, trt, tmi, tsi, tun, tbe, tka, tbr, xw, trs, trf, trp, (congrArg iI (by rw [wr9]; try omega)), (by rw [wf9]), (by first | exact hk9 | exact ⟨hkt, hnt⟩)⟩ dX5_day_111
              · skip
                have w9 : D_st cn kk lv mm wh = 0 := by unfold D_st; (repeat' split) <;> omega
                obtain ⟨wr9, wf9⟩ := R_day_2 (n := cn) (kd := kd) (nu := nu) (sz := sz) (ln := ln) (ce := ce) (k := kk) (lane := lv) (i := ii) (m := mm) (w := wh) w9 (by omega)
                refine g_aload_n C hl 2 rfl rfl dX5_day_84 ?_
                refine g_iload C hl 0 rfl dX5_day_85 ?_
                refine g_callVi C hw (wr := [oX4 (a 1) ta cn, cA G (ta 1) 4 kd, cA G (ta 2) 12 nu, cQ G (a 0) 4 qf, oX4 (a 3) tb tc, cA G (tb 1) 4 kt, cA G (tb 2) 12 nt, oX0 (a 4) lb xc xu xw, cA G (lb 1) 12 tex, cA G (lb 2) 4 trt, cA G (lb 3) 8 tmi, cA G (lb 4) 8 tsi, cA G (lb 5) 8 tun, cA G (lb 6) 8 tbe, cA G (lb 8) 8 tka, cA G (lb 9) 8 tbr, cA G (lb 11) 17 trs, cA G (lb 12) 17 trf, cA G (lb 13) 17 trp, oX2 sa sb la1, cA G (sb 1) zn gg]) (As := [.int (iI ((barC sz ln kk lv ii (3 * mm))))]) (rest := []) (m_X5_failed l D G (h := h) (a := a) (tr := tr) (lf := 0) (fv := (barC sz ln kk lv ii (3 * mm))) ) (cwV 1 C.1.2.2.2.2 gX5_day_X5_failed rfl rfl rfl (by decide +kernel) ⟨Nat.le_of_ble_eq_true rfl, Nat.le_of_ble_eq_true rfl⟩) [0] [1, 2, 3, 4, 5, 6, 7, 8, 9, 10, 11, 12, 13, 14, 15, 16, 17, 18, 19, 20, 21] rfl rfl (by decide) (by decide) (by decide) 0 rfl rfl rfl hl.1 _ rfl (Nat.le_of_ble_eq_true rfl) dX5_day_87 ⟨Nat.le_of_ble_eq_true rfl, Nat.le_of_ble_eq_true rfl⟩ ?_
                clear hw
                rintro _ _ H locs ⟨rfl, rfl⟩ hw
                have hw : gW D A s.heap [oX4 (a 1) ta cn, cA G (ta 1) 4 kd, cA G (ta 2) 12 nu, cQ G (a 0) 4 qf, oX4 (a 3) tb tc, cA G (tb 1) 4 kt, cA G (tb 2) 12 nt, oX0 (a 4) lb xc xu xw, cA G (lb 1) 12 tex, cA G (lb 2) 4 trt, cA G (lb 3) 8 tmi, cA G (lb 4) 8 tsi, cA G (lb 5) 8 tun, cA G (lb 6) 8 tbe, cA G (lb 8) 8 tka, cA G (lb 9) 8 tbr, cA G (lb 11) 17 trs, cA G (lb 12) 17 trf, cA G (lb 13) 17 trp, oX2 sa sb la1, cA G (sb 1) zn gg, oX5 h a tr (barC sz ln kk lv ii (3 * mm))] H locs := hw
                exact g_iret C hr (ws' := [oX5 h a tr (barC sz ln kk lv ii (3 * mm)), oX4 (a 1) ta cn, cA G (ta 1) 4 kd, cA G (ta 2) 12 nu, cQ G (a 0) 4 qf, oX2 sa sb la1, cA G (sb 1) zn gg, oX4 (a 3) tb tc, cA G (tb 1) 4 kt, cA G (tb 2) 12 nt, oX0 (a 4) lb xc xu xw, cA G (lb 1) 12 tex, cA G (lb 2) 4 trt, cA G (lb 3) 8 tmi, cA G (lb 4) 8 tsi, cA G (lb 5) 8 tun, cA G (lb 6) 8 tbe, cA G (lb 8) 8 tka, cA G (lb 9) 8 tbr, cA G (lb 11) 17 trs, cA G (lb 12) 17 trf, cA G (lb 13) 17 trp]) hw [21, 0, 1, 2, 3, 19, 20, 4, 5, 6, 7, 8, 9, 10, 11, 12, 13, 14, 15, 16, 17, 18] (by decide) rfl ⟨tc, kt, nt, xc, xu, tex, trt, tmi, tsi, tun, tbe, tka, tbr, xw, trs, trf, trp, (congrArg iI (by rw [wr9]; try omega)), (by rw [wf9]), (by first | exact hk9 | exact ⟨hkt, hnt⟩)⟩ dX5_day_90
            · skip
              have w9 : D_st cn kk lv mm wh = -3 := by unfold D_st; (repeat' split) <;> omega
              obtain ⟨wr9, wf9⟩ := R_day_1 (n := cn) (kd := kd) (nu := nu) (sz := sz) (ln := ln) (ce := ce) (k := kk) (lane := lv) (i := ii) (m := mm) (w := wh) (by rw [w9]; decide)
              rw [w9] at wr9
              refine g_bipush C dX5_day_55 (by decide) ?_
              exact g_iret C hr (ws' := [oX5 h a tr 0, oX4 (a 1) ta cn, cA G (ta 1) 4 kd, cA G (ta 2) 12 nu, cQ G (a 0) 4 qf, oX2 sa sb la1, cA G (sb 1) zn gg, oX4 (a 3) tb tc, cA G (tb 1) 4 kt, cA G (tb 2) 12 nt, oX0 (a 4) lb xc xu xw, cA G (lb 1) 12 tex, cA G (lb 2) 4 trt, cA G (lb 3) 8 tmi, cA G (lb 4) 8 tsi, cA G (lb 5) 8 tun, cA G (lb 6) 8 tbe, cA G (lb 8) 8 tka, cA G (lb 9) 8 tbr, cA G (lb 11) 17 trs, cA G (lb 12) 17 trf, cA G (lb 13) 17 trp]) hw [0, 1, 2, 3, 4, 5, 6, 7, 8, 9, 10, 11, 12, 13, 14, 15, 16, 17, 18, 19, 20, 21] (by decide) rfl ⟨tc, kt, nt, xc, xu, tex, trt, tmi, tsi, tun, tbe, tka, tbr, xw, trs, trf, trp, (congrArg iI (by rw [wr9]; try omega)), (by rw [wf9]), (by first | exact hk9 | exact ⟨hkt, hnt⟩)⟩ dX5_day_57
          · skip
            have w9 : D_st cn kk lv mm wh = -2 := by unfold D_st; (repeat' split) <;> omega
            obtain ⟨wr9, wf9⟩ := R_day_1 (n := cn) (kd := kd) (nu := nu) (sz := sz) (ln := ln) (ce := ce) (k := kk) (lane := lv) (i := ii) (m := mm) (w := wh) (by rw [w9]; decide)
            rw [w9] at wr9
            refine g_bipush C dX5_day_42 (by decide) ?_
            exact g_iret C hr (ws' := [oX5 h a tr 0, oX4 (a 1) ta cn, cA G (ta 1) 4 kd, cA G (ta 2) 12 nu, cQ G (a 0) 4 qf, oX2 sa sb la1, cA G (sb 1) zn gg, oX4 (a 3) tb tc, cA G (tb 1) 4 kt, cA G (tb 2) 12 nt, oX0 (a 4) lb xc xu xw, cA G (lb 1) 12 tex, cA G (lb 2) 4 trt, cA G (lb 3) 8 tmi, cA G (lb 4) 8 tsi, cA G (lb 5) 8 tun, cA G (lb 6) 8 tbe, cA G (lb 8) 8 tka, cA G (lb 9) 8 tbr, cA G (lb 11) 17 trs, cA G (lb 12) 17 trf, cA G (lb 13) 17 trp]) hw [0, 1, 2, 3, 4, 5, 6, 7, 8, 9, 10, 11, 12, 13, 14, 15, 16, 17, 18, 19, 20, 21] (by decide) rfl ⟨tc, kt, nt, xc, xu, tex, trt, tmi, tsi, tun, tbe, tka, tbr, xw, trs, trf, trp, (congrArg iI (by rw [wr9]; try omega)), (by rw [wf9]), (by first | exact hk9 | exact ⟨hkt, hnt⟩)⟩ dX5_day_44
  · skip
    have w9 : D_st cn kk lv mm wh = -1 := by unfold D_st; (repeat' split) <;> omega
    obtain ⟨wr9, wf9⟩ := R_day_1 (n := cn) (kd := kd) (nu := nu) (sz := sz) (ln := ln) (ce := ce) (k := kk) (lane := lv) (i := ii) (m := mm) (w := wh) (by rw [w9]; decide)
    rw [w9] at wr9
    refine g_iconst C dX5_day_12 ?_
    exact g_iret C hr (ws' := [oX5 h a tr 0, oX4 (a 1) ta cn, cA G (ta 1) 4 kd, cA G (ta 2) 12 nu, cQ G (a 0) 4 qf, oX2 sa sb la1, cA G (sb 1) zn gg, oX4 (a 3) tb tc, cA G (tb 1) 4 kt, cA G (tb 2) 12 nt, oX0 (a 4) lb xc xu xw, cA G (lb 1) 12 tex, cA G (lb 2) 4 trt, cA G (lb 3) 8 tmi, cA G (lb 4) 8 tsi, cA G (lb 5) 8 tun, cA G (lb 6) 8 tbe, cA G (lb 8) 8 tka, cA G (lb 9) 8 tbr, cA G (lb 11) 17 trs, cA G (lb 12) 17 trf, cA G (lb 13) 17 trp]) hw [0, 1, 2, 3, 4, 5, 6, 7, 8, 9, 10, 11, 12, 13, 14, 15, 16, 17, 18, 19, 20, 21] (by decide) rfl ⟨tc, kt, nt, xc, xu, tex, trt, tmi, tsi, tun, tbe, tka, tbr, xw, trs, trf, trp, (congrArg iI (by rw [wr9]; try omega)), (by rw [wf9]), (by first | exact hk9 | exact ⟨hkt, hnt⟩)⟩ dX5_day_13
