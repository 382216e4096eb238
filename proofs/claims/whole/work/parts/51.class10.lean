set_option maxRecDepth 20000 in
theorem hin_X5_meetsWish_X5 : ∀ w ∈ u_ws RX5 TX5 9, w ∈ wsX5_meetsWish := by
  intro w h
  exact List.mem_cons_of_mem _ (List.mem_append_left _ (List.mem_append_left _ (List.mem_append_right _ (h))))
set_option maxRecDepth 20000 in
theorem lk_X5_meetsWish_20 : Cond.fieldLink RX5 20 (TX5 1).1 (TX5 1).2.1 (TX5 1).2.2.1 ∈ wsX5_meetsWish := List.mem_cons_of_mem _ (List.mem_append_left _ (List.mem_append_left _ (List.mem_append_left _ (List.mem_append_left _ (List.mem_of_getElem? (i := 0) rfl)))))
set_option maxRecDepth 20000 in
theorem hin_X5_meetsWish_X4 : ∀ w ∈ u_ws RX4 TX4 3, w ∈ wsX5_meetsWish := by
  intro w h
  exact List.mem_cons_of_mem _ (List.mem_append_left _ (List.mem_append_right _ (h)))
set_option maxRecDepth 20000 in
theorem lk_X5_meetsWish_92 : Cond.fieldLink RX5 92 (TX4 0).1 (TX4 0).2.1 (TX4 0).2.2.1 ∈ wsX5_meetsWish := List.mem_cons_of_mem _ (List.mem_append_left _ (List.mem_append_left _ (List.mem_append_left _ (List.mem_append_left _ (List.mem_of_getElem? (i := 1) rfl)))))
set_option maxRecDepth 20000 in
theorem lk_X5_meetsWish_27 : Cond.fieldLink RX5 27 (TX5 2).1 (TX5 2).2.1 (TX5 2).2.2.1 ∈ wsX5_meetsWish := List.mem_cons_of_mem _ (List.mem_append_left _ (List.mem_append_left _ (List.mem_append_left _ (List.mem_append_left _ (List.mem_of_getElem? (i := 2) rfl)))))
set_option maxRecDepth 100000 in
set_option maxHeartbeats 8000000 in
theorem m_X5_meetsWish (l : Launch) (D : va_G) (G : gT) (h : Nat) (a : Nat → Nat) (tr : Int) (lf : Int) (ta : Nat → Nat) (cn : Int) (la : Nat → Nat) (ul : Int) (rw : Int) (ex : Int → Int) (mi : Int → Int) (si : Int → Int) (un : Int → Int) (be : Int → Int) (ka : Int → Int) (E : Int → Int → Int) (ca : Nat) (zn : Nat) (gg : Int → Int) (ce : Int → Int) (fb : Int) (kk : Int) (fr : Int) (hcn : 0 ≤ cn ∧ cn ≤ 4) (hE : EB E) (hX : LnX E cn ex) (hZ : LnZ E cn mi si un be) (hKA : hasL ka (ALn E cn.toNat)) (hul : ul = ((ALn E cn.toNat).length : Int)) (hkk : 0 ≤ kk ∧ kk ≤ 2 * ul) (hzn : zn ≤ 60) (hfr : 0 ≤ fr ∧ fr + cn ≤ zn) (hce : ∀ j, 0 ≤ j → j < cn → gg (fr + j) = ce (fb + j) ∧ -2147483648 ≤ gg (fr + j) ∧ gg (fr + j) ≤ 2147483647) : gMi l yX5_meetsWish wsX5_meetsWish ({ frames := 4, cells := 0, slots := 0, locals := 117 }) D G [.ref h, .int (iI kk), .ref ca, .int (iI fr)] [oX5 h a tr lf, oX4 (a 1) ta cn, oX0 (a 2) la cn ul rw, cA G (la 1) 12 ex, cA G (la 3) 8 mi, cA G (la 4) 8 si, cA G (la 5) 8 un, cA G (la 6) 8 be, cA G (la 8) 8 ka, cA G ca zn gg] 0 0 (fun (r : Int32) (w : va_W) => r = (iI (bI (mtB E (ALn E cn.toNat) cn ce fb kk = true))) ∧ w = [oX5 h a tr lf, oX4 (a 1) ta cn, oX0 (a 2) la cn ul rw, cA G (la 1) 12 ex, cA G (la 3) 8 mi, cA G (la 4) 8 si, cA G (la 5) 8 un, cA G (la 6) 8 be, cA G (la 8) 8 ka, cA G ca zn gg]) := by
  refine g_start_i (cc := cX5_meetsWish) (nL := 6) (own := RX5) (ret := some .boolean) (by decide +kernel) rfl rfl (Nat.le_of_ble_eq_true rfl) ?_
  intro p e s m below meth c A ls C hr hnm hw hl
  have hl : lv_has ls 6 [(0, .ref h), (1, .int (iI kk)), (2, .ref ca), (3, .int (iI fr))] := hl
  refine g_iconst C dX5_meetsWish_0 ?_
  refine g_istore C [(4, .int (iI 0)), (0, .ref h), (1, .int (iI kk)), (2, .ref ca), (3, .int (iI fr))] dX5_meetsWish_1 hl (by decide) rfl ?_
  clear hl
  intro ls hl
  refine g_loop (σ := (Int)) (fun z_ => [oX5 h a tr lf, oX4 (a 1) ta cn, oX0 (a 2) la cn ul rw, cA G (la 1) 12 ex, cA G (la 3) 8 mi, cA G (la 4) 8 si, cA G (la 5) 8 un, cA G (la 6) 8 be, cA G (la 8) 8 ka, cA G ca zn gg]) (fun z_ => [(4, .int (iI z_)), (0, .ref h), (1, .int (iI kk)), (2, .ref ca), (3, .int (iI fr))]) (fun z_ => (0 ≤ z_ ∧ z_ ≤ cn) ∧ (allB (mtP E (ALn E cn.toNat) ce fb kk) z_.toNat = true)) (fun z_ => (cn - z_).toNat) 0 ⟨by (try dsimp only); omega, by (try dsimp only); rfl⟩ hw (lv_sub hl [0, 1, 2, 3, 4] rfl) ?_
  clear hw hl
  rintro pp ⟨hpp, hal⟩ H locs ls hw hl ih_1
  replace hpp : 0 ≤ pp ∧ pp ≤ cn := hpp
  replace hal : allB (mtP E (ALn E cn.toNat) ce fb kk) pp.toNat = true := hal
  replace hw : gW D A s.heap [oX5 h a tr lf, oX4 (a 1) ta cn, oX0 (a 2) la cn ul rw, cA G (la 1) 12 ex, cA G (la 3) 8 mi, cA G (la 4) 8 si, cA G (la 5) 8 un, cA G (la 6) 8 be, cA G (la 8) 8 ka, cA G ca zn gg] H locs := hw
  replace hl : lv_has ls 6 [(4, .int (iI pp)), (0, .ref h), (1, .int (iI kk)), (2, .ref ca), (3, .int (iI fr))] := hl
  replace ih_1 : ∀ (pp' : Int), ((0 ≤ pp' ∧ pp' ≤ cn) ∧ (allB (mtP E (ALn E cn.toNat) ce fb kk) pp'.toNat = true)) → ((cn - pp').toNat) < ((cn - pp).toNat) → ∀ (H : Heap) (locs : List Loc) (ls : Array Slot), gW D A s.heap [oX5 h a tr lf, oX4 (a 1) ta cn, oX0 (a 2) la cn ul rw, cA G (la 1) 12 ex, cA G (la 3) 8 mi, cA G (la 4) 8 si, cA G (la 5) 8 un, cA G (la 6) 8 be, cA G (la 8) 8 ka, cA G ca zn gg] H locs → lv_has ls 6 [(4, .int (iI (pp'))), (0, .ref h), (1, .int (iI kk)), (2, .ref ca), (3, .int (iI fr))] → W p l e _ s m _ below meth c H locs _ _ _ (F0 m 3 ls []) := fun pp' => ih_1 pp'
  have hsb := sSp_r E (ALn E cn.toNat) kk pp
  have hc9 := hce pp hpp.1
  refine g_iload C hl 0 rfl dX5_meetsWish_3 ?_
  refine g_aload_n C hl 1 rfl rfl dX5_meetsWish_5 ?_
  refine g_get C hw hin_X5_meetsWish_X5 0 rfl rfl 1 (by decide) lk_X5_meetsWish_20 rfl dX5_meetsWish_6 ?_
  refine g_get C hw hin_X5_meetsWish_X4 1 rfl rfl 0 (by decide) lk_X5_meetsWish_92 rfl dX5_meetsWish_9 ?_
  refine g_icmp_ge C 54 dX5_meetsWish_12 (by decide) (by omega) (by omega) (fun c_2 => ?_) (fun c_2 => ?_)
  · skip
    refine g_iconst C dX5_meetsWish_54 ?_
    exact g_zret C hr (ws' := [oX5 h a tr lf, oX4 (a 1) ta cn, oX0 (a 2) la cn ul rw, cA G (la 1) 12 ex, cA G (la 3) 8 mi, cA G (la 4) 8 si, cA G (la 5) 8 un, cA G (la 6) 8 be, cA G (la 8) 8 ka, cA G ca zn gg]) hw [0, 1, 2, 3, 4, 5, 6, 7, 8, 9] (by decide) rfl (Or.inr rfl) ⟨(congrArg iI (by rw [bI_t]; have e9 : pp = cn := (by omega); rw [e9] at hal; exact hal)), rfl⟩ dX5_meetsWish_55
  · skip
    refine g_aload_n C hl 3 rfl rfl dX5_meetsWish_15 ?_
    refine g_iload_n C hl 4 rfl rfl dX5_meetsWish_16 ?_
    refine g_iload C hl 0 rfl dX5_meetsWish_17 ?_
    refine g_iadd C dX5_meetsWish_19 ?_
    refine g_iald C hw 9 rfl (by omega) (by omega) dX5_meetsWish_20 ?_
    refine g_nI (show (gg (fr + pp) : Int) = ce (fb + pp) by exact (hce pp hpp.1 (by omega)).1) ?_
    refine g_istore C [(5, .int (iI (ce (fb + pp)))), (4, .int (iI pp)), (0, .ref h), (1, .int (iI kk)), (2, .ref ca), (3, .int (iI fr))] dX5_meetsWish_21 hl (by decide) rfl ?_
    clear hl
    intro ls hl
    refine g_iload C hl 0 rfl dX5_meetsWish_23 ?_
    refine g_iconst C dX5_meetsWish_25 ?_
    refine g_icmp_eq C 48 dX5_meetsWish_26 (by decide) (by omega) (by omega) (fun c_3 => ?_) (fun c_3 => ?_)
    · skip
      refine g_iinc C [(4, .int (iI (pp + 1))), (5, .int (iI (ce (fb + pp)))), (0, .ref h), (1, .int (iI kk)), (2, .ref ca), (3, .int (iI fr))] 1 dX5_meetsWish_48 hl rfl (by decide) rfl ?_
      clear hl
      intro ls hl
      refine g_goto C 3 dX5_meetsWish_51 (by decide) ?_
      have hw : gW D A s.heap [oX5 h a tr lf, oX4 (a 1) ta cn, oX0 (a 2) la cn ul rw, cA G (la 1) 12 ex, cA G (la 3) 8 mi, cA G (la 4) 8 si, cA G (la 5) 8 un, cA G (la 6) 8 be, cA G (la 8) 8 ka, cA G ca zn gg] H locs := g_perm hw [0, 1, 2, 3, 4, 5, 6, 7, 8, 9] (by decide) rfl
      exact ih_1 (pp + 1) ⟨by omega, by rw [allB_s hpp.1, hal, mtP_t (by omega)]; rfl⟩ (by omega) H locs ls hw (lv_sub hl [0, 2, 3, 4, 5] rfl)
    · skip
      refine g_iload C hl 0 rfl dX5_meetsWish_29 ?_
      refine g_aload_n C hl 2 rfl rfl dX5_meetsWish_31 ?_
      refine g_get C hw hin_X5_meetsWish_X5 0 rfl rfl 2 (by decide) lk_X5_meetsWish_27 rfl dX5_meetsWish_32 ?_
      refine g_iload_n C hl 3 rfl rfl dX5_meetsWish_35 ?_
      refine g_iload C hl 1 rfl dX5_meetsWish_36 ?_
      refine g_callVi C hw (wr := [oX5 h a tr lf, oX4 (a 1) ta cn, cA G ca zn gg]) (As := [.int (iI kk), .int (iI pp)]) (rest := [.int (iI (ce (fb + pp)))]) (m_X0_signInSpot l D G (h := (a 2)) (a := la) (cn := cn) (ul := ul) (rw := rw) (ex := ex) (mi := mi) (si := si) (un := un) (be := be) (ka := ka) (E := E) (kk := kk) (qq := pp) (by first | assumption | omega) (by first | assumption | omega) (by first | assumption | omega) (by first | assumption | omega) (by first | assumption | omega) (by first | assumption | omega) (by first | assumption | omega) (by first | assumption | omega)) (cwV 2 C.1.2.2.2.2 gX5_meetsWish_X0_signInSpot rfl rfl rfl (by decide +kernel) ⟨Nat.le_of_ble_eq_true rfl, Nat.le_of_ble_eq_true rfl⟩) [2, 3, 4, 5, 6, 7, 8] [0, 1, 9] rfl rfl (by decide) (by decide) (by decide) 0 rfl rfl rfl hl.1 _ rfl (Nat.le_of_ble_eq_true rfl) dX5_meetsWish_38 ⟨Nat.le_of_ble_eq_true rfl, Nat.le_of_ble_eq_true rfl⟩ ?_
      clear hw
      rintro _ _ H locs ⟨rfl, rfl⟩ hw
      have hw : gW D A s.heap [oX5 h a tr lf, oX4 (a 1) ta cn, cA G ca zn gg, oX0 (a 2) la cn ul rw, cA G (la 1) 12 ex, cA G (la 3) 8 mi, cA G (la 4) 8 si, cA G (la 5) 8 un, cA G (la 6) 8 be, cA G (la 8) 8 ka] H locs := hw
      refine g_iconst C dX5_meetsWish_41 ?_
      refine g_iadd C dX5_meetsWish_42 ?_
      refine g_icmp_eq C 48 dX5_meetsWish_43 (by decide) (by omega) (by omega) (fun c_4 => ?_) (fun c_4 => ?_)
      · skip
        refine g_iinc C [(4, .int (iI (pp + 1))), (5, .int (iI (ce (fb + pp)))), (0, .ref h), (1, .int (iI kk)), (2, .ref ca), (3, .int (iI fr))] 1 dX5_meetsWish_48 hl rfl (by decide) rfl ?_
        clear hl
        intro ls hl
        refine g_goto C 3 dX5_meetsWish_51 (by decide) ?_
        have hw : gW D A s.heap [oX5 h a tr lf, oX4 (a 1) ta cn, oX0 (a 2) la cn ul rw, cA G (la 1) 12 ex, cA G (la 3) 8 mi, cA G (la 4) 8 si, cA G (la 5) 8 un, cA G (la 6) 8 be, cA G (la 8) 8 ka, cA G ca zn gg] H locs := g_perm hw [0, 1, 3, 4, 5, 6, 7, 8, 9, 2] (by decide) rfl
        exact ih_1 (pp + 1) ⟨by omega, by rw [allB_s hpp.1, hal, mtP_t (by omega)]; rfl⟩ (by omega) H locs ls hw (lv_sub hl [0, 2, 3, 4, 5] rfl)
      · skip
        refine g_iconst C dX5_meetsWish_46 ?_
        exact g_zret C hr (ws' := [oX5 h a tr lf, oX4 (a 1) ta cn, oX0 (a 2) la cn ul rw, cA G (la 1) 12 ex, cA G (la 3) 8 mi, cA G (la 4) 8 si, cA G (la 5) 8 un, cA G (la 6) 8 be, cA G (la 8) 8 ka, cA G ca zn gg]) hw [0, 1, 3, 4, 5, 6, 7, 8, 9, 2] (by decide) rfl (Or.inl rfl) ⟨(congrArg iI (by rw [bI_f]; intro q9; have q8 := allB_i q9 pp hpp.1 (by omega); rw [mtP_f (by omega)] at q8; exact Bool.false_ne_true q8)), rfl⟩ dX5_meetsWish_47

set_option maxRecDepth 20000 in
theorem hin_X5_wish_X5 : ∀ w ∈ u_ws RX5 TX5 9, w ∈ wsX5_wish := by
  intro w h
  exact List.mem_cons_of_mem _ (List.mem_append_left _ (List.mem_append_left _ (List.mem_append_left _ (List.mem_append_right _ (h)))))
set_option maxRecDepth 20000 in
theorem lk_X5_wish_51 : Cond.fieldLink RX5 51 (TX5 8).1 (TX5 8).2.1 (TX5 8).2.2.1 ∈ wsX5_wish := List.mem_cons_of_mem _ (List.mem_append_left _ (List.mem_append_left _ (List.mem_append_left _ (List.mem_append_left _ (List.mem_append_left _ (List.mem_of_getElem? (i := 0) rfl))))))
set_option maxRecDepth 20000 in
theorem lk_X5_wish_20 : Cond.fieldLink RX5 20 (TX5 1).1 (TX5 1).2.1 (TX5 1).2.2.1 ∈ wsX5_wish := List.mem_cons_of_mem _ (List.mem_append_left _ (List.mem_append_left _ (List.mem_append_left _ (List.mem_append_left _ (List.mem_append_left _ (List.mem_of_getElem? (i := 1) rfl))))))
set_option maxRecDepth 20000 in
theorem hin_X5_wish_X4 : ∀ w ∈ u_ws RX4 TX4 3, w ∈ wsX5_wish := by
  intro w h
  exact List.mem_cons_of_mem _ (List.mem_append_left _ (List.mem_append_left _ (List.mem_append_right _ (h))))
set_option maxRecDepth 20000 in
theorem lk_X5_wish_92 : Cond.fieldLink RX5 92 (TX4 0).1 (TX4 0).2.1 (TX4 0).2.2.1 ∈ wsX5_wish := List.mem_cons_of_mem _ (List.mem_append_left _ (List.mem_append_left _ (List.mem_append_left _ (List.mem_append_left _ (List.mem_append_left _ (List.mem_of_getElem? (i := 2) rfl))))))
set_option maxRecDepth 20000 in
theorem lk_X5_wish_13 : Cond.fieldLink RX5 13 (TX5 0).1 (TX5 0).2.1 (TX5 0).2.2.1 ∈ wsX5_wish := List.mem_cons_of_mem _ (List.mem_append_left _ (List.mem_append_left _ (List.mem_append_left _ (List.mem_append_left _ (List.mem_append_left _ (List.mem_of_getElem? (i := 3) rfl))))))
set_option maxRecDepth 100000 in
set_option maxHeartbeats 8000000 in
theorem m_X5_wish_n (l : Launch) (D : va_G) (G : gT) (h : Nat) (a : Nat → Nat) (tr : Int) (lf : Int) (ta : Nat → Nat) (cn : Int) (qf : Nat → Option Nat) (E : Int → Int → Int) (sz : Int → Int) (ln : Int → Int) (ce : Int → Int) (kk : Int) (lv : Int) (ii : Int) (hcn : 0 ≤ cn ∧ cn ≤ 4) (hk : -2147483648 ≤ kk ∧ kk ≤ 2147483647) (hlv : -2147483648 ≤ lv ∧ lv ≤ 2147483647) (hi : -2147483648 ≤ ii ∧ ii ≤ 2147483647) (hqn : 0 ≤ kk → kk ≤ 3 → qf kk.toNat = none) (hsk : 0 ≤ kk → kk ≤ 3 → sz kk = -1) : gMi l yX5_wish wsX5_wish ({ frames := 5, cells := 0, slots := 0, locals := 142 }) D G [.ref h, .int (iI kk), .int (iI lv), .int (iI ii)] [oX5 h a tr lf, oX4 (a 1) ta cn, cQ G (a 0) 4 qf] 0 0 (fun (r : Int32) (w : va_W) => r = (iI (R_wsh cn E (ALn E cn.toNat) sz ln ce kk lv ii)) ∧ w = [oX5 h a tr (F_wsh cn sz ln kk lv ii), oX4 (a 1) ta cn, cQ G (a 0) 4 qf]) := by
  refine g_start_i (cc := cX5_wish) (nL := 8) (own := RX5) (ret := some .int) (by decide +kernel) rfl rfl (Nat.le_of_ble_eq_true rfl) ?_
  intro p e s m below meth c A ls C hr hnm hw hl
  have hl : lv_has ls 8 [(0, .ref h), (1, .int (iI kk)), (2, .int (iI lv)), (3, .int (iI ii))] := hl
  refine g_aload_n C hl 0 rfl rfl dX5_wish_0 ?_
  refine g_iconst C dX5_wish_1 ?_
  refine g_put C hw [oX5 h a tr 0, oX4 (a 1) ta cn, cQ G (a 0) 4 qf] hin_X5_wish_X5 tyX5 tyX5_ok nmX5 0 rfl rfl 8 (by decide) lk_X5_wish_51 rfl rfl rfl rfl (Nat.le_of_ble_eq_true rfl) rfl dX5_wish_2 ?_
  clear hw
  intro H locs hw
  refine g_aload_n C hl 0 rfl rfl dX5_wish_5 ?_
  refine g_get C hw hin_X5_wish_X5 0 rfl rfl 1 (by decide) lk_X5_wish_20 rfl dX5_wish_6 ?_
  refine g_get C hw hin_X5_wish_X4 1 rfl rfl 0 (by decide) lk_X5_wish_92 rfl dX5_wish_9 ?_
  refine g_if_ne C 18 dX5_wish_12 (by decide) (by omega) (fun c_1 => ?_) (fun c_1 => ?_)
  · skip
    refine g_iload_n C hl 1 rfl rfl dX5_wish_18 ?_
    refine g_callSi C hw (wr := [oX5 h a tr 0, oX4 (a 1) ta cn, cQ G (a 0) 4 qf]) (As := [.int (iI kk)]) (rest := []) (m_X5_isSheet l D G (kk := kk) (by first | assumption | omega)) (va_cwS 1 C.1.2.2.2.2 gX5_wish_X5_isSheet rfl rfl rfl (by decide +kernel) ⟨Nat.le_of_ble_eq_true rfl, Nat.le_of_ble_eq_true rfl⟩) [] [0, 1, 2] rfl rfl (by decide) (by decide) (by decide) rfl hl.1 _ rfl (Nat.le_of_ble_eq_true rfl) dX5_wish_19 ⟨Nat.le_of_ble_eq_true rfl, Nat.le_of_ble_eq_true rfl⟩ ?_
    clear hw
    rintro _ _ H locs ⟨rfl, rfl⟩ hw
    have hw : gW D A s.heap [oX5 h a tr 0, oX4 (a 1) ta cn, cQ G (a 0) 4 qf] H locs := hw
    refine g_ifb_ne C 27 dX5_wish_22 (by decide) (fun c_2 => ?_) (fun c_2 => ?_)
    · skip
      refine g_iload_n C hl 2 rfl rfl dX5_wish_27 ?_
      refine g_iconst C dX5_wish_28 ?_
      refine g_callSi C hw (wr := [oX5 h a tr 0, oX4 (a 1) ta cn, cQ G (a 0) 4 qf]) (As := [.int (iI lv), .int (iI 3)]) (rest := []) (m_X5_isBelow l D G (na := lv) (nb := 3) (by first | assumption | omega) (by first | assumption | omega)) (va_cwS 2 C.1.2.2.2.2 gX5_wish_X5_isBelow rfl rfl rfl (by decide +kernel) ⟨Nat.le_of_ble_eq_true rfl, Nat.le_of_ble_eq_true rfl⟩) [] [0, 1, 2] rfl rfl (by decide) (by decide) (by decide) rfl hl.1 _ rfl (Nat.le_of_ble_eq_true rfl) dX5_wish_29 ⟨Nat.le_of_ble_eq_true rfl, Nat.le_of_ble_eq_true rfl⟩ ?_
      clear hw
      rintro _ _ H locs ⟨rfl, rfl⟩ hw
      have hw : gW D A s.heap [oX5 h a tr 0, oX4 (a 1) ta cn, cQ G (a 0) 4 qf] H locs := hw
      refine g_ifb_ne C 38 dX5_wish_32 (by decide) (fun c_3 => ?_) (fun c_3 => ?_)
      · skip
        refine g_aload_n C hl 0 rfl rfl dX5_wish_38 ?_
        refine g_get C hw hin_X5_wish_X5 0 rfl rfl 0 (by decide) lk_X5_wish_13 rfl dX5_wish_39 ?_
        refine g_iload_n C hl 1 rfl rfl dX5_wish_42 ?_
        refine g_aald C hw 2 rfl (by omega) (Nat.le_of_ble_eq_true rfl) dX5_wish_43 ?_
        refine g_topv (show va_rf (qf kk.toNat) = .null by exact rf_n (hqn (by omega) (by omega))) ?_
        refine g_astoreN C [(4, .null), (0, .ref h), (1, .int (iI kk)), (2, .int (iI lv)), (3, .int (iI ii))] dX5_wish_44 hl (by decide) rfl ?_
        clear hl
        intro ls hl
        refine g_aloadN C hl 0 rfl dX5_wish_46 ?_
        refine g_iload_n C hl 3 rfl rfl dX5_wish_48 ?_
        refine g_iload_n C hl 4 rfl rfl dX5_wish_49 ?_
        refine g_aload_n C hl 1 rfl rfl dX5_wish_50 ?_
        refine g_get C hw hin_X5_wish_X5 0 rfl rfl 1 (by decide) lk_X5_wish_20 rfl dX5_wish_51 ?_
        refine g_get C hw hin_X5_wish_X4 1 rfl rfl 0 (by decide) lk_X5_wish_92 rfl dX5_wish_54 ?_
        refine g_callSi C hw (wr := [oX5 h a tr 0, oX4 (a 1) ta cn, cQ G (a 0) 4 qf]) (As := [.null, .int (iI lv), .int (iI ii), .int (iI cn)]) (rest := []) (m_X5_foc_n l D G (lv := lv) (ii := ii) (nn := cn) ) (va_cwS 4 C.1.2.2.2.2 gX5_wish_X5_faultOfCells rfl rfl rfl (by decide +kernel) ⟨Nat.le_of_ble_eq_true rfl, Nat.le_of_ble_eq_true rfl⟩) [] [0, 1, 2] rfl rfl (by decide) (by decide) (by decide) rfl hl.1 _ rfl (Nat.le_of_ble_eq_true rfl) dX5_wish_57 ⟨Nat.le_of_ble_eq_true rfl, Nat.le_of_ble_eq_true rfl⟩ ?_
        clear hw
        rintro _ _ H locs ⟨rfl, rfl⟩ hw
        have hw : gW D A s.heap [oX5 h a tr 0, oX4 (a 1) ta cn, cQ G (a 0) 4 qf] H locs := hw
        refine g_istore C [(5, .int (iI 1)), (4, .null), (0, .ref h), (1, .int (iI kk)), (2, .int (iI lv)), (3, .int (iI ii))] dX5_wish_60 hl (by decide) rfl ?_
        clear hl
        intro ls hl
        refine g_iload C hl 0 rfl dX5_wish_62 ?_
        refine g_if_eq C 74 dX5_wish_64 (by decide) (by decide) (fun c_4 => absurd c_4 (by decide)) (fun c_4 => ?_)
        have hb1 : barC sz ln kk lv ii (cn) = 1 := by have := hsk (by omega) (by omega); unfold barC; rw [if_neg (by omega), if_pos (by omega)]
        have w9 : W_st cn kk lv = 0 := by unfold W_st; (repeat' split) <;> omega
        obtain ⟨wr9, wf9⟩ := R_wsh_2 (n := cn) (E := E) (L := (ALn E cn.toNat)) (sz := sz) (ln := ln) (ce := ce) (k := kk) (lane := lv) (i := ii) w9 (by omega)
        rw [hb1] at wr9 wf9
        refine g_aload_n C hl 2 rfl rfl dX5_wish_67 ?_
        refine g_iload C hl 0 rfl dX5_wish_68 ?_
        refine g_callVi C hw (wr := [oX4 (a 1) ta cn, cQ G (a 0) 4 qf]) (As := [.int (iI 1)]) (rest := []) (m_X5_failed l D G (h := h) (a := a) (tr := tr) (lf := 0) (fv := 1) ) (cwV 1 C.1.2.2.2.2 gX5_wish_X5_failed rfl rfl rfl (by decide +kernel) ⟨Nat.le_of_ble_eq_true rfl, Nat.le_of_ble_eq_true rfl⟩) [0] [1, 2] rfl rfl (by decide) (by decide) (by decide) 0 rfl rfl rfl hl.1 _ rfl (Nat.le_of_ble_eq_true rfl) dX5_wish_70 ⟨Nat.le_of_ble_eq_true rfl, Nat.le_of_ble_eq_true rfl⟩ ?_
        clear hw
        rintro _ _ H locs ⟨rfl, rfl⟩ hw
        have hw : gW D A s.heap [oX4 (a 1) ta cn, cQ G (a 0) 4 qf, oX5 h a tr 1] H locs := hw
        exact g_iret C hr (ws' := [oX5 h a tr 1, oX4 (a 1) ta cn, cQ G (a 0) 4 qf]) hw [2, 0, 1] (by decide) rfl ⟨(congrArg iI (by rw [wr9]; try omega)), (by rw [wf9])⟩ dX5_wish_73
      · skip
        have w9 : W_st cn kk lv = -2 := by unfold W_st; (repeat' split) <;> omega
        obtain ⟨wr9, wf9⟩ := R_wsh_1 (n := cn) (E := E) (L := (ALn E cn.toNat)) (sz := sz) (ln := ln) (ce := ce) (k := kk) (lane := lv) (i := ii) (by rw [w9]; decide)
        rw [w9] at wr9
        refine g_bipush C dX5_wish_35 (by decide) ?_
        exact g_iret C hr (ws' := [oX5 h a tr 0, oX4 (a 1) ta cn, cQ G (a 0) 4 qf]) hw [0, 1, 2] (by decide) rfl ⟨(congrArg iI (by rw [wr9]; try omega)), (by rw [wf9])⟩ dX5_wish_37
    · skip
      have w9 : W_st cn kk lv = -1 := by unfold W_st; (repeat' split) <;> omega
      obtain ⟨wr9, wf9⟩ := R_wsh_1 (n := cn) (E := E) (L := (ALn E cn.toNat)) (sz := sz) (ln := ln) (ce := ce) (k := kk) (lane := lv) (i := ii) (by rw [w9]; decide)
      rw [w9] at wr9
      refine g_iconst C dX5_wish_25 ?_
      exact g_iret C hr (ws' := [oX5 h a tr 0, oX4 (a 1) ta cn, cQ G (a 0) 4 qf]) hw [0, 1, 2] (by decide) rfl ⟨(congrArg iI (by rw [wr9]; try omega)), (by rw [wf9])⟩ dX5_wish_26
  · skip
    have w9 : W_st cn kk lv = -3 := by unfold W_st; (repeat' split) <;> omega
    obtain ⟨wr9, wf9⟩ := R_wsh_1 (n := cn) (E := E) (L := (ALn E cn.toNat)) (sz := sz) (ln := ln) (ce := ce) (k := kk) (lane := lv) (i := ii) (by rw [w9]; decide)
    rw [w9] at wr9
    refine g_bipush C dX5_wish_15 (by decide) ?_
    exact g_iret C hr (ws' := [oX5 h a tr 0, oX4 (a 1) ta cn, cQ G (a 0) 4 qf]) hw [0, 1, 2] (by decide) rfl ⟨(congrArg iI (by rw [wr9]; try omega)), (by rw [wf9])⟩ dX5_wish_17

set_option maxRecDepth 20000 in
theorem hin_X5_wish_X2 : ∀ w ∈ u_ws RX2 TX2 2, w ∈ wsX5_wish := by
  intro w h
  exact List.mem_cons_of_mem _ (List.mem_append_left _ (List.mem_append_right _ (h)))
set_option maxRecDepth 20000 in
theorem lk_X5_wish_71 : Cond.fieldLink RX5 71 (TX2 1).1 (TX2 1).2.1 (TX2 1).2.2.1 ∈ wsX5_wish := List.mem_cons_of_mem _ (List.mem_append_left _ (List.mem_append_left _ (List.mem_append_left _ (List.mem_append_left _ (List.mem_append_left _ (List.mem_of_getElem? (i := 4) rfl))))))
set_option maxRecDepth 20000 in
theorem lk_X5_wish_27 : Cond.fieldLink RX5 27 (TX5 2).1 (TX5 2).2.1 (TX5 2).2.2.1 ∈ wsX5_wish := List.mem_cons_of_mem _ (List.mem_append_left _ (List.mem_append_left _ (List.mem_append_left _ (List.mem_append_left _ (List.mem_append_left _ (List.mem_of_getElem? (i := 5) rfl))))))
set_option maxRecDepth 100000 in
set_option maxHeartbeats 8000000 in
theorem m_X5_wish_s (l : Launch) (D : va_G) (G : gT) (h : Nat) (a : Nat → Nat) (tr : Int) (lf : Int) (ta : Nat → Nat) (cn : Int) (qf : Nat → Option Nat) (sa : Nat) (sb : Nat → Nat) (la1 : Int) (zn : Nat) (gg : Int → Int) (la : Nat → Nat) (ul : Int) (rw : Int) (ex : Int → Int) (mi : Int → Int) (si : Int → Int) (un : Int → Int) (be : Int → Int) (ka : Int → Int) (E : Int → Int → Int) (sz : Int → Int) (ln : Int → Int) (ce : Int → Int) (kk : Int) (lv : Int) (ii : Int) (hcn : 0 ≤ cn ∧ cn ≤ 4) (hE : EB E) (hX : LnX E cn ex) (hZ : LnZ E cn mi si un be) (hKA : hasL ka (ALn E cn.toNat)) (hul : ul = ((ALn E cn.toNat).length : Int)) (hk : -2147483648 ≤ kk ∧ kk ≤ 2147483647) (hlv : -2147483648 ≤ lv ∧ lv ≤ 2147483647) (hi : -2147483648 ≤ ii ∧ ii ≤ 2147483647) (hk3 : 0 ≤ kk ∧ kk ≤ 3) (hqs : qf kk.toNat = some sa) (hsk : sz kk = zn) (hlk : ln kk = la1) (hla1 : 0 ≤ la1 ∧ la1 ≤ 2) (hzn : zn ≤ 60) (hce : ∀ j, 0 ≤ j → j < (zn : Int) → gg j = ce (60 * kk + j) ∧ -2147483648 ≤ gg j ∧ gg j ≤ 2147483647) : gMi l yX5_wish wsX5_wish ({ frames := 5, cells := 0, slots := 0, locals := 142 }) D G [.ref h, .int (iI kk), .int (iI lv), .int (iI ii)] [oX5 h a tr lf, oX4 (a 1) ta cn, cQ G (a 0) 4 qf, oX2 sa sb la1, cA G (sb 1) zn gg, oX0 (a 2) la cn ul rw, cA G (la 1) 12 ex, cA G (la 3) 8 mi, cA G (la 4) 8 si, cA G (la 5) 8 un, cA G (la 6) 8 be, cA G (la 8) 8 ka] 0 0 (fun (r : Int32) (w : va_W) => r = (iI (R_wsh cn E (ALn E cn.toNat) sz ln ce kk lv ii)) ∧ w = [oX5 h a tr (F_wsh cn sz ln kk lv ii), oX4 (a 1) ta cn, cQ G (a 0) 4 qf, oX2 sa sb la1, cA G (sb 1) zn gg, oX0 (a 2) la cn ul rw, cA G (la 1) 12 ex, cA G (la 3) 8 mi, cA G (la 4) 8 si, cA G (la 5) 8 un, cA G (la 6) 8 be, cA G (la 8) 8 ka]) := by
  refine g_start_i (cc := cX5_wish) (nL := 8) (own := RX5) (ret := some .int) (by decide +kernel) rfl rfl (Nat.le_of_ble_eq_true rfl) ?_
  intro p e s m below meth c A ls C hr hnm hw hl
  have hl : lv_has ls 8 [(0, .ref h), (1, .int (iI kk)), (2, .int (iI lv)), (3, .int (iI ii))] := hl
  have hlen := ALn_len E cn.toNat
  have hb9 := barC_r sz ln kk lv ii cn
  have hbz : barC sz ln kk lv ii cn = 0 → 0 ≤ ii ∧ ii + cn ≤ (zn : Int) := by unfold barC; (repeat' split) <;> omega
  refine g_aload_n C hl 0 rfl rfl dX5_wish_0 ?_
  refine g_iconst C dX5_wish_1 ?_
  refine g_put C hw [oX5 h a tr 0, oX4 (a 1) ta cn, cQ G (a 0) 4 qf, oX2 sa sb la1, cA G (sb 1) zn gg, oX0 (a 2) la cn ul rw, cA G (la 1) 12 ex, cA G (la 3) 8 mi, cA G (la 4) 8 si, cA G (la 5) 8 un, cA G (la 6) 8 be, cA G (la 8) 8 ka] hin_X5_wish_X5 tyX5 tyX5_ok nmX5 0 rfl rfl 8 (by decide) lk_X5_wish_51 rfl rfl rfl rfl (Nat.le_of_ble_eq_true rfl) rfl dX5_wish_2 ?_
  clear hw
  intro H locs hw
  refine g_aload_n C hl 0 rfl rfl dX5_wish_5 ?_
  refine g_get C hw hin_X5_wish_X5 0 rfl rfl 1 (by decide) lk_X5_wish_20 rfl dX5_wish_6 ?_
  refine g_get C hw hin_X5_wish_X4 1 rfl rfl 0 (by decide) lk_X5_wish_92 rfl dX5_wish_9 ?_
  refine g_if_ne C 18 dX5_wish_12 (by decide) (by omega) (fun c_1 => ?_) (fun c_1 => ?_)
  · skip
    refine g_iload_n C hl 1 rfl rfl dX5_wish_18 ?_
    refine g_callSi C hw (wr := [oX5 h a tr 0, oX4 (a 1) ta cn, cQ G (a 0) 4 qf, oX2 sa sb la1, cA G (sb 1) zn gg, oX0 (a 2) la cn ul rw, cA G (la 1) 12 ex, cA G (la 3) 8 mi, cA G (la 4) 8 si, cA G (la 5) 8 un, cA G (la 6) 8 be, cA G (la 8) 8 ka]) (As := [.int (iI kk)]) (rest := []) (m_X5_isSheet l D G (kk := kk) (by first | assumption | omega)) (va_cwS 1 C.1.2.2.2.2 gX5_wish_X5_isSheet rfl rfl rfl (by decide +kernel) ⟨Nat.le_of_ble_eq_true rfl, Nat.le_of_ble_eq_true rfl⟩) [] [0, 1, 2, 3, 4, 5, 6, 7, 8, 9, 10, 11] rfl rfl (by decide) (by decide) (by decide) rfl hl.1 _ rfl (Nat.le_of_ble_eq_true rfl) dX5_wish_19 ⟨Nat.le_of_ble_eq_true rfl, Nat.le_of_ble_eq_true rfl⟩ ?_
    clear hw
    rintro _ _ H locs ⟨rfl, rfl⟩ hw
    have hw : gW D A s.heap [oX5 h a tr 0, oX4 (a 1) ta cn, cQ G (a 0) 4 qf, oX2 sa sb la1, cA G (sb 1) zn gg, oX0 (a 2) la cn ul rw, cA G (la 1) 12 ex, cA G (la 3) 8 mi, cA G (la 4) 8 si, cA G (la 5) 8 un, cA G (la 6) 8 be, cA G (la 8) 8 ka] H locs := hw
    refine g_ifb_ne C 27 dX5_wish_22 (by decide) (fun c_2 => ?_) (fun c_2 => ?_)
    · skip
      refine g_iload_n C hl 2 rfl rfl dX5_wish_27 ?_
      refine g_iconst C dX5_wish_28 ?_
      refine g_callSi C hw (wr := [oX5 h a tr 0, oX4 (a 1) ta cn, cQ G (a 0) 4 qf, oX2 sa sb la1, cA G (sb 1) zn gg, oX0 (a 2) la cn ul rw, cA G (la 1) 12 ex, cA G (la 3) 8 mi, cA G (la 4) 8 si, cA G (la 5) 8 un, cA G (la 6) 8 be, cA G (la 8) 8 ka]) (As := [.int (iI lv), .int (iI 3)]) (rest := []) (m_X5_isBelow l D G (na := lv) (nb := 3) (by first | assumption | omega) (by first | assumption | omega)) (va_cwS 2 C.1.2.2.2.2 gX5_wish_X5_isBelow rfl rfl rfl (by decide +kernel) ⟨Nat.le_of_ble_eq_true rfl, Nat.le_of_ble_eq_true rfl⟩) [] [0, 1, 2, 3, 4, 5, 6, 7, 8, 9, 10, 11] rfl rfl (by decide) (by decide) (by decide) rfl hl.1 _ rfl (Nat.le_of_ble_eq_true rfl) dX5_wish_29 ⟨Nat.le_of_ble_eq_true rfl, Nat.le_of_ble_eq_true rfl⟩ ?_
      clear hw
      rintro _ _ H locs ⟨rfl, rfl⟩ hw
      have hw : gW D A s.heap [oX5 h a tr 0, oX4 (a 1) ta cn, cQ G (a 0) 4 qf, oX2 sa sb la1, cA G (sb 1) zn gg, oX0 (a 2) la cn ul rw, cA G (la 1) 12 ex, cA G (la 3) 8 mi, cA G (la 4) 8 si, cA G (la 5) 8 un, cA G (la 6) 8 be, cA G (la 8) 8 ka] H locs := hw
      refine g_ifb_ne C 38 dX5_wish_32 (by decide) (fun c_3 => ?_) (fun c_3 => ?_)
      · skip
        refine g_aload_n C hl 0 rfl rfl dX5_wish_38 ?_
        refine g_get C hw hin_X5_wish_X5 0 rfl rfl 0 (by decide) lk_X5_wish_13 rfl dX5_wish_39 ?_
        refine g_iload_n C hl 1 rfl rfl dX5_wish_42 ?_
        refine g_aald C hw 2 rfl (by omega) (Nat.le_of_ble_eq_true rfl) dX5_wish_43 ?_
        refine g_topv (show va_rf (qf kk.toNat) = .ref sa by exact rf_s hqs) ?_
        refine g_astore C [(4, .ref sa), (0, .ref h), (1, .int (iI kk)), (2, .int (iI lv)), (3, .int (iI ii))] dX5_wish_44 hl (by decide) rfl ?_
        clear hl
        intro ls hl
        refine g_aload C hl 0 rfl dX5_wish_46 ?_
        refine g_iload_n C hl 3 rfl rfl dX5_wish_48 ?_
        refine g_iload_n C hl 4 rfl rfl dX5_wish_49 ?_
        refine g_aload_n C hl 1 rfl rfl dX5_wish_50 ?_
        refine g_get C hw hin_X5_wish_X5 0 rfl rfl 1 (by decide) lk_X5_wish_20 rfl dX5_wish_51 ?_
        refine g_get C hw hin_X5_wish_X4 1 rfl rfl 0 (by decide) lk_X5_wish_92 rfl dX5_wish_54 ?_
        refine g_callSi C hw (wr := [oX5 h a tr 0, oX4 (a 1) ta cn, cQ G (a 0) 4 qf, oX0 (a 2) la cn ul rw, cA G (la 1) 12 ex, cA G (la 3) 8 mi, cA G (la 4) 8 si, cA G (la 5) 8 un, cA G (la 6) 8 be, cA G (la 8) 8 ka]) (As := [.ref sa, .int (iI lv), .int (iI ii), .int (iI cn)]) (rest := []) (m_X5_foc_s l D G (sa := sa) (sb := sb) (la1 := la1) (zn := zn) (gg := gg) (sz := sz) (ln := ln) (kk := kk) (lv := lv) (ii := ii) (nn := cn) (by first | assumption | omega) (by first | assumption | omega) (by first | assumption | omega) (by first | assumption | omega) (by first | assumption | omega) (by first | assumption | omega) (by first | assumption | omega)) (va_cwS 4 C.1.2.2.2.2 gX5_wish_X5_faultOfCells rfl rfl rfl (by decide +kernel) ⟨Nat.le_of_ble_eq_true rfl, Nat.le_of_ble_eq_true rfl⟩) [3, 4] [0, 1, 2, 5, 6, 7, 8, 9, 10, 11] rfl rfl (by decide) (by decide) (by decide) rfl hl.1 _ rfl (Nat.le_of_ble_eq_true rfl) dX5_wish_57 ⟨Nat.le_of_ble_eq_true rfl, Nat.le_of_ble_eq_true rfl⟩ ?_
        clear hw
        rintro _ _ H locs ⟨rfl, rfl⟩ hw
        have hw : gW D A s.heap [oX5 h a tr 0, oX4 (a 1) ta cn, cQ G (a 0) 4 qf, oX0 (a 2) la cn ul rw, cA G (la 1) 12 ex, cA G (la 3) 8 mi, cA G (la 4) 8 si, cA G (la 5) 8 un, cA G (la 6) 8 be, cA G (la 8) 8 ka, oX2 sa sb la1, cA G (sb 1) zn gg] H locs := hw
        refine g_istore C [(5, .int (iI ((barC sz ln kk lv ii cn)))), (4, .ref sa), (0, .ref h), (1, .int (iI kk)), (2, .int (iI lv)), (3, .int (iI ii))] dX5_wish_60 hl (by decide) rfl ?_
        clear hl
        intro ls hl
        refine g_iload C hl 0 rfl dX5_wish_62 ?_
        refine g_if_eq C 74 dX5_wish_64 (by decide) (by omega) (fun c_4 => ?_) (fun c_4 => ?_)
        · skip
          have b1 : barC sz ln kk lv ii cn = 0 := by omega
          have b2 := hbz b1
          refine g_aload C hl 1 rfl dX5_wish_74 ?_
          refine g_get C hw hin_X5_wish_X2 10 rfl rfl 1 (by decide) lk_X5_wish_71 rfl dX5_wish_76 ?_
          refine g_astore C [(6, .ref ((sb 1))), (5, .int (iI ((barC sz ln kk lv ii cn)))), (4, .ref sa), (0, .ref h), (1, .int (iI kk)), (2, .int (iI lv)), (3, .int (iI ii))] dX5_wish_79 hl (by decide) rfl ?_
          clear hl
          intro ls hl
          refine g_iconst C dX5_wish_81 ?_
          refine g_istore C [(7, .int (iI 0)), (6, .ref ((sb 1))), (5, .int (iI ((barC sz ln kk lv ii cn)))), (4, .ref sa), (0, .ref h), (1, .int (iI kk)), (2, .int (iI lv)), (3, .int (iI ii))] dX5_wish_82 hl (by decide) rfl ?_
          clear hl
          intro ls hl
          refine g_loop (σ := (Int)) (fun z_ => [oX5 h a tr 0, oX4 (a 1) ta cn, cQ G (a 0) 4 qf, oX0 (a 2) la cn ul rw, cA G (la 1) 12 ex, cA G (la 3) 8 mi, cA G (la 4) 8 si, cA G (la 5) 8 un, cA G (la 6) 8 be, cA G (la 8) 8 ka, oX2 sa sb la1, cA G (sb 1) zn gg]) (fun z_ => [(7, .int (iI z_)), (6, .ref ((sb 1))), (5, .int (iI ((barC sz ln kk lv ii cn)))), (4, .ref sa), (0, .ref h), (1, .int (iI kk)), (2, .int (iI lv)), (3, .int (iI ii))]) (fun z_ => (0 ≤ z_ ∧ z_ ≤ cn) ∧ (allX (wcP ce (60 * kk + ii)) z_)) (fun z_ => (cn - z_).toNat) 0 ⟨by (try dsimp only); omega, by (try dsimp only); intro x h1 h2; omega⟩ hw (lv_sub hl [0, 1, 2, 3, 4, 5, 6, 7] rfl) ?_
          clear hw hl
          rintro pp ⟨hpp, hwc⟩ H locs ls hw hl ih_5
          replace hpp : 0 ≤ pp ∧ pp ≤ cn := hpp
          replace hwc : allX (wcP ce (60 * kk + ii)) pp := hwc
          replace hw : gW D A s.heap [oX5 h a tr 0, oX4 (a 1) ta cn, cQ G (a 0) 4 qf, oX0 (a 2) la cn ul rw, cA G (la 1) 12 ex, cA G (la 3) 8 mi, cA G (la 4) 8 si, cA G (la 5) 8 un, cA G (la 6) 8 be, cA G (la 8) 8 ka, oX2 sa sb la1, cA G (sb 1) zn gg] H locs := hw
          replace hl : lv_has ls 8 [(7, .int (iI pp)), (6, .ref ((sb 1))), (5, .int (iI ((barC sz ln kk lv ii cn)))), (4, .ref sa), (0, .ref h), (1, .int (iI kk)), (2, .int (iI lv)), (3, .int (iI ii))] := hl
          replace ih_5 : ∀ (pp' : Int), ((0 ≤ pp' ∧ pp' ≤ cn) ∧ (allX (wcP ce (60 * kk + ii)) pp')) → ((cn - pp').toNat) < ((cn - pp).toNat) → ∀ (H : Heap) (locs : List Loc) (ls : Array Slot), gW D A s.heap [oX5 h a tr 0, oX4 (a 1) ta cn, cQ G (a 0) 4 qf, oX0 (a 2) la cn ul rw, cA G (la 1) 12 ex, cA G (la 3) 8 mi, cA G (la 4) 8 si, cA G (la 5) 8 un, cA G (la 6) 8 be, cA G (la 8) 8 ka, oX2 sa sb la1, cA G (sb 1) zn gg] H locs → lv_has ls 8 [(7, .int (iI (pp'))), (6, .ref ((sb 1))), (5, .int (iI ((barC sz ln kk lv ii cn)))), (4, .ref sa), (0, .ref h), (1, .int (iI kk)), (2, .int (iI lv)), (3, .int (iI ii))] → W p l e _ s m _ below meth c H locs _ _ _ (F0 m 84 ls []) := fun pp' => ih_5 pp'
          have hc9 := hce (ii + pp) (by omega)
          have he9 : ce (60 * kk + ii + pp) = ce (60 * kk + (ii + pp)) := by rw [show 60 * kk + ii + pp = 60 * kk + (ii + pp) by omega]
          refine g_iload C hl 0 rfl dX5_wish_84 ?_
          refine g_aload_n C hl 4 rfl rfl dX5_wish_86 ?_
          refine g_get C hw hin_X5_wish_X5 0 rfl rfl 1 (by decide) lk_X5_wish_20 rfl dX5_wish_87 ?_
          refine g_get C hw hin_X5_wish_X4 1 rfl rfl 0 (by decide) lk_X5_wish_92 rfl dX5_wish_90 ?_
          refine g_icmp_ge C 126 dX5_wish_93 (by decide) (by omega) (by omega) (fun c_6 => ?_) (fun c_6 => ?_)
          · skip
            refine g_iconst C dX5_wish_126 ?_
            refine g_istore C [(7, .int (iI 0)), (6, .ref ((sb 1))), (5, .int (iI ((barC sz ln kk lv ii cn)))), (4, .ref sa), (0, .ref h), (1, .int (iI kk)), (2, .int (iI lv)), (3, .int (iI ii))] dX5_wish_127 hl (by decide) rfl ?_
            clear hl
            intro ls hl
            refine g_loop (σ := (Int)) (fun z_ => [oX5 h a tr 0, oX4 (a 1) ta cn, cQ G (a 0) 4 qf, oX0 (a 2) la cn ul rw, cA G (la 1) 12 ex, cA G (la 3) 8 mi, cA G (la 4) 8 si, cA G (la 5) 8 un, cA G (la 6) 8 be, cA G (la 8) 8 ka, oX2 sa sb la1, cA G (sb 1) zn gg]) (fun z_ => [(7, .int (iI z_)), (6, .ref ((sb 1))), (5, .int (iI ((barC sz ln kk lv ii cn)))), (4, .ref sa), (0, .ref h), (1, .int (iI kk)), (2, .int (iI lv)), (3, .int (iI ii))]) (fun z_ => (0 ≤ z_ ∧ z_ ≤ 2 * ul + 1) ∧ (lsF (mtB E (ALn E cn.toNat) cn ce (60 * kk + ii)) 0 (2 * (ALn E cn.toNat).length + 1) = lsF (mtB E (ALn E cn.toNat) cn ce (60 * kk + ii)) z_ (2 * ul + 1 - z_).toNat)) (fun z_ => (2 * ul + 1 - z_).toNat) 0 ⟨by (try dsimp only); omega, by (try dsimp only); rw [show (2 * ul + 1 - 0).toNat = 2 * (ALn E cn.toNat).length + 1 by omega]⟩ hw (lv_sub hl [0, 1, 2, 3, 4, 5, 6, 7] rfl) ?_
            clear hw hl
            rintro xx ⟨hxx, hfi⟩ H locs ls hw hl ih_7
            replace hxx : 0 ≤ xx ∧ xx ≤ 2 * ul + 1 := hxx
            replace hfi : lsF (mtB E (ALn E cn.toNat) cn ce (60 * kk + ii)) 0 (2 * (ALn E cn.toNat).length + 1) = lsF (mtB E (ALn E cn.toNat) cn ce (60 * kk + ii)) xx (2 * ul + 1 - xx).toNat := hfi
            replace hw : gW D A s.heap [oX5 h a tr 0, oX4 (a 1) ta cn, cQ G (a 0) 4 qf, oX0 (a 2) la cn ul rw, cA G (la 1) 12 ex, cA G (la 3) 8 mi, cA G (la 4) 8 si, cA G (la 5) 8 un, cA G (la 6) 8 be, cA G (la 8) 8 ka, oX2 sa sb la1, cA G (sb 1) zn gg] H locs := hw
            replace hl : lv_has ls 8 [(7, .int (iI xx)), (6, .ref ((sb 1))), (5, .int (iI ((barC sz ln kk lv ii cn)))), (4, .ref sa), (0, .ref h), (1, .int (iI kk)), (2, .int (iI lv)), (3, .int (iI ii))] := hl
            replace ih_7 : ∀ (xx' : Int), ((0 ≤ xx' ∧ xx' ≤ 2 * ul + 1) ∧ (lsF (mtB E (ALn E cn.toNat) cn ce (60 * kk + ii)) 0 (2 * (ALn E cn.toNat).length + 1) = lsF (mtB E (ALn E cn.toNat) cn ce (60 * kk + ii)) xx' (2 * ul + 1 - xx').toNat)) → ((2 * ul + 1 - xx').toNat) < ((2 * ul + 1 - xx).toNat) → ∀ (H : Heap) (locs : List Loc) (ls : Array Slot), gW D A s.heap [oX5 h a tr 0, oX4 (a 1) ta cn, cQ G (a 0) 4 qf, oX0 (a 2) la cn ul rw, cA G (la 1) 12 ex, cA G (la 3) 8 mi, cA G (la 4) 8 si, cA G (la 5) 8 un, cA G (la 6) 8 be, cA G (la 8) 8 ka, oX2 sa sb la1, cA G (sb 1) zn gg] H locs → lv_has ls 8 [(7, .int (iI (xx'))), (6, .ref ((sb 1))), (5, .int (iI ((barC sz ln kk lv ii cn)))), (4, .ref sa), (0, .ref h), (1, .int (iI kk)), (2, .int (iI lv)), (3, .int (iI ii))] → W p l e _ s m _ below meth c H locs _ _ _ (F0 m 129 ls []) := fun xx' => ih_7 xx'
            refine g_iload C hl 0 rfl dX5_wish_129 ?_
            refine g_aload_n C hl 4 rfl rfl dX5_wish_131 ?_
            refine g_get C hw hin_X5_wish_X5 0 rfl rfl 2 (by decide) lk_X5_wish_27 rfl dX5_wish_132 ?_
            refine g_callVi C hw (wr := [oX5 h a tr 0, oX4 (a 1) ta cn, cQ G (a 0) 4 qf, cA G (la 1) 12 ex, cA G (la 3) 8 mi, cA G (la 4) 8 si, cA G (la 5) 8 un, cA G (la 6) 8 be, cA G (la 8) 8 ka, oX2 sa sb la1, cA G (sb 1) zn gg]) (As := []) (rest := [.int (iI xx)]) (m_X0_spots l D G (h := (a 2)) (a := la) (cn := cn) (ul := ul) (rw := rw) ) (cwV 0 C.1.2.2.2.2 gX5_wish_X0_spots rfl rfl rfl (by decide +kernel) ⟨Nat.le_of_ble_eq_true rfl, Nat.le_of_ble_eq_true rfl⟩) [3] [0, 1, 2, 4, 5, 6, 7, 8, 9, 10, 11] rfl rfl (by decide) (by decide) (by decide) 0 rfl rfl rfl hl.1 _ rfl (Nat.le_of_ble_eq_true rfl) dX5_wish_135 ⟨Nat.le_of_ble_eq_true rfl, Nat.le_of_ble_eq_true rfl⟩ ?_
            clear hw
            rintro _ _ H locs ⟨rfl, rfl⟩ hw
            have hw : gW D A s.heap [oX5 h a tr 0, oX4 (a 1) ta cn, cQ G (a 0) 4 qf, cA G (la 1) 12 ex, cA G (la 3) 8 mi, cA G (la 4) 8 si, cA G (la 5) 8 un, cA G (la 6) 8 be, cA G (la 8) 8 ka, oX2 sa sb la1, cA G (sb 1) zn gg, oX0 (a 2) la cn ul rw] H locs := hw
            refine g_icmp_ge C 162 dX5_wish_138 (by decide) (by omega) (by omega) (fun c_8 => ?_) (fun c_8 => ?_)
            · skip
              have w9 : W_st cn kk lv = 0 := by unfold W_st; (repeat' split) <;> omega
              obtain ⟨wr9, wf9⟩ := R_wsh_4 (n := cn) (E := E) (L := (ALn E cn.toNat)) (sz := sz) (ln := ln) (ce := ce) (k := kk) (lane := lv) (i := ii) w9 b1 (by rw [show cn = pp by omega]; exact hwc)
              refine g_bipush C dX5_wish_162 (by decide) ?_
              exact g_iret C hr (ws' := [oX5 h a tr 0, oX4 (a 1) ta cn, cQ G (a 0) 4 qf, oX2 sa sb la1, cA G (sb 1) zn gg, oX0 (a 2) la cn ul rw, cA G (la 1) 12 ex, cA G (la 3) 8 mi, cA G (la 4) 8 si, cA G (la 5) 8 un, cA G (la 6) 8 be, cA G (la 8) 8 ka]) hw [0, 1, 2, 9, 10, 11, 3, 4, 5, 6, 7, 8] (by decide) rfl ⟨(congrArg iI (by rw [wr9, hfi, show (2 * ul + 1 - xx).toNat = 0 by omega]; rfl)), (by rw [wf9])⟩ dX5_wish_164
            · skip
              refine g_aload_n C hl 4 rfl rfl dX5_wish_141 ?_
              refine g_iload C hl 0 rfl dX5_wish_142 ?_
              refine g_aload C hl 1 rfl dX5_wish_144 ?_
              refine g_iload_n C hl 7 rfl rfl dX5_wish_146 ?_
              refine g_callVi C hw (wr := [cQ G (a 0) 4 qf, oX2 sa sb la1]) (As := [.int (iI xx), .ref ((sb 1)), .int (iI ii)]) (rest := []) (m_X5_meetsWish l D G (h := h) (a := a) (tr := tr) (lf := 0) (ta := ta) (cn := cn) (la := la) (ul := ul) (rw := rw) (ex := ex) (mi := mi) (si := si) (un := un) (be := be) (ka := ka) (E := E) (ca := (sb 1)) (zn := zn) (gg := gg) (ce := ce) (fb := (60 * kk + ii)) (kk := xx) (fr := ii) (by first | assumption | omega) (by first | assumption | omega) (by first | assumption | omega) (by first | assumption | omega) (by first | assumption | omega) (by first | assumption | omega) (by first | assumption | omega) (by first | assumption | omega) (by first | assumption | omega) (by intro j h1 h2; rw [show 60 * kk + ii + j = 60 * kk + (ii + j) by omega]; exact hce (ii + j) (by omega) (by omega))) (cwV 3 C.1.2.2.2.2 gX5_wish_X5_meetsWish rfl rfl rfl (by decide +kernel) ⟨Nat.le_of_ble_eq_true rfl, Nat.le_of_ble_eq_true rfl⟩) [0, 1, 11, 3, 4, 5, 6, 7, 8, 10] [2, 9] rfl rfl (by decide) (by decide) (by decide) 0 rfl rfl rfl hl.1 _ rfl (Nat.le_of_ble_eq_true rfl) dX5_wish_147 ⟨Nat.le_of_ble_eq_true rfl, Nat.le_of_ble_eq_true rfl⟩ ?_
              clear hw
              rintro _ _ H locs ⟨rfl, rfl⟩ hw
              have hw : gW D A s.heap [cQ G (a 0) 4 qf, oX2 sa sb la1, oX5 h a tr 0, oX4 (a 1) ta cn, oX0 (a 2) la cn ul rw, cA G (la 1) 12 ex, cA G (la 3) 8 mi, cA G (la 4) 8 si, cA G (la 5) 8 un, cA G (la 6) 8 be, cA G (la 8) 8 ka, cA G (sb 1) zn gg] H locs := hw
              refine g_ifb_eq C 156 dX5_wish_150 (by decide) (fun c_9 => ?_) (fun c_9 => ?_)
              · skip
                refine g_iinc C [(7, .int (iI (xx + 1))), (6, .ref ((sb 1))), (5, .int (iI ((barC sz ln kk lv ii cn)))), (4, .ref sa), (0, .ref h), (1, .int (iI kk)), (2, .int (iI lv)), (3, .int (iI ii))] 0 dX5_wish_156 hl rfl (by decide) rfl ?_
                clear hl
                intro ls hl
                refine g_goto C 129 dX5_wish_159 (by decide) ?_
                have hw : gW D A s.heap [oX5 h a tr 0, oX4 (a 1) ta cn, cQ G (a 0) 4 qf, oX0 (a 2) la cn ul rw, cA G (la 1) 12 ex, cA G (la 3) 8 mi, cA G (la 4) 8 si, cA G (la 5) 8 un, cA G (la 6) 8 be, cA G (la 8) 8 ka, oX2 sa sb la1, cA G (sb 1) zn gg] H locs := g_perm hw [2, 3, 0, 4, 5, 6, 7, 8, 9, 10, 1, 11] (by decide) rfl
                exact ih_7 (xx + 1) ⟨by omega, by rw [hfi, show 2 * ul + 1 - xx = (2 * ul + 1 - (xx + 1)) + 1 by omega, lsF_s (by omega), if_neg (by assumption)]⟩ (by omega) H locs ls hw (lv_sub hl [0, 1, 2, 3, 4, 5, 6, 7] rfl)
              · skip
                have w9 : W_st cn kk lv = 0 := by unfold W_st; (repeat' split) <;> omega
                obtain ⟨wr9, wf9⟩ := R_wsh_4 (n := cn) (E := E) (L := (ALn E cn.toNat)) (sz := sz) (ln := ln) (ce := ce) (k := kk) (lane := lv) (i := ii) w9 b1 (by rw [show cn = pp by omega]; exact hwc)
                refine g_iload C hl 0 rfl dX5_wish_153 ?_
                exact g_iret C hr (ws' := [oX5 h a tr 0, oX4 (a 1) ta cn, cQ G (a 0) 4 qf, oX2 sa sb la1, cA G (sb 1) zn gg, oX0 (a 2) la cn ul rw, cA G (la 1) 12 ex, cA G (la 3) 8 mi, cA G (la 4) 8 si, cA G (la 5) 8 un, cA G (la 6) 8 be, cA G (la 8) 8 ka]) hw [2, 3, 0, 1, 11, 4, 5, 6, 7, 8, 9, 10] (by decide) rfl ⟨(congrArg iI (by rw [wr9, hfi, show 2 * ul + 1 - xx = (2 * ul + 1 - (xx + 1)) + 1 by omega, lsF_s (by omega), if_pos (by assumption)])), (by rw [wf9])⟩ dX5_wish_155
          · skip
            refine g_aload C hl 1 rfl dX5_wish_96 ?_
            refine g_iload_n C hl 7 rfl rfl dX5_wish_98 ?_
            refine g_iload C hl 0 rfl dX5_wish_99 ?_
            refine g_iadd C dX5_wish_101 ?_
            refine g_iald C hw 11 rfl (by omega) (by omega) dX5_wish_102 ?_
            refine g_nI (show (gg (ii + pp) : Int) = ce (60 * kk + ii + pp) by rw [show 60 * kk + ii + pp = 60 * kk + (ii + pp) by omega]; exact (hce (ii + pp) (by omega) (by omega)).1) ?_
            refine g_if_lt C 117 dX5_wish_103 (by decide) (by omega) (fun c_10 => ?_) (fun c_10 => ?_)
            · skip
              have w9 : W_st cn kk lv = 0 := by unfold W_st; (repeat' split) <;> omega
              obtain ⟨wr9, wf9⟩ := R_wsh_3 (n := cn) (E := E) (L := (ALn E cn.toNat)) (sz := sz) (ln := ln) (ce := ce) (k := kk) (lane := lv) (i := ii) w9 b1 (fun q => absurd (q pp (by omega) (by omega)) (by rw [wcP_f (by omega)]; exact Bool.false_ne_true))
              refine g_bipush C dX5_wish_117 (by decide) ?_
              exact g_iret C hr (ws' := [oX5 h a tr 0, oX4 (a 1) ta cn, cQ G (a 0) 4 qf, oX2 sa sb la1, cA G (sb 1) zn gg, oX0 (a 2) la cn ul rw, cA G (la 1) 12 ex, cA G (la 3) 8 mi, cA G (la 4) 8 si, cA G (la 5) 8 un, cA G (la 6) 8 be, cA G (la 8) 8 ka]) hw [0, 1, 2, 10, 11, 3, 4, 5, 6, 7, 8, 9] (by decide) rfl ⟨(congrArg iI (by rw [wr9]; try omega)), (by rw [wf9])⟩ dX5_wish_119
            · skip
              refine g_aload C hl 1 rfl dX5_wish_106 ?_
              refine g_iload_n C hl 7 rfl rfl dX5_wish_108 ?_
              refine g_iload C hl 0 rfl dX5_wish_109 ?_
              refine g_iadd C dX5_wish_111 ?_
              refine g_iald C hw 11 rfl (by omega) (by omega) dX5_wish_112 ?_
              refine g_nI (show (gg (ii + pp) : Int) = ce (60 * kk + ii + pp) by rw [show 60 * kk + ii + pp = 60 * kk + (ii + pp) by omega]; exact (hce (ii + pp) (by omega) (by omega)).1) ?_
              refine g_iconst C dX5_wish_113 ?_
              refine g_icmp_le C 120 dX5_wish_114 (by decide) (by omega) (by omega) (fun c_11 => ?_) (fun c_11 => ?_)
              · skip
                refine g_iinc C [(7, .int (iI (pp + 1))), (6, .ref ((sb 1))), (5, .int (iI ((barC sz ln kk lv ii cn)))), (4, .ref sa), (0, .ref h), (1, .int (iI kk)), (2, .int (iI lv)), (3, .int (iI ii))] 0 dX5_wish_120 hl rfl (by decide) rfl ?_
                clear hl
                intro ls hl
                refine g_goto C 84 dX5_wish_123 (by decide) ?_
                have hw : gW D A s.heap [oX5 h a tr 0, oX4 (a 1) ta cn, cQ G (a 0) 4 qf, oX0 (a 2) la cn ul rw, cA G (la 1) 12 ex, cA G (la 3) 8 mi, cA G (la 4) 8 si, cA G (la 5) 8 un, cA G (la 6) 8 be, cA G (la 8) 8 ka, oX2 sa sb la1, cA G (sb 1) zn gg] H locs := g_perm hw [0, 1, 2, 3, 4, 5, 6, 7, 8, 9, 10, 11] (by decide) rfl
                exact ih_5 (pp + 1) ⟨by omega, by exact allX_s hwc (wcP_t (by omega))⟩ (by omega) H locs ls hw (lv_sub hl [0, 1, 2, 3, 4, 5, 6, 7] rfl)
              · skip
                have w9 : W_st cn kk lv = 0 := by unfold W_st; (repeat' split) <;> omega
                obtain ⟨wr9, wf9⟩ := R_wsh_3 (n := cn) (E := E) (L := (ALn E cn.toNat)) (sz := sz) (ln := ln) (ce := ce) (k := kk) (lane := lv) (i := ii) w9 b1 (fun q => absurd (q pp (by omega) (by omega)) (by rw [wcP_f (by omega)]; exact Bool.false_ne_true))
                refine g_bipush C dX5_wish_117 (by decide) ?_
                exact g_iret C hr (ws' := [oX5 h a tr 0, oX4 (a 1) ta cn, cQ G (a 0) 4 qf, oX2 sa sb la1, cA G (sb 1) zn gg, oX0 (a 2) la cn ul rw, cA G (la 1) 12 ex, cA G (la 3) 8 mi, cA G (la 4) 8 si, cA G (la 5) 8 un, cA G (la 6) 8 be, cA G (la 8) 8 ka]) hw [0, 1, 2, 10, 11, 3, 4, 5, 6, 7, 8, 9] (by decide) rfl ⟨(congrArg iI (by rw [wr9]; try omega)), (by rw [wf9])⟩ dX5_wish_119
        · skip
          have w9 : W_st cn kk lv = 0 := by unfold W_st; (repeat' split) <;> omega
          obtain ⟨wr9, wf9⟩ := R_wsh_2 (n := cn) (E := E) (L := (ALn E cn.toNat)) (sz := sz) (ln := ln) (ce := ce) (k := kk) (lane := lv) (i := ii) w9 (by omega)
          refine g_aload_n C hl 2 rfl rfl dX5_wish_67 ?_
          refine g_iload C hl 0 rfl dX5_wish_68 ?_
          refine g_callVi C hw (wr := [oX4 (a 1) ta cn, cQ G (a 0) 4 qf, oX0 (a 2) la cn ul rw, cA G (la 1) 12 ex, cA G (la 3) 8 mi, cA G (la 4) 8 si, cA G (la 5) 8 un, cA G (la 6) 8 be, cA G (la 8) 8 ka, oX2 sa sb la1, cA G (sb 1) zn gg]) (As := [.int (iI ((barC sz ln kk lv ii cn)))]) (rest := []) (m_X5_failed l D G (h := h) (a := a) (tr := tr) (lf := 0) (fv := (barC sz ln kk lv ii cn)) ) (cwV 1 C.1.2.2.2.2 gX5_wish_X5_failed rfl rfl rfl (by decide +kernel) ⟨Nat.le_of_ble_eq_true rfl, Nat.le_of_ble_eq_true rfl⟩) [0] [1, 2, 3, 4, 5, 6, 7, 8, 9, 10, 11] rfl rfl (by decide) (by decide) (by decide) 0 rfl rfl rfl hl.1 _ rfl (Nat.le_of_ble_eq_true rfl) dX5_wish_70 ⟨Nat.le_of_ble_eq_true rfl, Nat.le_of_ble_eq_true rfl⟩ ?_
          clear hw
          rintro _ _ H locs ⟨rfl, rfl⟩ hw
          have hw : gW D A s.heap [oX4 (a 1) ta cn, cQ G (a 0) 4 qf, oX0 (a 2) la cn ul rw, cA G (la 1) 12 ex, cA G (la 3) 8 mi, cA G (la 4) 8 si, cA G (la 5) 8 un, cA G (la 6) 8 be, cA G (la 8) 8 ka, oX2 sa sb la1, cA G (sb 1) zn gg, oX5 h a tr (barC sz ln kk lv ii cn)] H locs := hw
          exact g_iret C hr (ws' := [oX5 h a tr (barC sz ln kk lv ii cn), oX4 (a 1) ta cn, cQ G (a 0) 4 qf, oX2 sa sb la1, cA G (sb 1) zn gg, oX0 (a 2) la cn ul rw, cA G (la 1) 12 ex, cA G (la 3) 8 mi, cA G (la 4) 8 si, cA G (la 5) 8 un, cA G (la 6) 8 be, cA G (la 8) 8 ka]) hw [11, 0, 1, 9, 10, 2, 3, 4, 5, 6, 7, 8] (by decide) rfl ⟨(congrArg iI (by rw [wr9]; try omega)), (by rw [wf9])⟩ dX5_wish_73
      · skip
        have w9 : W_st cn kk lv = -2 := by unfold W_st; (repeat' split) <;> omega
        obtain ⟨wr9, wf9⟩ := R_wsh_1 (n := cn) (E := E) (L := (ALn E cn.toNat)) (sz := sz) (ln := ln) (ce := ce) (k := kk) (lane := lv) (i := ii) (by rw [w9]; decide)
        rw [w9] at wr9
        refine g_bipush C dX5_wish_35 (by decide) ?_
        exact g_iret C hr (ws' := [oX5 h a tr 0, oX4 (a 1) ta cn, cQ G (a 0) 4 qf, oX2 sa sb la1, cA G (sb 1) zn gg, oX0 (a 2) la cn ul rw, cA G (la 1) 12 ex, cA G (la 3) 8 mi, cA G (la 4) 8 si, cA G (la 5) 8 un, cA G (la 6) 8 be, cA G (la 8) 8 ka]) hw [0, 1, 2, 3, 4, 5, 6, 7, 8, 9, 10, 11] (by decide) rfl ⟨(congrArg iI (by rw [wr9]; try omega)), (by rw [wf9])⟩ dX5_wish_37
    · skip
      have w9 : W_st cn kk lv = -1 := by unfold W_st; (repeat' split) <;> omega
      obtain ⟨wr9, wf9⟩ := R_wsh_1 (n := cn) (E := E) (L := (ALn E cn.toNat)) (sz := sz) (ln := ln) (ce := ce) (k := kk) (lane := lv) (i := ii) (by rw [w9]; decide)
      rw [w9] at wr9
      refine g_iconst C dX5_wish_25 ?_
      exact g_iret C hr (ws' := [oX5 h a tr 0, oX4 (a 1) ta cn, cQ G (a 0) 4 qf, oX2 sa sb la1, cA G (sb 1) zn gg, oX0 (a 2) la cn ul rw, cA G (la 1) 12 ex, cA G (la 3) 8 mi, cA G (la 4) 8 si, cA G (la 5) 8 un, cA G (la 6) 8 be, cA G (la 8) 8 ka]) hw [0, 1, 2, 3, 4, 5, 6, 7, 8, 9, 10, 11] (by decide) rfl ⟨(congrArg iI (by rw [wr9]; try omega)), (by rw [wf9])⟩ dX5_wish_26
  · skip
    have w9 : W_st cn kk lv = -3 := by unfold W_st; (repeat' split) <;> omega
    obtain ⟨wr9, wf9⟩ := R_wsh_1 (n := cn) (E := E) (L := (ALn E cn.toNat)) (sz := sz) (ln := ln) (ce := ce) (k := kk) (lane := lv) (i := ii) (by rw [w9]; decide)
    rw [w9] at wr9
    refine g_bipush C dX5_wish_15 (by decide) ?_
    exact g_iret C hr (ws' := [oX5 h a tr 0, oX4 (a 1) ta cn, cQ G (a 0) 4 qf, oX2 sa sb la1, cA G (sb 1) zn gg, oX0 (a 2) la cn ul rw, cA G (la 1) 12 ex, cA G (la 3) 8 mi, cA G (la 4) 8 si, cA G (la 5) 8 un, cA G (la 6) 8 be, cA G (la 8) 8 ka]) hw [0, 1, 2, 3, 4, 5, 6, 7, 8, 9, 10, 11] (by decide) rfl ⟨(congrArg iI (by rw [wr9]; try omega)), (by rw [wf9])⟩ dX5_wish_17
