set_option maxRecDepth 20000 in
theorem hin_X0_spots_X0 : ∀ w ∈ u_ws RX0 TX0 14, w ∈ wsX0_spots := by
  intro w h
  exact List.mem_cons_of_mem _ (List.mem_append_right _ (h))
set_option maxRecDepth 20000 in
theorem lk_X0_spots_52 : Cond.fieldLink RX0 52 (TX0 7).1 (TX0 7).2.1 (TX0 7).2.2.1 ∈ wsX0_spots := List.mem_cons_of_mem _ (List.mem_append_left _ (List.mem_of_getElem? (i := 0) rfl))
set_option maxRecDepth 100000 in
set_option maxHeartbeats 8000000 in
theorem m_X0_spots (l : Launch) (D : va_G) (G : gT) (h : Nat) (a : Nat → Nat) (cn : Int) (ul : Int) (rw : Int)  : gMi l yX0_spots wsX0_spots ({ frames := 0, cells := 0, slots := 0, locals := 0 }) D G [.ref h] [oX0 h a cn ul rw] 0 0 (fun (r : Int32) (w : va_W) => r = (iI (2 * ul + 1)) ∧ w = [oX0 h a cn ul rw]) := by
  refine g_start_i (cc := cX0_spots) (nL := 1) (own := RX0) (ret := some .int) (by decide +kernel) rfl rfl (Nat.le_of_ble_eq_true rfl) ?_
  intro p e s m below meth c A ls C hr hnm hw hl
  have hl : lv_has ls 1 [(0, .ref h)] := hl
  refine g_iconst C dX0_spots_0 ?_
  refine g_aload_n C hl 0 rfl rfl dX0_spots_1 ?_
  refine g_get C hw hin_X0_spots_X0 0 rfl rfl 7 (by decide) lk_X0_spots_52 rfl dX0_spots_2 ?_
  refine g_imul C dX0_spots_5 ?_
  refine g_iconst C dX0_spots_6 ?_
  refine g_iadd C dX0_spots_7 ?_
  exact g_iret C hr (ws' := [oX0 h a cn ul rw]) hw [0] (by decide) rfl ⟨(congrArg iI (by first | rfl | omega | (simp only [bI]; (repeat' split) <;> omega) | (simp_all [bI]; done) | (simp_all [bI]; omega))), rfl⟩ dX0_spots_8

set_option maxRecDepth 20000 in
theorem hin_X0_signAheadOfAll_X0 : ∀ w ∈ u_ws RX0 TX0 14, w ∈ wsX0_signAheadOfAll := by
  intro w h
  exact List.mem_cons_of_mem _ (List.mem_append_right _ (h))
set_option maxRecDepth 20000 in
theorem lk_X0_signAheadOfAll_9 : Cond.fieldLink RX0 9 (TX0 1).1 (TX0 1).2.1 (TX0 1).2.2.1 ∈ wsX0_signAheadOfAll := List.mem_cons_of_mem _ (List.mem_append_left _ (List.mem_of_getElem? (i := 0) rfl))
set_option maxRecDepth 100000 in
set_option maxHeartbeats 8000000 in
theorem m_X0_signAheadOfAll (l : Launch) (D : va_G) (G : gT) (h : Nat) (a : Nat → Nat) (cn : Int) (ul : Int) (rw : Int) (ex : Int → Int) (E : Int → Int → Int) (qq : Int) (hE : EB E) (hnc : 0 ≤ cn ∧ cn ≤ 4) (hX : LnX E cn ex) (hq : 0 ≤ qq ∧ qq < cn) : gMi l yX0_signAheadOfAll wsX0_signAheadOfAll ({ frames := 1, cells := 0, slots := 0, locals := 20 }) D G [.ref h, .int (iI qq)] [oX0 h a cn ul rw, cA G (a 1) 12 ex] 0 0 (fun (r : Int32) (w : va_W) => r = (iI (sA0 E qq)) ∧ w = [oX0 h a cn ul rw, cA G (a 1) 12 ex]) := by
  refine g_start_i (cc := cX0_signAheadOfAll) (nL := 4) (own := RX0) (ret := some .int) (by decide +kernel) rfl rfl (Nat.le_of_ble_eq_true rfl) ?_
  intro p e s m below meth c A ls C hr hnm hw hl
  have hl : lv_has ls 4 [(0, .ref h), (1, .int (iI qq))] := hl
  obtain ⟨x0, x1, x2⟩ := hX qq hq.1 hq.2
  obtain ⟨e0, e1, e2⟩ := hE qq
  have hs0 := sg_r (E qq 0)
  have hs1 := sg_r (E qq 1)
  have hs2 := sg_r (E qq 2)
  refine g_aload_n C hl 0 rfl rfl dX0_signAheadOfAll_0 ?_
  refine g_get C hw hin_X0_signAheadOfAll_X0 0 rfl rfl 1 (by decide) lk_X0_signAheadOfAll_9 rfl dX0_signAheadOfAll_1 ?_
  refine g_iload_n C hl 1 rfl rfl dX0_signAheadOfAll_4 ?_
  refine g_iconst C dX0_signAheadOfAll_5 ?_
  refine g_imul C dX0_signAheadOfAll_6 ?_
  refine g_iconst C dX0_signAheadOfAll_7 ?_
  refine g_iadd C dX0_signAheadOfAll_8 ?_
  refine g_iald C hw 1 rfl (by omega) (Nat.le_of_ble_eq_true rfl) dX0_signAheadOfAll_9 ?_
  refine g_istore_n C [(2, .int (iI (ex ((qq * 3) + 1)))), (0, .ref h), (1, .int (iI qq))] dX0_signAheadOfAll_10 rfl hl (by decide) rfl ?_
  clear hl
  intro ls hl
  refine g_aload_n C hl 1 rfl rfl dX0_signAheadOfAll_11 ?_
  refine g_get C hw hin_X0_signAheadOfAll_X0 0 rfl rfl 1 (by decide) lk_X0_signAheadOfAll_9 rfl dX0_signAheadOfAll_12 ?_
  refine g_iload_n C hl 2 rfl rfl dX0_signAheadOfAll_15 ?_
  refine g_iconst C dX0_signAheadOfAll_16 ?_
  refine g_imul C dX0_signAheadOfAll_17 ?_
  refine g_iconst C dX0_signAheadOfAll_18 ?_
  refine g_iadd C dX0_signAheadOfAll_19 ?_
  refine g_iald C hw 1 rfl (by omega) (Nat.le_of_ble_eq_true rfl) dX0_signAheadOfAll_20 ?_
  refine g_istore_n C [(3, .int (iI (ex ((qq * 3) + 2)))), (2, .int (iI (ex ((qq * 3) + 1)))), (0, .ref h), (1, .int (iI qq))] dX0_signAheadOfAll_21 rfl hl (by decide) rfl ?_
  clear hl
  intro ls hl
  refine g_iload_n C hl 0 rfl rfl dX0_signAheadOfAll_22 ?_
  refine g_if_eq C 31 dX0_signAheadOfAll_23 (by decide) (by omega) (fun c_1 => ?_) (fun c_1 => ?_)
  · skip
    refine g_iload_n C hl 1 rfl rfl dX0_signAheadOfAll_31 ?_
    refine g_if_eq C 43 dX0_signAheadOfAll_32 (by decide) (by omega) (fun c_2 => ?_) (fun c_2 => ?_)
    · skip
      refine g_aload_n C hl 2 rfl rfl dX0_signAheadOfAll_43 ?_
      refine g_get C hw hin_X0_signAheadOfAll_X0 0 rfl rfl 1 (by decide) lk_X0_signAheadOfAll_9 rfl dX0_signAheadOfAll_44 ?_
      refine g_iload_n C hl 3 rfl rfl dX0_signAheadOfAll_47 ?_
      refine g_iconst C dX0_signAheadOfAll_48 ?_
      refine g_imul C dX0_signAheadOfAll_49 ?_
      refine g_iald C hw 1 rfl (by omega) (Nat.le_of_ble_eq_true rfl) dX0_signAheadOfAll_50 ?_
      refine g_callSi C hw (wr := [oX0 h a cn ul rw, cA G (a 1) 12 ex]) (As := [.int (iI (ex (qq * 3)))]) (rest := []) (m_J6_signum_0f7a4 l D G (va := (ex (qq * 3))) (by first | assumption | omega)) (va_cwS 1 C.1.2.2.2.2 gX0_signAheadOfAll_J6_signum_0f7a4 rfl rfl rfl (by decide +kernel) ⟨Nat.le_of_ble_eq_true rfl, Nat.le_of_ble_eq_true rfl⟩) [] [0, 1] rfl rfl (by decide) (by decide) (by decide) rfl hl.1 _ rfl (Nat.le_of_ble_eq_true rfl) dX0_signAheadOfAll_51 ⟨Nat.le_of_ble_eq_true rfl, Nat.le_of_ble_eq_true rfl⟩ ?_
      clear hw
      rintro _ _ H locs ⟨rfl, rfl⟩ hw
      have hw : gW D A s.heap [oX0 h a cn ul rw, cA G (a 1) 12 ex] H locs := hw
      refine g_nI (show ((sg (ex (qq * 3))) : Int) = sg (E qq 0) by rw [x0]) ?_
      exact g_iret C hr (ws' := [oX0 h a cn ul rw, cA G (a 1) 12 ex]) hw [0, 1] (by decide) rfl ⟨(congrArg iI (by unfold sA0; (repeat' split) <;> omega)), rfl⟩ dX0_signAheadOfAll_54
    · skip
      refine g_iload_n C hl 1 rfl rfl dX0_signAheadOfAll_35 ?_
      refine g_callSi C hw (wr := [oX0 h a cn ul rw, cA G (a 1) 12 ex]) (As := [.int (iI (ex ((qq * 3) + 1)))]) (rest := []) (m_J6_signum_0f7a4 l D G (va := (ex ((qq * 3) + 1))) (by first | assumption | omega)) (va_cwS 1 C.1.2.2.2.2 gX0_signAheadOfAll_J6_signum_0f7a4 rfl rfl rfl (by decide +kernel) ⟨Nat.le_of_ble_eq_true rfl, Nat.le_of_ble_eq_true rfl⟩) [] [0, 1] rfl rfl (by decide) (by decide) (by decide) rfl hl.1 _ rfl (Nat.le_of_ble_eq_true rfl) dX0_signAheadOfAll_36 ⟨Nat.le_of_ble_eq_true rfl, Nat.le_of_ble_eq_true rfl⟩ ?_
      clear hw
      rintro _ _ H locs ⟨rfl, rfl⟩ hw
      have hw : gW D A s.heap [oX0 h a cn ul rw, cA G (a 1) 12 ex] H locs := hw
      refine g_nI (show ((sg (ex ((qq * 3) + 1))) : Int) = sg (E qq 1) by rw [x1]) ?_
      refine g_ineg C dX0_signAheadOfAll_39 ?_
      refine g_goto C 54 dX0_signAheadOfAll_40 (by decide) ?_
      exact g_iret C hr (ws' := [oX0 h a cn ul rw, cA G (a 1) 12 ex]) hw [0, 1] (by decide) rfl ⟨(congrArg iI (by unfold sA0; (repeat' split) <;> omega)), rfl⟩ dX0_signAheadOfAll_54
  · skip
    refine g_iload_n C hl 0 rfl rfl dX0_signAheadOfAll_26 ?_
    refine g_callSi C hw (wr := [oX0 h a cn ul rw, cA G (a 1) 12 ex]) (As := [.int (iI (ex ((qq * 3) + 2)))]) (rest := []) (m_J6_signum_0f7a4 l D G (va := (ex ((qq * 3) + 2))) (by first | assumption | omega)) (va_cwS 1 C.1.2.2.2.2 gX0_signAheadOfAll_J6_signum_0f7a4 rfl rfl rfl (by decide +kernel) ⟨Nat.le_of_ble_eq_true rfl, Nat.le_of_ble_eq_true rfl⟩) [] [0, 1] rfl rfl (by decide) (by decide) (by decide) rfl hl.1 _ rfl (Nat.le_of_ble_eq_true rfl) dX0_signAheadOfAll_27 ⟨Nat.le_of_ble_eq_true rfl, Nat.le_of_ble_eq_true rfl⟩ ?_
    clear hw
    rintro _ _ H locs ⟨rfl, rfl⟩ hw
    have hw : gW D A s.heap [oX0 h a cn ul rw, cA G (a 1) 12 ex] H locs := hw
    refine g_nI (show ((sg (ex ((qq * 3) + 2))) : Int) = sg (E qq 2) by rw [x2]) ?_
    exact g_iret C hr (ws' := [oX0 h a cn ul rw, cA G (a 1) 12 ex]) hw [0, 1] (by decide) rfl ⟨(congrArg iI (by unfold sA0; (repeat' split) <;> omega)), rfl⟩ dX0_signAheadOfAll_30

set_option maxRecDepth 100000 in
set_option maxHeartbeats 8000000 in
theorem m_X0_nameOf (l : Launch) (D : va_G) (G : gT) (h : Nat) (a : Nat → Nat) (cn : Int) (ul : Int) (rw : Int) (ex : Int → Int) (mi : Int → Int) (si : Int → Int) (un : Int → Int) (be : Int → Int) (E : Int → Int → Int) (pp : Int) (ii : Int) (hE : EB E) (hnc : 0 ≤ cn ∧ cn ≤ 4) (hX : LnX E cn ex) (hZ : LnZ E cn mi si un be) (hp : 0 ≤ pp ∧ pp < cn) (hii : 0 ≤ ii ∧ ii < nR E pp) : gMi l yX0_nameOf wsX0_nameOf ({ frames := 3, cells := 0, slots := 0, locals := 92 }) D G [.ref h, .int (iI pp), .int (iI ii)] [oX0 h a cn ul rw, cA G (a 1) 12 ex, cA G (a 3) 8 mi, cA G (a 4) 8 si, cA G (a 5) 8 un, cA G (a 6) 8 be] 0 0 (fun (r : Int32) (w : va_W) => r = (iI (nmF E pp ii)) ∧ w = [oX0 h a cn ul rw, cA G (a 1) 12 ex, cA G (a 3) 8 mi, cA G (a 4) 8 si, cA G (a 5) 8 un, cA G (a 6) 8 be]) := by
  refine g_start_i (cc := cX0_nameOf) (nL := 4) (own := RX0) (ret := some .int) (by decide +kernel) rfl rfl (Nat.le_of_ble_eq_true rfl) ?_
  intro p e s m below meth c A ls C hr hnm hw hl
  have hl : lv_has ls 4 [(0, .ref h), (1, .int (iI pp)), (2, .int (iI ii))] := hl
  have hnr := nR_r E pp
  obtain ⟨x0, x1, x2⟩ := hX pp hp.1 hp.2
  obtain ⟨e0, e1, e2⟩ := hE pp
  obtain ⟨q1, q2⟩ := q_of pp ii (by omega)
  obtain ⟨z0, z1, z2, z3⟩ := hZ (2 * pp + ii) ⟨by omega, by rw [q1]; omega, by rw [q1, q2]; omega⟩
  obtain ⟨g0, g1, g2, g3⟩ := qP_of (E := E) (pp := pp) (ii := ii) (by omega)
  have hrt0 := rt_ok hE hii
  have hrt : rtOK (mi (2 * pp + ii)) (si (2 * pp + ii)) (un (2 * pp + ii)) (be (2 * pp + ii)) := by rw [z0, z1, z2, z3, g0, g1, g2, g3]; exact hrt0
  refine g_iload_n C hl 1 rfl rfl dX0_nameOf_0 ?_
  refine g_iconst C dX0_nameOf_1 ?_
  refine g_imul C dX0_nameOf_2 ?_
  refine g_iload_n C hl 2 rfl rfl dX0_nameOf_3 ?_
  refine g_iadd C dX0_nameOf_4 ?_
  refine g_nI (show ((pp * 2) + ii : Int) = 2 * pp + ii by omega) ?_
  refine g_istore_n C [(3, .int (iI (2 * pp + ii))), (0, .ref h), (1, .int (iI pp)), (2, .int (iI ii))] dX0_nameOf_5 rfl hl (by decide) rfl ?_
  clear hl
  intro ls hl
  refine g_aload_n C hl 1 rfl rfl dX0_nameOf_6 ?_
  refine g_iload_n C hl 2 rfl rfl dX0_nameOf_7 ?_
  refine g_iconst C dX0_nameOf_8 ?_
  refine g_iload_n C hl 0 rfl rfl dX0_nameOf_9 ?_
  refine g_callVi C hw (wr := []) (As := [.int (iI pp), .int (iI 1), .int (iI (2 * pp + ii))]) (rest := []) (m_X0_signAtRoot l D G (h := h) (a := a) (cn := cn) (ul := ul) (rw := rw) (ex := ex) (mi := mi) (si := si) (un := un) (be := be) (qq := pp) (od := 1) (tt := (2 * pp + ii)) (by first | assumption | omega) (by first | assumption | omega) (by first | assumption | omega) (by first | assumption | omega) (by first | assumption | omega) (by first | assumption | omega) (by exact Or.inr hrt)) (cwV 3 C.1.2.2.2.2 gX0_nameOf_X0_signAtRoot rfl rfl rfl (by decide +kernel) ⟨Nat.le_of_ble_eq_true rfl, Nat.le_of_ble_eq_true rfl⟩) [0, 1, 2, 3, 4, 5] [] rfl rfl (by decide) (by decide) (by decide) 0 rfl rfl rfl hl.1 _ rfl (Nat.le_of_ble_eq_true rfl) dX0_nameOf_10 ⟨Nat.le_of_ble_eq_true rfl, Nat.le_of_ble_eq_true rfl⟩ ?_
  clear hw
  rintro _ _ H locs ⟨rfl, rfl⟩ hw
  have hw : gW D A s.heap [oX0 h a cn ul rw, cA G (a 1) 12 ex, cA G (a 3) 8 mi, cA G (a 4) 8 si, cA G (a 5) 8 un, cA G (a 6) 8 be] H locs := hw
  refine g_nI (show ((if 1 = 2 then sg (ex (pp * 3 + 2)) else if 1 = 0 then sAt (ex (pp * 3)) (ex (pp * 3 + 1)) (ex (pp * 3 + 2)) (mi (2 * pp + ii)) (si (2 * pp + ii)) (un (2 * pp + ii)) (be (2 * pp + ii)) else sAt (ex (pp * 3 + 1)) (2 * ex (pp * 3 + 2)) 0 (mi (2 * pp + ii)) (si (2 * pp + ii)) (un (2 * pp + ii)) (be (2 * pp + ii))) : Int) = sAt (E pp 1) (2 * E pp 2) 0 (zP E pp) (zS E pp ii) (zD E pp) (zQ E pp) by rw [if_neg (by decide), if_neg (by decide), x1, x2, z0, z1, z2, z3, g0, g1, g2, g3]) ?_
  refine g_iconst C dX0_nameOf_13 ?_
  refine g_iadd C dX0_nameOf_14 ?_
  refine g_iconst C dX0_nameOf_15 ?_
  refine g_imul C dX0_nameOf_16 ?_
  refine g_aload_n C hl 1 rfl rfl dX0_nameOf_17 ?_
  refine g_iload_n C hl 2 rfl rfl dX0_nameOf_18 ?_
  refine g_iconst C dX0_nameOf_19 ?_
  refine g_iload_n C hl 0 rfl rfl dX0_nameOf_20 ?_
  refine g_callVi C hw (wr := []) (As := [.int (iI pp), .int (iI 2), .int (iI (2 * pp + ii))]) (rest := [.int (iI (((sAt (E pp 1) (2 * E pp 2) 0 (zP E pp) (zS E pp ii) (zD E pp) (zQ E pp)) + 1) * 3))]) (m_X0_signAtRoot l D G (h := h) (a := a) (cn := cn) (ul := ul) (rw := rw) (ex := ex) (mi := mi) (si := si) (un := un) (be := be) (qq := pp) (od := 2) (tt := (2 * pp + ii)) (by first | assumption | omega) (by first | assumption | omega) (by first | assumption | omega) (by first | assumption | omega) (by first | assumption | omega) (by first | assumption | omega) (by exact Or.inr hrt)) (cwV 3 C.1.2.2.2.2 gX0_nameOf_X0_signAtRoot rfl rfl rfl (by decide +kernel) ⟨Nat.le_of_ble_eq_true rfl, Nat.le_of_ble_eq_true rfl⟩) [0, 1, 2, 3, 4, 5] [] rfl rfl (by decide) (by decide) (by decide) 0 rfl rfl rfl hl.1 _ rfl (Nat.le_of_ble_eq_true rfl) dX0_nameOf_21 ⟨Nat.le_of_ble_eq_true rfl, Nat.le_of_ble_eq_true rfl⟩ ?_
  clear hw
  rintro _ _ H locs ⟨rfl, rfl⟩ hw
  have hw : gW D A s.heap [oX0 h a cn ul rw, cA G (a 1) 12 ex, cA G (a 3) 8 mi, cA G (a 4) 8 si, cA G (a 5) 8 un, cA G (a 6) 8 be] H locs := hw
  refine g_nI (show ((if 2 = 2 then sg (ex (pp * 3 + 2)) else if 2 = 0 then sAt (ex (pp * 3)) (ex (pp * 3 + 1)) (ex (pp * 3 + 2)) (mi (2 * pp + ii)) (si (2 * pp + ii)) (un (2 * pp + ii)) (be (2 * pp + ii)) else sAt (ex (pp * 3 + 1)) (2 * ex (pp * 3 + 2)) 0 (mi (2 * pp + ii)) (si (2 * pp + ii)) (un (2 * pp + ii)) (be (2 * pp + ii))) : Int) = sg (E pp 2) by rw [if_pos rfl, x2]) ?_
  refine g_iadd C dX0_nameOf_24 ?_
  refine g_iconst C dX0_nameOf_25 ?_
  refine g_iadd C dX0_nameOf_26 ?_
  exact g_iret C hr (ws' := [oX0 h a cn ul rw, cA G (a 1) 12 ex, cA G (a 3) 8 mi, cA G (a 4) 8 si, cA G (a 5) 8 un, cA G (a 6) 8 be]) hw [0, 1, 2, 3, 4, 5] (by decide) rfl ⟨(congrArg iI (by unfold nmF; omega)), rfl⟩ dX0_nameOf_27

set_option maxRecDepth 20000 in
theorem hin_X0_numberOf_X0 : ∀ w ∈ u_ws RX0 TX0 14, w ∈ wsX0_numberOf := by
  intro w h
  exact List.mem_cons_of_mem _ (List.mem_append_right _ (h))
set_option maxRecDepth 20000 in
theorem lk_X0_numberOf_52 : Cond.fieldLink RX0 52 (TX0 7).1 (TX0 7).2.1 (TX0 7).2.2.1 ∈ wsX0_numberOf := List.mem_cons_of_mem _ (List.mem_append_left _ (List.mem_append_left _ (List.mem_of_getElem? (i := 0) rfl)))
set_option maxRecDepth 20000 in
theorem lk_X0_numberOf_30 : Cond.fieldLink RX0 30 (TX0 8).1 (TX0 8).2.1 (TX0 8).2.2.1 ∈ wsX0_numberOf := List.mem_cons_of_mem _ (List.mem_append_left _ (List.mem_append_left _ (List.mem_of_getElem? (i := 1) rfl)))
set_option maxRecDepth 100000 in
set_option maxHeartbeats 8000000 in
theorem m_X0_numberOf (l : Launch) (D : va_G) (G : gT) (h : Nat) (a : Nat → Nat) (cn : Int) (ul : Int) (rw : Int) (ex : Int → Int) (mi : Int → Int) (si : Int → Int) (un : Int → Int) (be : Int → Int) (ka : Int → Int) (E : Int → Int → Int) (pp : Int) (ii : Int) (hE : EB E) (hnc : 0 ≤ cn ∧ cn ≤ 4) (hX : LnX E cn ex) (hZ : LnZ E cn mi si un be) (hKA : hasL ka (ALn E cn.toNat)) (hul : ul = ((ALn E cn.toNat).length : Int)) (hp : 0 ≤ pp ∧ pp < cn) (hii : 0 ≤ ii ∧ ii < nR E pp) : gMi l yX0_numberOf wsX0_numberOf ({ frames := 4, cells := 0, slots := 0, locals := 120 }) D G [.ref h, .int (iI pp), .int (iI ii)] [oX0 h a cn ul rw, cA G (a 1) 12 ex, cA G (a 3) 8 mi, cA G (a 4) 8 si, cA G (a 5) 8 un, cA G (a 6) 8 be, cA G (a 8) 8 ka] 0 0 (fun (r : Int32) (w : va_W) => r = (iI (plF E (2 * pp + ii) (ALn E cn.toNat))) ∧ w = [oX0 h a cn ul rw, cA G (a 1) 12 ex, cA G (a 3) 8 mi, cA G (a 4) 8 si, cA G (a 5) 8 un, cA G (a 6) 8 be, cA G (a 8) 8 ka]) := by
  refine g_start_i (cc := cX0_numberOf) (nL := 4) (own := RX0) (ret := some .int) (by decide +kernel) rfl rfl (Nat.le_of_ble_eq_true rfl) ?_
  intro p e s m below meth c A ls C hr hnm hw hl
  have hl : lv_has ls 4 [(0, .ref h), (1, .int (iI pp)), (2, .int (iI ii))] := hl
  have hnr := nR_r E pp
  have hlen := ALn_len E cn.toNat
  obtain ⟨q1, q2⟩ := q_of pp ii (by omega)
  have hat : isRt E cn (2 * pp + ii) := ⟨by omega, by rw [q1]; omega, by rw [q1, q2]; omega⟩
  obtain ⟨x9, hx9, hc9⟩ := ALn_hasI (E := E) hp hii
  obtain ⟨n9, hn9⟩ := List.getElem?_of_mem hx9
  have hl9 := (List.getElem?_eq_some_iff.mp hn9).1
  refine g_iconst C dX0_numberOf_0 ?_
  refine g_istore_n C [(3, .int (iI 0)), (0, .ref h), (1, .int (iI pp)), (2, .int (iI ii))] dX0_numberOf_1 rfl hl (by decide) rfl ?_
  clear hl
  intro ls hl
  refine g_loop (σ := (Int)) (fun z_ => [oX0 h a cn ul rw, cA G (a 1) 12 ex, cA G (a 3) 8 mi, cA G (a 4) 8 si, cA G (a 5) 8 un, cA G (a 6) 8 be, cA G (a 8) 8 ka]) (fun z_ => [(3, .int (iI z_)), (0, .ref h), (1, .int (iI pp)), (2, .int (iI ii))]) (fun z_ => (0 ≤ z_ ∧ z_ ≤ ul) ∧ (∀ (j : Nat) (y : Int), (j : Int) < z_ → (ALn E cn.toNat)[j]? = some y → ¬ cmE E (2 * pp + ii) y = 0)) (fun z_ => (ul - z_).toNat) 0 ⟨by (try dsimp only); omega, by (try dsimp only); intro j y hj; omega⟩ hw (lv_sub hl [0, 1, 2, 3] rfl) ?_
  clear hw hl
  rintro kk ⟨hkk, hne⟩ H locs ls hw hl ih_1
  replace hkk : 0 ≤ kk ∧ kk ≤ ul := hkk
  replace hne : ∀ (j : Nat) (y : Int), (j : Int) < kk → (ALn E cn.toNat)[j]? = some y → ¬ cmE E (2 * pp + ii) y = 0 := hne
  replace hw : gW D A s.heap [oX0 h a cn ul rw, cA G (a 1) 12 ex, cA G (a 3) 8 mi, cA G (a 4) 8 si, cA G (a 5) 8 un, cA G (a 6) 8 be, cA G (a 8) 8 ka] H locs := hw
  replace hl : lv_has ls 4 [(3, .int (iI kk)), (0, .ref h), (1, .int (iI pp)), (2, .int (iI ii))] := hl
  replace ih_1 : ∀ (kk' : Int), ((0 ≤ kk' ∧ kk' ≤ ul) ∧ (∀ (j : Nat) (y : Int), (j : Int) < kk' → (ALn E cn.toNat)[j]? = some y → ¬ cmE E (2 * pp + ii) y = 0)) → ((ul - kk').toNat) < ((ul - kk).toNat) → ∀ (H : Heap) (locs : List Loc) (ls : Array Slot), gW D A s.heap [oX0 h a cn ul rw, cA G (a 1) 12 ex, cA G (a 3) 8 mi, cA G (a 4) 8 si, cA G (a 5) 8 un, cA G (a 6) 8 be, cA G (a 8) 8 ka] H locs → lv_has ls 4 [(3, .int (iI (kk'))), (0, .ref h), (1, .int (iI pp)), (2, .int (iI ii))] → W p l e _ s m _ below meth c H locs _ _ _ (F0 m 2 ls []) := fun kk' => ih_1 kk'
  refine g_iload_n C hl 0 rfl rfl dX0_numberOf_2 ?_
  refine g_aload_n C hl 1 rfl rfl dX0_numberOf_3 ?_
  refine g_get C hw hin_X0_numberOf_X0 0 rfl rfl 7 (by decide) lk_X0_numberOf_52 rfl dX0_numberOf_4 ?_
  refine g_icmp_ge C 36 dX0_numberOf_7 (by decide) (by omega) (by omega) (fun c_2 => ?_) (fun c_2 => ?_)
  · skip
    exact absurd hc9 (hne n9 x9 (by omega) hn9)
  · skip
    obtain ⟨hg1, hg2⟩ := hasL_at hKA (k := kk) ⟨by omega, by omega⟩
    have hxr0 := ALn_mem E cn.toNat _ hg2
    have hxr : isRt E cn (ka kk) := by rw [show ((cn.toNat : Nat) : Int) = cn by omega] at hxr0; exact hxr0
    have hcr := cmF_r (qP E (2 * pp + ii)) (qS E (2 * pp + ii)) (qD E (2 * pp + ii)) (qQ E (2 * pp + ii)) (qP E (ka kk)) (qS E (ka kk)) (qD E (ka kk)) (qQ E (ka kk))
    replace hcr : -1 ≤ cmE E (2 * pp + ii) (ka kk) ∧ cmE E (2 * pp + ii) (ka kk) ≤ 1 := hcr
    refine g_aload_n C hl 1 rfl rfl dX0_numberOf_10 ?_
    refine g_iload_n C hl 2 rfl rfl dX0_numberOf_11 ?_
    refine g_iconst C dX0_numberOf_12 ?_
    refine g_imul C dX0_numberOf_13 ?_
    refine g_iload_n C hl 3 rfl rfl dX0_numberOf_14 ?_
    refine g_iadd C dX0_numberOf_15 ?_
    refine g_nI (show ((pp * 2) + ii : Int) = 2 * pp + ii by omega) ?_
    refine g_aload_n C hl 1 rfl rfl dX0_numberOf_16 ?_
    refine g_get C hw hin_X0_numberOf_X0 0 rfl rfl 8 (by decide) lk_X0_numberOf_30 rfl dX0_numberOf_17 ?_
    refine g_iload_n C hl 0 rfl rfl dX0_numberOf_20 ?_
    refine g_iald C hw 6 rfl (by omega) (Nat.le_of_ble_eq_true rfl) dX0_numberOf_21 ?_
    refine g_callVi C hw (wr := [cA G (a 8) 8 ka]) (As := [.int (iI (2 * pp + ii)), .int (iI (ka kk))]) (rest := []) (m_X0_compare l D G (h := h) (a := a) (cn := cn) (ul := ul) (rw := rw) (ex := ex) (mi := mi) (si := si) (un := un) (be := be) (E := E) (nn := cn) (tt := (2 * pp + ii)) (yy := (ka kk)) (by first | assumption | omega) (by first | assumption | omega) (by first | assumption | omega) (by first | assumption | omega) (by exact hat) (by exact hxr)) (cwV 2 C.1.2.2.2.2 gX0_numberOf_X0_compare rfl rfl rfl (by decide +kernel) ⟨Nat.le_of_ble_eq_true rfl, Nat.le_of_ble_eq_true rfl⟩) [0, 1, 2, 3, 4, 5] [6] rfl rfl (by decide) (by decide) (by decide) 0 rfl rfl rfl hl.1 _ rfl (Nat.le_of_ble_eq_true rfl) dX0_numberOf_22 ⟨Nat.le_of_ble_eq_true rfl, Nat.le_of_ble_eq_true rfl⟩ ?_
    clear hw
    rintro _ _ H locs ⟨rfl, rfl⟩ hw
    have hw : gW D A s.heap [cA G (a 8) 8 ka, oX0 h a cn ul rw, cA G (a 1) 12 ex, cA G (a 3) 8 mi, cA G (a 4) 8 si, cA G (a 5) 8 un, cA G (a 6) 8 be] H locs := hw
    refine g_if_ne C 30 dX0_numberOf_25 (by decide) (by omega) (fun c_3 => ?_) (fun c_3 => ?_)
    · skip
      refine g_iinc C [(3, .int (iI (kk + 1))), (0, .ref h), (1, .int (iI pp)), (2, .int (iI ii))] 0 dX0_numberOf_30 hl rfl (by decide) rfl ?_
      clear hl
      intro ls hl
      refine g_goto C 2 dX0_numberOf_33 (by decide) ?_
      have hw : gW D A s.heap [oX0 h a cn ul rw, cA G (a 1) 12 ex, cA G (a 3) 8 mi, cA G (a 4) 8 si, cA G (a 5) 8 un, cA G (a 6) 8 be, cA G (a 8) 8 ka] H locs := g_perm hw [1, 2, 3, 4, 5, 6, 0] (by decide) rfl
      exact ih_1 (kk + 1) ⟨by omega, by intro j x hj hx; by_cases q : (j : Int) < kk; exact hne j x q hx; have q2 : j = kk.toNat := (by omega); subst q2; rw [hg1] at hx; cases hx; assumption⟩ (by omega) H locs ls hw (lv_sub hl [0, 1, 2, 3] rfl)
    · skip
      refine g_iload_n C hl 0 rfl rfl dX0_numberOf_28 ?_
      exact g_iret C hr (ws' := [oX0 h a cn ul rw, cA G (a 1) 12 ex, cA G (a 3) 8 mi, cA G (a 4) 8 si, cA G (a 5) 8 un, cA G (a 6) 8 be, cA G (a 8) 8 ka]) hw [1, 2, 3, 4, 5, 6, 0] (by decide) rfl ⟨(congrArg iI (by have := plF_at (E := E) (t := 2 * pp + ii) (k := kk.toNat) (fun j y hj hy => hne j y (by omega) hy) hg1 (by assumption); omega)), rfl⟩ dX0_numberOf_29

set_option maxRecDepth 20000 in
theorem hin_X0_signInSpot_X0 : ∀ w ∈ u_ws RX0 TX0 14, w ∈ wsX0_signInSpot := by
  intro w h
  exact List.mem_cons_of_mem _ (List.mem_append_right _ (h))
set_option maxRecDepth 20000 in
theorem lk_X0_signInSpot_30 : Cond.fieldLink RX0 30 (TX0 8).1 (TX0 8).2.1 (TX0 8).2.2.1 ∈ wsX0_signInSpot := List.mem_cons_of_mem _ (List.mem_append_left _ (List.mem_append_left _ (List.mem_of_getElem? (i := 0) rfl)))
set_option maxRecDepth 100000 in
set_option maxHeartbeats 8000000 in
theorem m_X0_signInSpot (l : Launch) (D : va_G) (G : gT) (h : Nat) (a : Nat → Nat) (cn : Int) (ul : Int) (rw : Int) (ex : Int → Int) (mi : Int → Int) (si : Int → Int) (un : Int → Int) (be : Int → Int) (ka : Int → Int) (E : Int → Int → Int) (kk : Int) (qq : Int) (hE : EB E) (hnc : 0 ≤ cn ∧ cn ≤ 4) (hX : LnX E cn ex) (hZ : LnZ E cn mi si un be) (hKA : hasL ka (ALn E cn.toNat)) (hul : ul = ((ALn E cn.toNat).length : Int)) (hkk : 0 ≤ kk ∧ kk ≤ 2 * ul) (hq : 0 ≤ qq ∧ qq < cn) : gMi l yX0_signInSpot wsX0_signInSpot ({ frames := 3, cells := 0, slots := 0, locals := 92 }) D G [.ref h, .int (iI kk), .int (iI qq)] [oX0 h a cn ul rw, cA G (a 1) 12 ex, cA G (a 3) 8 mi, cA G (a 4) 8 si, cA G (a 5) 8 un, cA G (a 6) 8 be, cA G (a 8) 8 ka] 0 0 (fun (r : Int32) (w : va_W) => r = (iI (sSp E (ALn E cn.toNat) kk qq)) ∧ w = [oX0 h a cn ul rw, cA G (a 1) 12 ex, cA G (a 3) 8 mi, cA G (a 4) 8 si, cA G (a 5) 8 un, cA G (a 6) 8 be, cA G (a 8) 8 ka]) := by
  refine g_start_i (cc := cX0_signInSpot) (nL := 6) (own := RX0) (ret := some .int) (by decide +kernel) rfl rfl (Nat.le_of_ble_eq_true rfl) ?_
  intro p e s m below meth c A ls C hr hnm hw hl
  have hl : lv_has ls 6 [(0, .ref h), (1, .int (iI kk)), (2, .int (iI qq))] := hl
  have hlen := ALn_len E cn.toNat
  obtain ⟨x0, x1, x2⟩ := hX qq hq.1 hq.2
  obtain ⟨e0, e1, e2⟩ := hE qq
  have hs0 := sA0_r E qq
  have hs2 := sg_r (E qq 2)
  refine g_iload_n C hl 1 rfl rfl dX0_signInSpot_0 ?_
  refine g_if_ne C 10 dX0_signInSpot_1 (by decide) (by omega) (fun c_1 => ?_) (fun c_1 => ?_)
  · skip
    obtain ⟨hg1, hg2⟩ := hasL_at hKA (k := (kk - 1) / 2) ⟨by omega, by omega⟩
    have hxr0 := ALn_mem E cn.toNat _ hg2
    have hxr : isRt E cn (ka ((kk - 1) / 2)) := by rw [show ((cn.toNat : Nat) : Int) = cn by omega] at hxr0; exact hxr0
    obtain ⟨z0, z1, z2, z3⟩ := hZ _ hxr
    have hrt0 := isRt_ok hE hxr
    have hrt : rtOK (mi (ka ((kk - 1) / 2))) (si (ka ((kk - 1) / 2))) (un (ka ((kk - 1) / 2))) (be (ka ((kk - 1) / 2))) := by rw [z0, z1, z2, z3]; exact hrt0
    have hgd : (ALn E cn.toNat).getD ((kk - 1) / 2).toNat 0 = ka ((kk - 1) / 2) := by rw [List.getD_eq_getElem?_getD, hg1]; rfl
    have hr9 := sRt_r E (ka ((kk - 1) / 2)) qq
    have hr8 : -1 ≤ sAt (E qq 1) (2 * E qq 2) 0 (qP E (ka ((kk - 1) / 2))) (qS E (ka ((kk - 1) / 2))) (qD E (ka ((kk - 1) / 2))) (qQ E (ka ((kk - 1) / 2))) ∧ sAt (E qq 1) (2 * E qq 2) 0 (qP E (ka ((kk - 1) / 2))) (qS E (ka ((kk - 1) / 2))) (qD E (ka ((kk - 1) / 2))) (qQ E (ka ((kk - 1) / 2))) ≤ 1 := sAt_r _ _ _ _ _ _ _
    obtain ⟨i0, i1, i2⟩ := id hxr
    have hnr9 := nR_r E (ka ((kk - 1) / 2) / 2)
    refine g_aload_n C hl 0 rfl rfl dX0_signInSpot_10 ?_
    refine g_get C hw hin_X0_signInSpot_X0 0 rfl rfl 8 (by decide) lk_X0_signInSpot_30 rfl dX0_signInSpot_11 ?_
    refine g_iload_n C hl 1 rfl rfl dX0_signInSpot_14 ?_
    refine g_iconst C dX0_signInSpot_15 ?_
    refine g_isub C dX0_signInSpot_16 ?_
    refine g_iconst C dX0_signInSpot_17 ?_
    refine g_idiv C dX0_signInSpot_18 (by omega) (by omega) ?_
    refine g_nI (show ((kk - 1).tdiv 2 : Int) = (kk - 1) / 2 by exact Int.tdiv_eq_ediv_of_nonneg (by omega)) ?_
    refine g_iald C hw 6 rfl (by omega) (Nat.le_of_ble_eq_true rfl) dX0_signInSpot_19 ?_
    refine g_istore_n C [(3, .int (iI (ka ((kk - 1) / 2)))), (0, .ref h), (1, .int (iI kk)), (2, .int (iI qq))] dX0_signInSpot_20 rfl hl (by decide) rfl ?_
    clear hl
    intro ls hl
    refine g_aload_n C hl 1 rfl rfl dX0_signInSpot_21 ?_
    refine g_iload_n C hl 3 rfl rfl dX0_signInSpot_22 ?_
    refine g_iconst C dX0_signInSpot_23 ?_
    refine g_iload_n C hl 0 rfl rfl dX0_signInSpot_24 ?_
    refine g_callVi C hw (wr := [cA G (a 8) 8 ka]) (As := [.int (iI qq), .int (iI 0), .int (iI (ka ((kk - 1) / 2)))]) (rest := []) (m_X0_signAtRoot l D G (h := h) (a := a) (cn := cn) (ul := ul) (rw := rw) (ex := ex) (mi := mi) (si := si) (un := un) (be := be) (qq := qq) (od := 0) (tt := (ka ((kk - 1) / 2))) (by first | assumption | omega) (by first | assumption | omega) (by first | assumption | omega) (by first | assumption | omega) (by first | assumption | omega) (by first | assumption | omega) (by exact Or.inr hrt)) (cwV 3 C.1.2.2.2.2 gX0_signInSpot_X0_signAtRoot rfl rfl rfl (by decide +kernel) ⟨Nat.le_of_ble_eq_true rfl, Nat.le_of_ble_eq_true rfl⟩) [0, 1, 2, 3, 4, 5] [6] rfl rfl (by decide) (by decide) (by decide) 0 rfl rfl rfl hl.1 _ rfl (Nat.le_of_ble_eq_true rfl) dX0_signInSpot_25 ⟨Nat.le_of_ble_eq_true rfl, Nat.le_of_ble_eq_true rfl⟩ ?_
    clear hw
    rintro _ _ H locs ⟨rfl, rfl⟩ hw
    have hw : gW D A s.heap [cA G (a 8) 8 ka, oX0 h a cn ul rw, cA G (a 1) 12 ex, cA G (a 3) 8 mi, cA G (a 4) 8 si, cA G (a 5) 8 un, cA G (a 6) 8 be] H locs := hw
    refine g_nI (show ((if 0 = 2 then sg (ex (qq * 3 + 2)) else if 0 = 0 then sAt (ex (qq * 3)) (ex (qq * 3 + 1)) (ex (qq * 3 + 2)) (mi (ka ((kk - 1) / 2))) (si (ka ((kk - 1) / 2))) (un (ka ((kk - 1) / 2))) (be (ka ((kk - 1) / 2))) else sAt (ex (qq * 3 + 1)) (2 * ex (qq * 3 + 2)) 0 (mi (ka ((kk - 1) / 2))) (si (ka ((kk - 1) / 2))) (un (ka ((kk - 1) / 2))) (be (ka ((kk - 1) / 2)))) : Int) = sRt E (ka ((kk - 1) / 2)) qq by rw [if_neg (by decide), if_pos rfl, x0, x1, x2, z0, z1, z2, z3]; rfl) ?_
    refine g_istore C [(4, .int (iI (sRt E (ka ((kk - 1) / 2)) qq))), (3, .int (iI (ka ((kk - 1) / 2)))), (0, .ref h), (1, .int (iI kk)), (2, .int (iI qq))] dX0_signInSpot_28 hl (by decide) rfl ?_
    clear hl
    intro ls hl
    refine g_iload_n C hl 3 rfl rfl dX0_signInSpot_30 ?_
    refine g_iconst C dX0_signInSpot_31 ?_
    refine g_irem C dX0_signInSpot_32 (by omega) (by omega) ?_
    refine g_nI (show (kk - kk.tdiv 2 * 2 : Int) = kk % 2 by rw [Int.tdiv_eq_ediv_of_nonneg (by omega)]; omega) ?_
    refine g_iconst C dX0_signInSpot_33 ?_
    refine g_icmp_eq C 42 dX0_signInSpot_34 (by decide) (by omega) (by omega) (fun c_2 => ?_) (fun c_2 => ?_)
    · skip
      refine g_iload C hl 0 rfl dX0_signInSpot_42 ?_
      exact g_iret C hr (ws' := [oX0 h a cn ul rw, cA G (a 1) 12 ex, cA G (a 3) 8 mi, cA G (a 4) 8 si, cA G (a 5) 8 un, cA G (a 6) 8 be, cA G (a 8) 8 ka]) hw [1, 2, 3, 4, 5, 6, 0] (by decide) rfl ⟨(congrArg iI (by unfold sSp; rw [hgd]; unfold sBh; (repeat' split) <;> omega)), rfl⟩ dX0_signInSpot_44
    · skip
      refine g_iload C hl 0 rfl dX0_signInSpot_37 ?_
      refine g_if_eq C 45 dX0_signInSpot_39 (by decide) (by omega) (fun c_3 => ?_) (fun c_3 => ?_)
      · skip
        refine g_aload_n C hl 2 rfl rfl dX0_signInSpot_45 ?_
        refine g_iload_n C hl 4 rfl rfl dX0_signInSpot_46 ?_
        refine g_iconst C dX0_signInSpot_47 ?_
        refine g_iload_n C hl 1 rfl rfl dX0_signInSpot_48 ?_
        refine g_callVi C hw (wr := [cA G (a 8) 8 ka]) (As := [.int (iI qq), .int (iI 1), .int (iI (ka ((kk - 1) / 2)))]) (rest := []) (m_X0_signAtRoot l D G (h := h) (a := a) (cn := cn) (ul := ul) (rw := rw) (ex := ex) (mi := mi) (si := si) (un := un) (be := be) (qq := qq) (od := 1) (tt := (ka ((kk - 1) / 2))) (by first | assumption | omega) (by first | assumption | omega) (by first | assumption | omega) (by first | assumption | omega) (by first | assumption | omega) (by first | assumption | omega) (by exact Or.inr hrt)) (cwV 3 C.1.2.2.2.2 gX0_signInSpot_X0_signAtRoot rfl rfl rfl (by decide +kernel) ⟨Nat.le_of_ble_eq_true rfl, Nat.le_of_ble_eq_true rfl⟩) [1, 2, 3, 4, 5, 6] [0] rfl rfl (by decide) (by decide) (by decide) 0 rfl rfl rfl hl.1 _ rfl (Nat.le_of_ble_eq_true rfl) dX0_signInSpot_49 ⟨Nat.le_of_ble_eq_true rfl, Nat.le_of_ble_eq_true rfl⟩ ?_
        clear hw
        rintro _ _ H locs ⟨rfl, rfl⟩ hw
        have hw : gW D A s.heap [cA G (a 8) 8 ka, oX0 h a cn ul rw, cA G (a 1) 12 ex, cA G (a 3) 8 mi, cA G (a 4) 8 si, cA G (a 5) 8 un, cA G (a 6) 8 be] H locs := hw
        refine g_nI (show ((if 1 = 2 then sg (ex (qq * 3 + 2)) else if 1 = 0 then sAt (ex (qq * 3)) (ex (qq * 3 + 1)) (ex (qq * 3 + 2)) (mi (ka ((kk - 1) / 2))) (si (ka ((kk - 1) / 2))) (un (ka ((kk - 1) / 2))) (be (ka ((kk - 1) / 2))) else sAt (ex (qq * 3 + 1)) (2 * ex (qq * 3 + 2)) 0 (mi (ka ((kk - 1) / 2))) (si (ka ((kk - 1) / 2))) (un (ka ((kk - 1) / 2))) (be (ka ((kk - 1) / 2)))) : Int) = sAt (E qq 1) (2 * E qq 2) 0 (qP E (ka ((kk - 1) / 2))) (qS E (ka ((kk - 1) / 2))) (qD E (ka ((kk - 1) / 2))) (qQ E (ka ((kk - 1) / 2))) by rw [if_neg (by decide), if_neg (by decide), x1, x2, z0, z1, z2, z3]) ?_
        refine g_istore C [(5, .int (iI (sAt (E qq 1) (2 * E qq 2) 0 (qP E (ka ((kk - 1) / 2))) (qS E (ka ((kk - 1) / 2))) (qD E (ka ((kk - 1) / 2))) (qQ E (ka ((kk - 1) / 2)))))), (4, .int (iI (sRt E (ka ((kk - 1) / 2)) qq))), (3, .int (iI (ka ((kk - 1) / 2)))), (0, .ref h), (1, .int (iI kk)), (2, .int (iI qq))] dX0_signInSpot_52 hl (by decide) rfl ?_
        clear hl
        intro ls hl
        refine g_iload C hl 0 rfl dX0_signInSpot_54 ?_
        refine g_if_eq C 64 dX0_signInSpot_56 (by decide) (by omega) (fun c_4 => ?_) (fun c_4 => ?_)
        · skip
          refine g_aload_n C hl 3 rfl rfl dX0_signInSpot_64 ?_
          refine g_iload_n C hl 5 rfl rfl dX0_signInSpot_65 ?_
          refine g_iconst C dX0_signInSpot_66 ?_
          refine g_iload_n C hl 2 rfl rfl dX0_signInSpot_67 ?_
          refine g_callVi C hw (wr := [cA G (a 8) 8 ka]) (As := [.int (iI qq), .int (iI 2), .int (iI (ka ((kk - 1) / 2)))]) (rest := []) (m_X0_signAtRoot l D G (h := h) (a := a) (cn := cn) (ul := ul) (rw := rw) (ex := ex) (mi := mi) (si := si) (un := un) (be := be) (qq := qq) (od := 2) (tt := (ka ((kk - 1) / 2))) (by first | assumption | omega) (by first | assumption | omega) (by first | assumption | omega) (by first | assumption | omega) (by first | assumption | omega) (by first | assumption | omega) (by exact Or.inr hrt)) (cwV 3 C.1.2.2.2.2 gX0_signInSpot_X0_signAtRoot rfl rfl rfl (by decide +kernel) ⟨Nat.le_of_ble_eq_true rfl, Nat.le_of_ble_eq_true rfl⟩) [1, 2, 3, 4, 5, 6] [0] rfl rfl (by decide) (by decide) (by decide) 0 rfl rfl rfl hl.1 _ rfl (Nat.le_of_ble_eq_true rfl) dX0_signInSpot_68 ⟨Nat.le_of_ble_eq_true rfl, Nat.le_of_ble_eq_true rfl⟩ ?_
          clear hw
          rintro _ _ H locs ⟨rfl, rfl⟩ hw
          have hw : gW D A s.heap [cA G (a 8) 8 ka, oX0 h a cn ul rw, cA G (a 1) 12 ex, cA G (a 3) 8 mi, cA G (a 4) 8 si, cA G (a 5) 8 un, cA G (a 6) 8 be] H locs := hw
          refine g_nI (show ((if 2 = 2 then sg (ex (qq * 3 + 2)) else if 2 = 0 then sAt (ex (qq * 3)) (ex (qq * 3 + 1)) (ex (qq * 3 + 2)) (mi (ka ((kk - 1) / 2))) (si (ka ((kk - 1) / 2))) (un (ka ((kk - 1) / 2))) (be (ka ((kk - 1) / 2))) else sAt (ex (qq * 3 + 1)) (2 * ex (qq * 3 + 2)) 0 (mi (ka ((kk - 1) / 2))) (si (ka ((kk - 1) / 2))) (un (ka ((kk - 1) / 2))) (be (ka ((kk - 1) / 2)))) : Int) = sg (E qq 2) by rw [if_pos rfl, x2]) ?_
          exact g_iret C hr (ws' := [oX0 h a cn ul rw, cA G (a 1) 12 ex, cA G (a 3) 8 mi, cA G (a 4) 8 si, cA G (a 5) 8 un, cA G (a 6) 8 be, cA G (a 8) 8 ka]) hw [1, 2, 3, 4, 5, 6, 0] (by decide) rfl ⟨(congrArg iI (by unfold sSp; rw [hgd]; unfold sBh; (repeat' split) <;> omega)), rfl⟩ dX0_signInSpot_71
        · skip
          refine g_iload C hl 0 rfl dX0_signInSpot_59 ?_
          refine g_goto C 71 dX0_signInSpot_61 (by decide) ?_
          exact g_iret C hr (ws' := [oX0 h a cn ul rw, cA G (a 1) 12 ex, cA G (a 3) 8 mi, cA G (a 4) 8 si, cA G (a 5) 8 un, cA G (a 6) 8 be, cA G (a 8) 8 ka]) hw [1, 2, 3, 4, 5, 6, 0] (by decide) rfl ⟨(congrArg iI (by unfold sSp; rw [hgd]; unfold sBh; (repeat' split) <;> omega)), rfl⟩ dX0_signInSpot_71
      · skip
        refine g_iload C hl 0 rfl dX0_signInSpot_42 ?_
        exact g_iret C hr (ws' := [oX0 h a cn ul rw, cA G (a 1) 12 ex, cA G (a 3) 8 mi, cA G (a 4) 8 si, cA G (a 5) 8 un, cA G (a 6) 8 be, cA G (a 8) 8 ka]) hw [1, 2, 3, 4, 5, 6, 0] (by decide) rfl ⟨(congrArg iI (by unfold sSp; rw [hgd]; unfold sBh; (repeat' split) <;> omega)), rfl⟩ dX0_signInSpot_44
  · skip
    refine g_aload_n C hl 0 rfl rfl dX0_signInSpot_4 ?_
    refine g_iload_n C hl 2 rfl rfl dX0_signInSpot_5 ?_
    refine g_callVi C hw (wr := [cA G (a 3) 8 mi, cA G (a 4) 8 si, cA G (a 5) 8 un, cA G (a 6) 8 be, cA G (a 8) 8 ka]) (As := [.int (iI qq)]) (rest := []) (m_X0_signAheadOfAll l D G (h := h) (a := a) (cn := cn) (ul := ul) (rw := rw) (ex := ex) (E := E) (qq := qq) (by first | assumption | omega) (by first | assumption | omega) (by first | assumption | omega) (by first | assumption | omega)) (cwV 1 C.1.2.2.2.2 gX0_signInSpot_X0_signAheadOfAll rfl rfl rfl (by decide +kernel) ⟨Nat.le_of_ble_eq_true rfl, Nat.le_of_ble_eq_true rfl⟩) [0, 1] [2, 3, 4, 5, 6] rfl rfl (by decide) (by decide) (by decide) 0 rfl rfl rfl hl.1 _ rfl (Nat.le_of_ble_eq_true rfl) dX0_signInSpot_6 ⟨Nat.le_of_ble_eq_true rfl, Nat.le_of_ble_eq_true rfl⟩ ?_
    clear hw
    rintro _ _ H locs ⟨rfl, rfl⟩ hw
    have hw : gW D A s.heap [cA G (a 3) 8 mi, cA G (a 4) 8 si, cA G (a 5) 8 un, cA G (a 6) 8 be, cA G (a 8) 8 ka, oX0 h a cn ul rw, cA G (a 1) 12 ex] H locs := hw
    exact g_iret C hr (ws' := [oX0 h a cn ul rw, cA G (a 1) 12 ex, cA G (a 3) 8 mi, cA G (a 4) 8 si, cA G (a 5) 8 un, cA G (a 6) 8 be, cA G (a 8) 8 ka]) hw [5, 6, 0, 1, 2, 3, 4] (by decide) rfl ⟨(congrArg iI (by unfold sSp; rw [if_pos (by omega)])), rfl⟩ dX0_signInSpot_9

set_option maxRecDepth 20000 in
theorem hin_X0_signsIn_X0 : ∀ w ∈ u_ws RX0 TX0 14, w ∈ wsX0_signsIn := by
  intro w h
  exact List.mem_cons_of_mem _ (List.mem_append_right _ (h))
set_option maxRecDepth 20000 in
theorem lk_X0_signsIn_51 : Cond.fieldLink RX0 51 (TX0 0).1 (TX0 0).2.1 (TX0 0).2.2.1 ∈ wsX0_signsIn := List.mem_cons_of_mem _ (List.mem_append_left _ (List.mem_append_left _ (List.mem_of_getElem? (i := 0) rfl)))
set_option maxRecDepth 100000 in
set_option maxHeartbeats 8000000 in
theorem m_X0_signsIn (l : Launch) (D : va_G) (G : gT) (h : Nat) (a : Nat → Nat) (cn : Int) (ul : Int) (rw : Int) (ex : Int → Int) (mi : Int → Int) (si : Int → Int) (un : Int → Int) (be : Int → Int) (ka : Int → Int) (E : Int → Int → Int) (kk : Int) (hE : EB E) (hnc : 0 ≤ cn ∧ cn ≤ 4) (hX : LnX E cn ex) (hZ : LnZ E cn mi si un be) (hKA : hasL ka (ALn E cn.toNat)) (hul : ul = ((ALn E cn.toNat).length : Int)) (hkk : 0 ≤ kk ∧ kk ≤ 2 * ul) : gMi l yX0_signsIn wsX0_signsIn ({ frames := 4, cells := 0, slots := 0, locals := 117 }) D G [.ref h, .int (iI kk)] [oX0 h a cn ul rw, cA G (a 1) 12 ex, cA G (a 3) 8 mi, cA G (a 4) 8 si, cA G (a 5) 8 un, cA G (a 6) 8 be, cA G (a 8) 8 ka] 0 0 (fun (r : Int32) (w : va_W) => r = (iI (rwN E (ALn E cn.toNat) cn kk)) ∧ w = [oX0 h a cn ul rw, cA G (a 1) 12 ex, cA G (a 3) 8 mi, cA G (a 4) 8 si, cA G (a 5) 8 un, cA G (a 6) 8 be, cA G (a 8) 8 ka]) := by
  refine g_start_i (cc := cX0_signsIn) (nL := 4) (own := RX0) (ret := some .int) (by decide +kernel) rfl rfl (Nat.le_of_ble_eq_true rfl) ?_
  intro p e s m below meth c A ls C hr hnm hw hl
  have hl : lv_has ls 4 [(0, .ref h), (1, .int (iI kk))] := hl
  refine g_iconst C dX0_signsIn_0 ?_
  refine g_istore_n C [(2, .int (iI 0)), (0, .ref h), (1, .int (iI kk))] dX0_signsIn_1 rfl hl (by decide) rfl ?_
  clear hl
  intro ls hl
  refine g_iconst C dX0_signsIn_2 ?_
  refine g_istore_n C [(3, .int (iI 0)), (2, .int (iI 0)), (0, .ref h), (1, .int (iI kk))] dX0_signsIn_3 rfl hl (by decide) rfl ?_
  clear hl
  intro ls hl
  refine g_loop (σ := (Int) × (Int)) (fun z_ => [oX0 h a cn ul rw, cA G (a 1) 12 ex, cA G (a 3) 8 mi, cA G (a 4) 8 si, cA G (a 5) 8 un, cA G (a 6) 8 be, cA G (a 8) 8 ka]) (fun z_ => [(3, .int (iI (z_.2))), (2, .int (iI (z_.1))), (0, .ref h), (1, .int (iI kk))]) (fun z_ => (0 ≤ z_.2 ∧ z_.2 ≤ cn) ∧ (z_.1 = rnF E (ALn E cn.toNat) kk z_.2.toNat)) (fun z_ => (cn - z_.2).toNat) (0, 0) ⟨by (try dsimp only); omega, by (try dsimp only); rfl⟩ hw (lv_sub hl [0, 1, 2, 3] rfl) ?_
  clear hw hl
  rintro ⟨sn, qq⟩ ⟨hq, hsn⟩ H locs ls hw hl ih_1
  replace hq : 0 ≤ qq ∧ qq ≤ cn := hq
  replace hsn : sn = rnF E (ALn E cn.toNat) kk qq.toNat := hsn
  replace hw : gW D A s.heap [oX0 h a cn ul rw, cA G (a 1) 12 ex, cA G (a 3) 8 mi, cA G (a 4) 8 si, cA G (a 5) 8 un, cA G (a 6) 8 be, cA G (a 8) 8 ka] H locs := hw
  replace hl : lv_has ls 4 [(3, .int (iI qq)), (2, .int (iI sn)), (0, .ref h), (1, .int (iI kk))] := hl
  replace ih_1 : ∀ (sn' : Int) (qq' : Int), ((0 ≤ qq' ∧ qq' ≤ cn) ∧ (sn' = rnF E (ALn E cn.toNat) kk qq'.toNat)) → ((cn - qq').toNat) < ((cn - qq).toNat) → ∀ (H : Heap) (locs : List Loc) (ls : Array Slot), gW D A s.heap [oX0 h a cn ul rw, cA G (a 1) 12 ex, cA G (a 3) 8 mi, cA G (a 4) 8 si, cA G (a 5) 8 un, cA G (a 6) 8 be, cA G (a 8) 8 ka] H locs → lv_has ls 4 [(3, .int (iI (qq'))), (2, .int (iI (sn'))), (0, .ref h), (1, .int (iI kk))] → W p l e _ s m _ below meth c H locs _ _ _ (F0 m 4 ls []) := fun sn' qq' => ih_1 (sn', qq')
  have hsb := sSp_r E (ALn E cn.toNat) kk qq
  refine g_iload_n C hl 0 rfl rfl dX0_signsIn_4 ?_
  refine g_aload_n C hl 2 rfl rfl dX0_signsIn_5 ?_
  refine g_get C hw hin_X0_signsIn_X0 0 rfl rfl 0 (by decide) lk_X0_signsIn_51 rfl dX0_signsIn_6 ?_
  refine g_icmp_ge C 31 dX0_signsIn_9 (by decide) (by omega) (by omega) (fun c_2 => ?_) (fun c_2 => ?_)
  · skip
    refine g_iload_n C hl 1 rfl rfl dX0_signsIn_31 ?_
    exact g_iret C hr (ws' := [oX0 h a cn ul rw, cA G (a 1) 12 ex, cA G (a 3) 8 mi, cA G (a 4) 8 si, cA G (a 5) 8 un, cA G (a 6) 8 be, cA G (a 8) 8 ka]) hw [0, 1, 2, 3, 4, 5, 6] (by decide) rfl ⟨(congrArg iI (by rw [hsn, show qq = cn by omega]; rfl)), rfl⟩ dX0_signsIn_32
  · skip
    refine g_iload_n C hl 1 rfl rfl dX0_signsIn_12 ?_
    refine g_iconst C dX0_signsIn_13 ?_
    refine g_imul C dX0_signsIn_14 ?_
    refine g_aload_n C hl 2 rfl rfl dX0_signsIn_15 ?_
    refine g_iload_n C hl 3 rfl rfl dX0_signsIn_16 ?_
    refine g_iload_n C hl 0 rfl rfl dX0_signsIn_17 ?_
    refine g_callVi C hw (wr := []) (As := [.int (iI kk), .int (iI qq)]) (rest := [.int (iI (sn * 3))]) (m_X0_signInSpot l D G (h := h) (a := a) (cn := cn) (ul := ul) (rw := rw) (ex := ex) (mi := mi) (si := si) (un := un) (be := be) (ka := ka) (E := E) (kk := kk) (qq := qq) (by first | assumption | omega) (by first | assumption | omega) (by first | assumption | omega) (by first | assumption | omega) (by first | assumption | omega) (by first | assumption | omega) (by first | assumption | omega) (by first | assumption | omega)) (cwV 2 C.1.2.2.2.2 gX0_signsIn_X0_signInSpot rfl rfl rfl (by decide +kernel) ⟨Nat.le_of_ble_eq_true rfl, Nat.le_of_ble_eq_true rfl⟩) [0, 1, 2, 3, 4, 5, 6] [] rfl rfl (by decide) (by decide) (by decide) 0 rfl rfl rfl hl.1 _ rfl (Nat.le_of_ble_eq_true rfl) dX0_signsIn_18 ⟨Nat.le_of_ble_eq_true rfl, Nat.le_of_ble_eq_true rfl⟩ ?_
    clear hw
    rintro _ _ H locs ⟨rfl, rfl⟩ hw
    have hw : gW D A s.heap [oX0 h a cn ul rw, cA G (a 1) 12 ex, cA G (a 3) 8 mi, cA G (a 4) 8 si, cA G (a 5) 8 un, cA G (a 6) 8 be, cA G (a 8) 8 ka] H locs := hw
    refine g_iadd C dX0_signsIn_21 ?_
    refine g_iconst C dX0_signsIn_22 ?_
    refine g_iadd C dX0_signsIn_23 ?_
    refine g_istore_n C [(2, .int (iI (((sn * 3) + (sSp E (ALn E cn.toNat) kk qq)) + 1))), (3, .int (iI qq)), (0, .ref h), (1, .int (iI kk))] dX0_signsIn_24 rfl hl (by decide) rfl ?_
    clear hl
    intro ls hl
    refine g_iinc C [(3, .int (iI (qq + 1))), (2, .int (iI (((sn * 3) + (sSp E (ALn E cn.toNat) kk qq)) + 1))), (0, .ref h), (1, .int (iI kk))] 1 dX0_signsIn_25 hl rfl (by decide) rfl ?_
    clear hl
    intro ls hl
    refine g_goto C 4 dX0_signsIn_28 (by decide) ?_
    have hw : gW D A s.heap [oX0 h a cn ul rw, cA G (a 1) 12 ex, cA G (a 3) 8 mi, cA G (a 4) 8 si, cA G (a 5) 8 un, cA G (a 6) 8 be, cA G (a 8) 8 ka] H locs := g_perm hw [0, 1, 2, 3, 4, 5, 6] (by decide) rfl
    exact ih_1 (((sn * 3) + (sSp E (ALn E cn.toNat) kk qq)) + 1) (qq + 1) ⟨by omega, by rw [rnF_s hq.1, hsn]; omega⟩ (by omega) H locs ls hw (lv_sub hl [0, 1, 2, 3] rfl)

set_option maxRecDepth 20000 in
theorem hin_X0_isAllAbove_X0 : ∀ w ∈ u_ws RX0 TX0 14, w ∈ wsX0_isAllAbove := by
  intro w h
  exact List.mem_cons_of_mem _ (List.mem_append_right _ (h))
set_option maxRecDepth 20000 in
theorem lk_X0_isAllAbove_51 : Cond.fieldLink RX0 51 (TX0 0).1 (TX0 0).2.1 (TX0 0).2.2.1 ∈ wsX0_isAllAbove := List.mem_cons_of_mem _ (List.mem_append_left _ (List.mem_append_left _ (List.mem_of_getElem? (i := 0) rfl)))
set_option maxRecDepth 100000 in
set_option maxHeartbeats 8000000 in
theorem m_X0_isAllAbove (l : Launch) (D : va_G) (G : gT) (h : Nat) (a : Nat → Nat) (cn : Int) (ul : Int) (rw : Int) (ex : Int → Int) (mi : Int → Int) (si : Int → Int) (un : Int → Int) (be : Int → Int) (ka : Int → Int) (E : Int → Int → Int) (kk : Int) (hE : EB E) (hnc : 0 ≤ cn ∧ cn ≤ 4) (hX : LnX E cn ex) (hZ : LnZ E cn mi si un be) (hKA : hasL ka (ALn E cn.toNat)) (hul : ul = ((ALn E cn.toNat).length : Int)) (hkk : 0 ≤ kk ∧ kk ≤ 2 * ul) : gMi l yX0_isAllAbove wsX0_isAllAbove ({ frames := 4, cells := 0, slots := 0, locals := 117 }) D G [.ref h, .int (iI kk)] [oX0 h a cn ul rw, cA G (a 1) 12 ex, cA G (a 3) 8 mi, cA G (a 4) 8 si, cA G (a 5) 8 un, cA G (a 6) 8 be, cA G (a 8) 8 ka] 0 0 (fun (r : Int32) (w : va_W) => r = (iI (bI (allB (fun q => decide (0 < sSp E (ALn E cn.toNat) kk q)) cn.toNat = true))) ∧ w = [oX0 h a cn ul rw, cA G (a 1) 12 ex, cA G (a 3) 8 mi, cA G (a 4) 8 si, cA G (a 5) 8 un, cA G (a 6) 8 be, cA G (a 8) 8 ka]) := by
  refine g_start_i (cc := cX0_isAllAbove) (nL := 3) (own := RX0) (ret := some .boolean) (by decide +kernel) rfl rfl (Nat.le_of_ble_eq_true rfl) ?_
  intro p e s m below meth c A ls C hr hnm hw hl
  have hl : lv_has ls 3 [(0, .ref h), (1, .int (iI kk))] := hl
  refine g_iconst C dX0_isAllAbove_0 ?_
  refine g_istore_n C [(2, .int (iI 0)), (0, .ref h), (1, .int (iI kk))] dX0_isAllAbove_1 rfl hl (by decide) rfl ?_
  clear hl
  intro ls hl
  refine g_loop (σ := (Int)) (fun z_ => [oX0 h a cn ul rw, cA G (a 1) 12 ex, cA G (a 3) 8 mi, cA G (a 4) 8 si, cA G (a 5) 8 un, cA G (a 6) 8 be, cA G (a 8) 8 ka]) (fun z_ => [(2, .int (iI z_)), (0, .ref h), (1, .int (iI kk))]) (fun z_ => (0 ≤ z_ ∧ z_ ≤ cn) ∧ (allB (fun q => decide (0 < sSp E (ALn E cn.toNat) kk q)) z_.toNat = true)) (fun z_ => (cn - z_).toNat) 0 ⟨by (try dsimp only); omega, by (try dsimp only); rfl⟩ hw (lv_sub hl [0, 1, 2] rfl) ?_
  clear hw hl
  rintro qq ⟨hq, hal⟩ H locs ls hw hl ih_1
  replace hq : 0 ≤ qq ∧ qq ≤ cn := hq
  replace hal : allB (fun q => decide (0 < sSp E (ALn E cn.toNat) kk q)) qq.toNat = true := hal
  replace hw : gW D A s.heap [oX0 h a cn ul rw, cA G (a 1) 12 ex, cA G (a 3) 8 mi, cA G (a 4) 8 si, cA G (a 5) 8 un, cA G (a 6) 8 be, cA G (a 8) 8 ka] H locs := hw
  replace hl : lv_has ls 3 [(2, .int (iI qq)), (0, .ref h), (1, .int (iI kk))] := hl
  replace ih_1 : ∀ (qq' : Int), ((0 ≤ qq' ∧ qq' ≤ cn) ∧ (allB (fun q => decide (0 < sSp E (ALn E cn.toNat) kk q)) qq'.toNat = true)) → ((cn - qq').toNat) < ((cn - qq).toNat) → ∀ (H : Heap) (locs : List Loc) (ls : Array Slot), gW D A s.heap [oX0 h a cn ul rw, cA G (a 1) 12 ex, cA G (a 3) 8 mi, cA G (a 4) 8 si, cA G (a 5) 8 un, cA G (a 6) 8 be, cA G (a 8) 8 ka] H locs → lv_has ls 3 [(2, .int (iI (qq'))), (0, .ref h), (1, .int (iI kk))] → W p l e _ s m _ below meth c H locs _ _ _ (F0 m 2 ls []) := fun qq' => ih_1 qq'
  have hsb := sSp_r E (ALn E cn.toNat) kk qq
  refine g_iload_n C hl 0 rfl rfl dX0_isAllAbove_2 ?_
  refine g_aload_n C hl 1 rfl rfl dX0_isAllAbove_3 ?_
  refine g_get C hw hin_X0_isAllAbove_X0 0 rfl rfl 0 (by decide) lk_X0_isAllAbove_51 rfl dX0_isAllAbove_4 ?_
  refine g_icmp_ge C 27 dX0_isAllAbove_7 (by decide) (by omega) (by omega) (fun c_2 => ?_) (fun c_2 => ?_)
  · skip
    refine g_iconst C dX0_isAllAbove_27 ?_
    exact g_zret C hr (ws' := [oX0 h a cn ul rw, cA G (a 1) 12 ex, cA G (a 3) 8 mi, cA G (a 4) 8 si, cA G (a 5) 8 un, cA G (a 6) 8 be, cA G (a 8) 8 ka]) hw [0, 1, 2, 3, 4, 5, 6] (by decide) rfl (Or.inr rfl) ⟨(congrArg iI (by rw [bI_t]; have e9 : qq = cn := (by omega); rw [e9] at hal; exact hal)), rfl⟩ dX0_isAllAbove_28
  · skip
    refine g_aload_n C hl 1 rfl rfl dX0_isAllAbove_10 ?_
    refine g_iload_n C hl 2 rfl rfl dX0_isAllAbove_11 ?_
    refine g_iload_n C hl 0 rfl rfl dX0_isAllAbove_12 ?_
    refine g_callVi C hw (wr := []) (As := [.int (iI kk), .int (iI qq)]) (rest := []) (m_X0_signInSpot l D G (h := h) (a := a) (cn := cn) (ul := ul) (rw := rw) (ex := ex) (mi := mi) (si := si) (un := un) (be := be) (ka := ka) (E := E) (kk := kk) (qq := qq) (by first | assumption | omega) (by first | assumption | omega) (by first | assumption | omega) (by first | assumption | omega) (by first | assumption | omega) (by first | assumption | omega) (by first | assumption | omega) (by first | assumption | omega)) (cwV 2 C.1.2.2.2.2 gX0_isAllAbove_X0_signInSpot rfl rfl rfl (by decide +kernel) ⟨Nat.le_of_ble_eq_true rfl, Nat.le_of_ble_eq_true rfl⟩) [0, 1, 2, 3, 4, 5, 6] [] rfl rfl (by decide) (by decide) (by decide) 0 rfl rfl rfl hl.1 _ rfl (Nat.le_of_ble_eq_true rfl) dX0_isAllAbove_13 ⟨Nat.le_of_ble_eq_true rfl, Nat.le_of_ble_eq_true rfl⟩ ?_
    clear hw
    rintro _ _ H locs ⟨rfl, rfl⟩ hw
    have hw : gW D A s.heap [oX0 h a cn ul rw, cA G (a 1) 12 ex, cA G (a 3) 8 mi, cA G (a 4) 8 si, cA G (a 5) 8 un, cA G (a 6) 8 be, cA G (a 8) 8 ka] H locs := hw
    refine g_if_gt C 21 dX0_isAllAbove_16 (by decide) (by omega) (fun c_3 => ?_) (fun c_3 => ?_)
    · skip
      refine g_iinc C [(2, .int (iI (qq + 1))), (0, .ref h), (1, .int (iI kk))] 0 dX0_isAllAbove_21 hl rfl (by decide) rfl ?_
      clear hl
      intro ls hl
      refine g_goto C 2 dX0_isAllAbove_24 (by decide) ?_
      have hw : gW D A s.heap [oX0 h a cn ul rw, cA G (a 1) 12 ex, cA G (a 3) 8 mi, cA G (a 4) 8 si, cA G (a 5) 8 un, cA G (a 6) 8 be, cA G (a 8) 8 ka] H locs := g_perm hw [0, 1, 2, 3, 4, 5, 6] (by decide) rfl
      exact ih_1 (qq + 1) ⟨by omega, by rw [allB_s hq.1, hal]; simp; omega⟩ (by omega) H locs ls hw (lv_sub hl [0, 1, 2] rfl)
    · skip
      refine g_iconst C dX0_isAllAbove_19 ?_
      exact g_zret C hr (ws' := [oX0 h a cn ul rw, cA G (a 1) 12 ex, cA G (a 3) 8 mi, cA G (a 4) 8 si, cA G (a 5) 8 un, cA G (a 6) 8 be, cA G (a 8) 8 ka]) hw [0, 1, 2, 3, 4, 5, 6] (by decide) rfl (Or.inl rfl) ⟨(congrArg iI (by rw [bI_f]; intro q9; have := allB_i q9 qq hq.1 (by omega); simp at this; omega)), rfl⟩ dX0_isAllAbove_20

set_option maxRecDepth 100000 in
set_option maxHeartbeats 8000000 in
theorem m_X0_spotsAllAbove (l : Launch) (D : va_G) (G : gT) (h : Nat) (a : Nat → Nat) (cn : Int) (ul : Int) (rw : Int) (ex : Int → Int) (mi : Int → Int) (si : Int → Int) (un : Int → Int) (be : Int → Int) (ka : Int → Int) (E : Int → Int → Int) (hE : EB E) (hnc : 0 ≤ cn ∧ cn ≤ 4) (hX : LnX E cn ex) (hZ : LnZ E cn mi si un be) (hKA : hasL ka (ALn E cn.toNat)) (hul : ul = ((ALn E cn.toNat).length : Int)) : gMi l yX0_spotsAllAbove wsX0_spotsAllAbove ({ frames := 5, cells := 0, slots := 0, locals := 139 }) D G [.ref h] [oX0 h a cn ul rw, cA G (a 1) 12 ex, cA G (a 3) 8 mi, cA G (a 4) 8 si, cA G (a 5) 8 un, cA G (a 6) 8 be, cA G (a 8) 8 ka] 0 0 (fun (r : Int32) (w : va_W) => r = (iI (cnF (fun k => allB (fun q => decide (0 < sSp E (ALn E cn.toNat) k q)) cn.toNat) (2 * (ALn E cn.toNat).length + 1))) ∧ w = [oX0 h a cn ul rw, cA G (a 1) 12 ex, cA G (a 3) 8 mi, cA G (a 4) 8 si, cA G (a 5) 8 un, cA G (a 6) 8 be, cA G (a 8) 8 ka]) := by
  refine g_start_i (cc := cX0_spotsAllAbove) (nL := 3) (own := RX0) (ret := some .int) (by decide +kernel) rfl rfl (Nat.le_of_ble_eq_true rfl) ?_
  intro p e s m below meth c A ls C hr hnm hw hl
  have hl : lv_has ls 3 [(0, .ref h)] := hl
  have hlen := ALn_len E cn.toNat
  refine g_iconst C dX0_spotsAllAbove_0 ?_
  refine g_istore_n C [(1, .int (iI 0)), (0, .ref h)] dX0_spotsAllAbove_1 rfl hl (by decide) rfl ?_
  clear hl
  intro ls hl
  refine g_iconst C dX0_spotsAllAbove_2 ?_
  refine g_istore_n C [(2, .int (iI 0)), (1, .int (iI 0)), (0, .ref h)] dX0_spotsAllAbove_3 rfl hl (by decide) rfl ?_
  clear hl
  intro ls hl
  refine g_loop (σ := (Int) × (Int)) (fun z_ => [oX0 h a cn ul rw, cA G (a 1) 12 ex, cA G (a 3) 8 mi, cA G (a 4) 8 si, cA G (a 5) 8 un, cA G (a 6) 8 be, cA G (a 8) 8 ka]) (fun z_ => [(2, .int (iI (z_.2))), (1, .int (iI (z_.1))), (0, .ref h)]) (fun z_ => (0 ≤ z_.2 ∧ z_.2 ≤ 2 * ul + 1) ∧ (z_.1 = cnF (fun k => allB (fun q => decide (0 < sSp E (ALn E cn.toNat) k q)) cn.toNat) z_.2.toNat)) (fun z_ => (2 * ul + 1 - z_.2).toNat) (0, 0) ⟨by (try dsimp only); omega, by (try dsimp only); rfl⟩ hw (lv_sub hl [0, 1, 2] rfl) ?_
  clear hw hl
  rintro ⟨mn, kk⟩ ⟨hkk, hmn⟩ H locs ls hw hl ih_1
  replace hkk : 0 ≤ kk ∧ kk ≤ 2 * ul + 1 := hkk
  replace hmn : mn = cnF (fun k => allB (fun q => decide (0 < sSp E (ALn E cn.toNat) k q)) cn.toNat) kk.toNat := hmn
  replace hw : gW D A s.heap [oX0 h a cn ul rw, cA G (a 1) 12 ex, cA G (a 3) 8 mi, cA G (a 4) 8 si, cA G (a 5) 8 un, cA G (a 6) 8 be, cA G (a 8) 8 ka] H locs := hw
  replace hl : lv_has ls 3 [(2, .int (iI kk)), (1, .int (iI mn)), (0, .ref h)] := hl
  replace ih_1 : ∀ (mn' : Int) (kk' : Int), ((0 ≤ kk' ∧ kk' ≤ 2 * ul + 1) ∧ (mn' = cnF (fun k => allB (fun q => decide (0 < sSp E (ALn E cn.toNat) k q)) cn.toNat) kk'.toNat)) → ((2 * ul + 1 - kk').toNat) < ((2 * ul + 1 - kk).toNat) → ∀ (H : Heap) (locs : List Loc) (ls : Array Slot), gW D A s.heap [oX0 h a cn ul rw, cA G (a 1) 12 ex, cA G (a 3) 8 mi, cA G (a 4) 8 si, cA G (a 5) 8 un, cA G (a 6) 8 be, cA G (a 8) 8 ka] H locs → lv_has ls 3 [(2, .int (iI (kk'))), (1, .int (iI (mn'))), (0, .ref h)] → W p l e _ s m _ below meth c H locs _ _ _ (F0 m 4 ls []) := fun mn' kk' => ih_1 (mn', kk')
  refine g_iload_n C hl 0 rfl rfl dX0_spotsAllAbove_4 ?_
  refine g_aload_n C hl 2 rfl rfl dX0_spotsAllAbove_5 ?_
  refine g_callVi C hw (wr := [cA G (a 1) 12 ex, cA G (a 3) 8 mi, cA G (a 4) 8 si, cA G (a 5) 8 un, cA G (a 6) 8 be, cA G (a 8) 8 ka]) (As := []) (rest := [.int (iI kk)]) (m_X0_spots l D G (h := h) (a := a) (cn := cn) (ul := ul) (rw := rw) ) (cwV 0 C.1.2.2.2.2 gX0_spotsAllAbove_X0_spots rfl rfl rfl (by decide +kernel) ⟨Nat.le_of_ble_eq_true rfl, Nat.le_of_ble_eq_true rfl⟩) [0] [1, 2, 3, 4, 5, 6] rfl rfl (by decide) (by decide) (by decide) 0 rfl rfl rfl hl.1 _ rfl (Nat.le_of_ble_eq_true rfl) dX0_spotsAllAbove_6 ⟨Nat.le_of_ble_eq_true rfl, Nat.le_of_ble_eq_true rfl⟩ ?_
  clear hw
  rintro _ _ H locs ⟨rfl, rfl⟩ hw
  have hw : gW D A s.heap [cA G (a 1) 12 ex, cA G (a 3) 8 mi, cA G (a 4) 8 si, cA G (a 5) 8 un, cA G (a 6) 8 be, cA G (a 8) 8 ka, oX0 h a cn ul rw] H locs := hw
  refine g_icmp_ge C 29 dX0_spotsAllAbove_9 (by decide) (by omega) (by omega) (fun c_2 => ?_) (fun c_2 => ?_)
  · skip
    refine g_iload_n C hl 1 rfl rfl dX0_spotsAllAbove_29 ?_
    exact g_iret C hr (ws' := [oX0 h a cn ul rw, cA G (a 1) 12 ex, cA G (a 3) 8 mi, cA G (a 4) 8 si, cA G (a 5) 8 un, cA G (a 6) 8 be, cA G (a 8) 8 ka]) hw [6, 0, 1, 2, 3, 4, 5] (by decide) rfl ⟨(congrArg iI (by rw [hmn, show kk.toNat = 2 * (ALn E cn.toNat).length + 1 by omega])), rfl⟩ dX0_spotsAllAbove_30
  · skip
    refine g_aload_n C hl 2 rfl rfl dX0_spotsAllAbove_12 ?_
    refine g_iload_n C hl 0 rfl rfl dX0_spotsAllAbove_13 ?_
    refine g_callVi C hw (wr := []) (As := [.int (iI kk)]) (rest := []) (m_X0_isAllAbove l D G (h := h) (a := a) (cn := cn) (ul := ul) (rw := rw) (ex := ex) (mi := mi) (si := si) (un := un) (be := be) (ka := ka) (E := E) (kk := kk) (by first | assumption | omega) (by first | assumption | omega) (by first | assumption | omega) (by first | assumption | omega) (by first | assumption | omega) (by first | assumption | omega) (by first | assumption | omega)) (cwV 1 C.1.2.2.2.2 gX0_spotsAllAbove_X0_isAllAbove rfl rfl rfl (by decide +kernel) ⟨Nat.le_of_ble_eq_true rfl, Nat.le_of_ble_eq_true rfl⟩) [6, 0, 1, 2, 3, 4, 5] [] rfl rfl (by decide) (by decide) (by decide) 0 rfl rfl rfl hl.1 _ rfl (Nat.le_of_ble_eq_true rfl) dX0_spotsAllAbove_14 ⟨Nat.le_of_ble_eq_true rfl, Nat.le_of_ble_eq_true rfl⟩ ?_
    clear hw
    rintro _ _ H locs ⟨rfl, rfl⟩ hw
    have hw : gW D A s.heap [oX0 h a cn ul rw, cA G (a 1) 12 ex, cA G (a 3) 8 mi, cA G (a 4) 8 si, cA G (a 5) 8 un, cA G (a 6) 8 be, cA G (a 8) 8 ka] H locs := hw
    refine g_ifb_eq C 23 dX0_spotsAllAbove_17 (by decide) (fun c_3 => ?_) (fun c_3 => ?_)
    · skip
      refine g_iinc C [(2, .int (iI (kk + 1))), (1, .int (iI mn)), (0, .ref h)] 0 dX0_spotsAllAbove_23 hl rfl (by decide) rfl ?_
      clear hl
      intro ls hl
      refine g_goto C 4 dX0_spotsAllAbove_26 (by decide) ?_
      have hw : gW D A s.heap [oX0 h a cn ul rw, cA G (a 1) 12 ex, cA G (a 3) 8 mi, cA G (a 4) 8 si, cA G (a 5) 8 un, cA G (a 6) 8 be, cA G (a 8) 8 ka] H locs := g_perm hw [0, 1, 2, 3, 4, 5, 6] (by decide) rfl
      exact ih_1 mn (kk + 1) ⟨by omega, by rw [cnF_s hkk.1, hmn]; first | (rw [if_pos (by assumption)]; done) | (rw [if_neg (by assumption)]; omega)⟩ (by omega) H locs ls hw (lv_sub hl [0, 1, 2] rfl)
    · skip
      refine g_iinc C [(1, .int (iI (mn + 1))), (2, .int (iI kk)), (0, .ref h)] 1 dX0_spotsAllAbove_20 hl rfl (by decide) rfl ?_
      clear hl
      intro ls hl
      refine g_iinc C [(2, .int (iI (kk + 1))), (1, .int (iI (mn + 1))), (0, .ref h)] 1 dX0_spotsAllAbove_23 hl rfl (by decide) rfl ?_
      clear hl
      intro ls hl
      refine g_goto C 4 dX0_spotsAllAbove_26 (by decide) ?_
      have hw : gW D A s.heap [oX0 h a cn ul rw, cA G (a 1) 12 ex, cA G (a 3) 8 mi, cA G (a 4) 8 si, cA G (a 5) 8 un, cA G (a 6) 8 be, cA G (a 8) 8 ka] H locs := g_perm hw [0, 1, 2, 3, 4, 5, 6] (by decide) rfl
      exact ih_1 (mn + 1) (kk + 1) ⟨by omega, by rw [cnF_s hkk.1, hmn]; first | (rw [if_pos (by assumption)]; done) | (rw [if_neg (by assumption)]; omega)⟩ (by omega) H locs ls hw (lv_sub hl [0, 1, 2] rfl)

set_option maxRecDepth 20000 in
theorem hin_X0_rootsInAll_X0 : ∀ w ∈ u_ws RX0 TX0 14, w ∈ wsX0_rootsInAll := by
  intro w h
  exact List.mem_cons_of_mem _ (List.mem_append_right _ (h))
set_option maxRecDepth 20000 in
theorem lk_X0_rootsInAll_51 : Cond.fieldLink RX0 51 (TX0 0).1 (TX0 0).2.1 (TX0 0).2.2.1 ∈ wsX0_rootsInAll := List.mem_cons_of_mem _ (List.mem_append_left _ (List.mem_of_getElem? (i := 0) rfl))
set_option maxRecDepth 20000 in
theorem lk_X0_rootsInAll_15 : Cond.fieldLink RX0 15 (TX0 2).1 (TX0 2).2.1 (TX0 2).2.2.1 ∈ wsX0_rootsInAll := List.mem_cons_of_mem _ (List.mem_append_left _ (List.mem_of_getElem? (i := 1) rfl))
set_option maxRecDepth 100000 in
set_option maxHeartbeats 8000000 in
theorem m_X0_rootsInAll (l : Launch) (D : va_G) (G : gT) (h : Nat) (a : Nat → Nat) (cn : Int) (ul : Int) (rw : Int) (rt : Int → Int) (E : Int → Int → Int) (hnc : 0 ≤ cn ∧ cn ≤ 4) (hT : LnT E cn rt) : gMi l yX0_rootsInAll wsX0_rootsInAll ({ frames := 0, cells := 0, slots := 0, locals := 0 }) D G [.ref h] [oX0 h a cn ul rw, cA G (a 2) 4 rt] 0 0 (fun (r : Int32) (w : va_W) => r = (iI (smF (fun q => nR E q) cn.toNat)) ∧ w = [oX0 h a cn ul rw, cA G (a 2) 4 rt]) := by
  refine g_start_i (cc := cX0_rootsInAll) (nL := 3) (own := RX0) (ret := some .int) (by decide +kernel) rfl rfl (Nat.le_of_ble_eq_true rfl) ?_
  intro p e s m below meth c A ls C hr hnm hw hl
  have hl : lv_has ls 3 [(0, .ref h)] := hl
  refine g_iconst C dX0_rootsInAll_0 ?_
  refine g_istore_n C [(1, .int (iI 0)), (0, .ref h)] dX0_rootsInAll_1 rfl hl (by decide) rfl ?_
  clear hl
  intro ls hl
  refine g_iconst C dX0_rootsInAll_2 ?_
  refine g_istore_n C [(2, .int (iI 0)), (1, .int (iI 0)), (0, .ref h)] dX0_rootsInAll_3 rfl hl (by decide) rfl ?_
  clear hl
  intro ls hl
  refine g_loop (σ := (Int) × (Int)) (fun z_ => [oX0 h a cn ul rw, cA G (a 2) 4 rt]) (fun z_ => [(2, .int (iI (z_.2))), (1, .int (iI (z_.1))), (0, .ref h)]) (fun z_ => (0 ≤ z_.2 ∧ z_.2 ≤ cn) ∧ (z_.1 = smF (fun q => nR E q) z_.2.toNat)) (fun z_ => (cn - z_.2).toNat) (0, 0) ⟨by (try dsimp only); omega, by (try dsimp only); rfl⟩ hw (lv_sub hl [0, 1, 2] rfl) ?_
  clear hw hl
  rintro ⟨sm, qq⟩ ⟨hq, hsm⟩ H locs ls hw hl ih_1
  replace hq : 0 ≤ qq ∧ qq ≤ cn := hq
  replace hsm : sm = smF (fun q => nR E q) qq.toNat := hsm
  replace hw : gW D A s.heap [oX0 h a cn ul rw, cA G (a 2) 4 rt] H locs := hw
  replace hl : lv_has ls 3 [(2, .int (iI qq)), (1, .int (iI sm)), (0, .ref h)] := hl
  replace ih_1 : ∀ (sm' : Int) (qq' : Int), ((0 ≤ qq' ∧ qq' ≤ cn) ∧ (sm' = smF (fun q => nR E q) qq'.toNat)) → ((cn - qq').toNat) < ((cn - qq).toNat) → ∀ (H : Heap) (locs : List Loc) (ls : Array Slot), gW D A s.heap [oX0 h a cn ul rw, cA G (a 2) 4 rt] H locs → lv_has ls 3 [(2, .int (iI (qq'))), (1, .int (iI (sm'))), (0, .ref h)] → W p l e _ s m _ below meth c H locs _ _ _ (F0 m 4 ls []) := fun sm' qq' => ih_1 (sm', qq')
  refine g_iload_n C hl 0 rfl rfl dX0_rootsInAll_4 ?_
  refine g_aload_n C hl 2 rfl rfl dX0_rootsInAll_5 ?_
  refine g_get C hw hin_X0_rootsInAll_X0 0 rfl rfl 0 (by decide) lk_X0_rootsInAll_51 rfl dX0_rootsInAll_6 ?_
  refine g_icmp_ge C 27 dX0_rootsInAll_9 (by decide) (by omega) (by omega) (fun c_2 => ?_) (fun c_2 => ?_)
  · skip
    refine g_iload_n C hl 1 rfl rfl dX0_rootsInAll_27 ?_
    exact g_iret C hr (ws' := [oX0 h a cn ul rw, cA G (a 2) 4 rt]) hw [0, 1] (by decide) rfl ⟨(congrArg iI (by rw [hsm, show qq = cn by omega])), rfl⟩ dX0_rootsInAll_28
  · skip
    refine g_iload_n C hl 1 rfl rfl dX0_rootsInAll_12 ?_
    refine g_aload_n C hl 2 rfl rfl dX0_rootsInAll_13 ?_
    refine g_get C hw hin_X0_rootsInAll_X0 0 rfl rfl 2 (by decide) lk_X0_rootsInAll_15 rfl dX0_rootsInAll_14 ?_
    refine g_iload_n C hl 0 rfl rfl dX0_rootsInAll_17 ?_
    refine g_iald C hw 1 rfl (by omega) (Nat.le_of_ble_eq_true rfl) dX0_rootsInAll_18 ?_
    refine g_iadd C dX0_rootsInAll_19 ?_
    refine g_istore_n C [(1, .int (iI (sm + (rt qq)))), (2, .int (iI qq)), (0, .ref h)] dX0_rootsInAll_20 rfl hl (by decide) rfl ?_
    clear hl
    intro ls hl
    refine g_iinc C [(2, .int (iI (qq + 1))), (1, .int (iI (sm + (rt qq)))), (0, .ref h)] 1 dX0_rootsInAll_21 hl rfl (by decide) rfl ?_
    clear hl
    intro ls hl
    refine g_goto C 4 dX0_rootsInAll_24 (by decide) ?_
    have hw : gW D A s.heap [oX0 h a cn ul rw, cA G (a 2) 4 rt] H locs := g_perm hw [0, 1] (by decide) rfl
    exact ih_1 (sm + (rt qq)) (qq + 1) ⟨by omega, by rw [smF_s hq.1, hsm, hT qq hq.1 (by omega)]⟩ (by omega) H locs ls hw (lv_sub hl [0, 1, 2] rfl)

set_option maxRecDepth 20000 in
theorem hin_X0_rootless_X0 : ∀ w ∈ u_ws RX0 TX0 14, w ∈ wsX0_rootless := by
  intro w h
  exact List.mem_cons_of_mem _ (List.mem_append_right _ (h))
set_option maxRecDepth 20000 in
theorem lk_X0_rootless_51 : Cond.fieldLink RX0 51 (TX0 0).1 (TX0 0).2.1 (TX0 0).2.2.1 ∈ wsX0_rootless := List.mem_cons_of_mem _ (List.mem_append_left _ (List.mem_of_getElem? (i := 0) rfl))
set_option maxRecDepth 20000 in
theorem lk_X0_rootless_15 : Cond.fieldLink RX0 15 (TX0 2).1 (TX0 2).2.1 (TX0 2).2.2.1 ∈ wsX0_rootless := List.mem_cons_of_mem _ (List.mem_append_left _ (List.mem_of_getElem? (i := 1) rfl))
set_option maxRecDepth 100000 in
set_option maxHeartbeats 8000000 in
theorem m_X0_rootless (l : Launch) (D : va_G) (G : gT) (h : Nat) (a : Nat → Nat) (cn : Int) (ul : Int) (rw : Int) (rt : Int → Int) (E : Int → Int → Int) (hnc : 0 ≤ cn ∧ cn ≤ 4) (hT : LnT E cn rt) : gMi l yX0_rootless wsX0_rootless ({ frames := 0, cells := 0, slots := 0, locals := 0 }) D G [.ref h] [oX0 h a cn ul rw, cA G (a 2) 4 rt] 0 0 (fun (r : Int32) (w : va_W) => r = (iI (cnF (fun q => nR E q == 0) cn.toNat)) ∧ w = [oX0 h a cn ul rw, cA G (a 2) 4 rt]) := by
  refine g_start_i (cc := cX0_rootless) (nL := 3) (own := RX0) (ret := some .int) (by decide +kernel) rfl rfl (Nat.le_of_ble_eq_true rfl) ?_
  intro p e s m below meth c A ls C hr hnm hw hl
  have hl : lv_has ls 3 [(0, .ref h)] := hl
  refine g_iconst C dX0_rootless_0 ?_
  refine g_istore_n C [(1, .int (iI 0)), (0, .ref h)] dX0_rootless_1 rfl hl (by decide) rfl ?_
  clear hl
  intro ls hl
  refine g_iconst C dX0_rootless_2 ?_
  refine g_istore_n C [(2, .int (iI 0)), (1, .int (iI 0)), (0, .ref h)] dX0_rootless_3 rfl hl (by decide) rfl ?_
  clear hl
  intro ls hl
  refine g_loop (σ := (Int) × (Int)) (fun z_ => [oX0 h a cn ul rw, cA G (a 2) 4 rt]) (fun z_ => [(2, .int (iI (z_.2))), (1, .int (iI (z_.1))), (0, .ref h)]) (fun z_ => (0 ≤ z_.2 ∧ z_.2 ≤ cn) ∧ (z_.1 = cnF (fun q => nR E q == 0) z_.2.toNat)) (fun z_ => (cn - z_.2).toNat) (0, 0) ⟨by (try dsimp only); omega, by (try dsimp only); rfl⟩ hw (lv_sub hl [0, 1, 2] rfl) ?_
  clear hw hl
  rintro ⟨mn, qq⟩ ⟨hq, hmn⟩ H locs ls hw hl ih_1
  replace hq : 0 ≤ qq ∧ qq ≤ cn := hq
  replace hmn : mn = cnF (fun q => nR E q == 0) qq.toNat := hmn
  replace hw : gW D A s.heap [oX0 h a cn ul rw, cA G (a 2) 4 rt] H locs := hw
  replace hl : lv_has ls 3 [(2, .int (iI qq)), (1, .int (iI mn)), (0, .ref h)] := hl
  replace ih_1 : ∀ (mn' : Int) (qq' : Int), ((0 ≤ qq' ∧ qq' ≤ cn) ∧ (mn' = cnF (fun q => nR E q == 0) qq'.toNat)) → ((cn - qq').toNat) < ((cn - qq).toNat) → ∀ (H : Heap) (locs : List Loc) (ls : Array Slot), gW D A s.heap [oX0 h a cn ul rw, cA G (a 2) 4 rt] H locs → lv_has ls 3 [(2, .int (iI (qq'))), (1, .int (iI (mn'))), (0, .ref h)] → W p l e _ s m _ below meth c H locs _ _ _ (F0 m 4 ls []) := fun mn' qq' => ih_1 (mn', qq')
  have hnr := nR_r E qq
  have ht9 := hT qq hq.1
  refine g_iload_n C hl 0 rfl rfl dX0_rootless_4 ?_
  refine g_aload_n C hl 2 rfl rfl dX0_rootless_5 ?_
  refine g_get C hw hin_X0_rootless_X0 0 rfl rfl 0 (by decide) lk_X0_rootless_51 rfl dX0_rootless_6 ?_
  refine g_icmp_ge C 30 dX0_rootless_9 (by decide) (by omega) (by omega) (fun c_2 => ?_) (fun c_2 => ?_)
  · skip
    refine g_iload_n C hl 1 rfl rfl dX0_rootless_30 ?_
    exact g_iret C hr (ws' := [oX0 h a cn ul rw, cA G (a 2) 4 rt]) hw [0, 1] (by decide) rfl ⟨(congrArg iI (by rw [hmn, show qq = cn by omega])), rfl⟩ dX0_rootless_31
  · skip
    refine g_aload_n C hl 2 rfl rfl dX0_rootless_12 ?_
    refine g_get C hw hin_X0_rootless_X0 0 rfl rfl 2 (by decide) lk_X0_rootless_15 rfl dX0_rootless_13 ?_
    refine g_iload_n C hl 0 rfl rfl dX0_rootless_16 ?_
    refine g_iald C hw 1 rfl (by omega) (Nat.le_of_ble_eq_true rfl) dX0_rootless_17 ?_
    refine g_if_ne C 24 dX0_rootless_18 (by decide) (by have ht8 := ht9 (by omega); omega) (fun c_3 => ?_) (fun c_3 => ?_)
    · skip
      refine g_iinc C [(2, .int (iI (qq + 1))), (1, .int (iI mn)), (0, .ref h)] 0 dX0_rootless_24 hl rfl (by decide) rfl ?_
      clear hl
      intro ls hl
      refine g_goto C 4 dX0_rootless_27 (by decide) ?_
      have hw : gW D A s.heap [oX0 h a cn ul rw, cA G (a 2) 4 rt] H locs := g_perm hw [0, 1] (by decide) rfl
      exact ih_1 mn (qq + 1) ⟨by omega, by have ht8 := ht9 (by omega); rw [cnF_s hq.1, hmn]; first | (rw [if_pos (by simp; omega)]; done) | (rw [if_neg (by simp; omega)]; omega)⟩ (by omega) H locs ls hw (lv_sub hl [0, 1, 2] rfl)
    · skip
      refine g_iinc C [(1, .int (iI (mn + 1))), (2, .int (iI qq)), (0, .ref h)] 1 dX0_rootless_21 hl rfl (by decide) rfl ?_
      clear hl
      intro ls hl
      refine g_iinc C [(2, .int (iI (qq + 1))), (1, .int (iI (mn + 1))), (0, .ref h)] 1 dX0_rootless_24 hl rfl (by decide) rfl ?_
      clear hl
      intro ls hl
      refine g_goto C 4 dX0_rootless_27 (by decide) ?_
      have hw : gW D A s.heap [oX0 h a cn ul rw, cA G (a 2) 4 rt] H locs := g_perm hw [0, 1] (by decide) rfl
      exact ih_1 (mn + 1) (qq + 1) ⟨by omega, by have ht8 := ht9 (by omega); rw [cnF_s hq.1, hmn]; first | (rw [if_pos (by simp; omega)]; done) | (rw [if_neg (by simp; omega)]; omega)⟩ (by omega) H locs ls hw (lv_sub hl [0, 1, 2] rfl)

set_option maxRecDepth 20000 in
theorem hin_X0_zeroes_X0 : ∀ w ∈ u_ws RX0 TX0 14, w ∈ wsX0_zeroes := by
  intro w h
  exact List.mem_cons_of_mem _ (List.mem_append_right _ (h))
set_option maxRecDepth 20000 in
theorem lk_X0_zeroes_51 : Cond.fieldLink RX0 51 (TX0 0).1 (TX0 0).2.1 (TX0 0).2.2.1 ∈ wsX0_zeroes := List.mem_cons_of_mem _ (List.mem_append_left _ (List.mem_of_getElem? (i := 0) rfl))
set_option maxRecDepth 20000 in
theorem lk_X0_zeroes_9 : Cond.fieldLink RX0 9 (TX0 1).1 (TX0 1).2.1 (TX0 1).2.2.1 ∈ wsX0_zeroes := List.mem_cons_of_mem _ (List.mem_append_left _ (List.mem_of_getElem? (i := 1) rfl))
set_option maxRecDepth 100000 in
set_option maxHeartbeats 8000000 in
theorem m_X0_zeroes (l : Launch) (D : va_G) (G : gT) (h : Nat) (a : Nat → Nat) (cn : Int) (ul : Int) (rw : Int) (ex : Int → Int) (E : Int → Int → Int) (hE : EB E) (hnc : 0 ≤ cn ∧ cn ≤ 4) (hX : LnX E cn ex) : gMi l yX0_zeroes wsX0_zeroes ({ frames := 0, cells := 0, slots := 0, locals := 0 }) D G [.ref h] [oX0 h a cn ul rw, cA G (a 1) 12 ex] 0 0 (fun (r : Int32) (w : va_W) => r = (iI (cnF (noB E) cn.toNat)) ∧ w = [oX0 h a cn ul rw, cA G (a 1) 12 ex]) := by
  refine g_start_i (cc := cX0_zeroes) (nL := 4) (own := RX0) (ret := some .int) (by decide +kernel) rfl rfl (Nat.le_of_ble_eq_true rfl) ?_
  intro p e s m below meth c A ls C hr hnm hw hl
  have hl : lv_has ls 4 [(0, .ref h)] := hl
  refine g_iconst C dX0_zeroes_0 ?_
  refine g_istore_n C [(1, .int (iI 0)), (0, .ref h)] dX0_zeroes_1 rfl hl (by decide) rfl ?_
  clear hl
  intro ls hl
  refine g_iconst C dX0_zeroes_2 ?_
  refine g_istore_n C [(2, .int (iI 0)), (1, .int (iI 0)), (0, .ref h)] dX0_zeroes_3 rfl hl (by decide) rfl ?_
  clear hl
  intro ls hl
  refine g_loop (σ := (Int) × (Int)) (fun z_ => [oX0 h a cn ul rw, cA G (a 1) 12 ex]) (fun z_ => [(2, .int (iI (z_.2))), (1, .int (iI (z_.1))), (0, .ref h)]) (fun z_ => (0 ≤ z_.2 ∧ z_.2 ≤ cn) ∧ (z_.1 = cnF (noB E) z_.2.toNat)) (fun z_ => (cn - z_.2).toNat) (0, 0) ⟨by (try dsimp only); omega, by (try dsimp only); rfl⟩ hw (lv_sub hl [0, 1, 2] rfl) ?_
  clear hw hl
  rintro ⟨mn, qq⟩ ⟨hq, hmn⟩ H locs ls hw hl ih_1
  replace hq : 0 ≤ qq ∧ qq ≤ cn := hq
  replace hmn : mn = cnF (noB E) qq.toNat := hmn
  replace hw : gW D A s.heap [oX0 h a cn ul rw, cA G (a 1) 12 ex] H locs := hw
  replace hl : lv_has ls 4 [(2, .int (iI qq)), (1, .int (iI mn)), (0, .ref h)] := hl
  replace ih_1 : ∀ (mn' : Int) (qq' : Int), ((0 ≤ qq' ∧ qq' ≤ cn) ∧ (mn' = cnF (noB E) qq'.toNat)) → ((cn - qq').toNat) < ((cn - qq).toNat) → ∀ (H : Heap) (locs : List Loc) (ls : Array Slot), gW D A s.heap [oX0 h a cn ul rw, cA G (a 1) 12 ex] H locs → lv_has ls 4 [(2, .int (iI (qq'))), (1, .int (iI (mn'))), (0, .ref h)] → W p l e _ s m _ below meth c H locs _ _ _ (F0 m 4 ls []) := fun mn' qq' => ih_1 (mn', qq')
  obtain ⟨e0, e1, e2⟩ := hE qq
  refine g_iload_n C hl 0 rfl rfl dX0_zeroes_4 ?_
  refine g_aload_n C hl 2 rfl rfl dX0_zeroes_5 ?_
  refine g_get C hw hin_X0_zeroes_X0 0 rfl rfl 0 (by decide) lk_X0_zeroes_51 rfl dX0_zeroes_6 ?_
  refine g_icmp_ge C 56 dX0_zeroes_9 (by decide) (by omega) (by omega) (fun c_2 => ?_) (fun c_2 => ?_)
  · skip
    refine g_iload_n C hl 1 rfl rfl dX0_zeroes_56 ?_
    exact g_iret C hr (ws' := [oX0 h a cn ul rw, cA G (a 1) 12 ex]) hw [0, 1] (by decide) rfl ⟨(congrArg iI (by rw [hmn, show qq = cn by omega])), rfl⟩ dX0_zeroes_57
  · skip
    obtain ⟨x0, x1, x2⟩ := hX qq hq.1 (by omega)
    refine g_iload_n C hl 0 rfl rfl dX0_zeroes_12 ?_
    refine g_iconst C dX0_zeroes_13 ?_
    refine g_imul C dX0_zeroes_14 ?_
    refine g_istore_n C [(3, .int (iI (qq * 3))), (2, .int (iI qq)), (1, .int (iI mn)), (0, .ref h)] dX0_zeroes_15 rfl hl (by decide) rfl ?_
    clear hl
    intro ls hl
    refine g_aload_n C hl 3 rfl rfl dX0_zeroes_16 ?_
    refine g_get C hw hin_X0_zeroes_X0 0 rfl rfl 1 (by decide) lk_X0_zeroes_9 rfl dX0_zeroes_17 ?_
    refine g_iload_n C hl 0 rfl rfl dX0_zeroes_20 ?_
    refine g_iald C hw 1 rfl (by omega) (Nat.le_of_ble_eq_true rfl) dX0_zeroes_21 ?_
    refine g_if_ne C 50 dX0_zeroes_22 (by decide) (by omega) (fun c_3 => ?_) (fun c_3 => ?_)
    · skip
      refine g_iinc C [(2, .int (iI (qq + 1))), (3, .int (iI (qq * 3))), (1, .int (iI mn)), (0, .ref h)] 1 dX0_zeroes_50 hl rfl (by decide) rfl ?_
      clear hl
      intro ls hl
      refine g_goto C 4 dX0_zeroes_53 (by decide) ?_
      have hw : gW D A s.heap [oX0 h a cn ul rw, cA G (a 1) 12 ex] H locs := g_perm hw [0, 1] (by decide) rfl
      exact ih_1 mn (qq + 1) ⟨by omega, by rw [cnF_s hq.1, hmn]; first | (rw [if_pos (noB_t (by omega))]; done) | (rw [if_neg (noB_f (by omega))]; omega)⟩ (by omega) H locs ls hw (lv_sub hl [0, 2, 3] rfl)
    · skip
      refine g_aload_n C hl 3 rfl rfl dX0_zeroes_25 ?_
      refine g_get C hw hin_X0_zeroes_X0 0 rfl rfl 1 (by decide) lk_X0_zeroes_9 rfl dX0_zeroes_26 ?_
      refine g_iload_n C hl 0 rfl rfl dX0_zeroes_29 ?_
      refine g_iconst C dX0_zeroes_30 ?_
      refine g_iadd C dX0_zeroes_31 ?_
      refine g_iald C hw 1 rfl (by omega) (Nat.le_of_ble_eq_true rfl) dX0_zeroes_32 ?_
      refine g_if_ne C 50 dX0_zeroes_33 (by decide) (by omega) (fun c_4 => ?_) (fun c_4 => ?_)
      · skip
        refine g_iinc C [(2, .int (iI (qq + 1))), (3, .int (iI (qq * 3))), (1, .int (iI mn)), (0, .ref h)] 1 dX0_zeroes_50 hl rfl (by decide) rfl ?_
        clear hl
        intro ls hl
        refine g_goto C 4 dX0_zeroes_53 (by decide) ?_
        have hw : gW D A s.heap [oX0 h a cn ul rw, cA G (a 1) 12 ex] H locs := g_perm hw [0, 1] (by decide) rfl
        exact ih_1 mn (qq + 1) ⟨by omega, by rw [cnF_s hq.1, hmn]; first | (rw [if_pos (noB_t (by omega))]; done) | (rw [if_neg (noB_f (by omega))]; omega)⟩ (by omega) H locs ls hw (lv_sub hl [0, 2, 3] rfl)
      · skip
        refine g_aload_n C hl 3 rfl rfl dX0_zeroes_36 ?_
        refine g_get C hw hin_X0_zeroes_X0 0 rfl rfl 1 (by decide) lk_X0_zeroes_9 rfl dX0_zeroes_37 ?_
        refine g_iload_n C hl 0 rfl rfl dX0_zeroes_40 ?_
        refine g_iconst C dX0_zeroes_41 ?_
        refine g_iadd C dX0_zeroes_42 ?_
        refine g_iald C hw 1 rfl (by omega) (Nat.le_of_ble_eq_true rfl) dX0_zeroes_43 ?_
        refine g_if_ne C 50 dX0_zeroes_44 (by decide) (by omega) (fun c_5 => ?_) (fun c_5 => ?_)
        · skip
          refine g_iinc C [(2, .int (iI (qq + 1))), (3, .int (iI (qq * 3))), (1, .int (iI mn)), (0, .ref h)] 1 dX0_zeroes_50 hl rfl (by decide) rfl ?_
          clear hl
          intro ls hl
          refine g_goto C 4 dX0_zeroes_53 (by decide) ?_
          have hw : gW D A s.heap [oX0 h a cn ul rw, cA G (a 1) 12 ex] H locs := g_perm hw [0, 1] (by decide) rfl
          exact ih_1 mn (qq + 1) ⟨by omega, by rw [cnF_s hq.1, hmn]; first | (rw [if_pos (noB_t (by omega))]; done) | (rw [if_neg (noB_f (by omega))]; omega)⟩ (by omega) H locs ls hw (lv_sub hl [0, 2, 3] rfl)
        · skip
          refine g_iinc C [(1, .int (iI (mn + 1))), (3, .int (iI (qq * 3))), (2, .int (iI qq)), (0, .ref h)] 2 dX0_zeroes_47 hl rfl (by decide) rfl ?_
          clear hl
          intro ls hl
          refine g_iinc C [(2, .int (iI (qq + 1))), (1, .int (iI (mn + 1))), (3, .int (iI (qq * 3))), (0, .ref h)] 2 dX0_zeroes_50 hl rfl (by decide) rfl ?_
          clear hl
          intro ls hl
          refine g_goto C 4 dX0_zeroes_53 (by decide) ?_
          have hw : gW D A s.heap [oX0 h a cn ul rw, cA G (a 1) 12 ex] H locs := g_perm hw [0, 1] (by decide) rfl
          exact ih_1 (mn + 1) (qq + 1) ⟨by omega, by rw [cnF_s hq.1, hmn]; first | (rw [if_pos (noB_t (by omega))]; done) | (rw [if_neg (noB_f (by omega))]; omega)⟩ (by omega) H locs ls hw (lv_sub hl [0, 1, 3] rfl)
