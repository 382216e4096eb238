set_option maxRecDepth 20000 in
theorem hin_X5_isPolynomial_X5 : ∀ w ∈ u_ws RX5 TX5 9, w ∈ wsX5_isPolynomial := by
  intro w h
  exact List.mem_cons_of_mem _ (List.mem_append_left _ (List.mem_append_right _ (h)))
set_option maxRecDepth 20000 in
theorem lk_X5_isPolynomial_20 : Cond.fieldLink RX5 20 (TX5 1).1 (TX5 1).2.1 (TX5 1).2.2.1 ∈ wsX5_isPolynomial := List.mem_cons_of_mem _ (List.mem_append_left _ (List.mem_append_left _ (List.mem_of_getElem? (i := 0) rfl)))
set_option maxRecDepth 20000 in
theorem hin_X5_isPolynomial_X4 : ∀ w ∈ u_ws RX4 TX4 3, w ∈ wsX5_isPolynomial := by
  intro w h
  exact List.mem_cons_of_mem _ (List.mem_append_right _ (h))
set_option maxRecDepth 20000 in
theorem lk_X5_isPolynomial_92 : Cond.fieldLink RX5 92 (TX4 0).1 (TX4 0).2.1 (TX4 0).2.2.1 ∈ wsX5_isPolynomial := List.mem_cons_of_mem _ (List.mem_append_left _ (List.mem_append_left _ (List.mem_of_getElem? (i := 1) rfl)))
set_option maxRecDepth 100000 in
set_option maxHeartbeats 8000000 in
theorem m_X5_isPolynomial (l : Launch) (D : va_G) (G : gT) (h : Nat) (a : Nat → Nat) (tr : Int) (lf : Int) (ta : Nat → Nat) (cn : Int) (pp : Int) (hcn : 0 ≤ cn ∧ cn ≤ 4) (hp : -2147483648 ≤ pp ∧ pp ≤ 2147483647) : gMi l yX5_isPolynomial wsX5_isPolynomial ({ frames := 1, cells := 0, slots := 0, locals := 21 }) D G [.ref h, .int (iI pp)] [oX5 h a tr lf, oX4 (a 1) ta cn] 0 0 (fun (r : Int32) (w : va_W) => r = (iI (bI (0 ≤ pp ∧ pp < cn))) ∧ w = [oX5 h a tr lf, oX4 (a 1) ta cn]) := by
  refine g_start_i (cc := cX5_isPolynomial) (nL := 2) (own := RX5) (ret := some .boolean) (by decide +kernel) rfl rfl (Nat.le_of_ble_eq_true rfl) ?_
  intro p e s m below meth c A ls C hr hnm hw hl
  have hl : lv_has ls 2 [(0, .ref h), (1, .int (iI pp))] := hl
  refine g_iload_n C hl 1 rfl rfl dX5_isPolynomial_0 ?_
  refine g_aload_n C hl 0 rfl rfl dX5_isPolynomial_1 ?_
  refine g_get C hw hin_X5_isPolynomial_X5 0 rfl rfl 1 (by decide) lk_X5_isPolynomial_20 rfl dX5_isPolynomial_2 ?_
  refine g_get C hw hin_X5_isPolynomial_X4 1 rfl rfl 0 (by decide) lk_X5_isPolynomial_92 rfl dX5_isPolynomial_5 ?_
  refine g_callSi C hw (wr := [oX5 h a tr lf, oX4 (a 1) ta cn]) (As := [.int (iI pp), .int (iI cn)]) (rest := []) (m_X5_isBelow l D G (na := pp) (nb := cn) (by first | assumption | omega) (by first | assumption | omega)) (va_cwS 2 C.1.2.2.2.2 gX5_isPolynomial_X5_isBelow rfl rfl rfl (by decide +kernel) ⟨Nat.le_of_ble_eq_true rfl, Nat.le_of_ble_eq_true rfl⟩) [] [0, 1] rfl rfl (by decide) (by decide) (by decide) rfl hl.1 _ rfl (Nat.le_of_ble_eq_true rfl) dX5_isPolynomial_8 ⟨Nat.le_of_ble_eq_true rfl, Nat.le_of_ble_eq_true rfl⟩ ?_
  clear hw
  rintro _ _ H locs ⟨rfl, rfl⟩ hw
  have hw : gW D A s.heap [oX5 h a tr lf, oX4 (a 1) ta cn] H locs := hw
  exact g_zret C hr (ws' := [oX5 h a tr lf, oX4 (a 1) ta cn]) hw [0, 1] (by decide) rfl (bI_z _) ⟨rfl, rfl⟩ dX5_isPolynomial_11

set_option maxRecDepth 20000 in
theorem hin_X5_isRoot_X5 : ∀ w ∈ u_ws RX5 TX5 9, w ∈ wsX5_isRoot := by
  intro w h
  exact List.mem_cons_of_mem _ (List.mem_append_left _ (List.mem_append_left _ (List.mem_append_right _ (h))))
set_option maxRecDepth 20000 in
theorem lk_X5_isRoot_27 : Cond.fieldLink RX5 27 (TX5 2).1 (TX5 2).2.1 (TX5 2).2.2.1 ∈ wsX5_isRoot := List.mem_cons_of_mem _ (List.mem_append_left _ (List.mem_append_left _ (List.mem_append_left _ (List.mem_of_getElem? (i := 0) rfl))))
set_option maxRecDepth 20000 in
theorem hin_X5_isRoot_X0 : ∀ w ∈ u_ws RX0 TX0 14, w ∈ wsX5_isRoot := by
  intro w h
  exact List.mem_cons_of_mem _ (List.mem_append_left _ (List.mem_append_right _ (h)))
set_option maxRecDepth 20000 in
theorem lk_X5_isRoot_99 : Cond.fieldLink RX5 99 (TX0 2).1 (TX0 2).2.1 (TX0 2).2.2.1 ∈ wsX5_isRoot := List.mem_cons_of_mem _ (List.mem_append_left _ (List.mem_append_left _ (List.mem_append_left _ (List.mem_of_getElem? (i := 1) rfl))))
set_option maxRecDepth 100000 in
set_option maxHeartbeats 8000000 in
theorem m_X5_isRoot (l : Launch) (D : va_G) (G : gT) (h : Nat) (a : Nat → Nat) (tr : Int) (lf : Int) (ta : Nat → Nat) (cn : Int) (la : Nat → Nat) (ul : Int) (rw : Int) (rt : Int → Int) (E : Int → Int → Int) (pp : Int) (ii : Int) (hcn : 0 ≤ cn ∧ cn ≤ 4) (hT : LnT E cn rt) (hp : -2147483648 ≤ pp ∧ pp ≤ 2147483647) (hi : -2147483648 ≤ ii ∧ ii ≤ 2147483647) : gMi l yX5_isRoot wsX5_isRoot ({ frames := 2, cells := 0, slots := 0, locals := 42 }) D G [.ref h, .int (iI pp), .int (iI ii)] [oX5 h a tr lf, oX4 (a 1) ta cn, oX0 (a 2) la cn ul rw, cA G (la 2) 4 rt] 0 0 (fun (r : Int32) (w : va_W) => r = (iI (bI ((0 ≤ pp ∧ pp < cn) ∧ 0 ≤ ii ∧ ii < nR E pp))) ∧ w = [oX5 h a tr lf, oX4 (a 1) ta cn, oX0 (a 2) la cn ul rw, cA G (la 2) 4 rt]) := by
  refine g_start_i (cc := cX5_isRoot) (nL := 3) (own := RX5) (ret := some .boolean) (by decide +kernel) rfl rfl (Nat.le_of_ble_eq_true rfl) ?_
  intro p e s m below meth c A ls C hr hnm hw hl
  have hl : lv_has ls 3 [(0, .ref h), (1, .int (iI pp)), (2, .int (iI ii))] := hl
  have hnr := nR_r E pp
  refine g_aload_n C hl 0 rfl rfl dX5_isRoot_0 ?_
  refine g_iload_n C hl 1 rfl rfl dX5_isRoot_1 ?_
  refine g_callVi C hw (wr := [oX0 (a 2) la cn ul rw, cA G (la 2) 4 rt]) (As := [.int (iI pp)]) (rest := []) (m_X5_isPolynomial l D G (h := h) (a := a) (tr := tr) (lf := lf) (ta := ta) (cn := cn) (pp := pp) (by first | assumption | omega) (by first | assumption | omega)) (cwV 1 C.1.2.2.2.2 gX5_isRoot_X5_isPolynomial rfl rfl rfl (by decide +kernel) ⟨Nat.le_of_ble_eq_true rfl, Nat.le_of_ble_eq_true rfl⟩) [0, 1] [2, 3] rfl rfl (by decide) (by decide) (by decide) 0 rfl rfl rfl hl.1 _ rfl (Nat.le_of_ble_eq_true rfl) dX5_isRoot_2 ⟨Nat.le_of_ble_eq_true rfl, Nat.le_of_ble_eq_true rfl⟩ ?_
  clear hw
  rintro _ _ H locs ⟨rfl, rfl⟩ hw
  have hw : gW D A s.heap [oX0 (a 2) la cn ul rw, cA G (la 2) 4 rt, oX5 h a tr lf, oX4 (a 1) ta cn] H locs := hw
  refine g_ifb_eq C 28 dX5_isRoot_5 (by decide) (fun c_1 => ?_) (fun c_1 => ?_)
  · skip
    refine g_iconst C dX5_isRoot_28 ?_
    exact g_zret C hr (ws' := [oX5 h a tr lf, oX4 (a 1) ta cn, oX0 (a 2) la cn ul rw, cA G (la 2) 4 rt]) hw [2, 3, 0, 1] (by decide) rfl (Or.inl rfl) ⟨(congrArg iI (by simp only [bI]; (repeat' split) <;> omega)), rfl⟩ dX5_isRoot_29
  · skip
    have ht9 := hT pp (by omega) (by omega)
    refine g_iload_n C hl 2 rfl rfl dX5_isRoot_8 ?_
    refine g_aload_n C hl 0 rfl rfl dX5_isRoot_9 ?_
    refine g_get C hw hin_X5_isRoot_X5 2 rfl rfl 2 (by decide) lk_X5_isRoot_27 rfl dX5_isRoot_10 ?_
    refine g_get C hw hin_X5_isRoot_X0 0 rfl rfl 2 (by decide) lk_X5_isRoot_99 rfl dX5_isRoot_13 ?_
    refine g_iload_n C hl 1 rfl rfl dX5_isRoot_16 ?_
    refine g_iald C hw 1 rfl (by omega) (Nat.le_of_ble_eq_true rfl) dX5_isRoot_17 ?_
    refine g_callSi C hw (wr := [oX0 (a 2) la cn ul rw, cA G (la 2) 4 rt, oX5 h a tr lf, oX4 (a 1) ta cn]) (As := [.int (iI ii), .int (iI (rt pp))]) (rest := []) (m_X5_isBelow l D G (na := ii) (nb := (rt pp)) (by first | assumption | omega) (by first | assumption | omega)) (va_cwS 2 C.1.2.2.2.2 gX5_isRoot_X5_isBelow rfl rfl rfl (by decide +kernel) ⟨Nat.le_of_ble_eq_true rfl, Nat.le_of_ble_eq_true rfl⟩) [] [0, 1, 2, 3] rfl rfl (by decide) (by decide) (by decide) rfl hl.1 _ rfl (Nat.le_of_ble_eq_true rfl) dX5_isRoot_18 ⟨Nat.le_of_ble_eq_true rfl, Nat.le_of_ble_eq_true rfl⟩ ?_
    clear hw
    rintro _ _ H locs ⟨rfl, rfl⟩ hw
    have hw : gW D A s.heap [oX0 (a 2) la cn ul rw, cA G (la 2) 4 rt, oX5 h a tr lf, oX4 (a 1) ta cn] H locs := hw
    refine g_ifb_eq C 28 dX5_isRoot_21 (by decide) (fun c_2 => ?_) (fun c_2 => ?_)
    · skip
      refine g_iconst C dX5_isRoot_28 ?_
      exact g_zret C hr (ws' := [oX5 h a tr lf, oX4 (a 1) ta cn, oX0 (a 2) la cn ul rw, cA G (la 2) 4 rt]) hw [2, 3, 0, 1] (by decide) rfl (Or.inl rfl) ⟨(congrArg iI (by simp only [bI]; (repeat' split) <;> omega)), rfl⟩ dX5_isRoot_29
    · skip
      refine g_iconst C dX5_isRoot_24 ?_
      refine g_goto C 29 dX5_isRoot_25 (by decide) ?_
      exact g_zret C hr (ws' := [oX5 h a tr lf, oX4 (a 1) ta cn, oX0 (a 2) la cn ul rw, cA G (la 2) 4 rt]) hw [2, 3, 0, 1] (by decide) rfl (Or.inr rfl) ⟨(congrArg iI (by simp only [bI]; (repeat' split) <;> omega)), rfl⟩ dX5_isRoot_29

set_option maxRecDepth 20000 in
theorem hin_X5_failed_X5 : ∀ w ∈ u_ws RX5 TX5 9, w ∈ wsX5_failed := by
  intro w h
  exact List.mem_cons_of_mem _ (List.mem_append_right _ (h))
set_option maxRecDepth 20000 in
theorem lk_X5_failed_51 : Cond.fieldLink RX5 51 (TX5 8).1 (TX5 8).2.1 (TX5 8).2.2.1 ∈ wsX5_failed := List.mem_cons_of_mem _ (List.mem_append_left _ (List.mem_of_getElem? (i := 0) rfl))
set_option maxRecDepth 100000 in
set_option maxHeartbeats 8000000 in
theorem m_X5_failed (l : Launch) (D : va_G) (G : gT) (h : Nat) (a : Nat → Nat) (tr : Int) (lf : Int) (fv : Int)  : gMi l yX5_failed wsX5_failed ({ frames := 0, cells := 0, slots := 0, locals := 0 }) D G [.ref h, .int (iI fv)] [oX5 h a tr lf] 0 0 (fun (r : Int32) (w : va_W) => r = (iI ((-10) - fv)) ∧ w = [oX5 h a tr fv]) := by
  refine g_start_i (cc := cX5_failed) (nL := 2) (own := RX5) (ret := some .int) (by decide +kernel) rfl rfl (Nat.le_of_ble_eq_true rfl) ?_
  intro p e s m below meth c A ls C hr hnm hw hl
  have hl : lv_has ls 2 [(0, .ref h), (1, .int (iI fv))] := hl
  refine g_aload_n C hl 0 rfl rfl dX5_failed_0 ?_
  refine g_iload_n C hl 1 rfl rfl dX5_failed_1 ?_
  refine g_put C hw [oX5 h a tr fv] hin_X5_failed_X5 tyX5 tyX5_ok nmX5 0 rfl rfl 8 (by decide) lk_X5_failed_51 rfl rfl rfl rfl (Nat.le_of_ble_eq_true rfl) rfl dX5_failed_2 ?_
  clear hw
  intro H locs hw
  refine g_bipush C dX5_failed_5 (by decide) ?_
  refine g_iload_n C hl 1 rfl rfl dX5_failed_7 ?_
  refine g_isub C dX5_failed_8 ?_
  exact g_iret C hr (ws' := [oX5 h a tr fv]) hw [0] (by decide) rfl ⟨rfl, rfl⟩ dX5_failed_9

set_option maxRecDepth 20000 in
theorem hin_X5_leaveInTrace_X5 : ∀ w ∈ u_ws RX5 TX5 9, w ∈ wsX5_leaveInTrace := by
  intro w h
  exact List.mem_cons_of_mem _ (List.mem_append_right _ (h))
set_option maxRecDepth 20000 in
theorem lk_X5_leaveInTrace_222 : Cond.fieldLink RX5 222 (TX5 7).1 (TX5 7).2.1 (TX5 7).2.2.1 ∈ wsX5_leaveInTrace := List.mem_cons_of_mem _ (List.mem_append_left _ (List.mem_of_getElem? (i := 0) rfl))
set_option maxRecDepth 100000 in
set_option maxHeartbeats 8000000 in
theorem m_X5_leaveInTrace (l : Launch) (D : va_G) (G : gT) (h : Nat) (a : Nat → Nat) (tr : Int) (lf : Int) (nn : Int)  : gMv l yX5_leaveInTrace wsX5_leaveInTrace ({ frames := 0, cells := 0, slots := 0, locals := 0 }) D G [.ref h, .int (iI nn)] [oX5 h a tr lf] 0 0 (fun (w : va_W) => w = [oX5 h a (31 * tr + nn) lf]) := by
  refine g_start_v (cc := cX5_leaveInTrace) (nL := 2) (own := RX5) (ret := none) (by decide +kernel) rfl rfl (Nat.le_of_ble_eq_true rfl) ?_
  intro p e s m below meth c A ls C hr hnm hw hl
  have hl : lv_has ls 2 [(0, .ref h), (1, .int (iI nn))] := hl
  refine g_aload_n C hl 0 rfl rfl dX5_leaveInTrace_0 ?_
  refine g_bipush C dX5_leaveInTrace_1 (by decide) ?_
  refine g_aload_n C hl 0 rfl rfl dX5_leaveInTrace_3 ?_
  refine g_get C hw hin_X5_leaveInTrace_X5 0 rfl rfl 7 (by decide) lk_X5_leaveInTrace_222 rfl dX5_leaveInTrace_4 ?_
  refine g_imul C dX5_leaveInTrace_7 ?_
  refine g_iload_n C hl 1 rfl rfl dX5_leaveInTrace_8 ?_
  refine g_iadd C dX5_leaveInTrace_9 ?_
  refine g_put C hw [oX5 h a ((31 * tr) + nn) lf] hin_X5_leaveInTrace_X5 tyX5 tyX5_ok nmX5 0 rfl rfl 7 (by decide) lk_X5_leaveInTrace_222 rfl rfl rfl rfl (Nat.le_of_ble_eq_true rfl) rfl dX5_leaveInTrace_10 ?_
  clear hw
  intro H locs hw
  exact g_vret C hr (ws' := [oX5 h a ((31 * tr) + nn) lf]) hw [0] (by decide) rfl (by rfl) dX5_leaveInTrace_13

set_option maxRecDepth 20000 in
theorem hin_X5_trace_X5 : ∀ w ∈ u_ws RX5 TX5 9, w ∈ wsX5_trace := by
  intro w h
  exact List.mem_cons_of_mem _ (List.mem_append_right _ (h))
set_option maxRecDepth 20000 in
theorem lk_X5_trace_222 : Cond.fieldLink RX5 222 (TX5 7).1 (TX5 7).2.1 (TX5 7).2.2.1 ∈ wsX5_trace := List.mem_cons_of_mem _ (List.mem_append_left _ (List.mem_of_getElem? (i := 0) rfl))
set_option maxRecDepth 100000 in
set_option maxHeartbeats 8000000 in
theorem m_X5_trace (l : Launch) (D : va_G) (G : gT) (h : Nat) (a : Nat → Nat) (tr : Int) (lf : Int)  : gMi l yX5_trace wsX5_trace ({ frames := 0, cells := 0, slots := 0, locals := 0 }) D G [.ref h] [oX5 h a tr lf] 0 0 (fun (r : Int32) (w : va_W) => r = (iI tr) ∧ w = [oX5 h a tr lf]) := by
  refine g_start_i (cc := cX5_trace) (nL := 1) (own := RX5) (ret := some .int) (by decide +kernel) rfl rfl (Nat.le_of_ble_eq_true rfl) ?_
  intro p e s m below meth c A ls C hr hnm hw hl
  have hl : lv_has ls 1 [(0, .ref h)] := hl
  refine g_aload_n C hl 0 rfl rfl dX5_trace_0 ?_
  refine g_get C hw hin_X5_trace_X5 0 rfl rfl 7 (by decide) lk_X5_trace_222 rfl dX5_trace_1 ?_
  exact g_iret C hr (ws' := [oX5 h a tr lf]) hw [0] (by decide) rfl ⟨rfl, rfl⟩ dX5_trace_4

set_option maxRecDepth 20000 in
theorem hin_X5_fault_X5 : ∀ w ∈ u_ws RX5 TX5 9, w ∈ wsX5_fault := by
  intro w h
  exact List.mem_cons_of_mem _ (List.mem_append_right _ (h))
set_option maxRecDepth 20000 in
theorem lk_X5_fault_51 : Cond.fieldLink RX5 51 (TX5 8).1 (TX5 8).2.1 (TX5 8).2.2.1 ∈ wsX5_fault := List.mem_cons_of_mem _ (List.mem_append_left _ (List.mem_of_getElem? (i := 0) rfl))
set_option maxRecDepth 100000 in
set_option maxHeartbeats 8000000 in
theorem m_X5_fault (l : Launch) (D : va_G) (G : gT) (h : Nat) (a : Nat → Nat) (tr : Int) (lf : Int)  : gMi l yX5_fault wsX5_fault ({ frames := 0, cells := 0, slots := 0, locals := 0 }) D G [.ref h] [oX5 h a tr lf] 0 0 (fun (r : Int32) (w : va_W) => r = (iI lf) ∧ w = [oX5 h a tr lf]) := by
  refine g_start_i (cc := cX5_fault) (nL := 1) (own := RX5) (ret := some .int) (by decide +kernel) rfl rfl (Nat.le_of_ble_eq_true rfl) ?_
  intro p e s m below meth c A ls C hr hnm hw hl
  have hl : lv_has ls 1 [(0, .ref h)] := hl
  refine g_aload_n C hl 0 rfl rfl dX5_fault_0 ?_
  refine g_get C hw hin_X5_fault_X5 0 rfl rfl 8 (by decide) lk_X5_fault_51 rfl dX5_fault_1 ?_
  exact g_iret C hr (ws' := [oX5 h a tr lf]) hw [0] (by decide) rfl ⟨rfl, rfl⟩ dX5_fault_4

set_option maxRecDepth 20000 in
theorem hin_X5_called_X5 : ∀ w ∈ u_ws RX5 TX5 9, w ∈ wsX5_called := by
  intro w h
  exact List.mem_cons_of_mem _ (List.mem_append_left _ (List.mem_append_left _ (List.mem_append_right _ (h))))
set_option maxRecDepth 20000 in
theorem lk_X5_called_27 : Cond.fieldLink RX5 27 (TX5 2).1 (TX5 2).2.1 (TX5 2).2.2.1 ∈ wsX5_called := List.mem_cons_of_mem _ (List.mem_append_left _ (List.mem_append_left _ (List.mem_append_left _ (List.mem_append_left _ (List.mem_of_getElem? (i := 0) rfl)))))
set_option maxRecDepth 100000 in
set_option maxHeartbeats 8000000 in
theorem m_X5_called (l : Launch) (D : va_G) (G : gT) (h : Nat) (a : Nat → Nat) (tr : Int) (lf : Int) (ta : Nat → Nat) (cn : Int) (la : Nat → Nat) (ul : Int) (rw : Int) (rt : Int → Int) (ex : Int → Int) (mi : Int → Int) (si : Int → Int) (un : Int → Int) (be : Int → Int) (E : Int → Int → Int) (pp : Int) (ii : Int) (hcn : 0 ≤ cn ∧ cn ≤ 4) (hE : EB E) (hX : LnX E cn ex) (hZ : LnZ E cn mi si un be) (hT : LnT E cn rt) (hp : -2147483648 ≤ pp ∧ pp ≤ 2147483647) (hi : -2147483648 ≤ ii ∧ ii ≤ 2147483647) : gMi l yX5_called wsX5_called ({ frames := 4, cells := 0, slots := 0, locals := 115 }) D G [.ref h, .int (iI pp), .int (iI ii)] [oX5 h a tr lf, oX4 (a 1) ta cn, oX0 (a 2) la cn ul rw, cA G (la 2) 4 rt, cA G (la 1) 12 ex, cA G (la 3) 8 mi, cA G (la 4) 8 si, cA G (la 5) 8 un, cA G (la 6) 8 be] 0 0 (fun (r : Int32) (w : va_W) => r = (iI (R_cal cn E pp ii)) ∧ w = [oX5 h a tr lf, oX4 (a 1) ta cn, oX0 (a 2) la cn ul rw, cA G (la 2) 4 rt, cA G (la 1) 12 ex, cA G (la 3) 8 mi, cA G (la 4) 8 si, cA G (la 5) 8 un, cA G (la 6) 8 be]) := by
  refine g_start_i (cc := cX5_called) (nL := 3) (own := RX5) (ret := some .int) (by decide +kernel) rfl rfl (Nat.le_of_ble_eq_true rfl) ?_
  intro p e s m below meth c A ls C hr hnm hw hl
  have hl : lv_has ls 3 [(0, .ref h), (1, .int (iI pp)), (2, .int (iI ii))] := hl
  refine g_aload_n C hl 0 rfl rfl dX5_called_0 ?_
  refine g_iload_n C hl 1 rfl rfl dX5_called_1 ?_
  refine g_iload_n C hl 2 rfl rfl dX5_called_2 ?_
  refine g_callVi C hw (wr := [cA G (la 1) 12 ex, cA G (la 3) 8 mi, cA G (la 4) 8 si, cA G (la 5) 8 un, cA G (la 6) 8 be]) (As := [.int (iI pp), .int (iI ii)]) (rest := []) (m_X5_isRoot l D G (h := h) (a := a) (tr := tr) (lf := lf) (ta := ta) (cn := cn) (la := la) (ul := ul) (rw := rw) (rt := rt) (E := E) (pp := pp) (ii := ii) (by first | assumption | omega) (by first | assumption | omega) (by first | assumption | omega) (by first | assumption | omega)) (cwV 2 C.1.2.2.2.2 gX5_called_X5_isRoot rfl rfl rfl (by decide +kernel) ⟨Nat.le_of_ble_eq_true rfl, Nat.le_of_ble_eq_true rfl⟩) [0, 1, 2, 3] [4, 5, 6, 7, 8] rfl rfl (by decide) (by decide) (by decide) 0 rfl rfl rfl hl.1 _ rfl (Nat.le_of_ble_eq_true rfl) dX5_called_3 ⟨Nat.le_of_ble_eq_true rfl, Nat.le_of_ble_eq_true rfl⟩ ?_
  clear hw
  rintro _ _ H locs ⟨rfl, rfl⟩ hw
  have hw : gW D A s.heap [cA G (la 1) 12 ex, cA G (la 3) 8 mi, cA G (la 4) 8 si, cA G (la 5) 8 un, cA G (la 6) 8 be, oX5 h a tr lf, oX4 (a 1) ta cn, oX0 (a 2) la cn ul rw, cA G (la 2) 4 rt] H locs := hw
  refine g_ifb_ne C 11 dX5_called_6 (by decide) (fun c_1 => ?_) (fun c_1 => ?_)
  · skip
    refine g_aload_n C hl 0 rfl rfl dX5_called_11 ?_
    refine g_get C hw hin_X5_called_X5 5 rfl rfl 2 (by decide) lk_X5_called_27 rfl dX5_called_12 ?_
    refine g_iload_n C hl 1 rfl rfl dX5_called_15 ?_
    refine g_iload_n C hl 2 rfl rfl dX5_called_16 ?_
    refine g_callVi C hw (wr := [oX5 h a tr lf, oX4 (a 1) ta cn, cA G (la 2) 4 rt]) (As := [.int (iI pp), .int (iI ii)]) (rest := []) (m_X0_nameOf l D G (h := (a 2)) (a := la) (cn := cn) (ul := ul) (rw := rw) (ex := ex) (mi := mi) (si := si) (un := un) (be := be) (E := E) (pp := pp) (ii := ii) (by first | assumption | omega) (by first | assumption | omega) (by first | assumption | omega) (by first | assumption | omega) (by first | assumption | omega) (by first | assumption | omega)) (cwV 2 C.1.2.2.2.2 gX5_called_X0_nameOf rfl rfl rfl (by decide +kernel) ⟨Nat.le_of_ble_eq_true rfl, Nat.le_of_ble_eq_true rfl⟩) [7, 0, 1, 2, 3, 4] [5, 6, 8] rfl rfl (by decide) (by decide) (by decide) 0 rfl rfl rfl hl.1 _ rfl (Nat.le_of_ble_eq_true rfl) dX5_called_17 ⟨Nat.le_of_ble_eq_true rfl, Nat.le_of_ble_eq_true rfl⟩ ?_
    clear hw
    rintro _ _ H locs ⟨rfl, rfl⟩ hw
    have hw : gW D A s.heap [oX5 h a tr lf, oX4 (a 1) ta cn, cA G (la 2) 4 rt, oX0 (a 2) la cn ul rw, cA G (la 1) 12 ex, cA G (la 3) 8 mi, cA G (la 4) 8 si, cA G (la 5) 8 un, cA G (la 6) 8 be] H locs := hw
    exact g_iret C hr (ws' := [oX5 h a tr lf, oX4 (a 1) ta cn, oX0 (a 2) la cn ul rw, cA G (la 2) 4 rt, cA G (la 1) 12 ex, cA G (la 3) 8 mi, cA G (la 4) 8 si, cA G (la 5) 8 un, cA G (la 6) 8 be]) hw [0, 1, 3, 2, 4, 5, 6, 7, 8] (by decide) rfl ⟨(congrArg iI (by unfold R_cal; (repeat' split) <;> omega)), rfl⟩ dX5_called_20
  · skip
    refine g_iconst C dX5_called_9 ?_
    exact g_iret C hr (ws' := [oX5 h a tr lf, oX4 (a 1) ta cn, oX0 (a 2) la cn ul rw, cA G (la 2) 4 rt, cA G (la 1) 12 ex, cA G (la 3) 8 mi, cA G (la 4) 8 si, cA G (la 5) 8 un, cA G (la 6) 8 be]) hw [5, 6, 7, 8, 0, 1, 2, 3, 4] (by decide) rfl ⟨(congrArg iI (by unfold R_cal; (repeat' split) <;> omega)), rfl⟩ dX5_called_10

set_option maxRecDepth 20000 in
theorem hin_X5_byName_X5 : ∀ w ∈ u_ws RX5 TX5 9, w ∈ wsX5_byName := by
  intro w h
  exact List.mem_cons_of_mem _ (List.mem_append_left _ (List.mem_append_left _ (List.mem_append_right _ (h))))
set_option maxRecDepth 20000 in
theorem lk_X5_byName_27 : Cond.fieldLink RX5 27 (TX5 2).1 (TX5 2).2.1 (TX5 2).2.2.1 ∈ wsX5_byName := List.mem_cons_of_mem _ (List.mem_append_left _ (List.mem_append_left _ (List.mem_append_left _ (List.mem_append_left _ (List.mem_of_getElem? (i := 0) rfl)))))
set_option maxRecDepth 20000 in
theorem hin_X5_byName_X0 : ∀ w ∈ u_ws RX0 TX0 14, w ∈ wsX5_byName := by
  intro w h
  exact List.mem_cons_of_mem _ (List.mem_append_left _ (List.mem_append_right _ (h)))
set_option maxRecDepth 20000 in
theorem lk_X5_byName_99 : Cond.fieldLink RX5 99 (TX0 2).1 (TX0 2).2.1 (TX0 2).2.2.1 ∈ wsX5_byName := List.mem_cons_of_mem _ (List.mem_append_left _ (List.mem_append_left _ (List.mem_append_left _ (List.mem_append_left _ (List.mem_of_getElem? (i := 1) rfl)))))
set_option maxRecDepth 100000 in
set_option maxHeartbeats 8000000 in
theorem m_X5_byName (l : Launch) (D : va_G) (G : gT) (h : Nat) (a : Nat → Nat) (tr : Int) (lf : Int) (ta : Nat → Nat) (cn : Int) (la : Nat → Nat) (ul : Int) (rw : Int) (rt : Int → Int) (ex : Int → Int) (mi : Int → Int) (si : Int → Int) (un : Int → Int) (be : Int → Int) (E : Int → Int → Int) (pp : Int) (wh : Int) (hcn : 0 ≤ cn ∧ cn ≤ 4) (hE : EB E) (hX : LnX E cn ex) (hZ : LnZ E cn mi si un be) (hT : LnT E cn rt) (hp : -2147483648 ≤ pp ∧ pp ≤ 2147483647) (hw1 : -2147483648 ≤ wh ∧ wh ≤ 2147483647) : gMi l yX5_byName wsX5_byName ({ frames := 4, cells := 0, slots := 0, locals := 115 }) D G [.ref h, .int (iI pp), .int (iI wh)] [oX5 h a tr lf, oX4 (a 1) ta cn, oX0 (a 2) la cn ul rw, cA G (la 2) 4 rt, cA G (la 1) 12 ex, cA G (la 3) 8 mi, cA G (la 4) 8 si, cA G (la 5) 8 un, cA G (la 6) 8 be] 0 0 (fun (r : Int32) (w : va_W) => r = (iI (R_byn cn E pp wh)) ∧ w = [oX5 h a tr lf, oX4 (a 1) ta cn, oX0 (a 2) la cn ul rw, cA G (la 2) 4 rt, cA G (la 1) 12 ex, cA G (la 3) 8 mi, cA G (la 4) 8 si, cA G (la 5) 8 un, cA G (la 6) 8 be]) := by
  refine g_start_i (cc := cX5_byName) (nL := 4) (own := RX5) (ret := some .int) (by decide +kernel) rfl rfl (Nat.le_of_ble_eq_true rfl) ?_
  intro p e s m below meth c A ls C hr hnm hw hl
  have hl : lv_has ls 4 [(0, .ref h), (1, .int (iI pp)), (2, .int (iI wh))] := hl
  have hnr := nR_r E pp
  refine g_aload_n C hl 0 rfl rfl dX5_byName_0 ?_
  refine g_iload_n C hl 1 rfl rfl dX5_byName_1 ?_
  refine g_callVi C hw (wr := [oX0 (a 2) la cn ul rw, cA G (la 2) 4 rt, cA G (la 1) 12 ex, cA G (la 3) 8 mi, cA G (la 4) 8 si, cA G (la 5) 8 un, cA G (la 6) 8 be]) (As := [.int (iI pp)]) (rest := []) (m_X5_isPolynomial l D G (h := h) (a := a) (tr := tr) (lf := lf) (ta := ta) (cn := cn) (pp := pp) (by first | assumption | omega) (by first | assumption | omega)) (cwV 1 C.1.2.2.2.2 gX5_byName_X5_isPolynomial rfl rfl rfl (by decide +kernel) ⟨Nat.le_of_ble_eq_true rfl, Nat.le_of_ble_eq_true rfl⟩) [0, 1] [2, 3, 4, 5, 6, 7, 8] rfl rfl (by decide) (by decide) (by decide) 0 rfl rfl rfl hl.1 _ rfl (Nat.le_of_ble_eq_true rfl) dX5_byName_2 ⟨Nat.le_of_ble_eq_true rfl, Nat.le_of_ble_eq_true rfl⟩ ?_
  clear hw
  rintro _ _ H locs ⟨rfl, rfl⟩ hw
  have hw : gW D A s.heap [oX0 (a 2) la cn ul rw, cA G (la 2) 4 rt, cA G (la 1) 12 ex, cA G (la 3) 8 mi, cA G (la 4) 8 si, cA G (la 5) 8 un, cA G (la 6) 8 be, oX5 h a tr lf, oX4 (a 1) ta cn] H locs := hw
  refine g_ifb_ne C 10 dX5_byName_5 (by decide) (fun c_1 => ?_) (fun c_1 => ?_)
  · skip
    refine g_iload_n C hl 2 rfl rfl dX5_byName_10 ?_
    refine g_bipush C dX5_byName_11 (by decide) ?_
    refine g_callSi C hw (wr := [oX0 (a 2) la cn ul rw, cA G (la 2) 4 rt, cA G (la 1) 12 ex, cA G (la 3) 8 mi, cA G (la 4) 8 si, cA G (la 5) 8 un, cA G (la 6) 8 be, oX5 h a tr lf, oX4 (a 1) ta cn]) (As := [.int (iI wh), .int (iI 9)]) (rest := []) (m_X5_isBelow l D G (na := wh) (nb := 9) (by first | assumption | omega) (by first | assumption | omega)) (va_cwS 2 C.1.2.2.2.2 gX5_byName_X5_isBelow rfl rfl rfl (by decide +kernel) ⟨Nat.le_of_ble_eq_true rfl, Nat.le_of_ble_eq_true rfl⟩) [] [0, 1, 2, 3, 4, 5, 6, 7, 8] rfl rfl (by decide) (by decide) (by decide) rfl hl.1 _ rfl (Nat.le_of_ble_eq_true rfl) dX5_byName_13 ⟨Nat.le_of_ble_eq_true rfl, Nat.le_of_ble_eq_true rfl⟩ ?_
    clear hw
    rintro _ _ H locs ⟨rfl, rfl⟩ hw
    have hw : gW D A s.heap [oX0 (a 2) la cn ul rw, cA G (la 2) 4 rt, cA G (la 1) 12 ex, cA G (la 3) 8 mi, cA G (la 4) 8 si, cA G (la 5) 8 un, cA G (la 6) 8 be, oX5 h a tr lf, oX4 (a 1) ta cn] H locs := hw
    refine g_ifb_ne C 22 dX5_byName_16 (by decide) (fun c_2 => ?_) (fun c_2 => ?_)
    · skip
      have ht9 := hT pp (by omega) (by omega)
      refine g_iconst C dX5_byName_22 ?_
      refine g_istore_n C [(3, .int (iI 0)), (0, .ref h), (1, .int (iI pp)), (2, .int (iI wh))] dX5_byName_23 rfl hl (by decide) rfl ?_
      clear hl
      intro ls hl
      refine g_loop (σ := (Int)) (fun z_ => [oX0 (a 2) la cn ul rw, cA G (la 2) 4 rt, cA G (la 1) 12 ex, cA G (la 3) 8 mi, cA G (la 4) 8 si, cA G (la 5) 8 un, cA G (la 6) 8 be, oX5 h a tr lf, oX4 (a 1) ta cn]) (fun z_ => [(3, .int (iI z_)), (0, .ref h), (1, .int (iI pp)), (2, .int (iI wh))]) (fun z_ => (0 ≤ z_ ∧ z_ ≤ nR E pp) ∧ (0 < z_ → ¬ nmF E pp 0 = wh) ∧ (1 < z_ → ¬ nmF E pp 1 = wh)) (fun z_ => (nR E pp - z_).toNat) 0 ⟨by (try dsimp only); omega, by (try dsimp only); omega, by (try dsimp only); omega⟩ hw (lv_sub hl [0, 1, 2, 3] rfl) ?_
      clear hw hl
      rintro ii ⟨hii, hb0, hb1⟩ H locs ls hw hl ih_3
      replace hii : 0 ≤ ii ∧ ii ≤ nR E pp := hii
      replace hb0 : 0 < ii → ¬ nmF E pp 0 = wh := hb0
      replace hb1 : 1 < ii → ¬ nmF E pp 1 = wh := hb1
      replace hw : gW D A s.heap [oX0 (a 2) la cn ul rw, cA G (la 2) 4 rt, cA G (la 1) 12 ex, cA G (la 3) 8 mi, cA G (la 4) 8 si, cA G (la 5) 8 un, cA G (la 6) 8 be, oX5 h a tr lf, oX4 (a 1) ta cn] H locs := hw
      replace hl : lv_has ls 4 [(3, .int (iI ii)), (0, .ref h), (1, .int (iI pp)), (2, .int (iI wh))] := hl
      replace ih_3 : ∀ (ii' : Int), ((0 ≤ ii' ∧ ii' ≤ nR E pp) ∧ (0 < ii' → ¬ nmF E pp 0 = wh) ∧ (1 < ii' → ¬ nmF E pp 1 = wh)) → ((nR E pp - ii').toNat) < ((nR E pp - ii).toNat) → ∀ (H : Heap) (locs : List Loc) (ls : Array Slot), gW D A s.heap [oX0 (a 2) la cn ul rw, cA G (la 2) 4 rt, cA G (la 1) 12 ex, cA G (la 3) 8 mi, cA G (la 4) 8 si, cA G (la 5) 8 un, cA G (la 6) 8 be, oX5 h a tr lf, oX4 (a 1) ta cn] H locs → lv_has ls 4 [(3, .int (iI (ii'))), (0, .ref h), (1, .int (iI pp)), (2, .int (iI wh))] → W p l e _ s m _ below meth c H locs _ _ _ (F0 m 24 ls []) := fun ii' => ih_3 ii'
      have hnm := nmF_r E pp ii
      refine g_iload_n C hl 0 rfl rfl dX5_byName_24 ?_
      refine g_aload_n C hl 1 rfl rfl dX5_byName_25 ?_
      refine g_get C hw hin_X5_byName_X5 7 rfl rfl 2 (by decide) lk_X5_byName_27 rfl dX5_byName_26 ?_
      refine g_get C hw hin_X5_byName_X0 0 rfl rfl 2 (by decide) lk_X5_byName_99 rfl dX5_byName_29 ?_
      refine g_iload_n C hl 2 rfl rfl dX5_byName_32 ?_
      refine g_iald C hw 1 rfl (by omega) (Nat.le_of_ble_eq_true rfl) dX5_byName_33 ?_
      refine g_icmp_ge C 58 dX5_byName_34 (by decide) (by omega) (by omega) (fun c_4 => ?_) (fun c_4 => ?_)
      · skip
        refine g_bipush C dX5_byName_58 (by decide) ?_
        exact g_iret C hr (ws' := [oX5 h a tr lf, oX4 (a 1) ta cn, oX0 (a 2) la cn ul rw, cA G (la 2) 4 rt, cA G (la 1) 12 ex, cA G (la 3) 8 mi, cA G (la 4) 8 si, cA G (la 5) 8 un, cA G (la 6) 8 be]) hw [7, 8, 0, 1, 2, 3, 4, 5, 6] (by decide) rfl ⟨(congrArg iI (by unfold R_byn; (repeat' split) <;> omega)), rfl⟩ dX5_byName_60
      · skip
        refine g_aload_n C hl 1 rfl rfl dX5_byName_37 ?_
        refine g_get C hw hin_X5_byName_X5 7 rfl rfl 2 (by decide) lk_X5_byName_27 rfl dX5_byName_38 ?_
        refine g_iload_n C hl 2 rfl rfl dX5_byName_41 ?_
        refine g_iload_n C hl 0 rfl rfl dX5_byName_42 ?_
        refine g_callVi C hw (wr := [cA G (la 2) 4 rt, oX5 h a tr lf, oX4 (a 1) ta cn]) (As := [.int (iI pp), .int (iI ii)]) (rest := []) (m_X0_nameOf l D G (h := (a 2)) (a := la) (cn := cn) (ul := ul) (rw := rw) (ex := ex) (mi := mi) (si := si) (un := un) (be := be) (E := E) (pp := pp) (ii := ii) (by first | assumption | omega) (by first | assumption | omega) (by first | assumption | omega) (by first | assumption | omega) (by first | assumption | omega) (by first | assumption | omega)) (cwV 2 C.1.2.2.2.2 gX5_byName_X0_nameOf rfl rfl rfl (by decide +kernel) ⟨Nat.le_of_ble_eq_true rfl, Nat.le_of_ble_eq_true rfl⟩) [0, 2, 3, 4, 5, 6] [1, 7, 8] rfl rfl (by decide) (by decide) (by decide) 0 rfl rfl rfl hl.1 _ rfl (Nat.le_of_ble_eq_true rfl) dX5_byName_43 ⟨Nat.le_of_ble_eq_true rfl, Nat.le_of_ble_eq_true rfl⟩ ?_
        clear hw
        rintro _ _ H locs ⟨rfl, rfl⟩ hw
        have hw : gW D A s.heap [cA G (la 2) 4 rt, oX5 h a tr lf, oX4 (a 1) ta cn, oX0 (a 2) la cn ul rw, cA G (la 1) 12 ex, cA G (la 3) 8 mi, cA G (la 4) 8 si, cA G (la 5) 8 un, cA G (la 6) 8 be] H locs := hw
        refine g_iload_n C hl 3 rfl rfl dX5_byName_46 ?_
        refine g_icmp_ne C 52 dX5_byName_47 (by decide) (by omega) (by omega) (fun c_5 => ?_) (fun c_5 => ?_)
        · skip
          refine g_iinc C [(3, .int (iI (ii + 1))), (0, .ref h), (1, .int (iI pp)), (2, .int (iI wh))] 0 dX5_byName_52 hl rfl (by decide) rfl ?_
          clear hl
          intro ls hl
          refine g_goto C 24 dX5_byName_55 (by decide) ?_
          have hw : gW D A s.heap [oX0 (a 2) la cn ul rw, cA G (la 2) 4 rt, cA G (la 1) 12 ex, cA G (la 3) 8 mi, cA G (la 4) 8 si, cA G (la 5) 8 un, cA G (la 6) 8 be, oX5 h a tr lf, oX4 (a 1) ta cn] H locs := g_perm hw [3, 0, 4, 5, 6, 7, 8, 1, 2] (by decide) rfl
          exact ih_3 (ii + 1) ⟨by omega, by intro q; rcases (by omega : ii = 0 ∨ 0 < ii) with z | z; subst z; assumption; exact hb0 z, by intro q; rcases (by omega : ii = 1 ∨ 1 < ii) with z | z; subst z; assumption; exact hb1 z⟩ (by omega) H locs ls hw (lv_sub hl [0, 1, 2, 3] rfl)
        · skip
          refine g_iload_n C hl 0 rfl rfl dX5_byName_50 ?_
          exact g_iret C hr (ws' := [oX5 h a tr lf, oX4 (a 1) ta cn, oX0 (a 2) la cn ul rw, cA G (la 2) 4 rt, cA G (la 1) 12 ex, cA G (la 3) 8 mi, cA G (la 4) 8 si, cA G (la 5) 8 un, cA G (la 6) 8 be]) hw [1, 2, 3, 0, 4, 5, 6, 7, 8] (by decide) rfl ⟨(congrArg iI (by rcases (by omega : ii = 0 ∨ ii = 1) with z | z <;> subst z <;> (unfold R_byn; (repeat' split) <;> omega))), rfl⟩ dX5_byName_51
    · skip
      refine g_bipush C dX5_byName_19 (by decide) ?_
      exact g_iret C hr (ws' := [oX5 h a tr lf, oX4 (a 1) ta cn, oX0 (a 2) la cn ul rw, cA G (la 2) 4 rt, cA G (la 1) 12 ex, cA G (la 3) 8 mi, cA G (la 4) 8 si, cA G (la 5) 8 un, cA G (la 6) 8 be]) hw [7, 8, 0, 1, 2, 3, 4, 5, 6] (by decide) rfl ⟨(congrArg iI (by unfold R_byn; (repeat' split) <;> omega)), rfl⟩ dX5_byName_21
  · skip
    refine g_iconst C dX5_byName_8 ?_
    exact g_iret C hr (ws' := [oX5 h a tr lf, oX4 (a 1) ta cn, oX0 (a 2) la cn ul rw, cA G (la 2) 4 rt, cA G (la 1) 12 ex, cA G (la 3) 8 mi, cA G (la 4) 8 si, cA G (la 5) 8 un, cA G (la 6) 8 be]) hw [7, 8, 0, 1, 2, 3, 4, 5, 6] (by decide) rfl ⟨(congrArg iI (by unfold R_byn; (repeat' split) <;> omega)), rfl⟩ dX5_byName_9

set_option maxRecDepth 20000 in
theorem hin_X5_signAt_X5 : ∀ w ∈ u_ws RX5 TX5 9, w ∈ wsX5_signAt := by
  intro w h
  exact List.mem_cons_of_mem _ (List.mem_append_left _ (List.mem_append_left _ (List.mem_append_right _ (h))))
set_option maxRecDepth 20000 in
theorem lk_X5_signAt_27 : Cond.fieldLink RX5 27 (TX5 2).1 (TX5 2).2.1 (TX5 2).2.2.1 ∈ wsX5_signAt := List.mem_cons_of_mem _ (List.mem_append_left _ (List.mem_append_left _ (List.mem_append_left _ (List.mem_append_left _ (List.mem_of_getElem? (i := 0) rfl)))))
set_option maxRecDepth 100000 in
set_option maxHeartbeats 8000000 in
theorem m_X5_signAt (l : Launch) (D : va_G) (G : gT) (h : Nat) (a : Nat → Nat) (tr : Int) (lf : Int) (ta : Nat → Nat) (cn : Int) (la : Nat → Nat) (ul : Int) (rw : Int) (rt : Int → Int) (ex : Int → Int) (mi : Int → Int) (si : Int → Int) (un : Int → Int) (be : Int → Int) (E : Int → Int → Int) (pp : Int) (ii : Int) (qq : Int) (hcn : 0 ≤ cn ∧ cn ≤ 4) (hE : EB E) (hX : LnX E cn ex) (hZ : LnZ E cn mi si un be) (hT : LnT E cn rt) (hp : -2147483648 ≤ pp ∧ pp ≤ 2147483647) (hi : -2147483648 ≤ ii ∧ ii ≤ 2147483647) (hq : -2147483648 ≤ qq ∧ qq ≤ 2147483647) : gMi l yX5_signAt wsX5_signAt ({ frames := 3, cells := 0, slots := 0, locals := 92 }) D G [.ref h, .int (iI pp), .int (iI ii), .int (iI qq)] [oX5 h a tr lf, oX4 (a 1) ta cn, oX0 (a 2) la cn ul rw, cA G (la 2) 4 rt, cA G (la 1) 12 ex, cA G (la 3) 8 mi, cA G (la 4) 8 si, cA G (la 5) 8 un, cA G (la 6) 8 be] 0 0 (fun (r : Int32) (w : va_W) => r = (iI (R_sig cn E pp ii qq)) ∧ w = [oX5 h a tr lf, oX4 (a 1) ta cn, oX0 (a 2) la cn ul rw, cA G (la 2) 4 rt, cA G (la 1) 12 ex, cA G (la 3) 8 mi, cA G (la 4) 8 si, cA G (la 5) 8 un, cA G (la 6) 8 be]) := by
  refine g_start_i (cc := cX5_signAt) (nL := 4) (own := RX5) (ret := some .int) (by decide +kernel) rfl rfl (Nat.le_of_ble_eq_true rfl) ?_
  intro p e s m below meth c A ls C hr hnm hw hl
  have hl : lv_has ls 4 [(0, .ref h), (1, .int (iI pp)), (2, .int (iI ii)), (3, .int (iI qq))] := hl
  refine g_aload_n C hl 0 rfl rfl dX5_signAt_0 ?_
  refine g_iload_n C hl 1 rfl rfl dX5_signAt_1 ?_
  refine g_iload_n C hl 2 rfl rfl dX5_signAt_2 ?_
  refine g_callVi C hw (wr := [cA G (la 1) 12 ex, cA G (la 3) 8 mi, cA G (la 4) 8 si, cA G (la 5) 8 un, cA G (la 6) 8 be]) (As := [.int (iI pp), .int (iI ii)]) (rest := []) (m_X5_isRoot l D G (h := h) (a := a) (tr := tr) (lf := lf) (ta := ta) (cn := cn) (la := la) (ul := ul) (rw := rw) (rt := rt) (E := E) (pp := pp) (ii := ii) (by first | assumption | omega) (by first | assumption | omega) (by first | assumption | omega) (by first | assumption | omega)) (cwV 2 C.1.2.2.2.2 gX5_signAt_X5_isRoot rfl rfl rfl (by decide +kernel) ⟨Nat.le_of_ble_eq_true rfl, Nat.le_of_ble_eq_true rfl⟩) [0, 1, 2, 3] [4, 5, 6, 7, 8] rfl rfl (by decide) (by decide) (by decide) 0 rfl rfl rfl hl.1 _ rfl (Nat.le_of_ble_eq_true rfl) dX5_signAt_3 ⟨Nat.le_of_ble_eq_true rfl, Nat.le_of_ble_eq_true rfl⟩ ?_
  clear hw
  rintro _ _ H locs ⟨rfl, rfl⟩ hw
  have hw : gW D A s.heap [cA G (la 1) 12 ex, cA G (la 3) 8 mi, cA G (la 4) 8 si, cA G (la 5) 8 un, cA G (la 6) 8 be, oX5 h a tr lf, oX4 (a 1) ta cn, oX0 (a 2) la cn ul rw, cA G (la 2) 4 rt] H locs := hw
  refine g_ifb_eq C 17 dX5_signAt_6 (by decide) (fun c_1 => ?_) (fun c_1 => ?_)
  · skip
    refine g_iconst C dX5_signAt_17 ?_
    exact g_iret C hr (ws' := [oX5 h a tr lf, oX4 (a 1) ta cn, oX0 (a 2) la cn ul rw, cA G (la 2) 4 rt, cA G (la 1) 12 ex, cA G (la 3) 8 mi, cA G (la 4) 8 si, cA G (la 5) 8 un, cA G (la 6) 8 be]) hw [5, 6, 7, 8, 0, 1, 2, 3, 4] (by decide) rfl ⟨(congrArg iI (by unfold R_sig; (repeat' split) <;> omega)), rfl⟩ dX5_signAt_18
  · skip
    refine g_aload_n C hl 0 rfl rfl dX5_signAt_9 ?_
    refine g_iload_n C hl 3 rfl rfl dX5_signAt_10 ?_
    refine g_callVi C hw (wr := [cA G (la 1) 12 ex, cA G (la 3) 8 mi, cA G (la 4) 8 si, cA G (la 5) 8 un, cA G (la 6) 8 be, oX0 (a 2) la cn ul rw, cA G (la 2) 4 rt]) (As := [.int (iI qq)]) (rest := []) (m_X5_isPolynomial l D G (h := h) (a := a) (tr := tr) (lf := lf) (ta := ta) (cn := cn) (pp := qq) (by first | assumption | omega) (by first | assumption | omega)) (cwV 1 C.1.2.2.2.2 gX5_signAt_X5_isPolynomial rfl rfl rfl (by decide +kernel) ⟨Nat.le_of_ble_eq_true rfl, Nat.le_of_ble_eq_true rfl⟩) [5, 6] [0, 1, 2, 3, 4, 7, 8] rfl rfl (by decide) (by decide) (by decide) 0 rfl rfl rfl hl.1 _ rfl (Nat.le_of_ble_eq_true rfl) dX5_signAt_11 ⟨Nat.le_of_ble_eq_true rfl, Nat.le_of_ble_eq_true rfl⟩ ?_
    clear hw
    rintro _ _ H locs ⟨rfl, rfl⟩ hw
    have hw : gW D A s.heap [cA G (la 1) 12 ex, cA G (la 3) 8 mi, cA G (la 4) 8 si, cA G (la 5) 8 un, cA G (la 6) 8 be, oX0 (a 2) la cn ul rw, cA G (la 2) 4 rt, oX5 h a tr lf, oX4 (a 1) ta cn] H locs := hw
    refine g_ifb_ne C 19 dX5_signAt_14 (by decide) (fun c_2 => ?_) (fun c_2 => ?_)
    · skip
      have hnr := nR_r E pp
      obtain ⟨q1, q2⟩ := q_of pp ii (by omega)
      obtain ⟨z0, z1, z2, z3⟩ := hZ (2 * pp + ii) ⟨by omega, by rw [q1]; omega, by rw [q1, q2]; omega⟩
      obtain ⟨g0, g1, g2, g3⟩ := qP_of (E := E) (pp := pp) (ii := ii) (by omega)
      have hrt0 := rt_ok hE (q := pp) (i := ii) ⟨by omega, by omega⟩
      have hrt : rtOK (mi (2 * pp + ii)) (si (2 * pp + ii)) (un (2 * pp + ii)) (be (2 * pp + ii)) := by rw [z0, z1, z2, z3, g0, g1, g2, g3]; exact hrt0
      obtain ⟨x0, x1, x2⟩ := hX qq (by omega) (by omega)
      obtain ⟨e0, e1, e2⟩ := hE qq
      have hs9 := sRi_r E pp ii qq
      refine g_aload_n C hl 0 rfl rfl dX5_signAt_19 ?_
      refine g_get C hw hin_X5_signAt_X5 7 rfl rfl 2 (by decide) lk_X5_signAt_27 rfl dX5_signAt_20 ?_
      refine g_iload_n C hl 3 rfl rfl dX5_signAt_23 ?_
      refine g_iconst C dX5_signAt_24 ?_
      refine g_iload_n C hl 1 rfl rfl dX5_signAt_25 ?_
      refine g_iconst C dX5_signAt_26 ?_
      refine g_imul C dX5_signAt_27 ?_
      refine g_iload_n C hl 2 rfl rfl dX5_signAt_28 ?_
      refine g_iadd C dX5_signAt_29 ?_
      refine g_nI (show ((pp * 2) + ii : Int) = 2 * pp + ii by omega) ?_
      refine g_callVi C hw (wr := [cA G (la 2) 4 rt, oX5 h a tr lf, oX4 (a 1) ta cn]) (As := [.int (iI qq), .int (iI 0), .int (iI (2 * pp + ii))]) (rest := []) (m_X0_signAtRoot l D G (h := (a 2)) (a := la) (cn := cn) (ul := ul) (rw := rw) (ex := ex) (mi := mi) (si := si) (un := un) (be := be) (qq := qq) (od := 0) (tt := (2 * pp + ii)) (by first | assumption | omega) (by first | assumption | omega) (by first | assumption | omega) (by first | assumption | omega) (by first | assumption | omega) (by first | assumption | omega) (by exact Or.inr hrt)) (cwV 3 C.1.2.2.2.2 gX5_signAt_X0_signAtRoot rfl rfl rfl (by decide +kernel) ⟨Nat.le_of_ble_eq_true rfl, Nat.le_of_ble_eq_true rfl⟩) [5, 0, 1, 2, 3, 4] [6, 7, 8] rfl rfl (by decide) (by decide) (by decide) 0 rfl rfl rfl hl.1 _ rfl (Nat.le_of_ble_eq_true rfl) dX5_signAt_30 ⟨Nat.le_of_ble_eq_true rfl, Nat.le_of_ble_eq_true rfl⟩ ?_
      clear hw
      rintro _ _ H locs ⟨rfl, rfl⟩ hw
      have hw : gW D A s.heap [cA G (la 2) 4 rt, oX5 h a tr lf, oX4 (a 1) ta cn, oX0 (a 2) la cn ul rw, cA G (la 1) 12 ex, cA G (la 3) 8 mi, cA G (la 4) 8 si, cA G (la 5) 8 un, cA G (la 6) 8 be] H locs := hw
      refine g_nI (show ((if 0 = 2 then sg (ex (qq * 3 + 2)) else if 0 = 0 then sAt (ex (qq * 3)) (ex (qq * 3 + 1)) (ex (qq * 3 + 2)) (mi (2 * pp + ii)) (si (2 * pp + ii)) (un (2 * pp + ii)) (be (2 * pp + ii)) else sAt (ex (qq * 3 + 1)) (2 * ex (qq * 3 + 2)) 0 (mi (2 * pp + ii)) (si (2 * pp + ii)) (un (2 * pp + ii)) (be (2 * pp + ii))) : Int) = sRi E pp ii qq by rw [if_neg (by decide), if_pos rfl, x0, x1, x2, z0, z1, z2, z3, g0, g1, g2, g3]; rfl) ?_
      refine g_iconst C dX5_signAt_33 ?_
      refine g_iadd C dX5_signAt_34 ?_
      exact g_iret C hr (ws' := [oX5 h a tr lf, oX4 (a 1) ta cn, oX0 (a 2) la cn ul rw, cA G (la 2) 4 rt, cA G (la 1) 12 ex, cA G (la 3) 8 mi, cA G (la 4) 8 si, cA G (la 5) 8 un, cA G (la 6) 8 be]) hw [1, 2, 3, 0, 4, 5, 6, 7, 8] (by decide) rfl ⟨(congrArg iI (by unfold R_sig; (repeat' split) <;> omega)), rfl⟩ dX5_signAt_35
    · skip
      refine g_iconst C dX5_signAt_17 ?_
      exact g_iret C hr (ws' := [oX5 h a tr lf, oX4 (a 1) ta cn, oX0 (a 2) la cn ul rw, cA G (la 2) 4 rt, cA G (la 1) 12 ex, cA G (la 3) 8 mi, cA G (la 4) 8 si, cA G (la 5) 8 un, cA G (la 6) 8 be]) hw [7, 8, 5, 6, 0, 1, 2, 3, 4] (by decide) rfl ⟨(congrArg iI (by unfold R_sig; (repeat' split) <;> omega)), rfl⟩ dX5_signAt_18

set_option maxRecDepth 20000 in
theorem hin_X5_more_X5 : ∀ w ∈ u_ws RX5 TX5 9, w ∈ wsX5_more := by
  intro w h
  exact List.mem_cons_of_mem _ (List.mem_append_left _ (List.mem_append_left _ (List.mem_append_right _ (h))))
set_option maxRecDepth 20000 in
theorem lk_X5_more_27 : Cond.fieldLink RX5 27 (TX5 2).1 (TX5 2).2.1 (TX5 2).2.2.1 ∈ wsX5_more := List.mem_cons_of_mem _ (List.mem_append_left _ (List.mem_append_left _ (List.mem_append_left _ (List.mem_append_left _ (List.mem_of_getElem? (i := 0) rfl)))))
set_option maxRecDepth 20000 in
theorem hin_X5_more_X0 : ∀ w ∈ u_ws RX0 TX0 14, w ∈ wsX5_more := by
  intro w h
  exact List.mem_cons_of_mem _ (List.mem_append_left _ (List.mem_append_right _ (h)))
set_option maxRecDepth 20000 in
theorem lk_X5_more_99 : Cond.fieldLink RX5 99 (TX0 2).1 (TX0 2).2.1 (TX0 2).2.2.1 ∈ wsX5_more := List.mem_cons_of_mem _ (List.mem_append_left _ (List.mem_append_left _ (List.mem_append_left _ (List.mem_append_left _ (List.mem_of_getElem? (i := 1) rfl)))))
set_option maxRecDepth 100000 in
set_option maxHeartbeats 8000000 in
theorem m_X5_more (l : Launch) (D : va_G) (G : gT) (h : Nat) (a : Nat → Nat) (tr : Int) (lf : Int) (ta : Nat → Nat) (cn : Int) (la : Nat → Nat) (ul : Int) (rw : Int) (rt : Int → Int) (ex : Int → Int) (mi : Int → Int) (si : Int → Int) (un : Int → Int) (be : Int → Int) (E : Int → Int → Int) (pp : Int) (qq : Int) (hcn : 0 ≤ cn ∧ cn ≤ 4) (hE : EB E) (hX : LnX E cn ex) (hZ : LnZ E cn mi si un be) (hT : LnT E cn rt) (hp : -2147483648 ≤ pp ∧ pp ≤ 2147483647) (hq : -2147483648 ≤ qq ∧ qq ≤ 2147483647) : gMi l yX5_more wsX5_more ({ frames := 3, cells := 0, slots := 0, locals := 92 }) D G [.ref h, .int (iI pp), .int (iI qq)] [oX5 h a tr lf, oX4 (a 1) ta cn, oX0 (a 2) la cn ul rw, cA G (la 2) 4 rt, cA G (la 1) 12 ex, cA G (la 3) 8 mi, cA G (la 4) 8 si, cA G (la 5) 8 un, cA G (la 6) 8 be] 0 0 (fun (r : Int32) (w : va_W) => r = (iI (R_mor cn E pp qq)) ∧ w = [oX5 h a tr lf, oX4 (a 1) ta cn, oX0 (a 2) la cn ul rw, cA G (la 2) 4 rt, cA G (la 1) 12 ex, cA G (la 3) 8 mi, cA G (la 4) 8 si, cA G (la 5) 8 un, cA G (la 6) 8 be]) := by
  refine g_start_i (cc := cX5_more) (nL := 5) (own := RX5) (ret := some .int) (by decide +kernel) rfl rfl (Nat.le_of_ble_eq_true rfl) ?_
  intro p e s m below meth c A ls C hr hnm hw hl
  have hl : lv_has ls 5 [(0, .ref h), (1, .int (iI pp)), (2, .int (iI qq))] := hl
  have hnr0 := nR_r E pp
  have hs0 := sRi_r E pp 0 qq
  have hs1 := sRi_r E pp 1 qq
  refine g_aload_n C hl 0 rfl rfl dX5_more_0 ?_
  refine g_iload_n C hl 1 rfl rfl dX5_more_1 ?_
  refine g_callVi C hw (wr := [oX0 (a 2) la cn ul rw, cA G (la 2) 4 rt, cA G (la 1) 12 ex, cA G (la 3) 8 mi, cA G (la 4) 8 si, cA G (la 5) 8 un, cA G (la 6) 8 be]) (As := [.int (iI pp)]) (rest := []) (m_X5_isPolynomial l D G (h := h) (a := a) (tr := tr) (lf := lf) (ta := ta) (cn := cn) (pp := pp) (by first | assumption | omega) (by first | assumption | omega)) (cwV 1 C.1.2.2.2.2 gX5_more_X5_isPolynomial rfl rfl rfl (by decide +kernel) ⟨Nat.le_of_ble_eq_true rfl, Nat.le_of_ble_eq_true rfl⟩) [0, 1] [2, 3, 4, 5, 6, 7, 8] rfl rfl (by decide) (by decide) (by decide) 0 rfl rfl rfl hl.1 _ rfl (Nat.le_of_ble_eq_true rfl) dX5_more_2 ⟨Nat.le_of_ble_eq_true rfl, Nat.le_of_ble_eq_true rfl⟩ ?_
  clear hw
  rintro _ _ H locs ⟨rfl, rfl⟩ hw
  have hw : gW D A s.heap [oX0 (a 2) la cn ul rw, cA G (la 2) 4 rt, cA G (la 1) 12 ex, cA G (la 3) 8 mi, cA G (la 4) 8 si, cA G (la 5) 8 un, cA G (la 6) 8 be, oX5 h a tr lf, oX4 (a 1) ta cn] H locs := hw
  refine g_ifb_eq C 16 dX5_more_5 (by decide) (fun c_1 => ?_) (fun c_1 => ?_)
  · skip
    refine g_iconst C dX5_more_16 ?_
    exact g_iret C hr (ws' := [oX5 h a tr lf, oX4 (a 1) ta cn, oX0 (a 2) la cn ul rw, cA G (la 2) 4 rt, cA G (la 1) 12 ex, cA G (la 3) 8 mi, cA G (la 4) 8 si, cA G (la 5) 8 un, cA G (la 6) 8 be]) hw [7, 8, 0, 1, 2, 3, 4, 5, 6] (by decide) rfl ⟨(congrArg iI (by unfold R_mor; first | (rw [if_pos (by omega), hsm, show ii = nR E pp by omega]; omega) | (rw [if_neg (by omega)]; done))), rfl⟩ dX5_more_17
  · skip
    refine g_aload_n C hl 0 rfl rfl dX5_more_8 ?_
    refine g_iload_n C hl 2 rfl rfl dX5_more_9 ?_
    refine g_callVi C hw (wr := [oX0 (a 2) la cn ul rw, cA G (la 2) 4 rt, cA G (la 1) 12 ex, cA G (la 3) 8 mi, cA G (la 4) 8 si, cA G (la 5) 8 un, cA G (la 6) 8 be]) (As := [.int (iI qq)]) (rest := []) (m_X5_isPolynomial l D G (h := h) (a := a) (tr := tr) (lf := lf) (ta := ta) (cn := cn) (pp := qq) (by first | assumption | omega) (by first | assumption | omega)) (cwV 1 C.1.2.2.2.2 gX5_more_X5_isPolynomial rfl rfl rfl (by decide +kernel) ⟨Nat.le_of_ble_eq_true rfl, Nat.le_of_ble_eq_true rfl⟩) [7, 8] [0, 1, 2, 3, 4, 5, 6] rfl rfl (by decide) (by decide) (by decide) 0 rfl rfl rfl hl.1 _ rfl (Nat.le_of_ble_eq_true rfl) dX5_more_10 ⟨Nat.le_of_ble_eq_true rfl, Nat.le_of_ble_eq_true rfl⟩ ?_
    clear hw
    rintro _ _ H locs ⟨rfl, rfl⟩ hw
    have hw : gW D A s.heap [oX0 (a 2) la cn ul rw, cA G (la 2) 4 rt, cA G (la 1) 12 ex, cA G (la 3) 8 mi, cA G (la 4) 8 si, cA G (la 5) 8 un, cA G (la 6) 8 be, oX5 h a tr lf, oX4 (a 1) ta cn] H locs := hw
    refine g_ifb_ne C 18 dX5_more_13 (by decide) (fun c_2 => ?_) (fun c_2 => ?_)
    · skip
      have ht9 := hT pp (by omega) (by omega)
      refine g_iconst C dX5_more_18 ?_
      refine g_istore_n C [(3, .int (iI 0)), (0, .ref h), (1, .int (iI pp)), (2, .int (iI qq))] dX5_more_19 rfl hl (by decide) rfl ?_
      clear hl
      intro ls hl
      refine g_iconst C dX5_more_20 ?_
      refine g_istore C [(4, .int (iI 0)), (3, .int (iI 0)), (0, .ref h), (1, .int (iI pp)), (2, .int (iI qq))] dX5_more_21 hl (by decide) rfl ?_
      clear hl
      intro ls hl
      refine g_loop (σ := (Int) × (Int)) (fun z_ => [oX0 (a 2) la cn ul rw, cA G (la 2) 4 rt, cA G (la 1) 12 ex, cA G (la 3) 8 mi, cA G (la 4) 8 si, cA G (la 5) 8 un, cA G (la 6) 8 be, oX5 h a tr lf, oX4 (a 1) ta cn]) (fun z_ => [(4, .int (iI (z_.2))), (3, .int (iI (z_.1))), (0, .ref h), (1, .int (iI pp)), (2, .int (iI qq))]) (fun z_ => (0 ≤ z_.2 ∧ z_.2 ≤ nR E pp) ∧ (z_.1 = (if 0 < z_.2 then sRi E pp 0 qq else 0) + (if 1 < z_.2 then sRi E pp 1 qq else 0))) (fun z_ => (nR E pp - z_.2).toNat) (0, 0) ⟨by (try dsimp only); omega, by (try dsimp only); simp⟩ hw (lv_sub hl [0, 1, 2, 3, 4] rfl) ?_
      clear hw hl
      rintro ⟨sm, ii⟩ ⟨hii, hsm⟩ H locs ls hw hl ih_3
      replace hii : 0 ≤ ii ∧ ii ≤ nR E pp := hii
      replace hsm : sm = (if 0 < ii then sRi E pp 0 qq else 0) + (if 1 < ii then sRi E pp 1 qq else 0) := hsm
      replace hw : gW D A s.heap [oX0 (a 2) la cn ul rw, cA G (la 2) 4 rt, cA G (la 1) 12 ex, cA G (la 3) 8 mi, cA G (la 4) 8 si, cA G (la 5) 8 un, cA G (la 6) 8 be, oX5 h a tr lf, oX4 (a 1) ta cn] H locs := hw
      replace hl : lv_has ls 5 [(4, .int (iI ii)), (3, .int (iI sm)), (0, .ref h), (1, .int (iI pp)), (2, .int (iI qq))] := hl
      replace ih_3 : ∀ (sm' : Int) (ii' : Int), ((0 ≤ ii' ∧ ii' ≤ nR E pp) ∧ (sm' = (if 0 < ii' then sRi E pp 0 qq else 0) + (if 1 < ii' then sRi E pp 1 qq else 0))) → ((nR E pp - ii').toNat) < ((nR E pp - ii).toNat) → ∀ (H : Heap) (locs : List Loc) (ls : Array Slot), gW D A s.heap [oX0 (a 2) la cn ul rw, cA G (la 2) 4 rt, cA G (la 1) 12 ex, cA G (la 3) 8 mi, cA G (la 4) 8 si, cA G (la 5) 8 un, cA G (la 6) 8 be, oX5 h a tr lf, oX4 (a 1) ta cn] H locs → lv_has ls 5 [(4, .int (iI (ii'))), (3, .int (iI (sm'))), (0, .ref h), (1, .int (iI pp)), (2, .int (iI qq))] → W p l e _ s m _ below meth c H locs _ _ _ (F0 m 23 ls []) := fun sm' ii' => ih_3 (sm', ii')
      refine g_iload C hl 0 rfl dX5_more_23 ?_
      refine g_aload_n C hl 2 rfl rfl dX5_more_25 ?_
      refine g_get C hw hin_X5_more_X5 7 rfl rfl 2 (by decide) lk_X5_more_27 rfl dX5_more_26 ?_
      refine g_get C hw hin_X5_more_X0 0 rfl rfl 2 (by decide) lk_X5_more_99 rfl dX5_more_29 ?_
      refine g_iload_n C hl 3 rfl rfl dX5_more_32 ?_
      refine g_iald C hw 1 rfl (by omega) (Nat.le_of_ble_eq_true rfl) dX5_more_33 ?_
      refine g_icmp_ge C 61 dX5_more_34 (by decide) (by omega) (by omega) (fun c_4 => ?_) (fun c_4 => ?_)
      · skip
        refine g_iload_n C hl 1 rfl rfl dX5_more_61 ?_
        refine g_iconst C dX5_more_62 ?_
        refine g_iadd C dX5_more_63 ?_
        exact g_iret C hr (ws' := [oX5 h a tr lf, oX4 (a 1) ta cn, oX0 (a 2) la cn ul rw, cA G (la 2) 4 rt, cA G (la 1) 12 ex, cA G (la 3) 8 mi, cA G (la 4) 8 si, cA G (la 5) 8 un, cA G (la 6) 8 be]) hw [7, 8, 0, 1, 2, 3, 4, 5, 6] (by decide) rfl ⟨(congrArg iI (by unfold R_mor; first | (rw [if_pos (by omega), hsm, show ii = nR E pp by omega]; omega) | (rw [if_neg (by omega)]; done))), rfl⟩ dX5_more_64
      · skip
        have hnr := nR_r E pp
        obtain ⟨q1, q2⟩ := q_of pp ii (by omega)
        obtain ⟨z0, z1, z2, z3⟩ := hZ (2 * pp + ii) ⟨by omega, by rw [q1]; omega, by rw [q1, q2]; omega⟩
        obtain ⟨g0, g1, g2, g3⟩ := qP_of (E := E) (pp := pp) (ii := ii) (by omega)
        have hrt0 := rt_ok hE (q := pp) (i := ii) ⟨by omega, by omega⟩
        have hrt : rtOK (mi (2 * pp + ii)) (si (2 * pp + ii)) (un (2 * pp + ii)) (be (2 * pp + ii)) := by rw [z0, z1, z2, z3, g0, g1, g2, g3]; exact hrt0
        obtain ⟨x0, x1, x2⟩ := hX qq (by omega) (by omega)
        obtain ⟨e0, e1, e2⟩ := hE qq
        have hs9 := sRi_r E pp ii qq
        refine g_iload_n C hl 1 rfl rfl dX5_more_37 ?_
        refine g_aload_n C hl 2 rfl rfl dX5_more_38 ?_
        refine g_get C hw hin_X5_more_X5 7 rfl rfl 2 (by decide) lk_X5_more_27 rfl dX5_more_39 ?_
        refine g_iload_n C hl 4 rfl rfl dX5_more_42 ?_
        refine g_iconst C dX5_more_43 ?_
        refine g_iload_n C hl 3 rfl rfl dX5_more_44 ?_
        refine g_iconst C dX5_more_45 ?_
        refine g_imul C dX5_more_46 ?_
        refine g_iload C hl 0 rfl dX5_more_47 ?_
        refine g_iadd C dX5_more_49 ?_
        refine g_nI (show ((pp * 2) + ii : Int) = 2 * pp + ii by omega) ?_
        refine g_callVi C hw (wr := [cA G (la 2) 4 rt, oX5 h a tr lf, oX4 (a 1) ta cn]) (As := [.int (iI qq), .int (iI 0), .int (iI (2 * pp + ii))]) (rest := [.int (iI sm)]) (m_X0_signAtRoot l D G (h := (a 2)) (a := la) (cn := cn) (ul := ul) (rw := rw) (ex := ex) (mi := mi) (si := si) (un := un) (be := be) (qq := qq) (od := 0) (tt := (2 * pp + ii)) (by first | assumption | omega) (by first | assumption | omega) (by first | assumption | omega) (by first | assumption | omega) (by first | assumption | omega) (by first | assumption | omega) (by exact Or.inr hrt)) (cwV 3 C.1.2.2.2.2 gX5_more_X0_signAtRoot rfl rfl rfl (by decide +kernel) ⟨Nat.le_of_ble_eq_true rfl, Nat.le_of_ble_eq_true rfl⟩) [0, 2, 3, 4, 5, 6] [1, 7, 8] rfl rfl (by decide) (by decide) (by decide) 0 rfl rfl rfl hl.1 _ rfl (Nat.le_of_ble_eq_true rfl) dX5_more_50 ⟨Nat.le_of_ble_eq_true rfl, Nat.le_of_ble_eq_true rfl⟩ ?_
        clear hw
        rintro _ _ H locs ⟨rfl, rfl⟩ hw
        have hw : gW D A s.heap [cA G (la 2) 4 rt, oX5 h a tr lf, oX4 (a 1) ta cn, oX0 (a 2) la cn ul rw, cA G (la 1) 12 ex, cA G (la 3) 8 mi, cA G (la 4) 8 si, cA G (la 5) 8 un, cA G (la 6) 8 be] H locs := hw
        refine g_nI (show ((if 0 = 2 then sg (ex (qq * 3 + 2)) else if 0 = 0 then sAt (ex (qq * 3)) (ex (qq * 3 + 1)) (ex (qq * 3 + 2)) (mi (2 * pp + ii)) (si (2 * pp + ii)) (un (2 * pp + ii)) (be (2 * pp + ii)) else sAt (ex (qq * 3 + 1)) (2 * ex (qq * 3 + 2)) 0 (mi (2 * pp + ii)) (si (2 * pp + ii)) (un (2 * pp + ii)) (be (2 * pp + ii))) : Int) = sRi E pp ii qq by rw [if_neg (by decide), if_pos rfl, x0, x1, x2, z0, z1, z2, z3, g0, g1, g2, g3]; rfl) ?_
        refine g_iadd C dX5_more_53 ?_
        refine g_istore_n C [(3, .int (iI (sm + (sRi E pp ii qq)))), (4, .int (iI ii)), (0, .ref h), (1, .int (iI pp)), (2, .int (iI qq))] dX5_more_54 rfl hl (by decide) rfl ?_
        clear hl
        intro ls hl
        refine g_iinc C [(4, .int (iI (ii + 1))), (3, .int (iI (sm + (sRi E pp ii qq)))), (0, .ref h), (1, .int (iI pp)), (2, .int (iI qq))] 1 dX5_more_55 hl rfl (by decide) rfl ?_
        clear hl
        intro ls hl
        refine g_goto C 23 dX5_more_58 (by decide) ?_
        have hw : gW D A s.heap [oX0 (a 2) la cn ul rw, cA G (la 2) 4 rt, cA G (la 1) 12 ex, cA G (la 3) 8 mi, cA G (la 4) 8 si, cA G (la 5) 8 un, cA G (la 6) 8 be, oX5 h a tr lf, oX4 (a 1) ta cn] H locs := g_perm hw [3, 0, 4, 5, 6, 7, 8, 1, 2] (by decide) rfl
        exact ih_3 (sm + (sRi E pp ii qq)) (ii + 1) ⟨by omega, by (rcases (by omega : ii = 0 ∨ ii = 1) with q | q) <;> subst q <;> ((repeat' split at hsm) <;> (repeat' split) <;> omega)⟩ (by omega) H locs ls hw (lv_sub hl [0, 1, 2, 3, 4] rfl)
    · skip
      refine g_iconst C dX5_more_16 ?_
      exact g_iret C hr (ws' := [oX5 h a tr lf, oX4 (a 1) ta cn, oX0 (a 2) la cn ul rw, cA G (la 2) 4 rt, cA G (la 1) 12 ex, cA G (la 3) 8 mi, cA G (la 4) 8 si, cA G (la 5) 8 un, cA G (la 6) 8 be]) hw [7, 8, 0, 1, 2, 3, 4, 5, 6] (by decide) rfl ⟨(congrArg iI (by unfold R_mor; first | (rw [if_pos (by omega), hsm, show ii = nR E pp by omega]; omega) | (rw [if_neg (by omega)]; done))), rfl⟩ dX5_more_17

set_option maxRecDepth 20000 in
theorem hin_X5_place_X5 : ∀ w ∈ u_ws RX5 TX5 9, w ∈ wsX5_place := by
  intro w h
  exact List.mem_cons_of_mem _ (List.mem_append_left _ (List.mem_append_left _ (List.mem_append_right _ (h))))
set_option maxRecDepth 20000 in
theorem lk_X5_place_27 : Cond.fieldLink RX5 27 (TX5 2).1 (TX5 2).2.1 (TX5 2).2.2.1 ∈ wsX5_place := List.mem_cons_of_mem _ (List.mem_append_left _ (List.mem_append_left _ (List.mem_append_left _ (List.mem_append_left _ (List.mem_of_getElem? (i := 0) rfl)))))
set_option maxRecDepth 100000 in
set_option maxHeartbeats 8000000 in
theorem m_X5_place (l : Launch) (D : va_G) (G : gT) (h : Nat) (a : Nat → Nat) (tr : Int) (lf : Int) (ta : Nat → Nat) (cn : Int) (la : Nat → Nat) (ul : Int) (rw : Int) (rt : Int → Int) (ex : Int → Int) (mi : Int → Int) (si : Int → Int) (un : Int → Int) (be : Int → Int) (ka : Int → Int) (E : Int → Int → Int) (pp : Int) (ii : Int) (hcn : 0 ≤ cn ∧ cn ≤ 4) (hE : EB E) (hX : LnX E cn ex) (hZ : LnZ E cn mi si un be) (hT : LnT E cn rt) (hKA : hasL ka (ALn E cn.toNat)) (hul : ul = ((ALn E cn.toNat).length : Int)) (hp : -2147483648 ≤ pp ∧ pp ≤ 2147483647) (hi : -2147483648 ≤ ii ∧ ii ≤ 2147483647) : gMi l yX5_place wsX5_place ({ frames := 5, cells := 0, slots := 0, locals := 143 }) D G [.ref h, .int (iI pp), .int (iI ii)] [oX5 h a tr lf, oX4 (a 1) ta cn, oX0 (a 2) la cn ul rw, cA G (la 2) 4 rt, cA G (la 1) 12 ex, cA G (la 3) 8 mi, cA G (la 4) 8 si, cA G (la 5) 8 un, cA G (la 6) 8 be, cA G (la 8) 8 ka] 0 0 (fun (r : Int32) (w : va_W) => r = (iI (R_pla cn E pp ii)) ∧ w = [oX5 h a tr lf, oX4 (a 1) ta cn, oX0 (a 2) la cn ul rw, cA G (la 2) 4 rt, cA G (la 1) 12 ex, cA G (la 3) 8 mi, cA G (la 4) 8 si, cA G (la 5) 8 un, cA G (la 6) 8 be, cA G (la 8) 8 ka]) := by
  refine g_start_i (cc := cX5_place) (nL := 3) (own := RX5) (ret := some .int) (by decide +kernel) rfl rfl (Nat.le_of_ble_eq_true rfl) ?_
  intro p e s m below meth c A ls C hr hnm hw hl
  have hl : lv_has ls 3 [(0, .ref h), (1, .int (iI pp)), (2, .int (iI ii))] := hl
  refine g_aload_n C hl 0 rfl rfl dX5_place_0 ?_
  refine g_iload_n C hl 1 rfl rfl dX5_place_1 ?_
  refine g_iload_n C hl 2 rfl rfl dX5_place_2 ?_
  refine g_callVi C hw (wr := [cA G (la 1) 12 ex, cA G (la 3) 8 mi, cA G (la 4) 8 si, cA G (la 5) 8 un, cA G (la 6) 8 be, cA G (la 8) 8 ka]) (As := [.int (iI pp), .int (iI ii)]) (rest := []) (m_X5_isRoot l D G (h := h) (a := a) (tr := tr) (lf := lf) (ta := ta) (cn := cn) (la := la) (ul := ul) (rw := rw) (rt := rt) (E := E) (pp := pp) (ii := ii) (by first | assumption | omega) (by first | assumption | omega) (by first | assumption | omega) (by first | assumption | omega)) (cwV 2 C.1.2.2.2.2 gX5_place_X5_isRoot rfl rfl rfl (by decide +kernel) ⟨Nat.le_of_ble_eq_true rfl, Nat.le_of_ble_eq_true rfl⟩) [0, 1, 2, 3] [4, 5, 6, 7, 8, 9] rfl rfl (by decide) (by decide) (by decide) 0 rfl rfl rfl hl.1 _ rfl (Nat.le_of_ble_eq_true rfl) dX5_place_3 ⟨Nat.le_of_ble_eq_true rfl, Nat.le_of_ble_eq_true rfl⟩ ?_
  clear hw
  rintro _ _ H locs ⟨rfl, rfl⟩ hw
  have hw : gW D A s.heap [cA G (la 1) 12 ex, cA G (la 3) 8 mi, cA G (la 4) 8 si, cA G (la 5) 8 un, cA G (la 6) 8 be, cA G (la 8) 8 ka, oX5 h a tr lf, oX4 (a 1) ta cn, oX0 (a 2) la cn ul rw, cA G (la 2) 4 rt] H locs := hw
  refine g_ifb_ne C 11 dX5_place_6 (by decide) (fun c_1 => ?_) (fun c_1 => ?_)
  · skip
    refine g_aload_n C hl 0 rfl rfl dX5_place_11 ?_
    refine g_get C hw hin_X5_place_X5 6 rfl rfl 2 (by decide) lk_X5_place_27 rfl dX5_place_12 ?_
    refine g_iload_n C hl 1 rfl rfl dX5_place_15 ?_
    refine g_iload_n C hl 2 rfl rfl dX5_place_16 ?_
    refine g_callVi C hw (wr := [oX5 h a tr lf, oX4 (a 1) ta cn, cA G (la 2) 4 rt]) (As := [.int (iI pp), .int (iI ii)]) (rest := []) (m_X0_numberOf l D G (h := (a 2)) (a := la) (cn := cn) (ul := ul) (rw := rw) (ex := ex) (mi := mi) (si := si) (un := un) (be := be) (ka := ka) (E := E) (pp := pp) (ii := ii) (by first | assumption | omega) (by first | assumption | omega) (by first | assumption | omega) (by first | assumption | omega) (by first | assumption | omega) (by first | assumption | omega) (by first | assumption | omega) (by first | assumption | omega)) (cwV 2 C.1.2.2.2.2 gX5_place_X0_numberOf rfl rfl rfl (by decide +kernel) ⟨Nat.le_of_ble_eq_true rfl, Nat.le_of_ble_eq_true rfl⟩) [8, 0, 1, 2, 3, 4, 5] [6, 7, 9] rfl rfl (by decide) (by decide) (by decide) 0 rfl rfl rfl hl.1 _ rfl (Nat.le_of_ble_eq_true rfl) dX5_place_17 ⟨Nat.le_of_ble_eq_true rfl, Nat.le_of_ble_eq_true rfl⟩ ?_
    clear hw
    rintro _ _ H locs ⟨rfl, rfl⟩ hw
    have hw : gW D A s.heap [oX5 h a tr lf, oX4 (a 1) ta cn, cA G (la 2) 4 rt, oX0 (a 2) la cn ul rw, cA G (la 1) 12 ex, cA G (la 3) 8 mi, cA G (la 4) 8 si, cA G (la 5) 8 un, cA G (la 6) 8 be, cA G (la 8) 8 ka] H locs := hw
    exact g_iret C hr (ws' := [oX5 h a tr lf, oX4 (a 1) ta cn, oX0 (a 2) la cn ul rw, cA G (la 2) 4 rt, cA G (la 1) 12 ex, cA G (la 3) 8 mi, cA G (la 4) 8 si, cA G (la 5) 8 un, cA G (la 6) 8 be, cA G (la 8) 8 ka]) hw [0, 1, 3, 2, 4, 5, 6, 7, 8, 9] (by decide) rfl ⟨(congrArg iI (by unfold R_pla; (repeat' split) <;> omega)), rfl⟩ dX5_place_20
  · skip
    refine g_iconst C dX5_place_9 ?_
    exact g_iret C hr (ws' := [oX5 h a tr lf, oX4 (a 1) ta cn, oX0 (a 2) la cn ul rw, cA G (la 2) 4 rt, cA G (la 1) 12 ex, cA G (la 3) 8 mi, cA G (la 4) 8 si, cA G (la 5) 8 un, cA G (la 6) 8 be, cA G (la 8) 8 ka]) hw [6, 7, 8, 9, 0, 1, 2, 3, 4, 5] (by decide) rfl ⟨(congrArg iI (by unfold R_pla; (repeat' split) <;> omega)), rfl⟩ dX5_place_10

set_option maxRecDepth 20000 in
theorem hin_X5_sharers_X5 : ∀ w ∈ u_ws RX5 TX5 9, w ∈ wsX5_sharers := by
  intro w h
  exact List.mem_cons_of_mem _ (List.mem_append_left _ (List.mem_append_left _ (List.mem_append_right _ (h))))
set_option maxRecDepth 20000 in
theorem lk_X5_sharers_20 : Cond.fieldLink RX5 20 (TX5 1).1 (TX5 1).2.1 (TX5 1).2.2.1 ∈ wsX5_sharers := List.mem_cons_of_mem _ (List.mem_append_left _ (List.mem_append_left _ (List.mem_append_left _ (List.mem_of_getElem? (i := 0) rfl))))
set_option maxRecDepth 20000 in
theorem hin_X5_sharers_X4 : ∀ w ∈ u_ws RX4 TX4 3, w ∈ wsX5_sharers := by
  intro w h
  exact List.mem_cons_of_mem _ (List.mem_append_left _ (List.mem_append_right _ (h)))
set_option maxRecDepth 20000 in
theorem lk_X5_sharers_92 : Cond.fieldLink RX5 92 (TX4 0).1 (TX4 0).2.1 (TX4 0).2.2.1 ∈ wsX5_sharers := List.mem_cons_of_mem _ (List.mem_append_left _ (List.mem_append_left _ (List.mem_append_left _ (List.mem_of_getElem? (i := 1) rfl))))
set_option maxRecDepth 20000 in
theorem lk_X5_sharers_27 : Cond.fieldLink RX5 27 (TX5 2).1 (TX5 2).2.1 (TX5 2).2.2.1 ∈ wsX5_sharers := List.mem_cons_of_mem _ (List.mem_append_left _ (List.mem_append_left _ (List.mem_append_left _ (List.mem_of_getElem? (i := 2) rfl))))
set_option maxRecDepth 20000 in
theorem hin_X5_sharers_X0 : ∀ w ∈ u_ws RX0 TX0 14, w ∈ wsX5_sharers := by
  intro w h
  exact List.mem_cons_of_mem _ (List.mem_append_right _ (h))
set_option maxRecDepth 20000 in
theorem lk_X5_sharers_133 : Cond.fieldLink RX5 133 (TX0 7).1 (TX0 7).2.1 (TX0 7).2.2.1 ∈ wsX5_sharers := List.mem_cons_of_mem _ (List.mem_append_left _ (List.mem_append_left _ (List.mem_append_left _ (List.mem_of_getElem? (i := 3) rfl))))
set_option maxRecDepth 20000 in
theorem lk_X5_sharers_162 : Cond.fieldLink RX5 162 (TX0 9).1 (TX0 9).2.1 (TX0 9).2.2.1 ∈ wsX5_sharers := List.mem_cons_of_mem _ (List.mem_append_left _ (List.mem_append_left _ (List.mem_append_left _ (List.mem_of_getElem? (i := 4) rfl))))
set_option maxRecDepth 100000 in
set_option maxHeartbeats 8000000 in
theorem m_X5_sharers (l : Launch) (D : va_G) (G : gT) (h : Nat) (a : Nat → Nat) (tr : Int) (lf : Int) (ta : Nat → Nat) (cn : Int) (la : Nat → Nat) (ul : Int) (rw : Int) (ka : Int → Int) (br : Int → Int) (E : Int → Int → Int) (kk : Int) (hcn : 0 ≤ cn ∧ cn ≤ 4) (hk : -2147483648 ≤ kk ∧ kk ≤ 2147483647) (hB : hasB ka br (ALb E cn.toNat)) (hulb : ul = ((ALb E cn.toNat).length : Int)) : gMi l yX5_sharers wsX5_sharers ({ frames := 1, cells := 0, slots := 0, locals := 21 }) D G [.ref h, .int (iI kk)] [oX5 h a tr lf, oX4 (a 1) ta cn, oX0 (a 2) la cn ul rw, cA G (la 8) 8 ka, cA G (la 9) 8 br] 0 0 (fun (r : Int32) (w : va_W) => r = (iI (R_shb cn E kk)) ∧ w = [oX5 h a tr lf, oX4 (a 1) ta cn, oX0 (a 2) la cn ul rw, cA G (la 8) 8 ka, cA G (la 9) 8 br]) := by
  refine g_start_i (cc := cX5_sharers) (nL := 2) (own := RX5) (ret := some .int) (by decide +kernel) rfl rfl (Nat.le_of_ble_eq_true rfl) ?_
  intro p e s m below meth c A ls C hr hnm hw hl
  have hl : lv_has ls 2 [(0, .ref h), (1, .int (iI kk))] := hl
  have hlen := ALn_len E cn.toNat
  have hle2 := ALb_len E cn.toNat
  refine g_aload_n C hl 0 rfl rfl dX5_sharers_0 ?_
  refine g_get C hw hin_X5_sharers_X5 0 rfl rfl 1 (by decide) lk_X5_sharers_20 rfl dX5_sharers_1 ?_
  refine g_get C hw hin_X5_sharers_X4 1 rfl rfl 0 (by decide) lk_X5_sharers_92 rfl dX5_sharers_4 ?_
  refine g_if_ne C 13 dX5_sharers_7 (by decide) (by omega) (fun c_1 => ?_) (fun c_1 => ?_)
  · skip
    refine g_iload_n C hl 1 rfl rfl dX5_sharers_13 ?_
    refine g_aload_n C hl 0 rfl rfl dX5_sharers_14 ?_
    refine g_get C hw hin_X5_sharers_X5 0 rfl rfl 2 (by decide) lk_X5_sharers_27 rfl dX5_sharers_15 ?_
    refine g_get C hw hin_X5_sharers_X0 2 rfl rfl 7 (by decide) lk_X5_sharers_133 rfl dX5_sharers_18 ?_
    refine g_callSi C hw (wr := [oX5 h a tr lf, oX4 (a 1) ta cn, oX0 (a 2) la cn ul rw, cA G (la 8) 8 ka, cA G (la 9) 8 br]) (As := [.int (iI kk), .int (iI ul)]) (rest := []) (m_X5_isBelow l D G (na := kk) (nb := ul) (by first | assumption | omega) (by first | assumption | omega)) (va_cwS 2 C.1.2.2.2.2 gX5_sharers_X5_isBelow rfl rfl rfl (by decide +kernel) ⟨Nat.le_of_ble_eq_true rfl, Nat.le_of_ble_eq_true rfl⟩) [] [0, 1, 2, 3, 4] rfl rfl (by decide) (by decide) (by decide) rfl hl.1 _ rfl (Nat.le_of_ble_eq_true rfl) dX5_sharers_21 ⟨Nat.le_of_ble_eq_true rfl, Nat.le_of_ble_eq_true rfl⟩ ?_
    clear hw
    rintro _ _ H locs ⟨rfl, rfl⟩ hw
    have hw : gW D A s.heap [oX5 h a tr lf, oX4 (a 1) ta cn, oX0 (a 2) la cn ul rw, cA G (la 8) 8 ka, cA G (la 9) 8 br] H locs := hw
    refine g_ifb_ne C 29 dX5_sharers_24 (by decide) (fun c_2 => ?_) (fun c_2 => ?_)
    · skip
      obtain ⟨x9, hx1, hx2, hx3, hx4⟩ := hasB_at hB (k := kk) ⟨by omega, by omega⟩
      refine g_aload_n C hl 0 rfl rfl dX5_sharers_29 ?_
      refine g_get C hw hin_X5_sharers_X5 0 rfl rfl 2 (by decide) lk_X5_sharers_27 rfl dX5_sharers_30 ?_
      refine g_get C hw hin_X5_sharers_X0 2 rfl rfl 9 (by decide) lk_X5_sharers_162 rfl dX5_sharers_33 ?_
      refine g_iload_n C hl 1 rfl rfl dX5_sharers_36 ?_
      refine g_iald C hw 4 rfl (by omega) (Nat.le_of_ble_eq_true rfl) dX5_sharers_37 ?_
      exact g_iret C hr (ws' := [oX5 h a tr lf, oX4 (a 1) ta cn, oX0 (a 2) la cn ul rw, cA G (la 8) 8 ka, cA G (la 9) 8 br]) hw [0, 1, 2, 3, 4] (by decide) rfl ⟨(congrArg iI (by unfold R_shb; rw [if_neg (by omega), if_neg (by omega), hx1, hx4]; rfl)), rfl⟩ dX5_sharers_38
    · skip
      refine g_iconst C dX5_sharers_27 ?_
      exact g_iret C hr (ws' := [oX5 h a tr lf, oX4 (a 1) ta cn, oX0 (a 2) la cn ul rw, cA G (la 8) 8 ka, cA G (la 9) 8 br]) hw [0, 1, 2, 3, 4] (by decide) rfl ⟨(congrArg iI (by unfold R_shb; (repeat' split) <;> omega)), rfl⟩ dX5_sharers_28
  · skip
    refine g_bipush C dX5_sharers_10 (by decide) ?_
    exact g_iret C hr (ws' := [oX5 h a tr lf, oX4 (a 1) ta cn, oX0 (a 2) la cn ul rw, cA G (la 8) 8 ka, cA G (la 9) 8 br]) hw [0, 1, 2, 3, 4] (by decide) rfl ⟨(congrArg iI (by unfold R_shb; (repeat' split) <;> omega)), rfl⟩ dX5_sharers_12

set_option maxRecDepth 20000 in
theorem hin_X5_line_X5 : ∀ w ∈ u_ws RX5 TX5 9, w ∈ wsX5_line := by
  intro w h
  exact List.mem_cons_of_mem _ (List.mem_append_left _ (List.mem_append_left _ (List.mem_append_right _ (h))))
set_option maxRecDepth 20000 in
theorem lk_X5_line_20 : Cond.fieldLink RX5 20 (TX5 1).1 (TX5 1).2.1 (TX5 1).2.2.1 ∈ wsX5_line := List.mem_cons_of_mem _ (List.mem_append_left _ (List.mem_append_left _ (List.mem_append_left _ (List.mem_append_left _ (List.mem_of_getElem? (i := 0) rfl)))))
set_option maxRecDepth 20000 in
theorem hin_X5_line_X4 : ∀ w ∈ u_ws RX4 TX4 3, w ∈ wsX5_line := by
  intro w h
  exact List.mem_cons_of_mem _ (List.mem_append_left _ (List.mem_append_right _ (h)))
set_option maxRecDepth 20000 in
theorem lk_X5_line_92 : Cond.fieldLink RX5 92 (TX4 0).1 (TX4 0).2.1 (TX4 0).2.2.1 ∈ wsX5_line := List.mem_cons_of_mem _ (List.mem_append_left _ (List.mem_append_left _ (List.mem_append_left _ (List.mem_append_left _ (List.mem_of_getElem? (i := 1) rfl)))))
set_option maxRecDepth 20000 in
theorem lk_X5_line_27 : Cond.fieldLink RX5 27 (TX5 2).1 (TX5 2).2.1 (TX5 2).2.2.1 ∈ wsX5_line := List.mem_cons_of_mem _ (List.mem_append_left _ (List.mem_append_left _ (List.mem_append_left _ (List.mem_append_left _ (List.mem_of_getElem? (i := 2) rfl)))))
set_option maxRecDepth 20000 in
theorem hin_X5_line_X0 : ∀ w ∈ u_ws RX0 TX0 14, w ∈ wsX5_line := by
  intro w h
  exact List.mem_cons_of_mem _ (List.mem_append_right _ (h))
set_option maxRecDepth 20000 in
theorem lk_X5_line_139 : Cond.fieldLink RX5 139 (TX0 10).1 (TX0 10).2.1 (TX0 10).2.2.1 ∈ wsX5_line := List.mem_cons_of_mem _ (List.mem_append_left _ (List.mem_append_left _ (List.mem_append_left _ (List.mem_append_left _ (List.mem_of_getElem? (i := 4) rfl)))))
set_option maxRecDepth 20000 in
theorem lk_X5_line_133 : Cond.fieldLink RX5 133 (TX0 7).1 (TX0 7).2.1 (TX0 7).2.2.1 ∈ wsX5_line := List.mem_cons_of_mem _ (List.mem_append_left _ (List.mem_append_left _ (List.mem_append_left _ (List.mem_append_left _ (List.mem_of_getElem? (i := 3) rfl)))))
set_option maxRecDepth 100000 in
set_option maxHeartbeats 8000000 in
theorem m_X5_line (l : Launch) (D : va_G) (G : gT) (h : Nat) (a : Nat → Nat) (tr : Int) (lf : Int) (ta : Nat → Nat) (cn : Int) (la : Nat → Nat) (ul : Int) (rw : Int) (ex : Int → Int) (mi : Int → Int) (si : Int → Int) (un : Int → Int) (be : Int → Int) (ka : Int → Int) (rs : Int → Int) (rf : Int → Int) (rp : Int → Int) (E : Int → Int → Int) (wh : Int) (hcn : 0 ≤ cn ∧ cn ≤ 4) (hE : EB E) (hX : LnX E cn ex) (hZ : LnZ E cn mi si un be) (hKA : hasL ka (ALn E cn.toNat)) (hul : ul = ((ALn E cn.toNat).length : Int)) (hw1 : -2147483648 ≤ wh ∧ wh ≤ 2147483647) : gMi l yX5_line wsX5_line ({ frames := 6, cells := 0, slots := 0, locals := 163 }) D G [.ref h, .int (iI wh)] [oX5 h a tr lf, oX4 (a 1) ta cn, oX0 (a 2) la cn ul rw, cA G (la 1) 12 ex, cA G (la 3) 8 mi, cA G (la 4) 8 si, cA G (la 5) 8 un, cA G (la 6) 8 be, cA G (la 8) 8 ka, cA G (la 11) 17 rs, cA G (la 12) 17 rf, cA G (la 13) 17 rp] 0 0 (fun (r : Int32) (w : va_W) => ∃ (rw2 : Int) (rs2 : Int → Int) (rf2 : Int → Int) (rp2 : Int → Int), r = (iI (R_line cn E (ALn E cn.toNat) wh)) ∧ w = [oX5 h a tr lf, oX4 (a 1) ta cn, oX0 (a 2) la cn ul rw2, cA G (la 1) 12 ex, cA G (la 3) 8 mi, cA G (la 4) 8 si, cA G (la 5) 8 un, cA G (la 6) 8 be, cA G (la 8) 8 ka, cA G (la 11) 17 rs2, cA G (la 12) 17 rf2, cA G (la 13) 17 rp2]) := by
  refine g_start_i (cc := cX5_line) (nL := 2) (own := RX5) (ret := some .int) (by decide +kernel) rfl rfl (Nat.le_of_ble_eq_true rfl) ?_
  intro p e s m below meth c A ls C hr hnm hw hl
  have hl : lv_has ls 2 [(0, .ref h), (1, .int (iI wh))] := hl
  have hlen := ALn_len E cn.toNat
  refine g_iload_n C hl 1 rfl rfl dX5_line_0 ?_
  refine g_iconst C dX5_line_1 ?_
  refine g_callSi C hw (wr := [oX5 h a tr lf, oX4 (a 1) ta cn, oX0 (a 2) la cn ul rw, cA G (la 1) 12 ex, cA G (la 3) 8 mi, cA G (la 4) 8 si, cA G (la 5) 8 un, cA G (la 6) 8 be, cA G (la 8) 8 ka, cA G (la 11) 17 rs, cA G (la 12) 17 rf, cA G (la 13) 17 rp]) (As := [.int (iI wh), .int (iI 3)]) (rest := []) (m_X5_isBelow l D G (na := wh) (nb := 3) (by first | assumption | omega) (by first | assumption | omega)) (va_cwS 2 C.1.2.2.2.2 gX5_line_X5_isBelow rfl rfl rfl (by decide +kernel) ⟨Nat.le_of_ble_eq_true rfl, Nat.le_of_ble_eq_true rfl⟩) [] [0, 1, 2, 3, 4, 5, 6, 7, 8, 9, 10, 11] rfl rfl (by decide) (by decide) (by decide) rfl hl.1 _ rfl (Nat.le_of_ble_eq_true rfl) dX5_line_2 ⟨Nat.le_of_ble_eq_true rfl, Nat.le_of_ble_eq_true rfl⟩ ?_
  clear hw
  rintro _ _ H locs ⟨rfl, rfl⟩ hw
  have hw : gW D A s.heap [oX5 h a tr lf, oX4 (a 1) ta cn, oX0 (a 2) la cn ul rw, cA G (la 1) 12 ex, cA G (la 3) 8 mi, cA G (la 4) 8 si, cA G (la 5) 8 un, cA G (la 6) 8 be, cA G (la 8) 8 ka, cA G (la 11) 17 rs, cA G (la 12) 17 rf, cA G (la 13) 17 rp] H locs := hw
  refine g_ifb_ne C 11 dX5_line_5 (by decide) (fun c_1 => ?_) (fun c_1 => ?_)
  · skip
    refine g_aload_n C hl 0 rfl rfl dX5_line_11 ?_
    refine g_get C hw hin_X5_line_X5 0 rfl rfl 1 (by decide) lk_X5_line_20 rfl dX5_line_12 ?_
    refine g_get C hw hin_X5_line_X4 1 rfl rfl 0 (by decide) lk_X5_line_92 rfl dX5_line_15 ?_
    refine g_if_ne C 24 dX5_line_18 (by decide) (by omega) (fun c_2 => ?_) (fun c_2 => ?_)
    · skip
      refine g_iload_n C hl 1 rfl rfl dX5_line_24 ?_
      refine g_if_ne C 36 dX5_line_25 (by decide) (by omega) (fun c_3 => ?_) (fun c_3 => ?_)
      · skip
        refine g_iload_n C hl 1 rfl rfl dX5_line_36 ?_
        refine g_iconst C dX5_line_37 ?_
        refine g_icmp_ne C 49 dX5_line_38 (by decide) (by omega) (by omega) (fun c_4 => ?_) (fun c_4 => ?_)
        · skip
          refine g_aload_n C hl 0 rfl rfl dX5_line_49 ?_
          refine g_get C hw hin_X5_line_X5 0 rfl rfl 2 (by decide) lk_X5_line_27 rfl dX5_line_50 ?_
          refine g_callVv C hw (wr := [oX5 h a tr lf, oX4 (a 1) ta cn]) (As := []) (rest := []) (m_X0_gatherRows l D G (h := (a 2)) (a := la) (cn := cn) (ul := ul) (rw := rw) (ex := ex) (mi := mi) (si := si) (un := un) (be := be) (ka := ka) (rs := rs) (rf := rf) (rp := rp) (E := E) (by first | assumption | omega) (by first | assumption | omega) (by first | assumption | omega) (by first | assumption | omega) (by first | assumption | omega) (by first | assumption | omega)) (cwV 0 C.1.2.2.2.2 gX5_line_X0_gatherRows rfl rfl rfl (by decide +kernel) ⟨Nat.le_of_ble_eq_true rfl, Nat.le_of_ble_eq_true rfl⟩) [2, 3, 4, 5, 6, 7, 8, 9, 10, 11] [0, 1] rfl rfl (by decide) (by decide) (by decide) 0 rfl rfl rfl hl.1 _ rfl (Nat.le_of_ble_eq_true rfl) dX5_line_53 ⟨Nat.le_of_ble_eq_true rfl, Nat.le_of_ble_eq_true rfl⟩ ?_
          clear hw
          rintro _ H locs ⟨rs2__5, rf2__6, rp2__7, rfl, hp_8⟩ hw
          have hw : gW D A s.heap [oX5 h a tr lf, oX4 (a 1) ta cn, oX0 (a 2) la cn ul ((fsL E (ALn E cn.toNat) cn (2 * (ALn E cn.toNat).length + 1)).length : Int), cA G (la 1) 12 ex, cA G (la 3) 8 mi, cA G (la 4) 8 si, cA G (la 5) 8 un, cA G (la 6) 8 be, cA G (la 8) 8 ka, cA G (la 11) 17 rs2__5, cA G (la 12) 17 rf2__6, cA G (la 13) 17 rp2__7] H locs := hw
          have hp_8 : grP E (ALn E cn.toNat) cn (2 * ((ALn E cn.toNat).length : Int) + 1) ((fsL E (ALn E cn.toNat) cn (2 * (ALn E cn.toNat).length + 1)).length : Int) rs2__5 rf2__6 rp2__7 := hp_8
          refine g_aload_n C hl 0 rfl rfl dX5_line_56 ?_
          refine g_get C hw hin_X5_line_X5 0 rfl rfl 2 (by decide) lk_X5_line_27 rfl dX5_line_57 ?_
          refine g_get C hw hin_X5_line_X0 2 rfl rfl 10 (by decide) lk_X5_line_139 rfl dX5_line_60 ?_
          exact g_iret C hr (ws' := [oX5 h a tr lf, oX4 (a 1) ta cn, oX0 (a 2) la cn ul ((fsL E (ALn E cn.toNat) cn (2 * (ALn E cn.toNat).length + 1)).length : Int), cA G (la 1) 12 ex, cA G (la 3) 8 mi, cA G (la 4) 8 si, cA G (la 5) 8 un, cA G (la 6) 8 be, cA G (la 8) 8 ka, cA G (la 11) 17 rs2__5, cA G (la 12) 17 rf2__6, cA G (la 13) 17 rp2__7]) hw [0, 1, 2, 3, 4, 5, 6, 7, 8, 9, 10, 11] (by decide) rfl ⟨((fsL E (ALn E cn.toNat) cn (2 * (ALn E cn.toNat).length + 1)).length : Int), rs2__5, rf2__6, rp2__7, (congrArg iI (by unfold R_line; (repeat' split) <;> omega)), rfl⟩ dX5_line_63
        · skip
          refine g_aload_n C hl 0 rfl rfl dX5_line_41 ?_
          refine g_get C hw hin_X5_line_X5 0 rfl rfl 2 (by decide) lk_X5_line_27 rfl dX5_line_42 ?_
          refine g_callVi C hw (wr := [oX5 h a tr lf, oX4 (a 1) ta cn, cA G (la 1) 12 ex, cA G (la 3) 8 mi, cA G (la 4) 8 si, cA G (la 5) 8 un, cA G (la 6) 8 be, cA G (la 8) 8 ka, cA G (la 11) 17 rs, cA G (la 12) 17 rf, cA G (la 13) 17 rp]) (As := []) (rest := []) (m_X0_spots l D G (h := (a 2)) (a := la) (cn := cn) (ul := ul) (rw := rw) ) (cwV 0 C.1.2.2.2.2 gX5_line_X0_spots rfl rfl rfl (by decide +kernel) ⟨Nat.le_of_ble_eq_true rfl, Nat.le_of_ble_eq_true rfl⟩) [2] [0, 1, 3, 4, 5, 6, 7, 8, 9, 10, 11] rfl rfl (by decide) (by decide) (by decide) 0 rfl rfl rfl hl.1 _ rfl (Nat.le_of_ble_eq_true rfl) dX5_line_45 ⟨Nat.le_of_ble_eq_true rfl, Nat.le_of_ble_eq_true rfl⟩ ?_
          clear hw
          rintro _ _ H locs ⟨rfl, rfl⟩ hw
          have hw : gW D A s.heap [oX5 h a tr lf, oX4 (a 1) ta cn, cA G (la 1) 12 ex, cA G (la 3) 8 mi, cA G (la 4) 8 si, cA G (la 5) 8 un, cA G (la 6) 8 be, cA G (la 8) 8 ka, cA G (la 11) 17 rs, cA G (la 12) 17 rf, cA G (la 13) 17 rp, oX0 (a 2) la cn ul rw] H locs := hw
          exact g_iret C hr (ws' := [oX5 h a tr lf, oX4 (a 1) ta cn, oX0 (a 2) la cn ul rw, cA G (la 1) 12 ex, cA G (la 3) 8 mi, cA G (la 4) 8 si, cA G (la 5) 8 un, cA G (la 6) 8 be, cA G (la 8) 8 ka, cA G (la 11) 17 rs, cA G (la 12) 17 rf, cA G (la 13) 17 rp]) hw [0, 1, 11, 2, 3, 4, 5, 6, 7, 8, 9, 10] (by decide) rfl ⟨rw, rs, rf, rp, (congrArg iI (by unfold R_line; (repeat' split) <;> omega)), rfl⟩ dX5_line_48
      · skip
        refine g_aload_n C hl 0 rfl rfl dX5_line_28 ?_
        refine g_get C hw hin_X5_line_X5 0 rfl rfl 2 (by decide) lk_X5_line_27 rfl dX5_line_29 ?_
        refine g_get C hw hin_X5_line_X0 2 rfl rfl 7 (by decide) lk_X5_line_133 rfl dX5_line_32 ?_
        exact g_iret C hr (ws' := [oX5 h a tr lf, oX4 (a 1) ta cn, oX0 (a 2) la cn ul rw, cA G (la 1) 12 ex, cA G (la 3) 8 mi, cA G (la 4) 8 si, cA G (la 5) 8 un, cA G (la 6) 8 be, cA G (la 8) 8 ka, cA G (la 11) 17 rs, cA G (la 12) 17 rf, cA G (la 13) 17 rp]) hw [0, 1, 2, 3, 4, 5, 6, 7, 8, 9, 10, 11] (by decide) rfl ⟨rw, rs, rf, rp, (congrArg iI (by unfold R_line; (repeat' split) <;> omega)), rfl⟩ dX5_line_35
    · skip
      refine g_bipush C dX5_line_21 (by decide) ?_
      exact g_iret C hr (ws' := [oX5 h a tr lf, oX4 (a 1) ta cn, oX0 (a 2) la cn ul rw, cA G (la 1) 12 ex, cA G (la 3) 8 mi, cA G (la 4) 8 si, cA G (la 5) 8 un, cA G (la 6) 8 be, cA G (la 8) 8 ka, cA G (la 11) 17 rs, cA G (la 12) 17 rf, cA G (la 13) 17 rp]) hw [0, 1, 2, 3, 4, 5, 6, 7, 8, 9, 10, 11] (by decide) rfl ⟨rw, rs, rf, rp, (congrArg iI (by unfold R_line; (repeat' split) <;> omega)), rfl⟩ dX5_line_23
  · skip
    refine g_bipush C dX5_line_8 (by decide) ?_
    exact g_iret C hr (ws' := [oX5 h a tr lf, oX4 (a 1) ta cn, oX0 (a 2) la cn ul rw, cA G (la 1) 12 ex, cA G (la 3) 8 mi, cA G (la 4) 8 si, cA G (la 5) 8 un, cA G (la 6) 8 be, cA G (la 8) 8 ka, cA G (la 11) 17 rs, cA G (la 12) 17 rf, cA G (la 13) 17 rp]) hw [0, 1, 2, 3, 4, 5, 6, 7, 8, 9, 10, 11] (by decide) rfl ⟨rw, rs, rf, rp, (congrArg iI (by unfold R_line; (repeat' split) <;> omega)), rfl⟩ dX5_line_10

set_option maxRecDepth 20000 in
theorem hin_X5_signIn_X5 : ∀ w ∈ u_ws RX5 TX5 9, w ∈ wsX5_signIn := by
  intro w h
  exact List.mem_cons_of_mem _ (List.mem_append_left _ (List.mem_append_left _ (List.mem_append_right _ (h))))
set_option maxRecDepth 20000 in
theorem lk_X5_signIn_27 : Cond.fieldLink RX5 27 (TX5 2).1 (TX5 2).2.1 (TX5 2).2.2.1 ∈ wsX5_signIn := List.mem_cons_of_mem _ (List.mem_append_left _ (List.mem_append_left _ (List.mem_append_left _ (List.mem_append_left _ (List.mem_of_getElem? (i := 0) rfl)))))
set_option maxRecDepth 100000 in
set_option maxHeartbeats 8000000 in
theorem m_X5_signIn (l : Launch) (D : va_G) (G : gT) (h : Nat) (a : Nat → Nat) (tr : Int) (lf : Int) (ta : Nat → Nat) (cn : Int) (la : Nat → Nat) (ul : Int) (rw : Int) (ex : Int → Int) (mi : Int → Int) (si : Int → Int) (un : Int → Int) (be : Int → Int) (ka : Int → Int) (E : Int → Int → Int) (kk : Int) (pp : Int) (hcn : 0 ≤ cn ∧ cn ≤ 4) (hE : EB E) (hX : LnX E cn ex) (hZ : LnZ E cn mi si un be) (hKA : hasL ka (ALn E cn.toNat)) (hul : ul = ((ALn E cn.toNat).length : Int)) (hp : -2147483648 ≤ pp ∧ pp ≤ 2147483647) (hk : -2147483648 ≤ kk ∧ kk ≤ 2147483647) : gMi l yX5_signIn wsX5_signIn ({ frames := 4, cells := 0, slots := 0, locals := 117 }) D G [.ref h, .int (iI kk), .int (iI pp)] [oX5 h a tr lf, oX4 (a 1) ta cn, oX0 (a 2) la cn ul rw, cA G (la 1) 12 ex, cA G (la 3) 8 mi, cA G (la 4) 8 si, cA G (la 5) 8 un, cA G (la 6) 8 be, cA G (la 8) 8 ka] 0 0 (fun (r : Int32) (w : va_W) => r = (iI (R_sin cn E (ALn E cn.toNat) kk pp)) ∧ w = [oX5 h a tr lf, oX4 (a 1) ta cn, oX0 (a 2) la cn ul rw, cA G (la 1) 12 ex, cA G (la 3) 8 mi, cA G (la 4) 8 si, cA G (la 5) 8 un, cA G (la 6) 8 be, cA G (la 8) 8 ka]) := by
  refine g_start_i (cc := cX5_signIn) (nL := 3) (own := RX5) (ret := some .int) (by decide +kernel) rfl rfl (Nat.le_of_ble_eq_true rfl) ?_
  intro p e s m below meth c A ls C hr hnm hw hl
  have hl : lv_has ls 3 [(0, .ref h), (1, .int (iI kk)), (2, .int (iI pp))] := hl
  have hlen := ALn_len E cn.toNat
  have hsb := sSp_r E (ALn E cn.toNat) kk pp
  refine g_aload_n C hl 0 rfl rfl dX5_signIn_0 ?_
  refine g_iload_n C hl 2 rfl rfl dX5_signIn_1 ?_
  refine g_callVi C hw (wr := [oX0 (a 2) la cn ul rw, cA G (la 1) 12 ex, cA G (la 3) 8 mi, cA G (la 4) 8 si, cA G (la 5) 8 un, cA G (la 6) 8 be, cA G (la 8) 8 ka]) (As := [.int (iI pp)]) (rest := []) (m_X5_isPolynomial l D G (h := h) (a := a) (tr := tr) (lf := lf) (ta := ta) (cn := cn) (pp := pp) (by first | assumption | omega) (by first | assumption | omega)) (cwV 1 C.1.2.2.2.2 gX5_signIn_X5_isPolynomial rfl rfl rfl (by decide +kernel) ⟨Nat.le_of_ble_eq_true rfl, Nat.le_of_ble_eq_true rfl⟩) [0, 1] [2, 3, 4, 5, 6, 7, 8] rfl rfl (by decide) (by decide) (by decide) 0 rfl rfl rfl hl.1 _ rfl (Nat.le_of_ble_eq_true rfl) dX5_signIn_2 ⟨Nat.le_of_ble_eq_true rfl, Nat.le_of_ble_eq_true rfl⟩ ?_
  clear hw
  rintro _ _ H locs ⟨rfl, rfl⟩ hw
  have hw : gW D A s.heap [oX0 (a 2) la cn ul rw, cA G (la 1) 12 ex, cA G (la 3) 8 mi, cA G (la 4) 8 si, cA G (la 5) 8 un, cA G (la 6) 8 be, cA G (la 8) 8 ka, oX5 h a tr lf, oX4 (a 1) ta cn] H locs := hw
  refine g_ifb_eq C 22 dX5_signIn_5 (by decide) (fun c_1 => ?_) (fun c_1 => ?_)
  · skip
    refine g_iconst C dX5_signIn_22 ?_
    exact g_iret C hr (ws' := [oX5 h a tr lf, oX4 (a 1) ta cn, oX0 (a 2) la cn ul rw, cA G (la 1) 12 ex, cA G (la 3) 8 mi, cA G (la 4) 8 si, cA G (la 5) 8 un, cA G (la 6) 8 be, cA G (la 8) 8 ka]) hw [7, 8, 0, 1, 2, 3, 4, 5, 6] (by decide) rfl ⟨(congrArg iI (by unfold R_sin; (repeat' split) <;> omega)), rfl⟩ dX5_signIn_23
  · skip
    refine g_iload_n C hl 1 rfl rfl dX5_signIn_8 ?_
    refine g_aload_n C hl 0 rfl rfl dX5_signIn_9 ?_
    refine g_get C hw hin_X5_signIn_X5 7 rfl rfl 2 (by decide) lk_X5_signIn_27 rfl dX5_signIn_10 ?_
    refine g_callVi C hw (wr := [cA G (la 1) 12 ex, cA G (la 3) 8 mi, cA G (la 4) 8 si, cA G (la 5) 8 un, cA G (la 6) 8 be, cA G (la 8) 8 ka, oX5 h a tr lf, oX4 (a 1) ta cn]) (As := []) (rest := [.int (iI kk)]) (m_X0_spots l D G (h := (a 2)) (a := la) (cn := cn) (ul := ul) (rw := rw) ) (cwV 0 C.1.2.2.2.2 gX5_signIn_X0_spots rfl rfl rfl (by decide +kernel) ⟨Nat.le_of_ble_eq_true rfl, Nat.le_of_ble_eq_true rfl⟩) [0] [1, 2, 3, 4, 5, 6, 7, 8] rfl rfl (by decide) (by decide) (by decide) 0 rfl rfl rfl hl.1 _ rfl (Nat.le_of_ble_eq_true rfl) dX5_signIn_13 ⟨Nat.le_of_ble_eq_true rfl, Nat.le_of_ble_eq_true rfl⟩ ?_
    clear hw
    rintro _ _ H locs ⟨rfl, rfl⟩ hw
    have hw : gW D A s.heap [cA G (la 1) 12 ex, cA G (la 3) 8 mi, cA G (la 4) 8 si, cA G (la 5) 8 un, cA G (la 6) 8 be, cA G (la 8) 8 ka, oX5 h a tr lf, oX4 (a 1) ta cn, oX0 (a 2) la cn ul rw] H locs := hw
    refine g_callSi C hw (wr := [cA G (la 1) 12 ex, cA G (la 3) 8 mi, cA G (la 4) 8 si, cA G (la 5) 8 un, cA G (la 6) 8 be, cA G (la 8) 8 ka, oX5 h a tr lf, oX4 (a 1) ta cn, oX0 (a 2) la cn ul rw]) (As := [.int (iI kk), .int (iI ((2 * ul + 1)))]) (rest := []) (m_X5_isBelow l D G (na := kk) (nb := (2 * ul + 1)) (by first | assumption | omega) (by first | assumption | omega)) (va_cwS 2 C.1.2.2.2.2 gX5_signIn_X5_isBelow rfl rfl rfl (by decide +kernel) ⟨Nat.le_of_ble_eq_true rfl, Nat.le_of_ble_eq_true rfl⟩) [] [0, 1, 2, 3, 4, 5, 6, 7, 8] rfl rfl (by decide) (by decide) (by decide) rfl hl.1 _ rfl (Nat.le_of_ble_eq_true rfl) dX5_signIn_16 ⟨Nat.le_of_ble_eq_true rfl, Nat.le_of_ble_eq_true rfl⟩ ?_
    clear hw
    rintro _ _ H locs ⟨rfl, rfl⟩ hw
    have hw : gW D A s.heap [cA G (la 1) 12 ex, cA G (la 3) 8 mi, cA G (la 4) 8 si, cA G (la 5) 8 un, cA G (la 6) 8 be, cA G (la 8) 8 ka, oX5 h a tr lf, oX4 (a 1) ta cn, oX0 (a 2) la cn ul rw] H locs := hw
    refine g_ifb_ne C 24 dX5_signIn_19 (by decide) (fun c_2 => ?_) (fun c_2 => ?_)
    · skip
      refine g_aload_n C hl 0 rfl rfl dX5_signIn_24 ?_
      refine g_get C hw hin_X5_signIn_X5 6 rfl rfl 2 (by decide) lk_X5_signIn_27 rfl dX5_signIn_25 ?_
      refine g_iload_n C hl 1 rfl rfl dX5_signIn_28 ?_
      refine g_iload_n C hl 2 rfl rfl dX5_signIn_29 ?_
      refine g_callVi C hw (wr := [oX5 h a tr lf, oX4 (a 1) ta cn]) (As := [.int (iI kk), .int (iI pp)]) (rest := []) (m_X0_signInSpot l D G (h := (a 2)) (a := la) (cn := cn) (ul := ul) (rw := rw) (ex := ex) (mi := mi) (si := si) (un := un) (be := be) (ka := ka) (E := E) (kk := kk) (qq := pp) (by first | assumption | omega) (by first | assumption | omega) (by first | assumption | omega) (by first | assumption | omega) (by first | assumption | omega) (by first | assumption | omega) (by first | assumption | omega) (by first | assumption | omega)) (cwV 2 C.1.2.2.2.2 gX5_signIn_X0_signInSpot rfl rfl rfl (by decide +kernel) ⟨Nat.le_of_ble_eq_true rfl, Nat.le_of_ble_eq_true rfl⟩) [8, 0, 1, 2, 3, 4, 5] [6, 7] rfl rfl (by decide) (by decide) (by decide) 0 rfl rfl rfl hl.1 _ rfl (Nat.le_of_ble_eq_true rfl) dX5_signIn_30 ⟨Nat.le_of_ble_eq_true rfl, Nat.le_of_ble_eq_true rfl⟩ ?_
      clear hw
      rintro _ _ H locs ⟨rfl, rfl⟩ hw
      have hw : gW D A s.heap [oX5 h a tr lf, oX4 (a 1) ta cn, oX0 (a 2) la cn ul rw, cA G (la 1) 12 ex, cA G (la 3) 8 mi, cA G (la 4) 8 si, cA G (la 5) 8 un, cA G (la 6) 8 be, cA G (la 8) 8 ka] H locs := hw
      refine g_iconst C dX5_signIn_33 ?_
      refine g_iadd C dX5_signIn_34 ?_
      exact g_iret C hr (ws' := [oX5 h a tr lf, oX4 (a 1) ta cn, oX0 (a 2) la cn ul rw, cA G (la 1) 12 ex, cA G (la 3) 8 mi, cA G (la 4) 8 si, cA G (la 5) 8 un, cA G (la 6) 8 be, cA G (la 8) 8 ka]) hw [0, 1, 2, 3, 4, 5, 6, 7, 8] (by decide) rfl ⟨(congrArg iI (by unfold R_sin; (repeat' split) <;> omega)), rfl⟩ dX5_signIn_35
    · skip
      refine g_iconst C dX5_signIn_22 ?_
      exact g_iret C hr (ws' := [oX5 h a tr lf, oX4 (a 1) ta cn, oX0 (a 2) la cn ul rw, cA G (la 1) 12 ex, cA G (la 3) 8 mi, cA G (la 4) 8 si, cA G (la 5) 8 un, cA G (la 6) 8 be, cA G (la 8) 8 ka]) hw [6, 7, 8, 0, 1, 2, 3, 4, 5] (by decide) rfl ⟨(congrArg iI (by unfold R_sin; (repeat' split) <;> omega)), rfl⟩ dX5_signIn_23

set_option maxRecDepth 20000 in
theorem hin_X5_ofRow_X5 : ∀ w ∈ u_ws RX5 TX5 9, w ∈ wsX5_ofRow := by
  intro w h
  exact List.mem_cons_of_mem _ (List.mem_append_left _ (List.mem_append_left _ (List.mem_append_right _ (h))))
set_option maxRecDepth 20000 in
theorem lk_X5_ofRow_20 : Cond.fieldLink RX5 20 (TX5 1).1 (TX5 1).2.1 (TX5 1).2.2.1 ∈ wsX5_ofRow := List.mem_cons_of_mem _ (List.mem_append_left _ (List.mem_append_left _ (List.mem_append_left _ (List.mem_append_left _ (List.mem_of_getElem? (i := 0) rfl)))))
set_option maxRecDepth 20000 in
theorem hin_X5_ofRow_X4 : ∀ w ∈ u_ws RX4 TX4 3, w ∈ wsX5_ofRow := by
  intro w h
  exact List.mem_cons_of_mem _ (List.mem_append_left _ (List.mem_append_right _ (h)))
set_option maxRecDepth 20000 in
theorem lk_X5_ofRow_92 : Cond.fieldLink RX5 92 (TX4 0).1 (TX4 0).2.1 (TX4 0).2.2.1 ∈ wsX5_ofRow := List.mem_cons_of_mem _ (List.mem_append_left _ (List.mem_append_left _ (List.mem_append_left _ (List.mem_append_left _ (List.mem_of_getElem? (i := 1) rfl)))))
set_option maxRecDepth 20000 in
theorem lk_X5_ofRow_27 : Cond.fieldLink RX5 27 (TX5 2).1 (TX5 2).2.1 (TX5 2).2.2.1 ∈ wsX5_ofRow := List.mem_cons_of_mem _ (List.mem_append_left _ (List.mem_append_left _ (List.mem_append_left _ (List.mem_append_left _ (List.mem_of_getElem? (i := 2) rfl)))))
set_option maxRecDepth 20000 in
theorem hin_X5_ofRow_X0 : ∀ w ∈ u_ws RX0 TX0 14, w ∈ wsX5_ofRow := by
  intro w h
  exact List.mem_cons_of_mem _ (List.mem_append_right _ (h))
set_option maxRecDepth 20000 in
theorem lk_X5_ofRow_139 : Cond.fieldLink RX5 139 (TX0 10).1 (TX0 10).2.1 (TX0 10).2.2.1 ∈ wsX5_ofRow := List.mem_cons_of_mem _ (List.mem_append_left _ (List.mem_append_left _ (List.mem_append_left _ (List.mem_append_left _ (List.mem_of_getElem? (i := 3) rfl)))))
set_option maxRecDepth 20000 in
theorem lk_X5_ofRow_171 : Cond.fieldLink RX5 171 (TX0 12).1 (TX0 12).2.1 (TX0 12).2.2.1 ∈ wsX5_ofRow := List.mem_cons_of_mem _ (List.mem_append_left _ (List.mem_append_left _ (List.mem_append_left _ (List.mem_append_left _ (List.mem_of_getElem? (i := 4) rfl)))))
set_option maxRecDepth 20000 in
theorem lk_X5_ofRow_174 : Cond.fieldLink RX5 174 (TX0 13).1 (TX0 13).2.1 (TX0 13).2.2.1 ∈ wsX5_ofRow := List.mem_cons_of_mem _ (List.mem_append_left _ (List.mem_append_left _ (List.mem_append_left _ (List.mem_append_left _ (List.mem_of_getElem? (i := 5) rfl)))))
set_option maxRecDepth 100000 in
set_option maxHeartbeats 8000000 in
theorem m_X5_ofRow (l : Launch) (D : va_G) (G : gT) (h : Nat) (a : Nat → Nat) (tr : Int) (lf : Int) (ta : Nat → Nat) (cn : Int) (la : Nat → Nat) (ul : Int) (rw : Int) (ex : Int → Int) (mi : Int → Int) (si : Int → Int) (un : Int → Int) (be : Int → Int) (ka : Int → Int) (rs : Int → Int) (rf : Int → Int) (rp : Int → Int) (E : Int → Int → Int) (rr : Int) (wh : Int) (hcn : 0 ≤ cn ∧ cn ≤ 4) (hE : EB E) (hX : LnX E cn ex) (hZ : LnZ E cn mi si un be) (hKA : hasL ka (ALn E cn.toNat)) (hul : ul = ((ALn E cn.toNat).length : Int)) (hr1 : -2147483648 ≤ rr ∧ rr ≤ 2147483647) (hw1 : -2147483648 ≤ wh ∧ wh ≤ 2147483647) : gMi l yX5_ofRow wsX5_ofRow ({ frames := 6, cells := 0, slots := 0, locals := 163 }) D G [.ref h, .int (iI rr), .int (iI wh)] [oX5 h a tr lf, oX4 (a 1) ta cn, oX0 (a 2) la cn ul rw, cA G (la 1) 12 ex, cA G (la 3) 8 mi, cA G (la 4) 8 si, cA G (la 5) 8 un, cA G (la 6) 8 be, cA G (la 8) 8 ka, cA G (la 11) 17 rs, cA G (la 12) 17 rf, cA G (la 13) 17 rp] 0 0 (fun (r : Int32) (w : va_W) => ∃ (rw2 : Int) (rs2 : Int → Int) (rf2 : Int → Int) (rp2 : Int → Int), r = (iI (R_row cn E (ALn E cn.toNat) rr wh)) ∧ w = [oX5 h a tr lf, oX4 (a 1) ta cn, oX0 (a 2) la cn ul rw2, cA G (la 1) 12 ex, cA G (la 3) 8 mi, cA G (la 4) 8 si, cA G (la 5) 8 un, cA G (la 6) 8 be, cA G (la 8) 8 ka, cA G (la 11) 17 rs2, cA G (la 12) 17 rf2, cA G (la 13) 17 rp2]) := by
  refine g_start_i (cc := cX5_ofRow) (nL := 3) (own := RX5) (ret := some .int) (by decide +kernel) rfl rfl (Nat.le_of_ble_eq_true rfl) ?_
  intro p e s m below meth c A ls C hr hnm hw hl
  have hl : lv_has ls 3 [(0, .ref h), (1, .int (iI rr)), (2, .int (iI wh))] := hl
  have hlen := ALn_len E cn.toNat
  have hfl := fsL_len E (ALn E cn.toNat) cn (2 * (ALn E cn.toNat).length + 1)
  refine g_aload_n C hl 0 rfl rfl dX5_ofRow_0 ?_
  refine g_get C hw hin_X5_ofRow_X5 0 rfl rfl 1 (by decide) lk_X5_ofRow_20 rfl dX5_ofRow_1 ?_
  refine g_get C hw hin_X5_ofRow_X4 1 rfl rfl 0 (by decide) lk_X5_ofRow_92 rfl dX5_ofRow_4 ?_
  refine g_if_ne C 12 dX5_ofRow_7 (by decide) (by omega) (fun c_1 => ?_) (fun c_1 => ?_)
  · skip
    refine g_aload_n C hl 0 rfl rfl dX5_ofRow_12 ?_
    refine g_get C hw hin_X5_ofRow_X5 0 rfl rfl 2 (by decide) lk_X5_ofRow_27 rfl dX5_ofRow_13 ?_
    refine g_callVv C hw (wr := [oX5 h a tr lf, oX4 (a 1) ta cn]) (As := []) (rest := []) (m_X0_gatherRows l D G (h := (a 2)) (a := la) (cn := cn) (ul := ul) (rw := rw) (ex := ex) (mi := mi) (si := si) (un := un) (be := be) (ka := ka) (rs := rs) (rf := rf) (rp := rp) (E := E) (by first | assumption | omega) (by first | assumption | omega) (by first | assumption | omega) (by first | assumption | omega) (by first | assumption | omega) (by first | assumption | omega)) (cwV 0 C.1.2.2.2.2 gX5_ofRow_X0_gatherRows rfl rfl rfl (by decide +kernel) ⟨Nat.le_of_ble_eq_true rfl, Nat.le_of_ble_eq_true rfl⟩) [2, 3, 4, 5, 6, 7, 8, 9, 10, 11] [0, 1] rfl rfl (by decide) (by decide) (by decide) 0 rfl rfl rfl hl.1 _ rfl (Nat.le_of_ble_eq_true rfl) dX5_ofRow_16 ⟨Nat.le_of_ble_eq_true rfl, Nat.le_of_ble_eq_true rfl⟩ ?_
    clear hw
    rintro _ H locs ⟨sN, fN, pN, rfl, hp_2⟩ hw
    have hw : gW D A s.heap [oX5 h a tr lf, oX4 (a 1) ta cn, oX0 (a 2) la cn ul ((fsL E (ALn E cn.toNat) cn (2 * (ALn E cn.toNat).length + 1)).length : Int), cA G (la 1) 12 ex, cA G (la 3) 8 mi, cA G (la 4) 8 si, cA G (la 5) 8 un, cA G (la 6) 8 be, cA G (la 8) 8 ka, cA G (la 11) 17 sN, cA G (la 12) 17 fN, cA G (la 13) 17 pN] H locs := hw
    have hp_2 : grP E (ALn E cn.toNat) cn (2 * ((ALn E cn.toNat).length : Int) + 1) ((fsL E (ALn E cn.toNat) cn (2 * (ALn E cn.toNat).length + 1)).length : Int) sN fN pN := hp_2
    have hgr := hp_2
    refine g_iload_n C hl 1 rfl rfl dX5_ofRow_19 ?_
    refine g_aload_n C hl 0 rfl rfl dX5_ofRow_20 ?_
    refine g_get C hw hin_X5_ofRow_X5 0 rfl rfl 2 (by decide) lk_X5_ofRow_27 rfl dX5_ofRow_21 ?_
    refine g_get C hw hin_X5_ofRow_X0 2 rfl rfl 10 (by decide) lk_X5_ofRow_139 rfl dX5_ofRow_24 ?_
    refine g_callSi C hw (wr := [oX5 h a tr lf, oX4 (a 1) ta cn, oX0 (a 2) la cn ul ((fsL E (ALn E cn.toNat) cn (2 * (ALn E cn.toNat).length + 1)).length : Int), cA G (la 1) 12 ex, cA G (la 3) 8 mi, cA G (la 4) 8 si, cA G (la 5) 8 un, cA G (la 6) 8 be, cA G (la 8) 8 ka, cA G (la 11) 17 sN, cA G (la 12) 17 fN, cA G (la 13) 17 pN]) (As := [.int (iI rr), .int (iI (((fsL E (ALn E cn.toNat) cn (2 * (ALn E cn.toNat).length + 1)).length : Int)))]) (rest := []) (m_X5_isBelow l D G (na := rr) (nb := ((fsL E (ALn E cn.toNat) cn (2 * (ALn E cn.toNat).length + 1)).length : Int)) (by first | assumption | omega) (by first | assumption | omega)) (va_cwS 2 C.1.2.2.2.2 gX5_ofRow_X5_isBelow rfl rfl rfl (by decide +kernel) ⟨Nat.le_of_ble_eq_true rfl, Nat.le_of_ble_eq_true rfl⟩) [] [0, 1, 2, 3, 4, 5, 6, 7, 8, 9, 10, 11] rfl rfl (by decide) (by decide) (by decide) rfl hl.1 _ rfl (Nat.le_of_ble_eq_true rfl) dX5_ofRow_27 ⟨Nat.le_of_ble_eq_true rfl, Nat.le_of_ble_eq_true rfl⟩ ?_
    clear hw
    rintro _ _ H locs ⟨rfl, rfl⟩ hw
    have hw : gW D A s.heap [oX5 h a tr lf, oX4 (a 1) ta cn, oX0 (a 2) la cn ul ((fsL E (ALn E cn.toNat) cn (2 * (ALn E cn.toNat).length + 1)).length : Int), cA G (la 1) 12 ex, cA G (la 3) 8 mi, cA G (la 4) 8 si, cA G (la 5) 8 un, cA G (la 6) 8 be, cA G (la 8) 8 ka, cA G (la 11) 17 sN, cA G (la 12) 17 fN, cA G (la 13) 17 pN] H locs := hw
    refine g_ifb_ne C 35 dX5_ofRow_30 (by decide) (fun c_3 => ?_) (fun c_3 => ?_)
    · skip
      obtain ⟨g1, g2, g3⟩ := hgr
      rw [show (2 * (((ALn E cn.toNat)).length : Int) + 1).toNat = 2 * (ALn E cn.toNat).length + 1 by omega] at g2 g3
      obtain ⟨hx1, hx2⟩ := hasL_at g2 (k := rr) ⟨by omega, by omega⟩
      have hx3 := fsL_mem E (ALn E cn.toNat) cn (2 * (ALn E cn.toNat).length + 1) _ hx2
      have hgd : (fsL E (ALn E cn.toNat) cn (2 * (ALn E cn.toNat).length + 1)).getD rr.toNat 0 = fN rr := by rw [List.getD_eq_getElem?_getD, hx1]; rfl
      have hp9 := (g3 rr (by omega) (by omega)).2
      have hsb := sSp_r E (ALn E cn.toNat) (fN rr) (wh - 10)
      refine g_iload_n C hl 2 rfl rfl dX5_ofRow_35 ?_
      refine g_if_ne C 49 dX5_ofRow_36 (by decide) (by omega) (fun c_4 => ?_) (fun c_4 => ?_)
      · skip
        refine g_iload_n C hl 2 rfl rfl dX5_ofRow_49 ?_
        refine g_iconst C dX5_ofRow_50 ?_
        refine g_icmp_ne C 64 dX5_ofRow_51 (by decide) (by omega) (by omega) (fun c_5 => ?_) (fun c_5 => ?_)
        · skip
          refine g_iload_n C hl 2 rfl rfl dX5_ofRow_64 ?_
          refine g_bipush C dX5_ofRow_65 (by decide) ?_
          refine g_icmp_lt C 76 dX5_ofRow_67 (by decide) (by omega) (by omega) (fun c_6 => ?_) (fun c_6 => ?_)
          · skip
            refine g_bipush C dX5_ofRow_76 (by decide) ?_
            exact g_iret C hr (ws' := [oX5 h a tr lf, oX4 (a 1) ta cn, oX0 (a 2) la cn ul ((fsL E (ALn E cn.toNat) cn (2 * (ALn E cn.toNat).length + 1)).length : Int), cA G (la 1) 12 ex, cA G (la 3) 8 mi, cA G (la 4) 8 si, cA G (la 5) 8 un, cA G (la 6) 8 be, cA G (la 8) 8 ka, cA G (la 11) 17 sN, cA G (la 12) 17 fN, cA G (la 13) 17 pN]) hw [0, 1, 2, 3, 4, 5, 6, 7, 8, 9, 10, 11] (by decide) rfl ⟨((fsL E (ALn E cn.toNat) cn (2 * (ALn E cn.toNat).length + 1)).length : Int), sN, fN, pN, (congrArg iI (by unfold R_row; (try rw [hgd]); (repeat' split) <;> omega)), rfl⟩ dX5_ofRow_78
          · skip
            refine g_iload_n C hl 2 rfl rfl dX5_ofRow_70 ?_
            refine g_bipush C dX5_ofRow_71 (by decide) ?_
            refine g_icmp_lt C 79 dX5_ofRow_73 (by decide) (by omega) (by omega) (fun c_7 => ?_) (fun c_7 => ?_)
            · skip
              refine g_aload_n C hl 0 rfl rfl dX5_ofRow_79 ?_
              refine g_iload_n C hl 2 rfl rfl dX5_ofRow_80 ?_
              refine g_bipush C dX5_ofRow_81 (by decide) ?_
              refine g_isub C dX5_ofRow_83 ?_
              refine g_callVi C hw (wr := [oX0 (a 2) la cn ul ((fsL E (ALn E cn.toNat) cn (2 * (ALn E cn.toNat).length + 1)).length : Int), cA G (la 1) 12 ex, cA G (la 3) 8 mi, cA G (la 4) 8 si, cA G (la 5) 8 un, cA G (la 6) 8 be, cA G (la 8) 8 ka, cA G (la 11) 17 sN, cA G (la 12) 17 fN, cA G (la 13) 17 pN]) (As := [.int (iI (wh - 10))]) (rest := []) (m_X5_isPolynomial l D G (h := h) (a := a) (tr := tr) (lf := lf) (ta := ta) (cn := cn) (pp := (wh - 10)) (by first | assumption | omega) (by first | assumption | omega)) (cwV 1 C.1.2.2.2.2 gX5_ofRow_X5_isPolynomial rfl rfl rfl (by decide +kernel) ⟨Nat.le_of_ble_eq_true rfl, Nat.le_of_ble_eq_true rfl⟩) [0, 1] [2, 3, 4, 5, 6, 7, 8, 9, 10, 11] rfl rfl (by decide) (by decide) (by decide) 0 rfl rfl rfl hl.1 _ rfl (Nat.le_of_ble_eq_true rfl) dX5_ofRow_84 ⟨Nat.le_of_ble_eq_true rfl, Nat.le_of_ble_eq_true rfl⟩ ?_
              clear hw
              rintro _ _ H locs ⟨rfl, rfl⟩ hw
              have hw : gW D A s.heap [oX0 (a 2) la cn ul ((fsL E (ALn E cn.toNat) cn (2 * (ALn E cn.toNat).length + 1)).length : Int), cA G (la 1) 12 ex, cA G (la 3) 8 mi, cA G (la 4) 8 si, cA G (la 5) 8 un, cA G (la 6) 8 be, cA G (la 8) 8 ka, cA G (la 11) 17 sN, cA G (la 12) 17 fN, cA G (la 13) 17 pN, oX5 h a tr lf, oX4 (a 1) ta cn] H locs := hw
              refine g_ifb_eq C 115 dX5_ofRow_87 (by decide) (fun c_8 => ?_) (fun c_8 => ?_)
              · skip
                refine g_bipush C dX5_ofRow_115 (by decide) ?_
                exact g_iret C hr (ws' := [oX5 h a tr lf, oX4 (a 1) ta cn, oX0 (a 2) la cn ul ((fsL E (ALn E cn.toNat) cn (2 * (ALn E cn.toNat).length + 1)).length : Int), cA G (la 1) 12 ex, cA G (la 3) 8 mi, cA G (la 4) 8 si, cA G (la 5) 8 un, cA G (la 6) 8 be, cA G (la 8) 8 ka, cA G (la 11) 17 sN, cA G (la 12) 17 fN, cA G (la 13) 17 pN]) hw [10, 11, 0, 1, 2, 3, 4, 5, 6, 7, 8, 9] (by decide) rfl ⟨((fsL E (ALn E cn.toNat) cn (2 * (ALn E cn.toNat).length + 1)).length : Int), sN, fN, pN, (congrArg iI (by unfold R_row; (try rw [hgd]); (repeat' split) <;> omega)), rfl⟩ dX5_ofRow_117
              · skip
                refine g_aload_n C hl 0 rfl rfl dX5_ofRow_90 ?_
                refine g_get C hw hin_X5_ofRow_X5 10 rfl rfl 2 (by decide) lk_X5_ofRow_27 rfl dX5_ofRow_91 ?_
                refine g_aload_n C hl 0 rfl rfl dX5_ofRow_94 ?_
                refine g_get C hw hin_X5_ofRow_X5 10 rfl rfl 2 (by decide) lk_X5_ofRow_27 rfl dX5_ofRow_95 ?_
                refine g_get C hw hin_X5_ofRow_X0 0 rfl rfl 12 (by decide) lk_X5_ofRow_171 rfl dX5_ofRow_98 ?_
                refine g_iload_n C hl 1 rfl rfl dX5_ofRow_101 ?_
                refine g_iald C hw 8 rfl (by omega) (Nat.le_of_ble_eq_true rfl) dX5_ofRow_102 ?_
                refine g_iload_n C hl 2 rfl rfl dX5_ofRow_103 ?_
                refine g_bipush C dX5_ofRow_104 (by decide) ?_
                refine g_isub C dX5_ofRow_106 ?_
                refine g_callVi C hw (wr := [cA G (la 11) 17 sN, cA G (la 12) 17 fN, cA G (la 13) 17 pN, oX5 h a tr lf, oX4 (a 1) ta cn]) (As := [.int (iI (fN rr)), .int (iI (wh - 10))]) (rest := []) (m_X0_signInSpot l D G (h := (a 2)) (a := la) (cn := cn) (ul := ul) (rw := ((fsL E (ALn E cn.toNat) cn (2 * (ALn E cn.toNat).length + 1)).length : Int)) (ex := ex) (mi := mi) (si := si) (un := un) (be := be) (ka := ka) (E := E) (kk := (fN rr)) (qq := (wh - 10)) (by first | assumption | omega) (by first | assumption | omega) (by first | assumption | omega) (by first | assumption | omega) (by first | assumption | omega) (by first | assumption | omega) (by first | assumption | omega) (by first | assumption | omega)) (cwV 2 C.1.2.2.2.2 gX5_ofRow_X0_signInSpot rfl rfl rfl (by decide +kernel) ⟨Nat.le_of_ble_eq_true rfl, Nat.le_of_ble_eq_true rfl⟩) [0, 1, 2, 3, 4, 5, 6] [7, 8, 9, 10, 11] rfl rfl (by decide) (by decide) (by decide) 0 rfl rfl rfl hl.1 _ rfl (Nat.le_of_ble_eq_true rfl) dX5_ofRow_107 ⟨Nat.le_of_ble_eq_true rfl, Nat.le_of_ble_eq_true rfl⟩ ?_
                clear hw
                rintro _ _ H locs ⟨rfl, rfl⟩ hw
                have hw : gW D A s.heap [cA G (la 11) 17 sN, cA G (la 12) 17 fN, cA G (la 13) 17 pN, oX5 h a tr lf, oX4 (a 1) ta cn, oX0 (a 2) la cn ul ((fsL E (ALn E cn.toNat) cn (2 * (ALn E cn.toNat).length + 1)).length : Int), cA G (la 1) 12 ex, cA G (la 3) 8 mi, cA G (la 4) 8 si, cA G (la 5) 8 un, cA G (la 6) 8 be, cA G (la 8) 8 ka] H locs := hw
                refine g_iconst C dX5_ofRow_110 ?_
                refine g_iadd C dX5_ofRow_111 ?_
                refine g_goto C 117 dX5_ofRow_112 (by decide) ?_
                exact g_iret C hr (ws' := [oX5 h a tr lf, oX4 (a 1) ta cn, oX0 (a 2) la cn ul ((fsL E (ALn E cn.toNat) cn (2 * (ALn E cn.toNat).length + 1)).length : Int), cA G (la 1) 12 ex, cA G (la 3) 8 mi, cA G (la 4) 8 si, cA G (la 5) 8 un, cA G (la 6) 8 be, cA G (la 8) 8 ka, cA G (la 11) 17 sN, cA G (la 12) 17 fN, cA G (la 13) 17 pN]) hw [3, 4, 5, 6, 7, 8, 9, 10, 11, 0, 1, 2] (by decide) rfl ⟨((fsL E (ALn E cn.toNat) cn (2 * (ALn E cn.toNat).length + 1)).length : Int), sN, fN, pN, (congrArg iI (by unfold R_row; (try rw [hgd]); (repeat' split) <;> omega)), rfl⟩ dX5_ofRow_117
            · skip
              refine g_bipush C dX5_ofRow_76 (by decide) ?_
              exact g_iret C hr (ws' := [oX5 h a tr lf, oX4 (a 1) ta cn, oX0 (a 2) la cn ul ((fsL E (ALn E cn.toNat) cn (2 * (ALn E cn.toNat).length + 1)).length : Int), cA G (la 1) 12 ex, cA G (la 3) 8 mi, cA G (la 4) 8 si, cA G (la 5) 8 un, cA G (la 6) 8 be, cA G (la 8) 8 ka, cA G (la 11) 17 sN, cA G (la 12) 17 fN, cA G (la 13) 17 pN]) hw [0, 1, 2, 3, 4, 5, 6, 7, 8, 9, 10, 11] (by decide) rfl ⟨((fsL E (ALn E cn.toNat) cn (2 * (ALn E cn.toNat).length + 1)).length : Int), sN, fN, pN, (congrArg iI (by unfold R_row; (try rw [hgd]); (repeat' split) <;> omega)), rfl⟩ dX5_ofRow_78
        · skip
          refine g_aload_n C hl 0 rfl rfl dX5_ofRow_54 ?_
          refine g_get C hw hin_X5_ofRow_X5 0 rfl rfl 2 (by decide) lk_X5_ofRow_27 rfl dX5_ofRow_55 ?_
          refine g_get C hw hin_X5_ofRow_X0 2 rfl rfl 13 (by decide) lk_X5_ofRow_174 rfl dX5_ofRow_58 ?_
          refine g_iload_n C hl 1 rfl rfl dX5_ofRow_61 ?_
          refine g_iald C hw 11 rfl (by omega) (Nat.le_of_ble_eq_true rfl) dX5_ofRow_62 ?_
          exact g_iret C hr (ws' := [oX5 h a tr lf, oX4 (a 1) ta cn, oX0 (a 2) la cn ul ((fsL E (ALn E cn.toNat) cn (2 * (ALn E cn.toNat).length + 1)).length : Int), cA G (la 1) 12 ex, cA G (la 3) 8 mi, cA G (la 4) 8 si, cA G (la 5) 8 un, cA G (la 6) 8 be, cA G (la 8) 8 ka, cA G (la 11) 17 sN, cA G (la 12) 17 fN, cA G (la 13) 17 pN]) hw [0, 1, 2, 3, 4, 5, 6, 7, 8, 9, 10, 11] (by decide) rfl ⟨((fsL E (ALn E cn.toNat) cn (2 * (ALn E cn.toNat).length + 1)).length : Int), sN, fN, pN, (congrArg iI (by unfold R_row; (try rw [hgd]); (repeat' split) <;> omega)), rfl⟩ dX5_ofRow_63
      · skip
        refine g_aload_n C hl 0 rfl rfl dX5_ofRow_39 ?_
        refine g_get C hw hin_X5_ofRow_X5 0 rfl rfl 2 (by decide) lk_X5_ofRow_27 rfl dX5_ofRow_40 ?_
        refine g_get C hw hin_X5_ofRow_X0 2 rfl rfl 12 (by decide) lk_X5_ofRow_171 rfl dX5_ofRow_43 ?_
        refine g_iload_n C hl 1 rfl rfl dX5_ofRow_46 ?_
        refine g_iald C hw 10 rfl (by omega) (Nat.le_of_ble_eq_true rfl) dX5_ofRow_47 ?_
        exact g_iret C hr (ws' := [oX5 h a tr lf, oX4 (a 1) ta cn, oX0 (a 2) la cn ul ((fsL E (ALn E cn.toNat) cn (2 * (ALn E cn.toNat).length + 1)).length : Int), cA G (la 1) 12 ex, cA G (la 3) 8 mi, cA G (la 4) 8 si, cA G (la 5) 8 un, cA G (la 6) 8 be, cA G (la 8) 8 ka, cA G (la 11) 17 sN, cA G (la 12) 17 fN, cA G (la 13) 17 pN]) hw [0, 1, 2, 3, 4, 5, 6, 7, 8, 9, 10, 11] (by decide) rfl ⟨((fsL E (ALn E cn.toNat) cn (2 * (ALn E cn.toNat).length + 1)).length : Int), sN, fN, pN, (congrArg iI (by unfold R_row; (try rw [hgd]); (repeat' split) <;> omega)), rfl⟩ dX5_ofRow_48
    · skip
      refine g_iconst C dX5_ofRow_33 ?_
      exact g_iret C hr (ws' := [oX5 h a tr lf, oX4 (a 1) ta cn, oX0 (a 2) la cn ul ((fsL E (ALn E cn.toNat) cn (2 * (ALn E cn.toNat).length + 1)).length : Int), cA G (la 1) 12 ex, cA G (la 3) 8 mi, cA G (la 4) 8 si, cA G (la 5) 8 un, cA G (la 6) 8 be, cA G (la 8) 8 ka, cA G (la 11) 17 sN, cA G (la 12) 17 fN, cA G (la 13) 17 pN]) hw [0, 1, 2, 3, 4, 5, 6, 7, 8, 9, 10, 11] (by decide) rfl ⟨((fsL E (ALn E cn.toNat) cn (2 * (ALn E cn.toNat).length + 1)).length : Int), sN, fN, pN, (congrArg iI (by unfold R_row; (try rw [hgd]); (repeat' split) <;> omega)), rfl⟩ dX5_ofRow_34
  · skip
    refine g_iconst C dX5_ofRow_10 ?_
    exact g_iret C hr (ws' := [oX5 h a tr lf, oX4 (a 1) ta cn, oX0 (a 2) la cn ul rw, cA G (la 1) 12 ex, cA G (la 3) 8 mi, cA G (la 4) 8 si, cA G (la 5) 8 un, cA G (la 6) 8 be, cA G (la 8) 8 ka, cA G (la 11) 17 rs, cA G (la 12) 17 rf, cA G (la 13) 17 rp]) hw [0, 1, 2, 3, 4, 5, 6, 7, 8, 9, 10, 11] (by decide) rfl ⟨rw, rs, rf, rp, (congrArg iI (by unfold R_row; (try rw [hgd]); (repeat' split) <;> omega)), rfl⟩ dX5_ofRow_11

set_option maxRecDepth 20000 in
theorem hin_X5_reading_X5 : ∀ w ∈ u_ws RX5 TX5 9, w ∈ wsX5_reading := by
  intro w h
  exact List.mem_cons_of_mem _ (List.mem_append_left _ (List.mem_append_left _ (List.mem_append_right _ (h))))
set_option maxRecDepth 20000 in
theorem lk_X5_reading_47 : Cond.fieldLink RX5 47 (TX5 6).1 (TX5 6).2.1 (TX5 6).2.2.1 ∈ wsX5_reading := List.mem_cons_of_mem _ (List.mem_append_left _ (List.mem_append_left _ (List.mem_append_left _ (List.mem_of_getElem? (i := 0) rfl))))
set_option maxRecDepth 20000 in
theorem hin_X5_reading_X1 : ∀ w ∈ u_ws RX1 TX1 4, w ∈ wsX5_reading := by
  intro w h
  exact List.mem_cons_of_mem _ (List.mem_append_left _ (List.mem_append_right _ (h)))
set_option maxRecDepth 20000 in
theorem lk_X5_reading_86 : Cond.fieldLink RX5 86 (TX1 0).1 (TX1 0).2.1 (TX1 0).2.2.1 ∈ wsX5_reading := List.mem_cons_of_mem _ (List.mem_append_left _ (List.mem_append_left _ (List.mem_append_left _ (List.mem_of_getElem? (i := 1) rfl))))
set_option maxRecDepth 100000 in
set_option maxHeartbeats 8000000 in
theorem m_X5_reading (l : Launch) (D : va_G) (G : gT) (h : Nat) (a : Nat → Nat) (tr : Int) (lf : Int) (ta : Nat → Nat) (cn : Int) (ga : Nat → Nat) (rc : Int) (r1 : Int → Int) (r2 : Int → Int) (r3 : Int → Int) (kk : Int) (pp : Int) (sv : Int) (hcn : 0 ≤ cn ∧ cn ≤ 4) (hp : -2147483648 ≤ pp ∧ pp ≤ 2147483647) (hk : -2147483648 ≤ kk ∧ kk ≤ 2147483647) (hs : -2147483648 ≤ sv ∧ sv ≤ 2147483647) (hrc : 0 ≤ rc ∧ rc ≤ 8) : gMi l yX5_reading wsX5_reading ({ frames := 2, cells := 0, slots := 0, locals := 42 }) D G [.ref h, .int (iI kk), .int (iI pp), .int (iI sv)] [oX5 h a tr lf, oX4 (a 1) ta cn, oX1 (a 6) ga rc, cA G (ga 1) 8 r1, cA G (ga 2) 8 r2, cA G (ga 3) 8 r3] 0 0 (fun (r : Int32) (w : va_W) => ∃ (rc2 : Int) (r12 : Int → Int) (r22 : Int → Int) (r32 : Int → Int), r = (iI (R_rdg cn rc kk pp sv)) ∧ w = [oX5 h a tr lf, oX4 (a 1) ta cn, oX1 (a 6) ga rc2, cA G (ga 1) 8 r12, cA G (ga 2) 8 r22, cA G (ga 3) 8 r32] ∧ ((0 ≤ R_rdg cn rc kk pp sv → rc2 = rc + 1 ∧ r12 = up r1 rc kk ∧ r22 = up r2 rc pp ∧ r32 = up r3 rc sv) ∧ (R_rdg cn rc kk pp sv < 0 → rc2 = rc ∧ r12 = r1 ∧ r22 = r2 ∧ r32 = r3))) := by
  refine g_start_i (cc := cX5_reading) (nL := 4) (own := RX5) (ret := some .int) (by decide +kernel) rfl rfl (Nat.le_of_ble_eq_true rfl) ?_
  intro p e s m below meth c A ls C hr hnm hw hl
  have hl : lv_has ls 4 [(0, .ref h), (1, .int (iI kk)), (2, .int (iI pp)), (3, .int (iI sv))] := hl
  refine g_aload_n C hl 0 rfl rfl dX5_reading_0 ?_
  refine g_iload_n C hl 2 rfl rfl dX5_reading_1 ?_
  refine g_callVi C hw (wr := [oX1 (a 6) ga rc, cA G (ga 1) 8 r1, cA G (ga 2) 8 r2, cA G (ga 3) 8 r3]) (As := [.int (iI pp)]) (rest := []) (m_X5_isPolynomial l D G (h := h) (a := a) (tr := tr) (lf := lf) (ta := ta) (cn := cn) (pp := pp) (by first | assumption | omega) (by first | assumption | omega)) (cwV 1 C.1.2.2.2.2 gX5_reading_X5_isPolynomial rfl rfl rfl (by decide +kernel) ⟨Nat.le_of_ble_eq_true rfl, Nat.le_of_ble_eq_true rfl⟩) [0, 1] [2, 3, 4, 5] rfl rfl (by decide) (by decide) (by decide) 0 rfl rfl rfl hl.1 _ rfl (Nat.le_of_ble_eq_true rfl) dX5_reading_2 ⟨Nat.le_of_ble_eq_true rfl, Nat.le_of_ble_eq_true rfl⟩ ?_
  clear hw
  rintro _ _ H locs ⟨rfl, rfl⟩ hw
  have hw : gW D A s.heap [oX1 (a 6) ga rc, cA G (ga 1) 8 r1, cA G (ga 2) 8 r2, cA G (ga 3) 8 r3, oX5 h a tr lf, oX4 (a 1) ta cn] H locs := hw
  refine g_ifb_ne C 10 dX5_reading_5 (by decide) (fun c_1 => ?_) (fun c_1 => ?_)
  · skip
    refine g_iload_n C hl 1 rfl rfl dX5_reading_10 ?_
    refine g_if_lt C 28 dX5_reading_11 (by decide) (by omega) (fun c_2 => ?_) (fun c_2 => ?_)
    · skip
      refine g_bipush C dX5_reading_28 (by decide) ?_
      exact g_iret C hr (ws' := [oX5 h a tr lf, oX4 (a 1) ta cn, oX1 (a 6) ga rc, cA G (ga 1) 8 r1, cA G (ga 2) 8 r2, cA G (ga 3) 8 r3]) hw [4, 5, 0, 1, 2, 3] (by decide) rfl ⟨rc, r1, r2, r3, (congrArg iI (by unfold R_rdg; (repeat' split) <;> omega)), rfl, (by refine ⟨fun q9 => ?_, fun q9 => ?_⟩ <;> first | exact ⟨rfl, rfl, rfl, rfl⟩ | (exfalso; unfold R_rdg at q9; (repeat' split at q9) <;> omega))⟩ dX5_reading_30
    · skip
      refine g_iload_n C hl 1 rfl rfl dX5_reading_14 ?_
      refine g_bipush C dX5_reading_15 (by decide) ?_
      refine g_icmp_gt C 28 dX5_reading_17 (by decide) (by omega) (by omega) (fun c_3 => ?_) (fun c_3 => ?_)
      · skip
        refine g_bipush C dX5_reading_28 (by decide) ?_
        exact g_iret C hr (ws' := [oX5 h a tr lf, oX4 (a 1) ta cn, oX1 (a 6) ga rc, cA G (ga 1) 8 r1, cA G (ga 2) 8 r2, cA G (ga 3) 8 r3]) hw [4, 5, 0, 1, 2, 3] (by decide) rfl ⟨rc, r1, r2, r3, (congrArg iI (by unfold R_rdg; (repeat' split) <;> omega)), rfl, (by refine ⟨fun q9 => ?_, fun q9 => ?_⟩ <;> first | exact ⟨rfl, rfl, rfl, rfl⟩ | (exfalso; unfold R_rdg at q9; (repeat' split at q9) <;> omega))⟩ dX5_reading_30
      · skip
        refine g_iload_n C hl 3 rfl rfl dX5_reading_20 ?_
        refine g_iconst C dX5_reading_21 ?_
        refine g_callSi C hw (wr := [oX1 (a 6) ga rc, cA G (ga 1) 8 r1, cA G (ga 2) 8 r2, cA G (ga 3) 8 r3, oX5 h a tr lf, oX4 (a 1) ta cn]) (As := [.int (iI sv), .int (iI 3)]) (rest := []) (m_X5_isBelow l D G (na := sv) (nb := 3) (by first | assumption | omega) (by first | assumption | omega)) (va_cwS 2 C.1.2.2.2.2 gX5_reading_X5_isBelow rfl rfl rfl (by decide +kernel) ⟨Nat.le_of_ble_eq_true rfl, Nat.le_of_ble_eq_true rfl⟩) [] [0, 1, 2, 3, 4, 5] rfl rfl (by decide) (by decide) (by decide) rfl hl.1 _ rfl (Nat.le_of_ble_eq_true rfl) dX5_reading_22 ⟨Nat.le_of_ble_eq_true rfl, Nat.le_of_ble_eq_true rfl⟩ ?_
        clear hw
        rintro _ _ H locs ⟨rfl, rfl⟩ hw
        have hw : gW D A s.heap [oX1 (a 6) ga rc, cA G (ga 1) 8 r1, cA G (ga 2) 8 r2, cA G (ga 3) 8 r3, oX5 h a tr lf, oX4 (a 1) ta cn] H locs := hw
        refine g_ifb_ne C 31 dX5_reading_25 (by decide) (fun c_4 => ?_) (fun c_4 => ?_)
        · skip
          refine g_aload_n C hl 0 rfl rfl dX5_reading_31 ?_
          refine g_get C hw hin_X5_reading_X5 4 rfl rfl 6 (by decide) lk_X5_reading_47 rfl dX5_reading_32 ?_
          refine g_get C hw hin_X5_reading_X1 0 rfl rfl 0 (by decide) lk_X5_reading_86 rfl dX5_reading_35 ?_
          refine g_bipush C dX5_reading_38 (by decide) ?_
          refine g_icmp_lt C 46 dX5_reading_40 (by decide) (by omega) (by omega) (fun c_5 => ?_) (fun c_5 => ?_)
          · skip
            refine g_aload_n C hl 0 rfl rfl dX5_reading_46 ?_
            refine g_get C hw hin_X5_reading_X5 4 rfl rfl 6 (by decide) lk_X5_reading_47 rfl dX5_reading_47 ?_
            refine g_iload_n C hl 1 rfl rfl dX5_reading_50 ?_
            refine g_iload_n C hl 2 rfl rfl dX5_reading_51 ?_
            refine g_iload_n C hl 3 rfl rfl dX5_reading_52 ?_
            refine g_callVi C hw (wr := [oX5 h a tr lf, oX4 (a 1) ta cn]) (As := [.int (iI kk), .int (iI pp), .int (iI sv)]) (rest := []) (m_X1_add l D G (h := (a 6)) (a := ga) (rc := rc) (r1 := r1) (r2 := r2) (r3 := r3) (kk := kk) (pp := pp) (sv := sv) (by first | assumption | omega)) (cwV 3 C.1.2.2.2.2 gX5_reading_X1_add rfl rfl rfl (by decide +kernel) ⟨Nat.le_of_ble_eq_true rfl, Nat.le_of_ble_eq_true rfl⟩) [0, 1, 2, 3] [4, 5] rfl rfl (by decide) (by decide) (by decide) 0 rfl rfl rfl hl.1 _ rfl (Nat.le_of_ble_eq_true rfl) dX5_reading_53 ⟨Nat.le_of_ble_eq_true rfl, Nat.le_of_ble_eq_true rfl⟩ ?_
            clear hw
            rintro _ _ H locs ⟨rfl, rfl⟩ hw
            have hw : gW D A s.heap [oX5 h a tr lf, oX4 (a 1) ta cn, oX1 (a 6) ga (rc + 1), cA G (ga 1) 8 (up r1 rc kk), cA G (ga 2) 8 (up r2 rc pp), cA G (ga 3) 8 (up r3 rc sv)] H locs := hw
            exact g_iret C hr (ws' := [oX5 h a tr lf, oX4 (a 1) ta cn, oX1 (a 6) ga (rc + 1), cA G (ga 1) 8 (up r1 rc kk), cA G (ga 2) 8 (up r2 rc pp), cA G (ga 3) 8 (up r3 rc sv)]) hw [0, 1, 2, 3, 4, 5] (by decide) rfl ⟨(rc + 1), (up r1 rc kk), (up r2 rc pp), (up r3 rc sv), (congrArg iI (by unfold R_rdg; (repeat' split) <;> omega)), rfl, (by refine ⟨fun q9 => ?_, fun q9 => ?_⟩ <;> first | exact ⟨rfl, rfl, rfl, rfl⟩ | (exfalso; unfold R_rdg at q9; (repeat' split at q9) <;> omega))⟩ dX5_reading_56
          · skip
            refine g_bipush C dX5_reading_43 (by decide) ?_
            exact g_iret C hr (ws' := [oX5 h a tr lf, oX4 (a 1) ta cn, oX1 (a 6) ga rc, cA G (ga 1) 8 r1, cA G (ga 2) 8 r2, cA G (ga 3) 8 r3]) hw [4, 5, 0, 1, 2, 3] (by decide) rfl ⟨rc, r1, r2, r3, (congrArg iI (by unfold R_rdg; (repeat' split) <;> omega)), rfl, (by refine ⟨fun q9 => ?_, fun q9 => ?_⟩ <;> first | exact ⟨rfl, rfl, rfl, rfl⟩ | (exfalso; unfold R_rdg at q9; (repeat' split at q9) <;> omega))⟩ dX5_reading_45
        · skip
          refine g_bipush C dX5_reading_28 (by decide) ?_
          exact g_iret C hr (ws' := [oX5 h a tr lf, oX4 (a 1) ta cn, oX1 (a 6) ga rc, cA G (ga 1) 8 r1, cA G (ga 2) 8 r2, cA G (ga 3) 8 r3]) hw [4, 5, 0, 1, 2, 3] (by decide) rfl ⟨rc, r1, r2, r3, (congrArg iI (by unfold R_rdg; (repeat' split) <;> omega)), rfl, (by refine ⟨fun q9 => ?_, fun q9 => ?_⟩ <;> first | exact ⟨rfl, rfl, rfl, rfl⟩ | (exfalso; unfold R_rdg at q9; (repeat' split at q9) <;> omega))⟩ dX5_reading_30
  · skip
    refine g_iconst C dX5_reading_8 ?_
    exact g_iret C hr (ws' := [oX5 h a tr lf, oX4 (a 1) ta cn, oX1 (a 6) ga rc, cA G (ga 1) 8 r1, cA G (ga 2) 8 r2, cA G (ga 3) 8 r3]) hw [4, 5, 0, 1, 2, 3] (by decide) rfl ⟨rc, r1, r2, r3, (congrArg iI (by unfold R_rdg; (repeat' split) <;> omega)), rfl, (by refine ⟨fun q9 => ?_, fun q9 => ?_⟩ <;> first | exact ⟨rfl, rfl, rfl, rfl⟩ | (exfalso; unfold R_rdg at q9; (repeat' split at q9) <;> omega))⟩ dX5_reading_9

set_option maxRecDepth 20000 in
theorem hin_X5_back_X5 : ∀ w ∈ u_ws RX5 TX5 9, w ∈ wsX5_back := by
  intro w h
  exact List.mem_cons_of_mem _ (List.mem_append_left _ (List.mem_append_right _ (h)))
set_option maxRecDepth 20000 in
theorem lk_X5_back_47 : Cond.fieldLink RX5 47 (TX5 6).1 (TX5 6).2.1 (TX5 6).2.2.1 ∈ wsX5_back := List.mem_cons_of_mem _ (List.mem_append_left _ (List.mem_append_left _ (List.mem_of_getElem? (i := 0) rfl)))
set_option maxRecDepth 20000 in
theorem hin_X5_back_X1 : ∀ w ∈ u_ws RX1 TX1 4, w ∈ wsX5_back := by
  intro w h
  exact List.mem_cons_of_mem _ (List.mem_append_right _ (h))
set_option maxRecDepth 20000 in
theorem lk_X5_back_86 : Cond.fieldLink RX5 86 (TX1 0).1 (TX1 0).2.1 (TX1 0).2.2.1 ∈ wsX5_back := List.mem_cons_of_mem _ (List.mem_append_left _ (List.mem_append_left _ (List.mem_of_getElem? (i := 1) rfl)))
set_option maxRecDepth 100000 in
set_option maxHeartbeats 8000000 in
theorem m_X5_back (l : Launch) (D : va_G) (G : gT) (h : Nat) (a : Nat → Nat) (tr : Int) (lf : Int) (ga : Nat → Nat) (rc : Int) (nn : Int) (hn9 : -2147483648 ≤ nn ∧ nn ≤ 2147483647) (hrc : 0 ≤ rc ∧ rc ≤ 8) : gMi l yX5_back wsX5_back ({ frames := 0, cells := 0, slots := 0, locals := 0 }) D G [.ref h, .int (iI nn)] [oX5 h a tr lf, oX1 (a 6) ga rc] 0 0 (fun (r : Int32) (w : va_W) => r = (iI (if 0 ≤ nn ∧ nn ≤ rc then rc - nn else -2)) ∧ w = [oX5 h a tr lf, oX1 (a 6) ga (if 0 ≤ nn ∧ nn ≤ rc then rc - nn else rc)]) := by
  refine g_start_i (cc := cX5_back) (nL := 2) (own := RX5) (ret := some .int) (by decide +kernel) rfl rfl (Nat.le_of_ble_eq_true rfl) ?_
  intro p e s m below meth c A ls C hr hnm hw hl
  have hl : lv_has ls 2 [(0, .ref h), (1, .int (iI nn))] := hl
  refine g_iload_n C hl 1 rfl rfl dX5_back_0 ?_
  refine g_if_lt C 15 dX5_back_1 (by decide) (by omega) (fun c_1 => ?_) (fun c_1 => ?_)
  · skip
    refine g_bipush C dX5_back_15 (by decide) ?_
    exact g_iret C hr (ws' := [oX5 h a tr lf, oX1 (a 6) ga rc]) hw [0, 1] (by decide) rfl ⟨(congrArg iI (by (repeat' split) <;> omega)), (by first | (rw [if_pos (by omega)]; done) | (rw [if_neg (by omega)]; done))⟩ dX5_back_17
  · skip
    refine g_iload_n C hl 1 rfl rfl dX5_back_4 ?_
    refine g_aload_n C hl 0 rfl rfl dX5_back_5 ?_
    refine g_get C hw hin_X5_back_X5 0 rfl rfl 6 (by decide) lk_X5_back_47 rfl dX5_back_6 ?_
    refine g_get C hw hin_X5_back_X1 1 rfl rfl 0 (by decide) lk_X5_back_86 rfl dX5_back_9 ?_
    refine g_icmp_le C 18 dX5_back_12 (by decide) (by omega) (by omega) (fun c_2 => ?_) (fun c_2 => ?_)
    · skip
      refine g_aload_n C hl 0 rfl rfl dX5_back_18 ?_
      refine g_get C hw hin_X5_back_X5 0 rfl rfl 6 (by decide) lk_X5_back_47 rfl dX5_back_19 ?_
      refine g_dup C dX5_back_22 rfl ?_
      refine g_get C hw hin_X5_back_X1 1 rfl rfl 0 (by decide) lk_X5_back_86 rfl dX5_back_23 ?_
      refine g_iload_n C hl 1 rfl rfl dX5_back_26 ?_
      refine g_isub C dX5_back_27 ?_
      refine g_put C hw [oX5 h a tr lf, oX1 (a 6) ga (rc - nn)] hin_X5_back_X1 tyX1 tyX1_ok nmX1 1 rfl rfl 0 (by decide) lk_X5_back_86 rfl rfl rfl rfl (Nat.le_of_ble_eq_true rfl) rfl dX5_back_28 ?_
      clear hw
      intro H locs hw
      refine g_aload_n C hl 0 rfl rfl dX5_back_31 ?_
      refine g_get C hw hin_X5_back_X5 0 rfl rfl 6 (by decide) lk_X5_back_47 rfl dX5_back_32 ?_
      refine g_get C hw hin_X5_back_X1 1 rfl rfl 0 (by decide) lk_X5_back_86 rfl dX5_back_35 ?_
      exact g_iret C hr (ws' := [oX5 h a tr lf, oX1 (a 6) ga (rc - nn)]) hw [0, 1] (by decide) rfl ⟨(congrArg iI (by (repeat' split) <;> omega)), (by first | (rw [if_pos (by omega)]; done) | (rw [if_neg (by omega)]; done))⟩ dX5_back_38
    · skip
      refine g_bipush C dX5_back_15 (by decide) ?_
      exact g_iret C hr (ws' := [oX5 h a tr lf, oX1 (a 6) ga rc]) hw [0, 1] (by decide) rfl ⟨(congrArg iI (by (repeat' split) <;> omega)), (by first | (rw [if_pos (by omega)]; done) | (rw [if_neg (by omega)]; done))⟩ dX5_back_17
