theorem df_X0 : ∀ j, j < 14 → defaultValue (tyX0 j) = vp_V [.int (iI 0), .null, .null, .null, .null, .null, .null, .int (iI 0), .null, .null, .int (iI 0), .null, .null, .null] j := by decide +kernel
theorem df_X1 : ∀ j, j < 4 → defaultValue (tyX1 j) = vp_V [.int (iI 0), .null, .null, .null] j := by decide +kernel
theorem df_X2 : ∀ j, j < 2 → defaultValue (tyX2 j) = vp_V [.int (iI 0), .null] j := by decide +kernel
theorem df_X3 : ∀ j, j < 4 → defaultValue (tyX3 j) = vp_V [.null, .int (iI 0), .int (iI 0), .int (iI 0)] j := by decide +kernel
theorem df_X4 : ∀ j, j < 3 → defaultValue (tyX4 j) = vp_V [.int (iI 0), .null, .null] j := by decide +kernel
theorem df_X5 : ∀ j, j < 9 → defaultValue (tyX5 j) = vp_V [.null, .null, .null, .null, .null, .null, .null, .int (iI 0), .int (iI 0)] j := by decide +kernel
theorem df_X6 : ∀ j, j < 30 → defaultValue (tyX6 j) = vp_V [.int (iI 0), .int (iI 0), .null, .null, .int (iI 0), .int (iI 0), .null, .null, .long (lI (0)), .long (lI (0)), .long (lI (0)), .long (lI (0)), .int (iI 0), .null, .null, .null, .null, .null, .null, .null, .int (iI 0), .int (iI 0), .null, .null, .null, .null, .null, .null, .null, .int (iI 0)] j := by decide +kernel

set_option maxRecDepth 20000 in
theorem hin_X4_init_X4 : ∀ w ∈ u_ws RX4 TX4 3, w ∈ wsX4_init := by
  intro w h
  exact List.mem_cons_of_mem _ (List.mem_append_right _ (h))
set_option maxRecDepth 20000 in
theorem lk_X4_init_9 : Cond.fieldLink RX4 9 (TX4 1).1 (TX4 1).2.1 (TX4 1).2.2.1 ∈ wsX4_init := List.mem_cons_of_mem _ (List.mem_append_left _ (List.mem_of_getElem? (i := 4) rfl))
set_option maxRecDepth 20000 in
theorem lk_X4_init_15 : Cond.fieldLink RX4 15 (TX4 2).1 (TX4 2).2.1 (TX4 2).2.2.1 ∈ wsX4_init := List.mem_cons_of_mem _ (List.mem_append_left _ (List.mem_of_getElem? (i := 5) rfl))
set_option maxRecDepth 100000 in
set_option maxHeartbeats 8000000 in
theorem m_X4_init (l : Launch) (D : va_G) (G : gT) (h : Nat)  : gMv l yX4_init wsX4_init ({ frames := 1, cells := 2, slots := 16, locals := 20 }) D G [.ref h] [cO h 4 [.int (iI 0), .null, .null]] 2 16 (fun (w : va_W) => ∃ (a : Nat → Nat), w = [oX4 h a 0, cA G (a 1) 4 (fun _ => 0), cA G (a 2) 12 (fun _ => 0)]) := by
  refine g_start_v (cc := cX4_init) (nL := 1) (own := RX4) (ret := none) (by decide +kernel) rfl rfl (Nat.le_of_ble_eq_true rfl) ?_
  intro p e s m below meth c A ls C hr hnm hw hl
  have hl : lv_has ls 1 [(0, .ref h)] := hl
  refine g_aload_n C hl 0 rfl rfl dX4_init_0 ?_
  refine W.objInit C.1.1 C.1.2.1 C.1.2.2.2.1 (C.1.2.2.2.2 (.methodLink RX4 3 objectInit) (List.mem_cons_of_mem _ (List.mem_append_left _ (List.mem_of_getElem? (i := 0) rfl)))) (C.1.2.2.2.2 (.instanceMethod objectInit) (List.mem_cons_of_mem _ (List.mem_append_left _ (List.mem_of_getElem? (i := 1) rfl)))) (C.1.2.2.2.2 (.code objectInit ⟨#[0xb1]⟩ 1 none) (List.mem_cons_of_mem _ (List.mem_append_left _ (List.mem_of_getElem? (i := 2) rfl)))) rfl (by rw [C.1.2.2.1]; exact hl.1) rfl dX4_init_1 (Nat.le_of_ble_eq_true rfl) (Nat.le_of_ble_eq_true rfl) ?_
  refine W.eq (g2 := F0 m 4 ls []) rfl ?_
  refine g_aload_n C hl 0 rfl rfl dX4_init_4 ?_
  refine g_iconst C dX4_init_5 ?_
  refine g_newI C hw 4 rfl (Nat.le_of_ble_eq_true rfl) (List.mem_cons_of_mem _ (List.mem_append_left _ (List.mem_of_getElem? (i := 3) rfl))) (Nat.le_of_ble_eq_true rfl) (Nat.le_of_ble_eq_true rfl) dX4_init_6 ?_
  clear hw
  intro q_1 H hw
  refine g_putF C hw [cO h 4 [.int (iI 0), .ref q_1, .null], cA G q_1 4 (fun _ => 0)] hin_X4_init_X4 tyX4 tyX4_ok nmX4 0 rfl rfl 1 (by decide) lk_X4_init_9 rfl hnm rfl rfl rfl rfl (Nat.le_of_ble_eq_true rfl) rfl dX4_init_8 ?_
  clear hw
  intro H locs hw
  refine g_aload_n C hl 0 rfl rfl dX4_init_11 ?_
  refine g_bipush C dX4_init_12 (by decide) ?_
  refine g_newI C hw 12 rfl (Nat.le_of_ble_eq_true rfl) (List.mem_cons_of_mem _ (List.mem_append_left _ (List.mem_of_getElem? (i := 3) rfl))) (Nat.le_of_ble_eq_true rfl) (Nat.le_of_ble_eq_true rfl) dX4_init_14 ?_
  clear hw
  intro q_2 H hw
  refine g_putF C hw [cO h 4 [.int (iI 0), .ref q_1, .ref q_2], cA G q_1 4 (fun _ => 0), cA G q_2 12 (fun _ => 0)] hin_X4_init_X4 tyX4 tyX4_ok nmX4 0 rfl rfl 2 (by decide) lk_X4_init_15 rfl hnm rfl rfl rfl rfl (Nat.le_of_ble_eq_true rfl) rfl dX4_init_16 ?_
  clear hw
  intro H locs hw
  refine W.widen (k := 2) (n := 16) (by first | exact Nat.le_of_ble_eq_true rfl | omega) (by first | exact Nat.le_of_ble_eq_true rfl | omega) ?_
  exact g_vret C hr (ws' := [cO h 4 [.int (iI 0), .ref q_1, .ref q_2], cA G q_1 4 (fun _ => 0), cA G q_2 12 (fun _ => 0)]) hw [0, 1, 2] (by decide) rfl ⟨(fun k => [0, q_1, q_2].getD k 0), (by rfl)⟩ dX4_init_19

set_option maxRecDepth 20000 in
theorem hin_X0_init_X0 : ∀ w ∈ u_ws RX0 TX0 14, w ∈ wsX0_init := by
  intro w h
  exact List.mem_cons_of_mem _ (List.mem_append_right _ (h))
set_option maxRecDepth 20000 in
theorem lk_X0_init_9 : Cond.fieldLink RX0 9 (TX0 1).1 (TX0 1).2.1 (TX0 1).2.2.1 ∈ wsX0_init := List.mem_cons_of_mem _ (List.mem_append_left _ (List.mem_of_getElem? (i := 4) rfl))
set_option maxRecDepth 20000 in
theorem lk_X0_init_15 : Cond.fieldLink RX0 15 (TX0 2).1 (TX0 2).2.1 (TX0 2).2.2.1 ∈ wsX0_init := List.mem_cons_of_mem _ (List.mem_append_left _ (List.mem_of_getElem? (i := 5) rfl))
set_option maxRecDepth 20000 in
theorem lk_X0_init_18 : Cond.fieldLink RX0 18 (TX0 3).1 (TX0 3).2.1 (TX0 3).2.2.1 ∈ wsX0_init := List.mem_cons_of_mem _ (List.mem_append_left _ (List.mem_of_getElem? (i := 6) rfl))
set_option maxRecDepth 20000 in
theorem lk_X0_init_21 : Cond.fieldLink RX0 21 (TX0 4).1 (TX0 4).2.1 (TX0 4).2.2.1 ∈ wsX0_init := List.mem_cons_of_mem _ (List.mem_append_left _ (List.mem_of_getElem? (i := 7) rfl))
set_option maxRecDepth 20000 in
theorem lk_X0_init_24 : Cond.fieldLink RX0 24 (TX0 5).1 (TX0 5).2.1 (TX0 5).2.2.1 ∈ wsX0_init := List.mem_cons_of_mem _ (List.mem_append_left _ (List.mem_of_getElem? (i := 8) rfl))
set_option maxRecDepth 20000 in
theorem lk_X0_init_27 : Cond.fieldLink RX0 27 (TX0 6).1 (TX0 6).2.1 (TX0 6).2.2.1 ∈ wsX0_init := List.mem_cons_of_mem _ (List.mem_append_left _ (List.mem_of_getElem? (i := 9) rfl))
set_option maxRecDepth 20000 in
theorem lk_X0_init_30 : Cond.fieldLink RX0 30 (TX0 8).1 (TX0 8).2.1 (TX0 8).2.2.1 ∈ wsX0_init := List.mem_cons_of_mem _ (List.mem_append_left _ (List.mem_of_getElem? (i := 10) rfl))
set_option maxRecDepth 20000 in
theorem lk_X0_init_33 : Cond.fieldLink RX0 33 (TX0 9).1 (TX0 9).2.1 (TX0 9).2.2.1 ∈ wsX0_init := List.mem_cons_of_mem _ (List.mem_append_left _ (List.mem_of_getElem? (i := 11) rfl))
set_option maxRecDepth 20000 in
theorem lk_X0_init_36 : Cond.fieldLink RX0 36 (TX0 11).1 (TX0 11).2.1 (TX0 11).2.2.1 ∈ wsX0_init := List.mem_cons_of_mem _ (List.mem_append_left _ (List.mem_of_getElem? (i := 12) rfl))
set_option maxRecDepth 20000 in
theorem lk_X0_init_39 : Cond.fieldLink RX0 39 (TX0 12).1 (TX0 12).2.1 (TX0 12).2.2.1 ∈ wsX0_init := List.mem_cons_of_mem _ (List.mem_append_left _ (List.mem_of_getElem? (i := 13) rfl))
set_option maxRecDepth 20000 in
theorem lk_X0_init_42 : Cond.fieldLink RX0 42 (TX0 13).1 (TX0 13).2.1 (TX0 13).2.2.1 ∈ wsX0_init := List.mem_cons_of_mem _ (List.mem_append_left _ (List.mem_of_getElem? (i := 14) rfl))
set_option maxRecDepth 100000 in
set_option maxHeartbeats 8000000 in
theorem m_X0_init (l : Launch) (D : va_G) (G : gT) (h : Nat)  : gMv l yX0_init wsX0_init ({ frames := 1, cells := 11, slots := 115, locals := 20 }) D G [.ref h] [cO h 0 [.int (iI 0), .null, .null, .null, .null, .null, .null, .int (iI 0), .null, .null, .int (iI 0), .null, .null, .null]] 11 115 (fun (w : va_W) => ∃ (a : Nat → Nat), w = [oX0 h a 0 0 0, cA G (a 1) 12 (fun _ => 0), cA G (a 2) 4 (fun _ => 0), cA G (a 3) 8 (fun _ => 0), cA G (a 4) 8 (fun _ => 0), cA G (a 5) 8 (fun _ => 0), cA G (a 6) 8 (fun _ => 0), cA G (a 8) 8 (fun _ => 0), cA G (a 9) 8 (fun _ => 0), cA G (a 11) 17 (fun _ => 0), cA G (a 12) 17 (fun _ => 0), cA G (a 13) 17 (fun _ => 0)]) := by
  refine g_start_v (cc := cX0_init) (nL := 1) (own := RX0) (ret := none) (by decide +kernel) rfl rfl (Nat.le_of_ble_eq_true rfl) ?_
  intro p e s m below meth c A ls C hr hnm hw hl
  have hl : lv_has ls 1 [(0, .ref h)] := hl
  refine g_aload_n C hl 0 rfl rfl dX0_init_0 ?_
  refine W.objInit C.1.1 C.1.2.1 C.1.2.2.2.1 (C.1.2.2.2.2 (.methodLink RX0 3 objectInit) (List.mem_cons_of_mem _ (List.mem_append_left _ (List.mem_of_getElem? (i := 0) rfl)))) (C.1.2.2.2.2 (.instanceMethod objectInit) (List.mem_cons_of_mem _ (List.mem_append_left _ (List.mem_of_getElem? (i := 1) rfl)))) (C.1.2.2.2.2 (.code objectInit ⟨#[0xb1]⟩ 1 none) (List.mem_cons_of_mem _ (List.mem_append_left _ (List.mem_of_getElem? (i := 2) rfl)))) rfl (by rw [C.1.2.2.1]; exact hl.1) rfl dX0_init_1 (Nat.le_of_ble_eq_true rfl) (Nat.le_of_ble_eq_true rfl) ?_
  refine W.eq (g2 := F0 m 4 ls []) rfl ?_
  refine g_aload_n C hl 0 rfl rfl dX0_init_4 ?_
  refine g_bipush C dX0_init_5 (by decide) ?_
  refine g_newI C hw 12 rfl (Nat.le_of_ble_eq_true rfl) (List.mem_cons_of_mem _ (List.mem_append_left _ (List.mem_of_getElem? (i := 3) rfl))) (Nat.le_of_ble_eq_true rfl) (Nat.le_of_ble_eq_true rfl) dX0_init_7 ?_
  clear hw
  intro q_1 H hw
  refine g_putF C hw [cO h 0 [.int (iI 0), .ref q_1, .null, .null, .null, .null, .null, .int (iI 0), .null, .null, .int (iI 0), .null, .null, .null], cA G q_1 12 (fun _ => 0)] hin_X0_init_X0 tyX0 tyX0_ok nmX0 0 rfl rfl 1 (by decide) lk_X0_init_9 rfl hnm rfl rfl rfl rfl (Nat.le_of_ble_eq_true rfl) rfl dX0_init_9 ?_
  clear hw
  intro H locs hw
  refine g_aload_n C hl 0 rfl rfl dX0_init_12 ?_
  refine g_iconst C dX0_init_13 ?_
  refine g_newI C hw 4 rfl (Nat.le_of_ble_eq_true rfl) (List.mem_cons_of_mem _ (List.mem_append_left _ (List.mem_of_getElem? (i := 3) rfl))) (Nat.le_of_ble_eq_true rfl) (Nat.le_of_ble_eq_true rfl) dX0_init_14 ?_
  clear hw
  intro q_2 H hw
  refine g_putF C hw [cO h 0 [.int (iI 0), .ref q_1, .ref q_2, .null, .null, .null, .null, .int (iI 0), .null, .null, .int (iI 0), .null, .null, .null], cA G q_1 12 (fun _ => 0), cA G q_2 4 (fun _ => 0)] hin_X0_init_X0 tyX0 tyX0_ok nmX0 0 rfl rfl 2 (by decide) lk_X0_init_15 rfl hnm rfl rfl rfl rfl (Nat.le_of_ble_eq_true rfl) rfl dX0_init_16 ?_
  clear hw
  intro H locs hw
  refine g_aload_n C hl 0 rfl rfl dX0_init_19 ?_
  refine g_bipush C dX0_init_20 (by decide) ?_
  refine g_newI C hw 8 rfl (Nat.le_of_ble_eq_true rfl) (List.mem_cons_of_mem _ (List.mem_append_left _ (List.mem_of_getElem? (i := 3) rfl))) (Nat.le_of_ble_eq_true rfl) (Nat.le_of_ble_eq_true rfl) dX0_init_22 ?_
  clear hw
  intro q_3 H hw
  refine g_putF C hw [cO h 0 [.int (iI 0), .ref q_1, .ref q_2, .ref q_3, .null, .null, .null, .int (iI 0), .null, .null, .int (iI 0), .null, .null, .null], cA G q_1 12 (fun _ => 0), cA G q_2 4 (fun _ => 0), cA G q_3 8 (fun _ => 0)] hin_X0_init_X0 tyX0 tyX0_ok nmX0 0 rfl rfl 3 (by decide) lk_X0_init_18 rfl hnm rfl rfl rfl rfl (Nat.le_of_ble_eq_true rfl) rfl dX0_init_24 ?_
  clear hw
  intro H locs hw
  refine g_aload_n C hl 0 rfl rfl dX0_init_27 ?_
  refine g_bipush C dX0_init_28 (by decide) ?_
  refine g_newI C hw 8 rfl (Nat.le_of_ble_eq_true rfl) (List.mem_cons_of_mem _ (List.mem_append_left _ (List.mem_of_getElem? (i := 3) rfl))) (Nat.le_of_ble_eq_true rfl) (Nat.le_of_ble_eq_true rfl) dX0_init_30 ?_
  clear hw
  intro q_4 H hw
  refine g_putF C hw [cO h 0 [.int (iI 0), .ref q_1, .ref q_2, .ref q_3, .ref q_4, .null, .null, .int (iI 0), .null, .null, .int (iI 0), .null, .null, .null], cA G q_1 12 (fun _ => 0), cA G q_2 4 (fun _ => 0), cA G q_3 8 (fun _ => 0), cA G q_4 8 (fun _ => 0)] hin_X0_init_X0 tyX0 tyX0_ok nmX0 0 rfl rfl 4 (by decide) lk_X0_init_21 rfl hnm rfl rfl rfl rfl (Nat.le_of_ble_eq_true rfl) rfl dX0_init_32 ?_
  clear hw
  intro H locs hw
  refine g_aload_n C hl 0 rfl rfl dX0_init_35 ?_
  refine g_bipush C dX0_init_36 (by decide) ?_
  refine g_newI C hw 8 rfl (Nat.le_of_ble_eq_true rfl) (List.mem_cons_of_mem _ (List.mem_append_left _ (List.mem_of_getElem? (i := 3) rfl))) (Nat.le_of_ble_eq_true rfl) (Nat.le_of_ble_eq_true rfl) dX0_init_38 ?_
  clear hw
  intro q_5 H hw
  refine g_putF C hw [cO h 0 [.int (iI 0), .ref q_1, .ref q_2, .ref q_3, .ref q_4, .ref q_5, .null, .int (iI 0), .null, .null, .int (iI 0), .null, .null, .null], cA G q_1 12 (fun _ => 0), cA G q_2 4 (fun _ => 0), cA G q_3 8 (fun _ => 0), cA G q_4 8 (fun _ => 0), cA G q_5 8 (fun _ => 0)] hin_X0_init_X0 tyX0 tyX0_ok nmX0 0 rfl rfl 5 (by decide) lk_X0_init_24 rfl hnm rfl rfl rfl rfl (Nat.le_of_ble_eq_true rfl) rfl dX0_init_40 ?_
  clear hw
  intro H locs hw
  refine g_aload_n C hl 0 rfl rfl dX0_init_43 ?_
  refine g_bipush C dX0_init_44 (by decide) ?_
  refine g_newI C hw 8 rfl (Nat.le_of_ble_eq_true rfl) (List.mem_cons_of_mem _ (List.mem_append_left _ (List.mem_of_getElem? (i := 3) rfl))) (Nat.le_of_ble_eq_true rfl) (Nat.le_of_ble_eq_true rfl) dX0_init_46 ?_
  clear hw
  intro q_6 H hw
  refine g_putF C hw [cO h 0 [.int (iI 0), .ref q_1, .ref q_2, .ref q_3, .ref q_4, .ref q_5, .ref q_6, .int (iI 0), .null, .null, .int (iI 0), .null, .null, .null], cA G q_1 12 (fun _ => 0), cA G q_2 4 (fun _ => 0), cA G q_3 8 (fun _ => 0), cA G q_4 8 (fun _ => 0), cA G q_5 8 (fun _ => 0), cA G q_6 8 (fun _ => 0)] hin_X0_init_X0 tyX0 tyX0_ok nmX0 0 rfl rfl 6 (by decide) lk_X0_init_27 rfl hnm rfl rfl rfl rfl (Nat.le_of_ble_eq_true rfl) rfl dX0_init_48 ?_
  clear hw
  intro H locs hw
  refine g_aload_n C hl 0 rfl rfl dX0_init_51 ?_
  refine g_bipush C dX0_init_52 (by decide) ?_
  refine g_newI C hw 8 rfl (Nat.le_of_ble_eq_true rfl) (List.mem_cons_of_mem _ (List.mem_append_left _ (List.mem_of_getElem? (i := 3) rfl))) (Nat.le_of_ble_eq_true rfl) (Nat.le_of_ble_eq_true rfl) dX0_init_54 ?_
  clear hw
  intro q_7 H hw
  refine g_putF C hw [cO h 0 [.int (iI 0), .ref q_1, .ref q_2, .ref q_3, .ref q_4, .ref q_5, .ref q_6, .int (iI 0), .ref q_7, .null, .int (iI 0), .null, .null, .null], cA G q_1 12 (fun _ => 0), cA G q_2 4 (fun _ => 0), cA G q_3 8 (fun _ => 0), cA G q_4 8 (fun _ => 0), cA G q_5 8 (fun _ => 0), cA G q_6 8 (fun _ => 0), cA G q_7 8 (fun _ => 0)] hin_X0_init_X0 tyX0 tyX0_ok nmX0 0 rfl rfl 8 (by decide) lk_X0_init_30 rfl hnm rfl rfl rfl rfl (Nat.le_of_ble_eq_true rfl) rfl dX0_init_56 ?_
  clear hw
  intro H locs hw
  refine g_aload_n C hl 0 rfl rfl dX0_init_59 ?_
  refine g_bipush C dX0_init_60 (by decide) ?_
  refine g_newI C hw 8 rfl (Nat.le_of_ble_eq_true rfl) (List.mem_cons_of_mem _ (List.mem_append_left _ (List.mem_of_getElem? (i := 3) rfl))) (Nat.le_of_ble_eq_true rfl) (Nat.le_of_ble_eq_true rfl) dX0_init_62 ?_
  clear hw
  intro q_8 H hw
  refine g_putF C hw [cO h 0 [.int (iI 0), .ref q_1, .ref q_2, .ref q_3, .ref q_4, .ref q_5, .ref q_6, .int (iI 0), .ref q_7, .ref q_8, .int (iI 0), .null, .null, .null], cA G q_1 12 (fun _ => 0), cA G q_2 4 (fun _ => 0), cA G q_3 8 (fun _ => 0), cA G q_4 8 (fun _ => 0), cA G q_5 8 (fun _ => 0), cA G q_6 8 (fun _ => 0), cA G q_7 8 (fun _ => 0), cA G q_8 8 (fun _ => 0)] hin_X0_init_X0 tyX0 tyX0_ok nmX0 0 rfl rfl 9 (by decide) lk_X0_init_33 rfl hnm rfl rfl rfl rfl (Nat.le_of_ble_eq_true rfl) rfl dX0_init_64 ?_
  clear hw
  intro H locs hw
  refine g_aload_n C hl 0 rfl rfl dX0_init_67 ?_
  refine g_bipush C dX0_init_68 (by decide) ?_
  refine g_newI C hw 17 rfl (Nat.le_of_ble_eq_true rfl) (List.mem_cons_of_mem _ (List.mem_append_left _ (List.mem_of_getElem? (i := 3) rfl))) (Nat.le_of_ble_eq_true rfl) (Nat.le_of_ble_eq_true rfl) dX0_init_70 ?_
  clear hw
  intro q_9 H hw
  refine g_putF C hw [cO h 0 [.int (iI 0), .ref q_1, .ref q_2, .ref q_3, .ref q_4, .ref q_5, .ref q_6, .int (iI 0), .ref q_7, .ref q_8, .int (iI 0), .ref q_9, .null, .null], cA G q_1 12 (fun _ => 0), cA G q_2 4 (fun _ => 0), cA G q_3 8 (fun _ => 0), cA G q_4 8 (fun _ => 0), cA G q_5 8 (fun _ => 0), cA G q_6 8 (fun _ => 0), cA G q_7 8 (fun _ => 0), cA G q_8 8 (fun _ => 0), cA G q_9 17 (fun _ => 0)] hin_X0_init_X0 tyX0 tyX0_ok nmX0 0 rfl rfl 11 (by decide) lk_X0_init_36 rfl hnm rfl rfl rfl rfl (Nat.le_of_ble_eq_true rfl) rfl dX0_init_72 ?_
  clear hw
  intro H locs hw
  refine g_aload_n C hl 0 rfl rfl dX0_init_75 ?_
  refine g_bipush C dX0_init_76 (by decide) ?_
  refine g_newI C hw 17 rfl (Nat.le_of_ble_eq_true rfl) (List.mem_cons_of_mem _ (List.mem_append_left _ (List.mem_of_getElem? (i := 3) rfl))) (Nat.le_of_ble_eq_true rfl) (Nat.le_of_ble_eq_true rfl) dX0_init_78 ?_
  clear hw
  intro q_10 H hw
  refine g_putF C hw [cO h 0 [.int (iI 0), .ref q_1, .ref q_2, .ref q_3, .ref q_4, .ref q_5, .ref q_6, .int (iI 0), .ref q_7, .ref q_8, .int (iI 0), .ref q_9, .ref q_10, .null], cA G q_1 12 (fun _ => 0), cA G q_2 4 (fun _ => 0), cA G q_3 8 (fun _ => 0), cA G q_4 8 (fun _ => 0), cA G q_5 8 (fun _ => 0), cA G q_6 8 (fun _ => 0), cA G q_7 8 (fun _ => 0), cA G q_8 8 (fun _ => 0), cA G q_9 17 (fun _ => 0), cA G q_10 17 (fun _ => 0)] hin_X0_init_X0 tyX0 tyX0_ok nmX0 0 rfl rfl 12 (by decide) lk_X0_init_39 rfl hnm rfl rfl rfl rfl (Nat.le_of_ble_eq_true rfl) rfl dX0_init_80 ?_
  clear hw
  intro H locs hw
  refine g_aload_n C hl 0 rfl rfl dX0_init_83 ?_
  refine g_bipush C dX0_init_84 (by decide) ?_
  refine g_newI C hw 17 rfl (Nat.le_of_ble_eq_true rfl) (List.mem_cons_of_mem _ (List.mem_append_left _ (List.mem_of_getElem? (i := 3) rfl))) (Nat.le_of_ble_eq_true rfl) (Nat.le_of_ble_eq_true rfl) dX0_init_86 ?_
  clear hw
  intro q_11 H hw
  refine g_putF C hw [cO h 0 [.int (iI 0), .ref q_1, .ref q_2, .ref q_3, .ref q_4, .ref q_5, .ref q_6, .int (iI 0), .ref q_7, .ref q_8, .int (iI 0), .ref q_9, .ref q_10, .ref q_11], cA G q_1 12 (fun _ => 0), cA G q_2 4 (fun _ => 0), cA G q_3 8 (fun _ => 0), cA G q_4 8 (fun _ => 0), cA G q_5 8 (fun _ => 0), cA G q_6 8 (fun _ => 0), cA G q_7 8 (fun _ => 0), cA G q_8 8 (fun _ => 0), cA G q_9 17 (fun _ => 0), cA G q_10 17 (fun _ => 0), cA G q_11 17 (fun _ => 0)] hin_X0_init_X0 tyX0 tyX0_ok nmX0 0 rfl rfl 13 (by decide) lk_X0_init_42 rfl hnm rfl rfl rfl rfl (Nat.le_of_ble_eq_true rfl) rfl dX0_init_88 ?_
  clear hw
  intro H locs hw
  refine W.widen (k := 11) (n := 115) (by first | exact Nat.le_of_ble_eq_true rfl | omega) (by first | exact Nat.le_of_ble_eq_true rfl | omega) ?_
  exact g_vret C hr (ws' := [cO h 0 [.int (iI 0), .ref q_1, .ref q_2, .ref q_3, .ref q_4, .ref q_5, .ref q_6, .int (iI 0), .ref q_7, .ref q_8, .int (iI 0), .ref q_9, .ref q_10, .ref q_11], cA G q_1 12 (fun _ => 0), cA G q_2 4 (fun _ => 0), cA G q_3 8 (fun _ => 0), cA G q_4 8 (fun _ => 0), cA G q_5 8 (fun _ => 0), cA G q_6 8 (fun _ => 0), cA G q_7 8 (fun _ => 0), cA G q_8 8 (fun _ => 0), cA G q_9 17 (fun _ => 0), cA G q_10 17 (fun _ => 0), cA G q_11 17 (fun _ => 0)]) hw [0, 1, 2, 3, 4, 5, 6, 7, 8, 9, 10, 11] (by decide) rfl ⟨(fun k => [0, q_1, q_2, q_3, q_4, q_5, q_6, 0, q_7, q_8, 0, q_9, q_10, q_11].getD k 0), (by rfl)⟩ dX0_init_91

set_option maxRecDepth 20000 in
theorem hin_X1_init_X1 : ∀ w ∈ u_ws RX1 TX1 4, w ∈ wsX1_init := by
  intro w h
  exact List.mem_cons_of_mem _ (List.mem_append_right _ (h))
set_option maxRecDepth 20000 in
theorem lk_X1_init_9 : Cond.fieldLink RX1 9 (TX1 1).1 (TX1 1).2.1 (TX1 1).2.2.1 ∈ wsX1_init := List.mem_cons_of_mem _ (List.mem_append_left _ (List.mem_of_getElem? (i := 4) rfl))
set_option maxRecDepth 20000 in
theorem lk_X1_init_15 : Cond.fieldLink RX1 15 (TX1 2).1 (TX1 2).2.1 (TX1 2).2.2.1 ∈ wsX1_init := List.mem_cons_of_mem _ (List.mem_append_left _ (List.mem_of_getElem? (i := 5) rfl))
set_option maxRecDepth 20000 in
theorem lk_X1_init_18 : Cond.fieldLink RX1 18 (TX1 3).1 (TX1 3).2.1 (TX1 3).2.2.1 ∈ wsX1_init := List.mem_cons_of_mem _ (List.mem_append_left _ (List.mem_of_getElem? (i := 6) rfl))
set_option maxRecDepth 100000 in
set_option maxHeartbeats 8000000 in
theorem m_X1_init (l : Launch) (D : va_G) (G : gT) (h : Nat)  : gMv l yX1_init wsX1_init ({ frames := 1, cells := 3, slots := 24, locals := 20 }) D G [.ref h] [cO h 1 [.int (iI 0), .null, .null, .null]] 3 24 (fun (w : va_W) => ∃ (a : Nat → Nat), w = [oX1 h a 0, cA G (a 1) 8 (fun _ => 0), cA G (a 2) 8 (fun _ => 0), cA G (a 3) 8 (fun _ => 0)]) := by
  refine g_start_v (cc := cX1_init) (nL := 1) (own := RX1) (ret := none) (by decide +kernel) rfl rfl (Nat.le_of_ble_eq_true rfl) ?_
  intro p e s m below meth c A ls C hr hnm hw hl
  have hl : lv_has ls 1 [(0, .ref h)] := hl
  refine g_aload_n C hl 0 rfl rfl dX1_init_0 ?_
  refine W.objInit C.1.1 C.1.2.1 C.1.2.2.2.1 (C.1.2.2.2.2 (.methodLink RX1 3 objectInit) (List.mem_cons_of_mem _ (List.mem_append_left _ (List.mem_of_getElem? (i := 0) rfl)))) (C.1.2.2.2.2 (.instanceMethod objectInit) (List.mem_cons_of_mem _ (List.mem_append_left _ (List.mem_of_getElem? (i := 1) rfl)))) (C.1.2.2.2.2 (.code objectInit ⟨#[0xb1]⟩ 1 none) (List.mem_cons_of_mem _ (List.mem_append_left _ (List.mem_of_getElem? (i := 2) rfl)))) rfl (by rw [C.1.2.2.1]; exact hl.1) rfl dX1_init_1 (Nat.le_of_ble_eq_true rfl) (Nat.le_of_ble_eq_true rfl) ?_
  refine W.eq (g2 := F0 m 4 ls []) rfl ?_
  refine g_aload_n C hl 0 rfl rfl dX1_init_4 ?_
  refine g_bipush C dX1_init_5 (by decide) ?_
  refine g_newI C hw 8 rfl (Nat.le_of_ble_eq_true rfl) (List.mem_cons_of_mem _ (List.mem_append_left _ (List.mem_of_getElem? (i := 3) rfl))) (Nat.le_of_ble_eq_true rfl) (Nat.le_of_ble_eq_true rfl) dX1_init_7 ?_
  clear hw
  intro q_1 H hw
  refine g_putF C hw [cO h 1 [.int (iI 0), .ref q_1, .null, .null], cA G q_1 8 (fun _ => 0)] hin_X1_init_X1 tyX1 tyX1_ok nmX1 0 rfl rfl 1 (by decide) lk_X1_init_9 rfl hnm rfl rfl rfl rfl (Nat.le_of_ble_eq_true rfl) rfl dX1_init_9 ?_
  clear hw
  intro H locs hw
  refine g_aload_n C hl 0 rfl rfl dX1_init_12 ?_
  refine g_bipush C dX1_init_13 (by decide) ?_
  refine g_newI C hw 8 rfl (Nat.le_of_ble_eq_true rfl) (List.mem_cons_of_mem _ (List.mem_append_left _ (List.mem_of_getElem? (i := 3) rfl))) (Nat.le_of_ble_eq_true rfl) (Nat.le_of_ble_eq_true rfl) dX1_init_15 ?_
  clear hw
  intro q_2 H hw
  refine g_putF C hw [cO h 1 [.int (iI 0), .ref q_1, .ref q_2, .null], cA G q_1 8 (fun _ => 0), cA G q_2 8 (fun _ => 0)] hin_X1_init_X1 tyX1 tyX1_ok nmX1 0 rfl rfl 2 (by decide) lk_X1_init_15 rfl hnm rfl rfl rfl rfl (Nat.le_of_ble_eq_true rfl) rfl dX1_init_17 ?_
  clear hw
  intro H locs hw
  refine g_aload_n C hl 0 rfl rfl dX1_init_20 ?_
  refine g_bipush C dX1_init_21 (by decide) ?_
  refine g_newI C hw 8 rfl (Nat.le_of_ble_eq_true rfl) (List.mem_cons_of_mem _ (List.mem_append_left _ (List.mem_of_getElem? (i := 3) rfl))) (Nat.le_of_ble_eq_true rfl) (Nat.le_of_ble_eq_true rfl) dX1_init_23 ?_
  clear hw
  intro q_3 H hw
  refine g_putF C hw [cO h 1 [.int (iI 0), .ref q_1, .ref q_2, .ref q_3], cA G q_1 8 (fun _ => 0), cA G q_2 8 (fun _ => 0), cA G q_3 8 (fun _ => 0)] hin_X1_init_X1 tyX1 tyX1_ok nmX1 0 rfl rfl 3 (by decide) lk_X1_init_18 rfl hnm rfl rfl rfl rfl (Nat.le_of_ble_eq_true rfl) rfl dX1_init_25 ?_
  clear hw
  intro H locs hw
  refine W.widen (k := 3) (n := 24) (by first | exact Nat.le_of_ble_eq_true rfl | omega) (by first | exact Nat.le_of_ble_eq_true rfl | omega) ?_
  exact g_vret C hr (ws' := [cO h 1 [.int (iI 0), .ref q_1, .ref q_2, .ref q_3], cA G q_1 8 (fun _ => 0), cA G q_2 8 (fun _ => 0), cA G q_3 8 (fun _ => 0)]) hw [0, 1, 2, 3] (by decide) rfl ⟨(fun k => [0, q_1, q_2, q_3].getD k 0), (by rfl)⟩ dX1_init_28

set_option maxRecDepth 20000 in
theorem hin_X2_init_X2 : ∀ w ∈ u_ws RX2 TX2 2, w ∈ wsX2_init := by
  intro w h
  exact List.mem_cons_of_mem _ (List.mem_append_right _ (h))
set_option maxRecDepth 20000 in
theorem lk_X2_init_9 : Cond.fieldLink RX2 9 (TX2 0).1 (TX2 0).2.1 (TX2 0).2.2.1 ∈ wsX2_init := List.mem_cons_of_mem _ (List.mem_append_left _ (List.mem_of_getElem? (i := 3) rfl))
set_option maxRecDepth 20000 in
theorem lk_X2_init_15 : Cond.fieldLink RX2 15 (TX2 1).1 (TX2 1).2.1 (TX2 1).2.2.1 ∈ wsX2_init := List.mem_cons_of_mem _ (List.mem_append_left _ (List.mem_of_getElem? (i := 5) rfl))
set_option maxRecDepth 100000 in
set_option maxHeartbeats 8000000 in
theorem m_X2_init (l : Launch) (D : va_G) (G : gT) (h : Nat) (lv : Int) (nn : Int) (zn : Nat) (hz : nn = zn) (hzn : zn ≤ 60) : gMv l yX2_init wsX2_init ({ frames := 1, cells := 1, slots := 60, locals := 20 }) D G [.ref h, .int (iI lv), .int (iI nn)] [cO h 2 [.int (iI 0), .null]] 1 60 (fun (w : va_W) => ∃ (a : Nat → Nat), w = [oX2 h a lv, cA G (a 1) zn (fun _ => 0)]) := by
  refine g_start_v (cc := cX2_init) (nL := 3) (own := RX2) (ret := none) (by decide +kernel) rfl rfl (Nat.le_of_ble_eq_true rfl) ?_
  intro p e s m below meth c A ls C hr hnm hw hl
  have hl : lv_has ls 3 [(0, .ref h), (1, .int (iI lv)), (2, .int (iI nn))] := hl
  refine g_aload_n C hl 0 rfl rfl dX2_init_0 ?_
  refine W.objInit C.1.1 C.1.2.1 C.1.2.2.2.1 (C.1.2.2.2.2 (.methodLink RX2 3 objectInit) (List.mem_cons_of_mem _ (List.mem_append_left _ (List.mem_of_getElem? (i := 0) rfl)))) (C.1.2.2.2.2 (.instanceMethod objectInit) (List.mem_cons_of_mem _ (List.mem_append_left _ (List.mem_of_getElem? (i := 1) rfl)))) (C.1.2.2.2.2 (.code objectInit ⟨#[0xb1]⟩ 1 none) (List.mem_cons_of_mem _ (List.mem_append_left _ (List.mem_of_getElem? (i := 2) rfl)))) rfl (by rw [C.1.2.2.1]; exact hl.1) rfl dX2_init_1 (Nat.le_of_ble_eq_true rfl) (Nat.le_of_ble_eq_true rfl) ?_
  refine W.eq (g2 := F0 m 4 ls []) rfl ?_
  refine g_aload_n C hl 0 rfl rfl dX2_init_4 ?_
  refine g_iload_n C hl 1 rfl rfl dX2_init_5 ?_
  refine g_putF C hw [cO h 2 [.int (iI lv), .null]] hin_X2_init_X2 tyX2 tyX2_ok nmX2 0 rfl rfl 0 (by decide) lk_X2_init_9 rfl hnm rfl rfl rfl rfl (Nat.le_of_ble_eq_true rfl) rfl dX2_init_6 ?_
  clear hw
  intro H locs hw
  refine g_aload_n C hl 0 rfl rfl dX2_init_9 ?_
  refine g_iload_n C hl 2 rfl rfl dX2_init_10 ?_
  refine g_newI C hw zn (by omega) (by omega) (List.mem_cons_of_mem _ (List.mem_append_left _ (List.mem_of_getElem? (i := 4) rfl))) (Nat.le_of_ble_eq_true rfl) (by show 0 + zn ≤ 60; omega) dX2_init_11 ?_
  clear hw
  intro q_1 H hw
  refine g_putF C hw [cO h 2 [.int (iI lv), .ref q_1], cA G q_1 zn (fun _ => 0)] hin_X2_init_X2 tyX2 tyX2_ok nmX2 0 rfl rfl 1 (by decide) lk_X2_init_15 rfl hnm rfl rfl rfl rfl (Nat.le_of_ble_eq_true rfl) rfl dX2_init_13 ?_
  clear hw
  intro H locs hw
  refine W.widen (k := 1) (n := 60) (by first | exact Nat.le_of_ble_eq_true rfl | omega) (by first | exact Nat.le_of_ble_eq_true rfl | omega) ?_
  exact g_vret C hr (ws' := [cO h 2 [.int (iI lv), .ref q_1], cA G q_1 zn (fun _ => 0)]) hw [0, 1] (by decide) rfl ⟨(fun k => [0, q_1].getD k 0), (by rfl)⟩ dX2_init_16
