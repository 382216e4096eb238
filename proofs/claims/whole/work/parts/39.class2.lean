set_option maxRecDepth 20000 in
theorem hin_X0_compare_X0 : ∀ w ∈ u_ws RX0 TX0 14, w ∈ wsX0_compare := by
  intro w h
  exact List.mem_cons_of_mem _ (List.mem_append_right _ (h))
set_option maxRecDepth 20000 in
theorem lk_X0_compare_9 : Cond.fieldLink RX0 9 (TX0 1).1 (TX0 1).2.1 (TX0 1).2.2.1 ∈ wsX0_compare := List.mem_cons_of_mem _ (List.mem_append_left _ (List.mem_of_getElem? (i := 0) rfl))
set_option maxRecDepth 20000 in
theorem lk_X0_compare_21 : Cond.fieldLink RX0 21 (TX0 4).1 (TX0 4).2.1 (TX0 4).2.2.1 ∈ wsX0_compare := List.mem_cons_of_mem _ (List.mem_append_left _ (List.mem_of_getElem? (i := 1) rfl))
set_option maxRecDepth 100000 in
set_option maxHeartbeats 8000000 in
theorem m_X0_compare (l : Launch) (D : va_G) (G : gT) (h : Nat) (a : Nat → Nat) (cn : Int) (ul : Int) (rw : Int) (ex : Int → Int) (mi : Int → Int) (si : Int → Int) (un : Int → Int) (be : Int → Int) (E : Int → Int → Int) (nn : Int) (tt : Int) (yy : Int) (hE : EB E) (hnn : 0 ≤ nn ∧ nn ≤ 4) (hX : LnX E nn ex) (hZ : LnZ E nn mi si un be) (ht : isRt E nn tt) (hy : isRt E nn yy) : gMi l yX0_compare wsX0_compare ({ frames := 3, cells := 0, slots := 0, locals := 92 }) D G [.ref h, .int (iI tt), .int (iI yy)] [oX0 h a cn ul rw, cA G (a 1) 12 ex, cA G (a 3) 8 mi, cA G (a 4) 8 si, cA G (a 5) 8 un, cA G (a 6) 8 be] 0 0 (fun (r : Int32) (w : va_W) => r = (iI (cmE E tt yy)) ∧ w = [oX0 h a cn ul rw, cA G (a 1) 12 ex, cA G (a 3) 8 mi, cA G (a 4) 8 si, cA G (a 5) 8 un, cA G (a 6) 8 be]) := by
  refine g_start_i (cc := cX0_compare) (nL := 9) (own := RX0) (ret := some .int) (by decide +kernel) rfl rfl (Nat.le_of_ble_eq_true rfl) ?_
  intro p e s m below meth c A ls C hr hnm hw hl
  have hl : lv_has ls 9 [(0, .ref h), (1, .int (iI tt)), (2, .int (iI yy))] := hl
  obtain ⟨t0, t1, t2⟩ := id ht
  obtain ⟨y0, y1, y2⟩ := id hy
  have hnr1 := nR_r E (tt / 2)
  have hnr2 := nR_r E (yy / 2)
  obtain ⟨x0, x1, x2⟩ := hX (yy / 2) (by omega) y1
  obtain ⟨e0, e1, e2⟩ := hE (yy / 2)
  obtain ⟨z0, z1, z2, z3⟩ := hZ tt ht
  obtain ⟨w0, w1, w2, w3⟩ := hZ yy hy
  have hrt0 := isRt_ok hE ht
  have hrt : rtOK (mi tt) (si tt) (un tt) (be tt) := by rw [z0, z1, z2, z3]; exact hrt0
  have hcq : cmC (sg (E (yy / 2) 2)) (sAt (E (yy / 2) 0) (E (yy / 2) 1) (E (yy / 2) 2) (qP E tt) (qS E tt) (qD E tt) (qQ E tt)) (sAt (E (yy / 2) 1) (2 * E (yy / 2) 2) 0 (qP E tt) (qS E tt) (qD E tt) (qQ E tt)) (zS E (yy / 2) (yy % 2)) = cmE E tt yy := cmC_eq hrt0 ⟨by omega, y2⟩ hE
  replace w1 : si yy = zS E (yy / 2) (yy % 2) := w1
  have hs1 : -1 ≤ sAt (E (yy / 2) 0) (E (yy / 2) 1) (E (yy / 2) 2) (qP E tt) (qS E tt) (qD E tt) (qQ E tt) ∧ sAt (E (yy / 2) 0) (E (yy / 2) 1) (E (yy / 2) 2) (qP E tt) (qS E tt) (qD E tt) (qQ E tt) ≤ 1 := sAt_r _ _ _ _ _ _ _
  have hs2 : -1 ≤ sAt (E (yy / 2) 1) (2 * E (yy / 2) 2) 0 (qP E tt) (qS E tt) (qD E tt) (qQ E tt) ∧ sAt (E (yy / 2) 1) (2 * E (yy / 2) 2) 0 (qP E tt) (qS E tt) (qD E tt) (qQ E tt) ≤ 1 := sAt_r _ _ _ _ _ _ _
  have hs3 := sg_r (E (yy / 2) 2)
  have hzs := (rt_ok hE (q := yy / 2) (i := yy % 2) ⟨by omega, y2⟩).2.1
  have hm1 := mul_rg (x := sAt (E (yy / 2) 0) (E (yy / 2) 1) (E (yy / 2) 2) (qP E tt) (qS E tt) (qD E tt) (qQ E tt)) (y := sg (E (yy / 2) 2)) (A := 1) (B := 1) (by omega) (by omega)
  have hm2 := mul_rg (x := sAt (E (yy / 2) 1) (2 * E (yy / 2) 2) 0 (qP E tt) (qS E tt) (qD E tt) (qQ E tt)) (y := sg (E (yy / 2) 2)) (A := 1) (B := 1) (by omega) (by omega)
  refine g_iload_n C hl 2 rfl rfl dX0_compare_0 ?_
  refine g_iconst C dX0_compare_1 ?_
  refine g_idiv C dX0_compare_2 (by omega) (by omega) ?_
  refine g_nI (show (yy.tdiv 2 : Int) = yy / 2 by exact Int.tdiv_eq_ediv_of_nonneg (by omega)) ?_
  refine g_istore_n C [(3, .int (iI (yy / 2))), (0, .ref h), (1, .int (iI tt)), (2, .int (iI yy))] dX0_compare_3 rfl hl (by decide) rfl ?_
  clear hl
  intro ls hl
  refine g_aload_n C hl 1 rfl rfl dX0_compare_4 ?_
  refine g_get C hw hin_X0_compare_X0 0 rfl rfl 1 (by decide) lk_X0_compare_9 rfl dX0_compare_5 ?_
  refine g_iload_n C hl 0 rfl rfl dX0_compare_8 ?_
  refine g_iconst C dX0_compare_9 ?_
  refine g_imul C dX0_compare_10 ?_
  refine g_iconst C dX0_compare_11 ?_
  refine g_iadd C dX0_compare_12 ?_
  refine g_iald C hw 1 rfl (by omega) (Nat.le_of_ble_eq_true rfl) dX0_compare_13 ?_
  refine g_callSi C hw (wr := [oX0 h a cn ul rw, cA G (a 1) 12 ex, cA G (a 3) 8 mi, cA G (a 4) 8 si, cA G (a 5) 8 un, cA G (a 6) 8 be]) (As := [.int (iI (ex (((yy / 2) * 3) + 2)))]) (rest := []) (m_J6_signum_0f7a4 l D G (va := (ex (((yy / 2) * 3) + 2))) (by first | assumption | omega)) (va_cwS 1 C.1.2.2.2.2 gX0_compare_J6_signum_0f7a4 rfl rfl rfl (by decide +kernel) ⟨Nat.le_of_ble_eq_true rfl, Nat.le_of_ble_eq_true rfl⟩) [] [0, 1, 2, 3, 4, 5] rfl rfl (by decide) (by decide) (by decide) rfl hl.1 _ rfl (Nat.le_of_ble_eq_true rfl) dX0_compare_14 ⟨Nat.le_of_ble_eq_true rfl, Nat.le_of_ble_eq_true rfl⟩ ?_
  clear hw
  rintro _ _ H locs ⟨rfl, rfl⟩ hw
  have hw : gW D A s.heap [oX0 h a cn ul rw, cA G (a 1) 12 ex, cA G (a 3) 8 mi, cA G (a 4) 8 si, cA G (a 5) 8 un, cA G (a 6) 8 be] H locs := hw
  refine g_nI (show ((sg (ex (((yy / 2) * 3) + 2))) : Int) = sg (E (yy / 2) 2) by rw [x2]) ?_
  refine g_istore C [(4, .int (iI (sg (E (yy / 2) 2)))), (3, .int (iI (yy / 2))), (0, .ref h), (1, .int (iI tt)), (2, .int (iI yy))] dX0_compare_17 hl (by decide) rfl ?_
  clear hl
  intro ls hl
  refine g_aload_n C hl 2 rfl rfl dX0_compare_19 ?_
  refine g_iload_n C hl 1 rfl rfl dX0_compare_20 ?_
  refine g_iconst C dX0_compare_21 ?_
  refine g_iload_n C hl 3 rfl rfl dX0_compare_22 ?_
  refine g_callVi C hw (wr := []) (As := [.int (iI (yy / 2)), .int (iI 0), .int (iI tt)]) (rest := []) (m_X0_signAtRoot l D G (h := h) (a := a) (cn := cn) (ul := ul) (rw := rw) (ex := ex) (mi := mi) (si := si) (un := un) (be := be) (qq := (yy / 2)) (od := 0) (tt := tt) (by first | assumption | omega) (by first | assumption | omega) (by first | assumption | omega) (by first | assumption | omega) (by first | assumption | omega) (by first | assumption | omega) (by exact Or.inr hrt)) (cwV 3 C.1.2.2.2.2 gX0_compare_X0_signAtRoot rfl rfl rfl (by decide +kernel) ⟨Nat.le_of_ble_eq_true rfl, Nat.le_of_ble_eq_true rfl⟩) [0, 1, 2, 3, 4, 5] [] rfl rfl (by decide) (by decide) (by decide) 0 rfl rfl rfl hl.1 _ rfl (Nat.le_of_ble_eq_true rfl) dX0_compare_23 ⟨Nat.le_of_ble_eq_true rfl, Nat.le_of_ble_eq_true rfl⟩ ?_
  clear hw
  rintro _ _ H locs ⟨rfl, rfl⟩ hw
  have hw : gW D A s.heap [oX0 h a cn ul rw, cA G (a 1) 12 ex, cA G (a 3) 8 mi, cA G (a 4) 8 si, cA G (a 5) 8 un, cA G (a 6) 8 be] H locs := hw
  refine g_nI (show ((if 0 = 2 then sg (ex ((yy / 2) * 3 + 2)) else if 0 = 0 then sAt (ex ((yy / 2) * 3)) (ex ((yy / 2) * 3 + 1)) (ex ((yy / 2) * 3 + 2)) (mi tt) (si tt) (un tt) (be tt) else sAt (ex ((yy / 2) * 3 + 1)) (2 * ex ((yy / 2) * 3 + 2)) 0 (mi tt) (si tt) (un tt) (be tt)) : Int) = sAt (E (yy / 2) 0) (E (yy / 2) 1) (E (yy / 2) 2) (qP E tt) (qS E tt) (qD E tt) (qQ E tt) by rw [if_neg (by decide), if_pos rfl, x0, x1, x2, z0, z1, z2, z3]) ?_
  refine g_istore C [(5, .int (iI (sAt (E (yy / 2) 0) (E (yy / 2) 1) (E (yy / 2) 2) (qP E tt) (qS E tt) (qD E tt) (qQ E tt)))), (4, .int (iI (sg (E (yy / 2) 2)))), (3, .int (iI (yy / 2))), (0, .ref h), (1, .int (iI tt)), (2, .int (iI yy))] dX0_compare_26 hl (by decide) rfl ?_
  clear hl
  intro ls hl
  refine g_aload_n C hl 3 rfl rfl dX0_compare_28 ?_
  refine g_iload_n C hl 2 rfl rfl dX0_compare_29 ?_
  refine g_iconst C dX0_compare_30 ?_
  refine g_iload_n C hl 4 rfl rfl dX0_compare_31 ?_
  refine g_callVi C hw (wr := []) (As := [.int (iI (yy / 2)), .int (iI 1), .int (iI tt)]) (rest := []) (m_X0_signAtRoot l D G (h := h) (a := a) (cn := cn) (ul := ul) (rw := rw) (ex := ex) (mi := mi) (si := si) (un := un) (be := be) (qq := (yy / 2)) (od := 1) (tt := tt) (by first | assumption | omega) (by first | assumption | omega) (by first | assumption | omega) (by first | assumption | omega) (by first | assumption | omega) (by first | assumption | omega) (by exact Or.inr hrt)) (cwV 3 C.1.2.2.2.2 gX0_compare_X0_signAtRoot rfl rfl rfl (by decide +kernel) ⟨Nat.le_of_ble_eq_true rfl, Nat.le_of_ble_eq_true rfl⟩) [0, 1, 2, 3, 4, 5] [] rfl rfl (by decide) (by decide) (by decide) 0 rfl rfl rfl hl.1 _ rfl (Nat.le_of_ble_eq_true rfl) dX0_compare_32 ⟨Nat.le_of_ble_eq_true rfl, Nat.le_of_ble_eq_true rfl⟩ ?_
  clear hw
  rintro _ _ H locs ⟨rfl, rfl⟩ hw
  have hw : gW D A s.heap [oX0 h a cn ul rw, cA G (a 1) 12 ex, cA G (a 3) 8 mi, cA G (a 4) 8 si, cA G (a 5) 8 un, cA G (a 6) 8 be] H locs := hw
  refine g_nI (show ((if 1 = 2 then sg (ex ((yy / 2) * 3 + 2)) else if 1 = 0 then sAt (ex ((yy / 2) * 3)) (ex ((yy / 2) * 3 + 1)) (ex ((yy / 2) * 3 + 2)) (mi tt) (si tt) (un tt) (be tt) else sAt (ex ((yy / 2) * 3 + 1)) (2 * ex ((yy / 2) * 3 + 2)) 0 (mi tt) (si tt) (un tt) (be tt)) : Int) = sAt (E (yy / 2) 1) (2 * E (yy / 2) 2) 0 (qP E tt) (qS E tt) (qD E tt) (qQ E tt) by rw [if_neg (by decide), if_neg (by decide), x1, x2, z0, z1, z2, z3]) ?_
  refine g_istore C [(6, .int (iI (sAt (E (yy / 2) 1) (2 * E (yy / 2) 2) 0 (qP E tt) (qS E tt) (qD E tt) (qQ E tt)))), (5, .int (iI (sAt (E (yy / 2) 0) (E (yy / 2) 1) (E (yy / 2) 2) (qP E tt) (qS E tt) (qD E tt) (qQ E tt)))), (4, .int (iI (sg (E (yy / 2) 2)))), (3, .int (iI (yy / 2))), (0, .ref h), (1, .int (iI tt)), (2, .int (iI yy))] dX0_compare_35 hl (by decide) rfl ?_
  clear hl
  intro ls hl
  refine g_iload C hl 2 rfl dX0_compare_37 ?_
  refine g_if_ne C 48 dX0_compare_39 (by decide) (by omega) (fun c_1 => ?_) (fun c_1 => ?_)
  · skip
    refine g_iload C hl 0 rfl dX0_compare_48 ?_
    refine g_iload C hl 2 rfl dX0_compare_50 ?_
    refine g_imul C dX0_compare_52 ?_
    refine g_istore C [(7, .int (iI ((sAt (E (yy / 2) 1) (2 * E (yy / 2) 2) 0 (qP E tt) (qS E tt) (qD E tt) (qQ E tt)) * (sg (E (yy / 2) 2))))), (6, .int (iI (sAt (E (yy / 2) 1) (2 * E (yy / 2) 2) 0 (qP E tt) (qS E tt) (qD E tt) (qQ E tt)))), (5, .int (iI (sAt (E (yy / 2) 0) (E (yy / 2) 1) (E (yy / 2) 2) (qP E tt) (qS E tt) (qD E tt) (qQ E tt)))), (4, .int (iI (sg (E (yy / 2) 2)))), (3, .int (iI (yy / 2))), (0, .ref h), (1, .int (iI tt)), (2, .int (iI yy))] dX0_compare_53 hl (by decide) rfl ?_
    clear hl
    intro ls hl
    refine g_iload C hl 2 rfl dX0_compare_55 ?_
    refine g_iload C hl 3 rfl dX0_compare_57 ?_
    refine g_imul C dX0_compare_59 ?_
    refine g_istore C [(8, .int (iI ((sAt (E (yy / 2) 0) (E (yy / 2) 1) (E (yy / 2) 2) (qP E tt) (qS E tt) (qD E tt) (qQ E tt)) * (sg (E (yy / 2) 2))))), (7, .int (iI ((sAt (E (yy / 2) 1) (2 * E (yy / 2) 2) 0 (qP E tt) (qS E tt) (qD E tt) (qQ E tt)) * (sg (E (yy / 2) 2))))), (6, .int (iI (sAt (E (yy / 2) 1) (2 * E (yy / 2) 2) 0 (qP E tt) (qS E tt) (qD E tt) (qQ E tt)))), (5, .int (iI (sAt (E (yy / 2) 0) (E (yy / 2) 1) (E (yy / 2) 2) (qP E tt) (qS E tt) (qD E tt) (qQ E tt)))), (4, .int (iI (sg (E (yy / 2) 2)))), (3, .int (iI (yy / 2))), (0, .ref h), (1, .int (iI tt)), (2, .int (iI yy))] dX0_compare_60 hl (by decide) rfl ?_
    clear hl
    intro ls hl
    refine g_aload_n C hl 6 rfl rfl dX0_compare_62 ?_
    refine g_get C hw hin_X0_compare_X0 0 rfl rfl 4 (by decide) lk_X0_compare_21 rfl dX0_compare_63 ?_
    refine g_iload_n C hl 8 rfl rfl dX0_compare_66 ?_
    refine g_iald C hw 3 rfl (by omega) (Nat.le_of_ble_eq_true rfl) dX0_compare_67 ?_
    refine g_if_ne C 74 dX0_compare_68 (by decide) (by omega) (fun c_2 => ?_) (fun c_2 => ?_)
    · skip
      refine g_aload_n C hl 6 rfl rfl dX0_compare_74 ?_
      refine g_get C hw hin_X0_compare_X0 0 rfl rfl 4 (by decide) lk_X0_compare_21 rfl dX0_compare_75 ?_
      refine g_iload_n C hl 8 rfl rfl dX0_compare_78 ?_
      refine g_iald C hw 3 rfl (by omega) (Nat.le_of_ble_eq_true rfl) dX0_compare_79 ?_
      refine g_if_ge C 96 dX0_compare_80 (by decide) (by omega) (fun c_3 => ?_) (fun c_3 => ?_)
      · skip
        refine g_iload C hl 1 rfl dX0_compare_96 ?_
        refine g_if_le C 106 dX0_compare_98 (by decide) (by omega) (fun c_4 => ?_) (fun c_4 => ?_)
        · skip
          refine g_iconst C dX0_compare_106 ?_
          exact g_iret C hr (ws' := [oX0 h a cn ul rw, cA G (a 1) 12 ex, cA G (a 3) 8 mi, cA G (a 4) 8 si, cA G (a 5) 8 un, cA G (a 6) 8 be]) hw [0, 1, 2, 3, 4, 5] (by decide) rfl ⟨(congrArg iI (by rw [← hcq]; unfold cmC; (repeat' split) <;> omega)), rfl⟩ dX0_compare_107
        · skip
          refine g_iload C hl 0 rfl dX0_compare_101 ?_
          refine g_goto C 107 dX0_compare_103 (by decide) ?_
          exact g_iret C hr (ws' := [oX0 h a cn ul rw, cA G (a 1) 12 ex, cA G (a 3) 8 mi, cA G (a 4) 8 si, cA G (a 5) 8 un, cA G (a 6) 8 be]) hw [0, 1, 2, 3, 4, 5] (by decide) rfl ⟨(congrArg iI (by rw [← hcq]; unfold cmC; (repeat' split) <;> omega)), rfl⟩ dX0_compare_107
      · skip
        refine g_iload C hl 1 rfl dX0_compare_83 ?_
        refine g_if_ge C 94 dX0_compare_85 (by decide) (by omega) (fun c_5 => ?_) (fun c_5 => ?_)
        · skip
          refine g_iconst C dX0_compare_94 ?_
          exact g_iret C hr (ws' := [oX0 h a cn ul rw, cA G (a 1) 12 ex, cA G (a 3) 8 mi, cA G (a 4) 8 si, cA G (a 5) 8 un, cA G (a 6) 8 be]) hw [0, 1, 2, 3, 4, 5] (by decide) rfl ⟨(congrArg iI (by rw [← hcq]; unfold cmC; (repeat' split) <;> omega)), rfl⟩ dX0_compare_95
        · skip
          refine g_iload C hl 0 rfl dX0_compare_88 ?_
          refine g_ineg C dX0_compare_90 ?_
          refine g_goto C 95 dX0_compare_91 (by decide) ?_
          exact g_iret C hr (ws' := [oX0 h a cn ul rw, cA G (a 1) 12 ex, cA G (a 3) 8 mi, cA G (a 4) 8 si, cA G (a 5) 8 un, cA G (a 6) 8 be]) hw [0, 1, 2, 3, 4, 5] (by decide) rfl ⟨(congrArg iI (by rw [← hcq]; unfold cmC; (repeat' split) <;> omega)), rfl⟩ dX0_compare_95
    · skip
      refine g_iload C hl 1 rfl dX0_compare_71 ?_
      exact g_iret C hr (ws' := [oX0 h a cn ul rw, cA G (a 1) 12 ex, cA G (a 3) 8 mi, cA G (a 4) 8 si, cA G (a 5) 8 un, cA G (a 6) 8 be]) hw [0, 1, 2, 3, 4, 5] (by decide) rfl ⟨(congrArg iI (by rw [← hcq]; unfold cmC; (repeat' split) <;> omega)), rfl⟩ dX0_compare_73
  · skip
    refine g_iload C hl 1 rfl dX0_compare_42 ?_
    refine g_iload C hl 0 rfl dX0_compare_44 ?_
    refine g_imul C dX0_compare_46 ?_
    exact g_iret C hr (ws' := [oX0 h a cn ul rw, cA G (a 1) 12 ex, cA G (a 3) 8 mi, cA G (a 4) 8 si, cA G (a 5) 8 un, cA G (a 6) 8 be]) hw [0, 1, 2, 3, 4, 5] (by decide) rfl ⟨(congrArg iI (by rw [← hcq]; unfold cmC; (repeat' split) <;> omega)), rfl⟩ dX0_compare_47

set_option maxRecDepth 20000 in
theorem hin_X0_keepRoot_X0 : ∀ w ∈ u_ws RX0 TX0 14, w ∈ wsX0_keepRoot := by
  intro w h
  exact List.mem_cons_of_mem _ (List.mem_append_right _ (h))
set_option maxRecDepth 20000 in
theorem lk_X0_keepRoot_15 : Cond.fieldLink RX0 15 (TX0 2).1 (TX0 2).2.1 (TX0 2).2.2.1 ∈ wsX0_keepRoot := List.mem_cons_of_mem _ (List.mem_append_left _ (List.mem_of_getElem? (i := 0) rfl))
set_option maxRecDepth 20000 in
theorem lk_X0_keepRoot_18 : Cond.fieldLink RX0 18 (TX0 3).1 (TX0 3).2.1 (TX0 3).2.2.1 ∈ wsX0_keepRoot := List.mem_cons_of_mem _ (List.mem_append_left _ (List.mem_of_getElem? (i := 1) rfl))
set_option maxRecDepth 20000 in
theorem lk_X0_keepRoot_21 : Cond.fieldLink RX0 21 (TX0 4).1 (TX0 4).2.1 (TX0 4).2.2.1 ∈ wsX0_keepRoot := List.mem_cons_of_mem _ (List.mem_append_left _ (List.mem_of_getElem? (i := 2) rfl))
set_option maxRecDepth 20000 in
theorem lk_X0_keepRoot_24 : Cond.fieldLink RX0 24 (TX0 5).1 (TX0 5).2.1 (TX0 5).2.2.1 ∈ wsX0_keepRoot := List.mem_cons_of_mem _ (List.mem_append_left _ (List.mem_of_getElem? (i := 3) rfl))
set_option maxRecDepth 20000 in
theorem lk_X0_keepRoot_27 : Cond.fieldLink RX0 27 (TX0 6).1 (TX0 6).2.1 (TX0 6).2.2.1 ∈ wsX0_keepRoot := List.mem_cons_of_mem _ (List.mem_append_left _ (List.mem_of_getElem? (i := 4) rfl))
set_option maxRecDepth 100000 in
set_option maxHeartbeats 8000000 in
theorem m_X0_keepRoot (l : Launch) (D : va_G) (G : gT) (h : Nat) (a : Nat → Nat) (cn : Int) (ul : Int) (rw : Int) (rt : Int → Int) (mi : Int → Int) (si : Int → Int) (un : Int → Int) (be : Int → Int) (r0 : Int) (pp : Int) (mm : Int) (ss : Int) (dd : Int) (ee : Int) (hp : 0 ≤ pp ∧ pp < 4) (hr0 : rt pp = r0) (hr1 : 0 ≤ r0 ∧ r0 ≤ 1) : gMv l yX0_keepRoot wsX0_keepRoot ({ frames := 0, cells := 0, slots := 0, locals := 0 }) D G [.ref h, .int (iI pp), .int (iI mm), .int (iI ss), .int (iI dd), .int (iI ee)] [oX0 h a cn ul rw, cA G (a 2) 4 rt, cA G (a 3) 8 mi, cA G (a 4) 8 si, cA G (a 5) 8 un, cA G (a 6) 8 be] 0 0 (fun (w : va_W) => w = [oX0 h a cn ul rw, cA G (a 2) 4 (up rt pp (r0 + 1)), cA G (a 3) 8 (up mi (pp * 2 + r0) mm), cA G (a 4) 8 (up si (pp * 2 + r0) ss), cA G (a 5) 8 (up un (pp * 2 + r0) dd), cA G (a 6) 8 (up be (pp * 2 + r0) ee)]) := by
  refine g_start_v (cc := cX0_keepRoot) (nL := 7) (own := RX0) (ret := none) (by decide +kernel) rfl rfl (Nat.le_of_ble_eq_true rfl) ?_
  intro p e s m below meth c A ls C hr hnm hw hl
  have hl : lv_has ls 7 [(0, .ref h), (1, .int (iI pp)), (2, .int (iI mm)), (3, .int (iI ss)), (4, .int (iI dd)), (5, .int (iI ee))] := hl
  refine g_iload_n C hl 1 rfl rfl dX0_keepRoot_0 ?_
  refine g_iconst C dX0_keepRoot_1 ?_
  refine g_imul C dX0_keepRoot_2 ?_
  refine g_aload_n C hl 0 rfl rfl dX0_keepRoot_3 ?_
  refine g_get C hw hin_X0_keepRoot_X0 0 rfl rfl 2 (by decide) lk_X0_keepRoot_15 rfl dX0_keepRoot_4 ?_
  refine g_iload_n C hl 1 rfl rfl dX0_keepRoot_7 ?_
  refine g_iald C hw 1 rfl (by omega) (Nat.le_of_ble_eq_true rfl) dX0_keepRoot_8 ?_
  refine g_iadd C dX0_keepRoot_9 ?_
  refine g_nI (show ((pp * 2) + (rt pp) : Int) = pp * 2 + r0 by omega) ?_
  refine g_istore C [(6, .int (iI (pp * 2 + r0))), (0, .ref h), (1, .int (iI pp)), (2, .int (iI mm)), (3, .int (iI ss)), (4, .int (iI dd)), (5, .int (iI ee))] dX0_keepRoot_10 hl (by decide) rfl ?_
  clear hl
  intro ls hl
  refine g_aload_n C hl 1 rfl rfl dX0_keepRoot_12 ?_
  refine g_get C hw hin_X0_keepRoot_X0 0 rfl rfl 3 (by decide) lk_X0_keepRoot_18 rfl dX0_keepRoot_13 ?_
  refine g_iload C hl 0 rfl dX0_keepRoot_16 ?_
  refine g_iload_n C hl 3 rfl rfl dX0_keepRoot_18 ?_
  refine g_iast C hw [oX0 h a cn ul rw, cA G (a 2) 4 rt, cA G (a 3) 8 (up mi (pp * 2 + r0) mm), cA G (a 4) 8 si, cA G (a 5) 8 un, cA G (a 6) 8 be] 2 rfl (by omega) (Nat.le_of_ble_eq_true rfl) rfl dX0_keepRoot_19 ?_
  clear hw
  intro H locs hw
  refine g_aload_n C hl 1 rfl rfl dX0_keepRoot_20 ?_
  refine g_get C hw hin_X0_keepRoot_X0 0 rfl rfl 4 (by decide) lk_X0_keepRoot_21 rfl dX0_keepRoot_21 ?_
  refine g_iload C hl 0 rfl dX0_keepRoot_24 ?_
  refine g_iload_n C hl 4 rfl rfl dX0_keepRoot_26 ?_
  refine g_iast C hw [oX0 h a cn ul rw, cA G (a 2) 4 rt, cA G (a 3) 8 (up mi (pp * 2 + r0) mm), cA G (a 4) 8 (up si (pp * 2 + r0) ss), cA G (a 5) 8 un, cA G (a 6) 8 be] 3 rfl (by omega) (Nat.le_of_ble_eq_true rfl) rfl dX0_keepRoot_27 ?_
  clear hw
  intro H locs hw
  refine g_aload_n C hl 1 rfl rfl dX0_keepRoot_28 ?_
  refine g_get C hw hin_X0_keepRoot_X0 0 rfl rfl 5 (by decide) lk_X0_keepRoot_24 rfl dX0_keepRoot_29 ?_
  refine g_iload C hl 0 rfl dX0_keepRoot_32 ?_
  refine g_iload C hl 5 rfl dX0_keepRoot_34 ?_
  refine g_iast C hw [oX0 h a cn ul rw, cA G (a 2) 4 rt, cA G (a 3) 8 (up mi (pp * 2 + r0) mm), cA G (a 4) 8 (up si (pp * 2 + r0) ss), cA G (a 5) 8 (up un (pp * 2 + r0) dd), cA G (a 6) 8 be] 4 rfl (by omega) (Nat.le_of_ble_eq_true rfl) rfl dX0_keepRoot_36 ?_
  clear hw
  intro H locs hw
  refine g_aload_n C hl 1 rfl rfl dX0_keepRoot_37 ?_
  refine g_get C hw hin_X0_keepRoot_X0 0 rfl rfl 6 (by decide) lk_X0_keepRoot_27 rfl dX0_keepRoot_38 ?_
  refine g_iload C hl 0 rfl dX0_keepRoot_41 ?_
  refine g_iload C hl 6 rfl dX0_keepRoot_43 ?_
  refine g_iast C hw [oX0 h a cn ul rw, cA G (a 2) 4 rt, cA G (a 3) 8 (up mi (pp * 2 + r0) mm), cA G (a 4) 8 (up si (pp * 2 + r0) ss), cA G (a 5) 8 (up un (pp * 2 + r0) dd), cA G (a 6) 8 (up be (pp * 2 + r0) ee)] 5 rfl (by omega) (Nat.le_of_ble_eq_true rfl) rfl dX0_keepRoot_45 ?_
  clear hw
  intro H locs hw
  refine g_aload_n C hl 1 rfl rfl dX0_keepRoot_46 ?_
  refine g_get C hw hin_X0_keepRoot_X0 0 rfl rfl 2 (by decide) lk_X0_keepRoot_15 rfl dX0_keepRoot_47 ?_
  refine g_iload_n C hl 2 rfl rfl dX0_keepRoot_50 ?_
  refine g_dup2 C dX0_keepRoot_51 rfl rfl ?_
  refine g_iald C hw 1 rfl (by omega) (Nat.le_of_ble_eq_true rfl) dX0_keepRoot_52 ?_
  refine g_nI (show (rt pp : Int) = r0 by exact hr0) ?_
  refine g_iconst C dX0_keepRoot_53 ?_
  refine g_iadd C dX0_keepRoot_54 ?_
  refine g_iast C hw [oX0 h a cn ul rw, cA G (a 2) 4 (up rt pp (r0 + 1)), cA G (a 3) 8 (up mi (pp * 2 + r0) mm), cA G (a 4) 8 (up si (pp * 2 + r0) ss), cA G (a 5) 8 (up un (pp * 2 + r0) dd), cA G (a 6) 8 (up be (pp * 2 + r0) ee)] 1 rfl (by omega) (Nat.le_of_ble_eq_true rfl) rfl dX0_keepRoot_55 ?_
  clear hw
  intro H locs hw
  exact g_vret C hr (ws' := [oX0 h a cn ul rw, cA G (a 2) 4 (up rt pp (r0 + 1)), cA G (a 3) 8 (up mi (pp * 2 + r0) mm), cA G (a 4) 8 (up si (pp * 2 + r0) ss), cA G (a 5) 8 (up un (pp * 2 + r0) dd), cA G (a 6) 8 (up be (pp * 2 + r0) ee)]) hw [0, 1, 2, 3, 4, 5] (by decide) rfl rfl dX0_keepRoot_56

set_option maxRecDepth 20000 in
theorem hin_X0_findRoots_X0 : ∀ w ∈ u_ws RX0 TX0 14, w ∈ wsX0_findRoots := by
  intro w h
  exact List.mem_cons_of_mem _ (List.mem_append_right _ (h))
set_option maxRecDepth 20000 in
theorem lk_X0_findRoots_9 : Cond.fieldLink RX0 9 (TX0 1).1 (TX0 1).2.1 (TX0 1).2.2.1 ∈ wsX0_findRoots := List.mem_cons_of_mem _ (List.mem_append_left _ (List.mem_of_getElem? (i := 0) rfl))
set_option maxRecDepth 20000 in
theorem lk_X0_findRoots_15 : Cond.fieldLink RX0 15 (TX0 2).1 (TX0 2).2.1 (TX0 2).2.2.1 ∈ wsX0_findRoots := List.mem_cons_of_mem _ (List.mem_append_left _ (List.mem_of_getElem? (i := 1) rfl))
set_option maxRecDepth 100000 in
set_option maxHeartbeats 8000000 in
theorem m_X0_findRoots (l : Launch) (D : va_G) (G : gT) (h : Nat) (a : Nat → Nat) (cn : Int) (ul : Int) (rw : Int) (ex : Int → Int) (rt : Int → Int) (mi : Int → Int) (si : Int → Int) (un : Int → Int) (be : Int → Int) (E : Int → Int → Int) (pp : Int) (hE : EB E) (hp : 0 ≤ pp ∧ pp < 4) (hx : ex (pp * 3) = E pp 0 ∧ ex (pp * 3 + 1) = E pp 1 ∧ ex (pp * 3 + 2) = E pp 2) : gMv l yX0_findRoots wsX0_findRoots ({ frames := 1, cells := 0, slots := 0, locals := 26 }) D G [.ref h, .int (iI pp)] [oX0 h a cn ul rw, cA G (a 1) 12 ex, cA G (a 2) 4 rt, cA G (a 3) 8 mi, cA G (a 4) 8 si, cA G (a 5) 8 un, cA G (a 6) 8 be] 0 0 (fun (w : va_W) => ∃ (rt2 : Int → Int) (mi2 : Int → Int) (si2 : Int → Int) (un2 : Int → Int) (be2 : Int → Int), w = [oX0 h a cn ul rw, cA G (a 1) 12 ex, cA G (a 2) 4 rt2, cA G (a 3) 8 mi2, cA G (a 4) 8 si2, cA G (a 5) 8 un2, cA G (a 6) 8 be2] ∧ (fRp E pp rt mi si un be rt2 mi2 si2 un2 be2)) := by
  refine g_start_v (cc := cX0_findRoots) (nL := 6) (own := RX0) (ret := none) (by decide +kernel) rfl rfl (Nat.le_of_ble_eq_true rfl) ?_
  intro p e s m below meth c A ls C hr hnm hw hl
  have hl : lv_has ls 6 [(0, .ref h), (1, .int (iI pp))] := hl
  obtain ⟨x0, x1, x2⟩ := hx
  obtain ⟨e0, e1, e2⟩ := hE pp
  have hd := dsc_b hE pp
  refine g_aload_n C hl 0 rfl rfl dX0_findRoots_0 ?_
  refine g_get C hw hin_X0_findRoots_X0 0 rfl rfl 1 (by decide) lk_X0_findRoots_9 rfl dX0_findRoots_1 ?_
  refine g_iload_n C hl 1 rfl rfl dX0_findRoots_4 ?_
  refine g_iconst C dX0_findRoots_5 ?_
  refine g_imul C dX0_findRoots_6 ?_
  refine g_iald C hw 1 rfl (by omega) (Nat.le_of_ble_eq_true rfl) dX0_findRoots_7 ?_
  refine g_istore_n C [(2, .int (iI (ex (pp * 3)))), (0, .ref h), (1, .int (iI pp))] dX0_findRoots_8 rfl hl (by decide) rfl ?_
  clear hl
  intro ls hl
  refine g_aload_n C hl 1 rfl rfl dX0_findRoots_9 ?_
  refine g_get C hw hin_X0_findRoots_X0 0 rfl rfl 1 (by decide) lk_X0_findRoots_9 rfl dX0_findRoots_10 ?_
  refine g_iload_n C hl 2 rfl rfl dX0_findRoots_13 ?_
  refine g_iconst C dX0_findRoots_14 ?_
  refine g_imul C dX0_findRoots_15 ?_
  refine g_iconst C dX0_findRoots_16 ?_
  refine g_iadd C dX0_findRoots_17 ?_
  refine g_iald C hw 1 rfl (by omega) (Nat.le_of_ble_eq_true rfl) dX0_findRoots_18 ?_
  refine g_istore_n C [(3, .int (iI (ex ((pp * 3) + 1)))), (2, .int (iI (ex (pp * 3)))), (0, .ref h), (1, .int (iI pp))] dX0_findRoots_19 rfl hl (by decide) rfl ?_
  clear hl
  intro ls hl
  refine g_aload_n C hl 2 rfl rfl dX0_findRoots_20 ?_
  refine g_get C hw hin_X0_findRoots_X0 0 rfl rfl 1 (by decide) lk_X0_findRoots_9 rfl dX0_findRoots_21 ?_
  refine g_iload_n C hl 3 rfl rfl dX0_findRoots_24 ?_
  refine g_iconst C dX0_findRoots_25 ?_
  refine g_imul C dX0_findRoots_26 ?_
  refine g_iconst C dX0_findRoots_27 ?_
  refine g_iadd C dX0_findRoots_28 ?_
  refine g_iald C hw 1 rfl (by omega) (Nat.le_of_ble_eq_true rfl) dX0_findRoots_29 ?_
  refine g_istore C [(4, .int (iI (ex ((pp * 3) + 2)))), (3, .int (iI (ex ((pp * 3) + 1)))), (2, .int (iI (ex (pp * 3)))), (0, .ref h), (1, .int (iI pp))] dX0_findRoots_30 hl (by decide) rfl ?_
  clear hl
  intro ls hl
  refine g_aload_n C hl 3 rfl rfl dX0_findRoots_32 ?_
  refine g_get C hw hin_X0_findRoots_X0 0 rfl rfl 2 (by decide) lk_X0_findRoots_15 rfl dX0_findRoots_33 ?_
  refine g_iload_n C hl 4 rfl rfl dX0_findRoots_36 ?_
  refine g_iconst C dX0_findRoots_37 ?_
  refine g_iast C hw [oX0 h a cn ul rw, cA G (a 1) 12 ex, cA G (a 2) 4 (up rt pp 0), cA G (a 3) 8 mi, cA G (a 4) 8 si, cA G (a 5) 8 un, cA G (a 6) 8 be] 2 rfl (by omega) (Nat.le_of_ble_eq_true rfl) rfl dX0_findRoots_38 ?_
  clear hw
  intro H locs hw
  refine g_iload C hl 0 rfl dX0_findRoots_39 ?_
  refine g_if_lt C 53 dX0_findRoots_41 (by decide) (by omega) (fun c_1 => ?_) (fun c_1 => ?_)
  · skip
    refine g_iload_n C hl 2 rfl rfl dX0_findRoots_53 ?_
    refine g_ineg C dX0_findRoots_54 ?_
    refine g_istore_n C [(2, .int (iI (-(ex (pp * 3))))), (4, .int (iI (ex ((pp * 3) + 2)))), (3, .int (iI (ex ((pp * 3) + 1)))), (0, .ref h), (1, .int (iI pp))] dX0_findRoots_55 rfl hl (by decide) rfl ?_
    clear hl
    intro ls hl
    refine g_iload_n C hl 2 rfl rfl dX0_findRoots_56 ?_
    refine g_ineg C dX0_findRoots_57 ?_
    refine g_istore_n C [(3, .int (iI (-(ex ((pp * 3) + 1))))), (2, .int (iI (-(ex (pp * 3))))), (4, .int (iI (ex ((pp * 3) + 2)))), (0, .ref h), (1, .int (iI pp))] dX0_findRoots_58 rfl hl (by decide) rfl ?_
    clear hl
    intro ls hl
    refine g_iload C hl 2 rfl dX0_findRoots_59 ?_
    refine g_ineg C dX0_findRoots_61 ?_
    refine g_istore C [(4, .int (iI (-(ex ((pp * 3) + 2))))), (3, .int (iI (-(ex ((pp * 3) + 1))))), (2, .int (iI (-(ex (pp * 3))))), (0, .ref h), (1, .int (iI pp))] dX0_findRoots_62 hl (by decide) rfl ?_
    clear hl
    intro ls hl
    refine g_iload C hl 0 rfl dX0_findRoots_64 ?_
    refine g_if_ne C 84 dX0_findRoots_66 (by decide) (by omega) (fun c_2 => ?_) (fun c_2 => ?_)
    · skip
      refine g_iload_n C hl 1 rfl rfl dX0_findRoots_84 ?_
      refine g_iload_n C hl 1 rfl rfl dX0_findRoots_85 ?_
      refine g_imul C dX0_findRoots_86 ?_
      refine g_iconst C dX0_findRoots_87 ?_
      refine g_iload_n C hl 2 rfl rfl dX0_findRoots_88 ?_
      refine g_imul C dX0_findRoots_89 ?_
      refine g_iload C hl 0 rfl dX0_findRoots_90 ?_
      refine g_imul C dX0_findRoots_92 ?_
      refine g_isub C dX0_findRoots_93 ?_
      refine g_nI (show (((-(ex ((pp * 3) + 1))) * (-(ex ((pp * 3) + 1)))) - ((4 * (-(ex (pp * 3)))) * (-(ex ((pp * 3) + 2)))) : Int) = dsc E pp by unfold dsc; rw [x0, x1, x2]; grind) ?_
      refine g_istore C [(5, .int (iI (dsc E pp))), (4, .int (iI (-(ex ((pp * 3) + 2))))), (3, .int (iI (-(ex ((pp * 3) + 1))))), (2, .int (iI (-(ex (pp * 3))))), (0, .ref h), (1, .int (iI pp))] dX0_findRoots_94 hl (by decide) rfl ?_
      clear hl
      intro ls hl
      refine g_iload C hl 0 rfl dX0_findRoots_96 ?_
      refine g_if_ne C 114 dX0_findRoots_98 (by decide) (by omega) (fun c_3 => ?_) (fun c_3 => ?_)
      · skip
        refine g_iload C hl 0 rfl dX0_findRoots_114 ?_
        refine g_if_le C 147 dX0_findRoots_116 (by decide) (by omega) (fun c_4 => ?_) (fun c_4 => ?_)
        · skip
          exact g_vret C hr (ws' := [oX0 h a cn ul rw, cA G (a 1) 12 ex, cA G (a 2) 4 (up rt pp 0), cA G (a 3) 8 mi, cA G (a 4) 8 si, cA G (a 5) 8 un, cA G (a 6) 8 be]) hw [0, 1, 2, 3, 4, 5, 6] (by decide) rfl ⟨(up rt pp 0), mi, si, un, be, rfl, (by first | (exfalso; omega) | exact fR_0 (by unfold nR; (repeat' split) <;> omega) | exact fR_1 (by unfold nR; (repeat' split) <;> omega) (by unfold zP; (repeat' split) <;> omega) (by unfold zS; (repeat' split) <;> omega) (by unfold zD; (repeat' split) <;> omega) (by unfold zQ; (repeat' split) <;> omega) | exact fR_2 (by unfold nR; (repeat' split) <;> omega) (by unfold zP; (repeat' split) <;> omega) (by unfold zS; (repeat' split) <;> omega) (by unfold zS; (repeat' split) <;> omega) (by unfold zD; (repeat' split) <;> omega) (by unfold zQ; (repeat' split) <;> omega))⟩ dX0_findRoots_147
        · skip
          refine g_aload_n C hl 4 rfl rfl dX0_findRoots_119 ?_
          refine g_iload_n C hl 5 rfl rfl dX0_findRoots_120 ?_
          refine g_iload_n C hl 2 rfl rfl dX0_findRoots_121 ?_
          refine g_ineg C dX0_findRoots_122 ?_
          refine g_iconst C dX0_findRoots_123 ?_
          refine g_iload C hl 0 rfl dX0_findRoots_124 ?_
          refine g_iconst C dX0_findRoots_126 ?_
          refine g_iload C hl 1 rfl dX0_findRoots_127 ?_
          refine g_imul C dX0_findRoots_129 ?_
          refine g_callVv C hw (wr := [cA G (a 1) 12 ex]) (As := [.int (iI pp), .int (iI (-(-(ex ((pp * 3) + 1))))), .int (iI ((-1))), .int (iI (dsc E pp)), .int (iI (2 * (-(ex ((pp * 3) + 2)))))]) (rest := []) (m_X0_keepRoot l D G (h := h) (a := a) (cn := cn) (ul := ul) (rw := rw) (rt := (up rt pp 0)) (mi := mi) (si := si) (un := un) (be := be) (r0 := 0) (pp := pp) (mm := (-(-(ex ((pp * 3) + 1))))) (ss := (-1)) (dd := (dsc E pp)) (ee := (2 * (-(ex ((pp * 3) + 2))))) (by first | assumption | omega) (by first | exact up_s | (exfalso; omega)) (by first | assumption | omega)) (cwV 5 C.1.2.2.2.2 gX0_findRoots_X0_keepRoot rfl rfl rfl (by decide +kernel) ⟨Nat.le_of_ble_eq_true rfl, Nat.le_of_ble_eq_true rfl⟩) [0, 2, 3, 4, 5, 6] [1] rfl rfl (by decide) (by decide) (by decide) 0 rfl rfl rfl hl.1 _ rfl (Nat.le_of_ble_eq_true rfl) dX0_findRoots_130 ⟨Nat.le_of_ble_eq_true rfl, Nat.le_of_ble_eq_true rfl⟩ ?_
          clear hw
          rintro _ H locs rfl hw
          have hw : gW D A s.heap [cA G (a 1) 12 ex, oX0 h a cn ul rw, cA G (a 2) 4 (up (up rt pp 0) pp (0 + 1)), cA G (a 3) 8 (up mi (pp * 2 + 0) (-(-(ex ((pp * 3) + 1))))), cA G (a 4) 8 (up si (pp * 2 + 0) (-1)), cA G (a 5) 8 (up un (pp * 2 + 0) (dsc E pp)), cA G (a 6) 8 (up be (pp * 2 + 0) (2 * (-(ex ((pp * 3) + 2)))))] H locs := hw
          refine g_aload_n C hl 4 rfl rfl dX0_findRoots_133 ?_
          refine g_iload_n C hl 5 rfl rfl dX0_findRoots_134 ?_
          refine g_iload_n C hl 2 rfl rfl dX0_findRoots_135 ?_
          refine g_ineg C dX0_findRoots_136 ?_
          refine g_iconst C dX0_findRoots_137 ?_
          refine g_iload C hl 0 rfl dX0_findRoots_138 ?_
          refine g_iconst C dX0_findRoots_140 ?_
          refine g_iload C hl 1 rfl dX0_findRoots_141 ?_
          refine g_imul C dX0_findRoots_143 ?_
          refine g_callVv C hw (wr := [cA G (a 1) 12 ex]) (As := [.int (iI pp), .int (iI (-(-(ex ((pp * 3) + 1))))), .int (iI 1), .int (iI (dsc E pp)), .int (iI (2 * (-(ex ((pp * 3) + 2)))))]) (rest := []) (m_X0_keepRoot l D G (h := h) (a := a) (cn := cn) (ul := ul) (rw := rw) (rt := (up (up rt pp 0) pp (0 + 1))) (mi := (up mi (pp * 2 + 0) (-(-(ex ((pp * 3) + 1)))))) (si := (up si (pp * 2 + 0) (-1))) (un := (up un (pp * 2 + 0) (dsc E pp))) (be := (up be (pp * 2 + 0) (2 * (-(ex ((pp * 3) + 2)))))) (r0 := 1) (pp := pp) (mm := (-(-(ex ((pp * 3) + 1))))) (ss := 1) (dd := (dsc E pp)) (ee := (2 * (-(ex ((pp * 3) + 2))))) (by first | assumption | omega) (by first | exact up_s | (exfalso; omega)) (by first | assumption | omega)) (cwV 5 C.1.2.2.2.2 gX0_findRoots_X0_keepRoot rfl rfl rfl (by decide +kernel) ⟨Nat.le_of_ble_eq_true rfl, Nat.le_of_ble_eq_true rfl⟩) [1, 2, 3, 4, 5, 6] [0] rfl rfl (by decide) (by decide) (by decide) 0 rfl rfl rfl hl.1 _ rfl (Nat.le_of_ble_eq_true rfl) dX0_findRoots_144 ⟨Nat.le_of_ble_eq_true rfl, Nat.le_of_ble_eq_true rfl⟩ ?_
          clear hw
          rintro _ H locs rfl hw
          have hw : gW D A s.heap [cA G (a 1) 12 ex, oX0 h a cn ul rw, cA G (a 2) 4 (up (up (up rt pp 0) pp (0 + 1)) pp (1 + 1)), cA G (a 3) 8 (up (up mi (pp * 2 + 0) (-(-(ex ((pp * 3) + 1))))) (pp * 2 + 1) (-(-(ex ((pp * 3) + 1))))), cA G (a 4) 8 (up (up si (pp * 2 + 0) (-1)) (pp * 2 + 1) 1), cA G (a 5) 8 (up (up un (pp * 2 + 0) (dsc E pp)) (pp * 2 + 1) (dsc E pp)), cA G (a 6) 8 (up (up be (pp * 2 + 0) (2 * (-(ex ((pp * 3) + 2))))) (pp * 2 + 1) (2 * (-(ex ((pp * 3) + 2)))))] H locs := hw
          exact g_vret C hr (ws' := [oX0 h a cn ul rw, cA G (a 1) 12 ex, cA G (a 2) 4 (up (up (up rt pp 0) pp (0 + 1)) pp (1 + 1)), cA G (a 3) 8 (up (up mi (pp * 2 + 0) (-(-(ex ((pp * 3) + 1))))) (pp * 2 + 1) (-(-(ex ((pp * 3) + 1))))), cA G (a 4) 8 (up (up si (pp * 2 + 0) (-1)) (pp * 2 + 1) 1), cA G (a 5) 8 (up (up un (pp * 2 + 0) (dsc E pp)) (pp * 2 + 1) (dsc E pp)), cA G (a 6) 8 (up (up be (pp * 2 + 0) (2 * (-(ex ((pp * 3) + 2))))) (pp * 2 + 1) (2 * (-(ex ((pp * 3) + 2)))))]) hw [1, 0, 2, 3, 4, 5, 6] (by decide) rfl ⟨(up (up (up rt pp 0) pp (0 + 1)) pp (1 + 1)), (up (up mi (pp * 2 + 0) (-(-(ex ((pp * 3) + 1))))) (pp * 2 + 1) (-(-(ex ((pp * 3) + 1))))), (up (up si (pp * 2 + 0) (-1)) (pp * 2 + 1) 1), (up (up un (pp * 2 + 0) (dsc E pp)) (pp * 2 + 1) (dsc E pp)), (up (up be (pp * 2 + 0) (2 * (-(ex ((pp * 3) + 2))))) (pp * 2 + 1) (2 * (-(ex ((pp * 3) + 2))))), rfl, (by first | (exfalso; omega) | exact fR_0 (by unfold nR; (repeat' split) <;> omega) | exact fR_1 (by unfold nR; (repeat' split) <;> omega) (by unfold zP; (repeat' split) <;> omega) (by unfold zS; (repeat' split) <;> omega) (by unfold zD; (repeat' split) <;> omega) (by unfold zQ; (repeat' split) <;> omega) | exact fR_2 (by unfold nR; (repeat' split) <;> omega) (by unfold zP; (repeat' split) <;> omega) (by unfold zS; (repeat' split) <;> omega) (by unfold zS; (repeat' split) <;> omega) (by unfold zD; (repeat' split) <;> omega) (by unfold zQ; (repeat' split) <;> omega))⟩ dX0_findRoots_147
      · skip
        refine g_aload_n C hl 4 rfl rfl dX0_findRoots_101 ?_
        refine g_iload_n C hl 5 rfl rfl dX0_findRoots_102 ?_
        refine g_iload_n C hl 2 rfl rfl dX0_findRoots_103 ?_
        refine g_ineg C dX0_findRoots_104 ?_
        refine g_iconst C dX0_findRoots_105 ?_
        refine g_iconst C dX0_findRoots_106 ?_
        refine g_iconst C dX0_findRoots_107 ?_
        refine g_iload C hl 1 rfl dX0_findRoots_108 ?_
        refine g_imul C dX0_findRoots_110 ?_
        refine g_callVv C hw (wr := [cA G (a 1) 12 ex]) (As := [.int (iI pp), .int (iI (-(-(ex ((pp * 3) + 1))))), .int (iI 0), .int (iI 0), .int (iI (2 * (-(ex ((pp * 3) + 2)))))]) (rest := []) (m_X0_keepRoot l D G (h := h) (a := a) (cn := cn) (ul := ul) (rw := rw) (rt := (up rt pp 0)) (mi := mi) (si := si) (un := un) (be := be) (r0 := 0) (pp := pp) (mm := (-(-(ex ((pp * 3) + 1))))) (ss := 0) (dd := 0) (ee := (2 * (-(ex ((pp * 3) + 2))))) (by first | assumption | omega) (by first | exact up_s | (exfalso; omega)) (by first | assumption | omega)) (cwV 5 C.1.2.2.2.2 gX0_findRoots_X0_keepRoot rfl rfl rfl (by decide +kernel) ⟨Nat.le_of_ble_eq_true rfl, Nat.le_of_ble_eq_true rfl⟩) [0, 2, 3, 4, 5, 6] [1] rfl rfl (by decide) (by decide) (by decide) 0 rfl rfl rfl hl.1 _ rfl (Nat.le_of_ble_eq_true rfl) dX0_findRoots_111 ⟨Nat.le_of_ble_eq_true rfl, Nat.le_of_ble_eq_true rfl⟩ ?_
        clear hw
        rintro _ H locs rfl hw
        have hw : gW D A s.heap [cA G (a 1) 12 ex, oX0 h a cn ul rw, cA G (a 2) 4 (up (up rt pp 0) pp (0 + 1)), cA G (a 3) 8 (up mi (pp * 2 + 0) (-(-(ex ((pp * 3) + 1))))), cA G (a 4) 8 (up si (pp * 2 + 0) 0), cA G (a 5) 8 (up un (pp * 2 + 0) 0), cA G (a 6) 8 (up be (pp * 2 + 0) (2 * (-(ex ((pp * 3) + 2)))))] H locs := hw
        refine g_iload C hl 0 rfl dX0_findRoots_114 ?_
        refine g_if_le C 147 dX0_findRoots_116 (by decide) (by omega) (fun c_5 => ?_) (fun c_5 => ?_)
        · skip
          exact g_vret C hr (ws' := [oX0 h a cn ul rw, cA G (a 1) 12 ex, cA G (a 2) 4 (up (up rt pp 0) pp (0 + 1)), cA G (a 3) 8 (up mi (pp * 2 + 0) (-(-(ex ((pp * 3) + 1))))), cA G (a 4) 8 (up si (pp * 2 + 0) 0), cA G (a 5) 8 (up un (pp * 2 + 0) 0), cA G (a 6) 8 (up be (pp * 2 + 0) (2 * (-(ex ((pp * 3) + 2)))))]) hw [1, 0, 2, 3, 4, 5, 6] (by decide) rfl ⟨(up (up rt pp 0) pp (0 + 1)), (up mi (pp * 2 + 0) (-(-(ex ((pp * 3) + 1))))), (up si (pp * 2 + 0) 0), (up un (pp * 2 + 0) 0), (up be (pp * 2 + 0) (2 * (-(ex ((pp * 3) + 2))))), rfl, (by first | (exfalso; omega) | exact fR_0 (by unfold nR; (repeat' split) <;> omega) | exact fR_1 (by unfold nR; (repeat' split) <;> omega) (by unfold zP; (repeat' split) <;> omega) (by unfold zS; (repeat' split) <;> omega) (by unfold zD; (repeat' split) <;> omega) (by unfold zQ; (repeat' split) <;> omega) | exact fR_2 (by unfold nR; (repeat' split) <;> omega) (by unfold zP; (repeat' split) <;> omega) (by unfold zS; (repeat' split) <;> omega) (by unfold zS; (repeat' split) <;> omega) (by unfold zD; (repeat' split) <;> omega) (by unfold zQ; (repeat' split) <;> omega))⟩ dX0_findRoots_147
        · skip
          refine g_aload_n C hl 4 rfl rfl dX0_findRoots_119 ?_
          refine g_iload_n C hl 5 rfl rfl dX0_findRoots_120 ?_
          refine g_iload_n C hl 2 rfl rfl dX0_findRoots_121 ?_
          refine g_ineg C dX0_findRoots_122 ?_
          refine g_iconst C dX0_findRoots_123 ?_
          refine g_iload C hl 0 rfl dX0_findRoots_124 ?_
          refine g_iconst C dX0_findRoots_126 ?_
          refine g_iload C hl 1 rfl dX0_findRoots_127 ?_
          refine g_imul C dX0_findRoots_129 ?_
          refine g_callVv C hw (wr := [cA G (a 1) 12 ex]) (As := [.int (iI pp), .int (iI (-(-(ex ((pp * 3) + 1))))), .int (iI ((-1))), .int (iI (dsc E pp)), .int (iI (2 * (-(ex ((pp * 3) + 2)))))]) (rest := []) (m_X0_keepRoot l D G (h := h) (a := a) (cn := cn) (ul := ul) (rw := rw) (rt := (up (up rt pp 0) pp (0 + 1))) (mi := (up mi (pp * 2 + 0) (-(-(ex ((pp * 3) + 1)))))) (si := (up si (pp * 2 + 0) 0)) (un := (up un (pp * 2 + 0) 0)) (be := (up be (pp * 2 + 0) (2 * (-(ex ((pp * 3) + 2)))))) (r0 := 0) (pp := pp) (mm := (-(-(ex ((pp * 3) + 1))))) (ss := (-1)) (dd := (dsc E pp)) (ee := (2 * (-(ex ((pp * 3) + 2))))) (by first | assumption | omega) (by first | exact up_s | (exfalso; omega)) (by first | assumption | omega)) (cwV 5 C.1.2.2.2.2 gX0_findRoots_X0_keepRoot rfl rfl rfl (by decide +kernel) ⟨Nat.le_of_ble_eq_true rfl, Nat.le_of_ble_eq_true rfl⟩) [1, 2, 3, 4, 5, 6] [0] rfl rfl (by decide) (by decide) (by decide) 0 rfl rfl rfl hl.1 _ rfl (Nat.le_of_ble_eq_true rfl) dX0_findRoots_130 ⟨Nat.le_of_ble_eq_true rfl, Nat.le_of_ble_eq_true rfl⟩ ?_
          clear hw
          rintro _ H locs rfl hw
          have hw : gW D A s.heap [cA G (a 1) 12 ex, oX0 h a cn ul rw, cA G (a 2) 4 (up (up (up rt pp 0) pp (0 + 1)) pp (0 + 1)), cA G (a 3) 8 (up (up mi (pp * 2 + 0) (-(-(ex ((pp * 3) + 1))))) (pp * 2 + 0) (-(-(ex ((pp * 3) + 1))))), cA G (a 4) 8 (up (up si (pp * 2 + 0) 0) (pp * 2 + 0) (-1)), cA G (a 5) 8 (up (up un (pp * 2 + 0) 0) (pp * 2 + 0) (dsc E pp)), cA G (a 6) 8 (up (up be (pp * 2 + 0) (2 * (-(ex ((pp * 3) + 2))))) (pp * 2 + 0) (2 * (-(ex ((pp * 3) + 2)))))] H locs := hw
          refine g_aload_n C hl 4 rfl rfl dX0_findRoots_133 ?_
          refine g_iload_n C hl 5 rfl rfl dX0_findRoots_134 ?_
          refine g_iload_n C hl 2 rfl rfl dX0_findRoots_135 ?_
          refine g_ineg C dX0_findRoots_136 ?_
          refine g_iconst C dX0_findRoots_137 ?_
          refine g_iload C hl 0 rfl dX0_findRoots_138 ?_
          refine g_iconst C dX0_findRoots_140 ?_
          refine g_iload C hl 1 rfl dX0_findRoots_141 ?_
          refine g_imul C dX0_findRoots_143 ?_
          refine g_callVv C hw (wr := [cA G (a 1) 12 ex]) (As := [.int (iI pp), .int (iI (-(-(ex ((pp * 3) + 1))))), .int (iI 1), .int (iI (dsc E pp)), .int (iI (2 * (-(ex ((pp * 3) + 2)))))]) (rest := []) (m_X0_keepRoot l D G (h := h) (a := a) (cn := cn) (ul := ul) (rw := rw) (rt := (up (up (up rt pp 0) pp (0 + 1)) pp (0 + 1))) (mi := (up (up mi (pp * 2 + 0) (-(-(ex ((pp * 3) + 1))))) (pp * 2 + 0) (-(-(ex ((pp * 3) + 1)))))) (si := (up (up si (pp * 2 + 0) 0) (pp * 2 + 0) (-1))) (un := (up (up un (pp * 2 + 0) 0) (pp * 2 + 0) (dsc E pp))) (be := (up (up be (pp * 2 + 0) (2 * (-(ex ((pp * 3) + 2))))) (pp * 2 + 0) (2 * (-(ex ((pp * 3) + 2)))))) (r0 := 1) (pp := pp) (mm := (-(-(ex ((pp * 3) + 1))))) (ss := 1) (dd := (dsc E pp)) (ee := (2 * (-(ex ((pp * 3) + 2))))) (by first | assumption | omega) (by first | exact up_s | (exfalso; omega)) (by first | assumption | omega)) (cwV 5 C.1.2.2.2.2 gX0_findRoots_X0_keepRoot rfl rfl rfl (by decide +kernel) ⟨Nat.le_of_ble_eq_true rfl, Nat.le_of_ble_eq_true rfl⟩) [1, 2, 3, 4, 5, 6] [0] rfl rfl (by decide) (by decide) (by decide) 0 rfl rfl rfl hl.1 _ rfl (Nat.le_of_ble_eq_true rfl) dX0_findRoots_144 ⟨Nat.le_of_ble_eq_true rfl, Nat.le_of_ble_eq_true rfl⟩ ?_
          clear hw
          rintro _ H locs rfl hw
          have hw : gW D A s.heap [cA G (a 1) 12 ex, oX0 h a cn ul rw, cA G (a 2) 4 (up (up (up (up rt pp 0) pp (0 + 1)) pp (0 + 1)) pp (1 + 1)), cA G (a 3) 8 (up (up (up mi (pp * 2 + 0) (-(-(ex ((pp * 3) + 1))))) (pp * 2 + 0) (-(-(ex ((pp * 3) + 1))))) (pp * 2 + 1) (-(-(ex ((pp * 3) + 1))))), cA G (a 4) 8 (up (up (up si (pp * 2 + 0) 0) (pp * 2 + 0) (-1)) (pp * 2 + 1) 1), cA G (a 5) 8 (up (up (up un (pp * 2 + 0) 0) (pp * 2 + 0) (dsc E pp)) (pp * 2 + 1) (dsc E pp)), cA G (a 6) 8 (up (up (up be (pp * 2 + 0) (2 * (-(ex ((pp * 3) + 2))))) (pp * 2 + 0) (2 * (-(ex ((pp * 3) + 2))))) (pp * 2 + 1) (2 * (-(ex ((pp * 3) + 2)))))] H locs := hw
          exact g_vret C hr (ws' := [oX0 h a cn ul rw, cA G (a 1) 12 ex, cA G (a 2) 4 (up (up (up (up rt pp 0) pp (0 + 1)) pp (0 + 1)) pp (1 + 1)), cA G (a 3) 8 (up (up (up mi (pp * 2 + 0) (-(-(ex ((pp * 3) + 1))))) (pp * 2 + 0) (-(-(ex ((pp * 3) + 1))))) (pp * 2 + 1) (-(-(ex ((pp * 3) + 1))))), cA G (a 4) 8 (up (up (up si (pp * 2 + 0) 0) (pp * 2 + 0) (-1)) (pp * 2 + 1) 1), cA G (a 5) 8 (up (up (up un (pp * 2 + 0) 0) (pp * 2 + 0) (dsc E pp)) (pp * 2 + 1) (dsc E pp)), cA G (a 6) 8 (up (up (up be (pp * 2 + 0) (2 * (-(ex ((pp * 3) + 2))))) (pp * 2 + 0) (2 * (-(ex ((pp * 3) + 2))))) (pp * 2 + 1) (2 * (-(ex ((pp * 3) + 2)))))]) hw [1, 0, 2, 3, 4, 5, 6] (by decide) rfl ⟨(up (up (up (up rt pp 0) pp (0 + 1)) pp (0 + 1)) pp (1 + 1)), (up (up (up mi (pp * 2 + 0) (-(-(ex ((pp * 3) + 1))))) (pp * 2 + 0) (-(-(ex ((pp * 3) + 1))))) (pp * 2 + 1) (-(-(ex ((pp * 3) + 1))))), (up (up (up si (pp * 2 + 0) 0) (pp * 2 + 0) (-1)) (pp * 2 + 1) 1), (up (up (up un (pp * 2 + 0) 0) (pp * 2 + 0) (dsc E pp)) (pp * 2 + 1) (dsc E pp)), (up (up (up be (pp * 2 + 0) (2 * (-(ex ((pp * 3) + 2))))) (pp * 2 + 0) (2 * (-(ex ((pp * 3) + 2))))) (pp * 2 + 1) (2 * (-(ex ((pp * 3) + 2))))), rfl, (by first | (exfalso; omega) | exact fR_0 (by unfold nR; (repeat' split) <;> omega) | exact fR_1 (by unfold nR; (repeat' split) <;> omega) (by unfold zP; (repeat' split) <;> omega) (by unfold zS; (repeat' split) <;> omega) (by unfold zD; (repeat' split) <;> omega) (by unfold zQ; (repeat' split) <;> omega) | exact fR_2 (by unfold nR; (repeat' split) <;> omega) (by unfold zP; (repeat' split) <;> omega) (by unfold zS; (repeat' split) <;> omega) (by unfold zS; (repeat' split) <;> omega) (by unfold zD; (repeat' split) <;> omega) (by unfold zQ; (repeat' split) <;> omega))⟩ dX0_findRoots_147
    · skip
      refine g_iload_n C hl 1 rfl rfl dX0_findRoots_69 ?_
      refine g_if_le C 83 dX0_findRoots_70 (by decide) (by omega) (fun c_6 => ?_) (fun c_6 => ?_)
      · skip
        exact g_vret C hr (ws' := [oX0 h a cn ul rw, cA G (a 1) 12 ex, cA G (a 2) 4 (up rt pp 0), cA G (a 3) 8 mi, cA G (a 4) 8 si, cA G (a 5) 8 un, cA G (a 6) 8 be]) hw [0, 1, 2, 3, 4, 5, 6] (by decide) rfl ⟨(up rt pp 0), mi, si, un, be, rfl, (by first | (exfalso; omega) | exact fR_0 (by unfold nR; (repeat' split) <;> omega) | exact fR_1 (by unfold nR; (repeat' split) <;> omega) (by unfold zP; (repeat' split) <;> omega) (by unfold zS; (repeat' split) <;> omega) (by unfold zD; (repeat' split) <;> omega) (by unfold zQ; (repeat' split) <;> omega) | exact fR_2 (by unfold nR; (repeat' split) <;> omega) (by unfold zP; (repeat' split) <;> omega) (by unfold zS; (repeat' split) <;> omega) (by unfold zS; (repeat' split) <;> omega) (by unfold zD; (repeat' split) <;> omega) (by unfold zQ; (repeat' split) <;> omega))⟩ dX0_findRoots_83
      · skip
        refine g_aload_n C hl 3 rfl rfl dX0_findRoots_73 ?_
        refine g_iload_n C hl 4 rfl rfl dX0_findRoots_74 ?_
        refine g_iload_n C hl 2 rfl rfl dX0_findRoots_75 ?_
        refine g_ineg C dX0_findRoots_76 ?_
        refine g_iconst C dX0_findRoots_77 ?_
        refine g_iconst C dX0_findRoots_78 ?_
        refine g_iload_n C hl 1 rfl rfl dX0_findRoots_79 ?_
        refine g_callVv C hw (wr := [cA G (a 1) 12 ex]) (As := [.int (iI pp), .int (iI (-(-(ex (pp * 3))))), .int (iI 0), .int (iI 0), .int (iI (-(ex ((pp * 3) + 1))))]) (rest := []) (m_X0_keepRoot l D G (h := h) (a := a) (cn := cn) (ul := ul) (rw := rw) (rt := (up rt pp 0)) (mi := mi) (si := si) (un := un) (be := be) (r0 := 0) (pp := pp) (mm := (-(-(ex (pp * 3))))) (ss := 0) (dd := 0) (ee := (-(ex ((pp * 3) + 1)))) (by first | assumption | omega) (by first | exact up_s | (exfalso; omega)) (by first | assumption | omega)) (cwV 5 C.1.2.2.2.2 gX0_findRoots_X0_keepRoot rfl rfl rfl (by decide +kernel) ⟨Nat.le_of_ble_eq_true rfl, Nat.le_of_ble_eq_true rfl⟩) [0, 2, 3, 4, 5, 6] [1] rfl rfl (by decide) (by decide) (by decide) 0 rfl rfl rfl hl.1 _ rfl (Nat.le_of_ble_eq_true rfl) dX0_findRoots_80 ⟨Nat.le_of_ble_eq_true rfl, Nat.le_of_ble_eq_true rfl⟩ ?_
        clear hw
        rintro _ H locs rfl hw
        have hw : gW D A s.heap [cA G (a 1) 12 ex, oX0 h a cn ul rw, cA G (a 2) 4 (up (up rt pp 0) pp (0 + 1)), cA G (a 3) 8 (up mi (pp * 2 + 0) (-(-(ex (pp * 3))))), cA G (a 4) 8 (up si (pp * 2 + 0) 0), cA G (a 5) 8 (up un (pp * 2 + 0) 0), cA G (a 6) 8 (up be (pp * 2 + 0) (-(ex ((pp * 3) + 1))))] H locs := hw
        exact g_vret C hr (ws' := [oX0 h a cn ul rw, cA G (a 1) 12 ex, cA G (a 2) 4 (up (up rt pp 0) pp (0 + 1)), cA G (a 3) 8 (up mi (pp * 2 + 0) (-(-(ex (pp * 3))))), cA G (a 4) 8 (up si (pp * 2 + 0) 0), cA G (a 5) 8 (up un (pp * 2 + 0) 0), cA G (a 6) 8 (up be (pp * 2 + 0) (-(ex ((pp * 3) + 1))))]) hw [1, 0, 2, 3, 4, 5, 6] (by decide) rfl ⟨(up (up rt pp 0) pp (0 + 1)), (up mi (pp * 2 + 0) (-(-(ex (pp * 3))))), (up si (pp * 2 + 0) 0), (up un (pp * 2 + 0) 0), (up be (pp * 2 + 0) (-(ex ((pp * 3) + 1)))), rfl, (by first | (exfalso; omega) | exact fR_0 (by unfold nR; (repeat' split) <;> omega) | exact fR_1 (by unfold nR; (repeat' split) <;> omega) (by unfold zP; (repeat' split) <;> omega) (by unfold zS; (repeat' split) <;> omega) (by unfold zD; (repeat' split) <;> omega) (by unfold zQ; (repeat' split) <;> omega) | exact fR_2 (by unfold nR; (repeat' split) <;> omega) (by unfold zP; (repeat' split) <;> omega) (by unfold zS; (repeat' split) <;> omega) (by unfold zS; (repeat' split) <;> omega) (by unfold zD; (repeat' split) <;> omega) (by unfold zQ; (repeat' split) <;> omega))⟩ dX0_findRoots_83
  · skip
    refine g_iload C hl 0 rfl dX0_findRoots_44 ?_
    refine g_if_ne C 64 dX0_findRoots_46 (by decide) (by omega) (fun c_7 => ?_) (fun c_7 => ?_)
    · skip
      refine g_iload C hl 0 rfl dX0_findRoots_64 ?_
      refine g_if_ne C 84 dX0_findRoots_66 (by decide) (by omega) (fun c_8 => ?_) (fun c_8 => ?_)
      · skip
        refine g_iload_n C hl 1 rfl rfl dX0_findRoots_84 ?_
        refine g_iload_n C hl 1 rfl rfl dX0_findRoots_85 ?_
        refine g_imul C dX0_findRoots_86 ?_
        refine g_iconst C dX0_findRoots_87 ?_
        refine g_iload_n C hl 2 rfl rfl dX0_findRoots_88 ?_
        refine g_imul C dX0_findRoots_89 ?_
        refine g_iload C hl 0 rfl dX0_findRoots_90 ?_
        refine g_imul C dX0_findRoots_92 ?_
        refine g_isub C dX0_findRoots_93 ?_
        refine g_nI (show (((ex ((pp * 3) + 1)) * (ex ((pp * 3) + 1))) - ((4 * (ex (pp * 3))) * (ex ((pp * 3) + 2))) : Int) = dsc E pp by unfold dsc; rw [x0, x1, x2]; grind) ?_
        refine g_istore C [(5, .int (iI (dsc E pp))), (4, .int (iI (ex ((pp * 3) + 2)))), (3, .int (iI (ex ((pp * 3) + 1)))), (2, .int (iI (ex (pp * 3)))), (0, .ref h), (1, .int (iI pp))] dX0_findRoots_94 hl (by decide) rfl ?_
        clear hl
        intro ls hl
        refine g_iload C hl 0 rfl dX0_findRoots_96 ?_
        refine g_if_ne C 114 dX0_findRoots_98 (by decide) (by omega) (fun c_9 => ?_) (fun c_9 => ?_)
        · skip
          refine g_iload C hl 0 rfl dX0_findRoots_114 ?_
          refine g_if_le C 147 dX0_findRoots_116 (by decide) (by omega) (fun c_10 => ?_) (fun c_10 => ?_)
          · skip
            exact g_vret C hr (ws' := [oX0 h a cn ul rw, cA G (a 1) 12 ex, cA G (a 2) 4 (up rt pp 0), cA G (a 3) 8 mi, cA G (a 4) 8 si, cA G (a 5) 8 un, cA G (a 6) 8 be]) hw [0, 1, 2, 3, 4, 5, 6] (by decide) rfl ⟨(up rt pp 0), mi, si, un, be, rfl, (by first | (exfalso; omega) | exact fR_0 (by unfold nR; (repeat' split) <;> omega) | exact fR_1 (by unfold nR; (repeat' split) <;> omega) (by unfold zP; (repeat' split) <;> omega) (by unfold zS; (repeat' split) <;> omega) (by unfold zD; (repeat' split) <;> omega) (by unfold zQ; (repeat' split) <;> omega) | exact fR_2 (by unfold nR; (repeat' split) <;> omega) (by unfold zP; (repeat' split) <;> omega) (by unfold zS; (repeat' split) <;> omega) (by unfold zS; (repeat' split) <;> omega) (by unfold zD; (repeat' split) <;> omega) (by unfold zQ; (repeat' split) <;> omega))⟩ dX0_findRoots_147
          · skip
            refine g_aload_n C hl 4 rfl rfl dX0_findRoots_119 ?_
            refine g_iload_n C hl 5 rfl rfl dX0_findRoots_120 ?_
            refine g_iload_n C hl 2 rfl rfl dX0_findRoots_121 ?_
            refine g_ineg C dX0_findRoots_122 ?_
            refine g_iconst C dX0_findRoots_123 ?_
            refine g_iload C hl 0 rfl dX0_findRoots_124 ?_
            refine g_iconst C dX0_findRoots_126 ?_
            refine g_iload C hl 1 rfl dX0_findRoots_127 ?_
            refine g_imul C dX0_findRoots_129 ?_
            refine g_callVv C hw (wr := [cA G (a 1) 12 ex]) (As := [.int (iI pp), .int (iI (-(ex ((pp * 3) + 1)))), .int (iI ((-1))), .int (iI (dsc E pp)), .int (iI (2 * (ex ((pp * 3) + 2))))]) (rest := []) (m_X0_keepRoot l D G (h := h) (a := a) (cn := cn) (ul := ul) (rw := rw) (rt := (up rt pp 0)) (mi := mi) (si := si) (un := un) (be := be) (r0 := 0) (pp := pp) (mm := (-(ex ((pp * 3) + 1)))) (ss := (-1)) (dd := (dsc E pp)) (ee := (2 * (ex ((pp * 3) + 2)))) (by first | assumption | omega) (by first | exact up_s | (exfalso; omega)) (by first | assumption | omega)) (cwV 5 C.1.2.2.2.2 gX0_findRoots_X0_keepRoot rfl rfl rfl (by decide +kernel) ⟨Nat.le_of_ble_eq_true rfl, Nat.le_of_ble_eq_true rfl⟩) [0, 2, 3, 4, 5, 6] [1] rfl rfl (by decide) (by decide) (by decide) 0 rfl rfl rfl hl.1 _ rfl (Nat.le_of_ble_eq_true rfl) dX0_findRoots_130 ⟨Nat.le_of_ble_eq_true rfl, Nat.le_of_ble_eq_true rfl⟩ ?_
            clear hw
            rintro _ H locs rfl hw
            have hw : gW D A s.heap [cA G (a 1) 12 ex, oX0 h a cn ul rw, cA G (a 2) 4 (up (up rt pp 0) pp (0 + 1)), cA G (a 3) 8 (up mi (pp * 2 + 0) (-(ex ((pp * 3) + 1)))), cA G (a 4) 8 (up si (pp * 2 + 0) (-1)), cA G (a 5) 8 (up un (pp * 2 + 0) (dsc E pp)), cA G (a 6) 8 (up be (pp * 2 + 0) (2 * (ex ((pp * 3) + 2))))] H locs := hw
            refine g_aload_n C hl 4 rfl rfl dX0_findRoots_133 ?_
            refine g_iload_n C hl 5 rfl rfl dX0_findRoots_134 ?_
            refine g_iload_n C hl 2 rfl rfl dX0_findRoots_135 ?_
            refine g_ineg C dX0_findRoots_136 ?_
            refine g_iconst C dX0_findRoots_137 ?_
            refine g_iload C hl 0 rfl dX0_findRoots_138 ?_
            refine g_iconst C dX0_findRoots_140 ?_
            refine g_iload C hl 1 rfl dX0_findRoots_141 ?_
            refine g_imul C dX0_findRoots_143 ?_
            refine g_callVv C hw (wr := [cA G (a 1) 12 ex]) (As := [.int (iI pp), .int (iI (-(ex ((pp * 3) + 1)))), .int (iI 1), .int (iI (dsc E pp)), .int (iI (2 * (ex ((pp * 3) + 2))))]) (rest := []) (m_X0_keepRoot l D G (h := h) (a := a) (cn := cn) (ul := ul) (rw := rw) (rt := (up (up rt pp 0) pp (0 + 1))) (mi := (up mi (pp * 2 + 0) (-(ex ((pp * 3) + 1))))) (si := (up si (pp * 2 + 0) (-1))) (un := (up un (pp * 2 + 0) (dsc E pp))) (be := (up be (pp * 2 + 0) (2 * (ex ((pp * 3) + 2))))) (r0 := 1) (pp := pp) (mm := (-(ex ((pp * 3) + 1)))) (ss := 1) (dd := (dsc E pp)) (ee := (2 * (ex ((pp * 3) + 2)))) (by first | assumption | omega) (by first | exact up_s | (exfalso; omega)) (by first | assumption | omega)) (cwV 5 C.1.2.2.2.2 gX0_findRoots_X0_keepRoot rfl rfl rfl (by decide +kernel) ⟨Nat.le_of_ble_eq_true rfl, Nat.le_of_ble_eq_true rfl⟩) [1, 2, 3, 4, 5, 6] [0] rfl rfl (by decide) (by decide) (by decide) 0 rfl rfl rfl hl.1 _ rfl (Nat.le_of_ble_eq_true rfl) dX0_findRoots_144 ⟨Nat.le_of_ble_eq_true rfl, Nat.le_of_ble_eq_true rfl⟩ ?_
            clear hw
            rintro _ H locs rfl hw
            have hw : gW D A s.heap [cA G (a 1) 12 ex, oX0 h a cn ul rw, cA G (a 2) 4 (up (up (up rt pp 0) pp (0 + 1)) pp (1 + 1)), cA G (a 3) 8 (up (up mi (pp * 2 + 0) (-(ex ((pp * 3) + 1)))) (pp * 2 + 1) (-(ex ((pp * 3) + 1)))), cA G (a 4) 8 (up (up si (pp * 2 + 0) (-1)) (pp * 2 + 1) 1), cA G (a 5) 8 (up (up un (pp * 2 + 0) (dsc E pp)) (pp * 2 + 1) (dsc E pp)), cA G (a 6) 8 (up (up be (pp * 2 + 0) (2 * (ex ((pp * 3) + 2)))) (pp * 2 + 1) (2 * (ex ((pp * 3) + 2))))] H locs := hw
            exact g_vret C hr (ws' := [oX0 h a cn ul rw, cA G (a 1) 12 ex, cA G (a 2) 4 (up (up (up rt pp 0) pp (0 + 1)) pp (1 + 1)), cA G (a 3) 8 (up (up mi (pp * 2 + 0) (-(ex ((pp * 3) + 1)))) (pp * 2 + 1) (-(ex ((pp * 3) + 1)))), cA G (a 4) 8 (up (up si (pp * 2 + 0) (-1)) (pp * 2 + 1) 1), cA G (a 5) 8 (up (up un (pp * 2 + 0) (dsc E pp)) (pp * 2 + 1) (dsc E pp)), cA G (a 6) 8 (up (up be (pp * 2 + 0) (2 * (ex ((pp * 3) + 2)))) (pp * 2 + 1) (2 * (ex ((pp * 3) + 2))))]) hw [1, 0, 2, 3, 4, 5, 6] (by decide) rfl ⟨(up (up (up rt pp 0) pp (0 + 1)) pp (1 + 1)), (up (up mi (pp * 2 + 0) (-(ex ((pp * 3) + 1)))) (pp * 2 + 1) (-(ex ((pp * 3) + 1)))), (up (up si (pp * 2 + 0) (-1)) (pp * 2 + 1) 1), (up (up un (pp * 2 + 0) (dsc E pp)) (pp * 2 + 1) (dsc E pp)), (up (up be (pp * 2 + 0) (2 * (ex ((pp * 3) + 2)))) (pp * 2 + 1) (2 * (ex ((pp * 3) + 2)))), rfl, (by first | (exfalso; omega) | exact fR_0 (by unfold nR; (repeat' split) <;> omega) | exact fR_1 (by unfold nR; (repeat' split) <;> omega) (by unfold zP; (repeat' split) <;> omega) (by unfold zS; (repeat' split) <;> omega) (by unfold zD; (repeat' split) <;> omega) (by unfold zQ; (repeat' split) <;> omega) | exact fR_2 (by unfold nR; (repeat' split) <;> omega) (by unfold zP; (repeat' split) <;> omega) (by unfold zS; (repeat' split) <;> omega) (by unfold zS; (repeat' split) <;> omega) (by unfold zD; (repeat' split) <;> omega) (by unfold zQ; (repeat' split) <;> omega))⟩ dX0_findRoots_147
        · skip
          refine g_aload_n C hl 4 rfl rfl dX0_findRoots_101 ?_
          refine g_iload_n C hl 5 rfl rfl dX0_findRoots_102 ?_
          refine g_iload_n C hl 2 rfl rfl dX0_findRoots_103 ?_
          refine g_ineg C dX0_findRoots_104 ?_
          refine g_iconst C dX0_findRoots_105 ?_
          refine g_iconst C dX0_findRoots_106 ?_
          refine g_iconst C dX0_findRoots_107 ?_
          refine g_iload C hl 1 rfl dX0_findRoots_108 ?_
          refine g_imul C dX0_findRoots_110 ?_
          refine g_callVv C hw (wr := [cA G (a 1) 12 ex]) (As := [.int (iI pp), .int (iI (-(ex ((pp * 3) + 1)))), .int (iI 0), .int (iI 0), .int (iI (2 * (ex ((pp * 3) + 2))))]) (rest := []) (m_X0_keepRoot l D G (h := h) (a := a) (cn := cn) (ul := ul) (rw := rw) (rt := (up rt pp 0)) (mi := mi) (si := si) (un := un) (be := be) (r0 := 0) (pp := pp) (mm := (-(ex ((pp * 3) + 1)))) (ss := 0) (dd := 0) (ee := (2 * (ex ((pp * 3) + 2)))) (by first | assumption | omega) (by first | exact up_s | (exfalso; omega)) (by first | assumption | omega)) (cwV 5 C.1.2.2.2.2 gX0_findRoots_X0_keepRoot rfl rfl rfl (by decide +kernel) ⟨Nat.le_of_ble_eq_true rfl, Nat.le_of_ble_eq_true rfl⟩) [0, 2, 3, 4, 5, 6] [1] rfl rfl (by decide) (by decide) (by decide) 0 rfl rfl rfl hl.1 _ rfl (Nat.le_of_ble_eq_true rfl) dX0_findRoots_111 ⟨Nat.le_of_ble_eq_true rfl, Nat.le_of_ble_eq_true rfl⟩ ?_
          clear hw
          rintro _ H locs rfl hw
          have hw : gW D A s.heap [cA G (a 1) 12 ex, oX0 h a cn ul rw, cA G (a 2) 4 (up (up rt pp 0) pp (0 + 1)), cA G (a 3) 8 (up mi (pp * 2 + 0) (-(ex ((pp * 3) + 1)))), cA G (a 4) 8 (up si (pp * 2 + 0) 0), cA G (a 5) 8 (up un (pp * 2 + 0) 0), cA G (a 6) 8 (up be (pp * 2 + 0) (2 * (ex ((pp * 3) + 2))))] H locs := hw
          refine g_iload C hl 0 rfl dX0_findRoots_114 ?_
          refine g_if_le C 147 dX0_findRoots_116 (by decide) (by omega) (fun c_11 => ?_) (fun c_11 => ?_)
          · skip
            exact g_vret C hr (ws' := [oX0 h a cn ul rw, cA G (a 1) 12 ex, cA G (a 2) 4 (up (up rt pp 0) pp (0 + 1)), cA G (a 3) 8 (up mi (pp * 2 + 0) (-(ex ((pp * 3) + 1)))), cA G (a 4) 8 (up si (pp * 2 + 0) 0), cA G (a 5) 8 (up un (pp * 2 + 0) 0), cA G (a 6) 8 (up be (pp * 2 + 0) (2 * (ex ((pp * 3) + 2))))]) hw [1, 0, 2, 3, 4, 5, 6] (by decide) rfl ⟨(up (up rt pp 0) pp (0 + 1)), (up mi (pp * 2 + 0) (-(ex ((pp * 3) + 1)))), (up si (pp * 2 + 0) 0), (up un (pp * 2 + 0) 0), (up be (pp * 2 + 0) (2 * (ex ((pp * 3) + 2)))), rfl, (by first | (exfalso; omega) | exact fR_0 (by unfold nR; (repeat' split) <;> omega) | exact fR_1 (by unfold nR; (repeat' split) <;> omega) (by unfold zP; (repeat' split) <;> omega) (by unfold zS; (repeat' split) <;> omega) (by unfold zD; (repeat' split) <;> omega) (by unfold zQ; (repeat' split) <;> omega) | exact fR_2 (by unfold nR; (repeat' split) <;> omega) (by unfold zP; (repeat' split) <;> omega) (by unfold zS; (repeat' split) <;> omega) (by unfold zS; (repeat' split) <;> omega) (by unfold zD; (repeat' split) <;> omega) (by unfold zQ; (repeat' split) <;> omega))⟩ dX0_findRoots_147
          · skip
            refine g_aload_n C hl 4 rfl rfl dX0_findRoots_119 ?_
            refine g_iload_n C hl 5 rfl rfl dX0_findRoots_120 ?_
            refine g_iload_n C hl 2 rfl rfl dX0_findRoots_121 ?_
            refine g_ineg C dX0_findRoots_122 ?_
            refine g_iconst C dX0_findRoots_123 ?_
            refine g_iload C hl 0 rfl dX0_findRoots_124 ?_
            refine g_iconst C dX0_findRoots_126 ?_
            refine g_iload C hl 1 rfl dX0_findRoots_127 ?_
            refine g_imul C dX0_findRoots_129 ?_
            refine g_callVv C hw (wr := [cA G (a 1) 12 ex]) (As := [.int (iI pp), .int (iI (-(ex ((pp * 3) + 1)))), .int (iI ((-1))), .int (iI (dsc E pp)), .int (iI (2 * (ex ((pp * 3) + 2))))]) (rest := []) (m_X0_keepRoot l D G (h := h) (a := a) (cn := cn) (ul := ul) (rw := rw) (rt := (up (up rt pp 0) pp (0 + 1))) (mi := (up mi (pp * 2 + 0) (-(ex ((pp * 3) + 1))))) (si := (up si (pp * 2 + 0) 0)) (un := (up un (pp * 2 + 0) 0)) (be := (up be (pp * 2 + 0) (2 * (ex ((pp * 3) + 2))))) (r0 := 0) (pp := pp) (mm := (-(ex ((pp * 3) + 1)))) (ss := (-1)) (dd := (dsc E pp)) (ee := (2 * (ex ((pp * 3) + 2)))) (by first | assumption | omega) (by first | exact up_s | (exfalso; omega)) (by first | assumption | omega)) (cwV 5 C.1.2.2.2.2 gX0_findRoots_X0_keepRoot rfl rfl rfl (by decide +kernel) ⟨Nat.le_of_ble_eq_true rfl, Nat.le_of_ble_eq_true rfl⟩) [1, 2, 3, 4, 5, 6] [0] rfl rfl (by decide) (by decide) (by decide) 0 rfl rfl rfl hl.1 _ rfl (Nat.le_of_ble_eq_true rfl) dX0_findRoots_130 ⟨Nat.le_of_ble_eq_true rfl, Nat.le_of_ble_eq_true rfl⟩ ?_
            clear hw
            rintro _ H locs rfl hw
            have hw : gW D A s.heap [cA G (a 1) 12 ex, oX0 h a cn ul rw, cA G (a 2) 4 (up (up (up rt pp 0) pp (0 + 1)) pp (0 + 1)), cA G (a 3) 8 (up (up mi (pp * 2 + 0) (-(ex ((pp * 3) + 1)))) (pp * 2 + 0) (-(ex ((pp * 3) + 1)))), cA G (a 4) 8 (up (up si (pp * 2 + 0) 0) (pp * 2 + 0) (-1)), cA G (a 5) 8 (up (up un (pp * 2 + 0) 0) (pp * 2 + 0) (dsc E pp)), cA G (a 6) 8 (up (up be (pp * 2 + 0) (2 * (ex ((pp * 3) + 2)))) (pp * 2 + 0) (2 * (ex ((pp * 3) + 2))))] H locs := hw
            refine g_aload_n C hl 4 rfl rfl dX0_findRoots_133 ?_
            refine g_iload_n C hl 5 rfl rfl dX0_findRoots_134 ?_
            refine g_iload_n C hl 2 rfl rfl dX0_findRoots_135 ?_
            refine g_ineg C dX0_findRoots_136 ?_
            refine g_iconst C dX0_findRoots_137 ?_
            refine g_iload C hl 0 rfl dX0_findRoots_138 ?_
            refine g_iconst C dX0_findRoots_140 ?_
            refine g_iload C hl 1 rfl dX0_findRoots_141 ?_
            refine g_imul C dX0_findRoots_143 ?_
            refine g_callVv C hw (wr := [cA G (a 1) 12 ex]) (As := [.int (iI pp), .int (iI (-(ex ((pp * 3) + 1)))), .int (iI 1), .int (iI (dsc E pp)), .int (iI (2 * (ex ((pp * 3) + 2))))]) (rest := []) (m_X0_keepRoot l D G (h := h) (a := a) (cn := cn) (ul := ul) (rw := rw) (rt := (up (up (up rt pp 0) pp (0 + 1)) pp (0 + 1))) (mi := (up (up mi (pp * 2 + 0) (-(ex ((pp * 3) + 1)))) (pp * 2 + 0) (-(ex ((pp * 3) + 1))))) (si := (up (up si (pp * 2 + 0) 0) (pp * 2 + 0) (-1))) (un := (up (up un (pp * 2 + 0) 0) (pp * 2 + 0) (dsc E pp))) (be := (up (up be (pp * 2 + 0) (2 * (ex ((pp * 3) + 2)))) (pp * 2 + 0) (2 * (ex ((pp * 3) + 2))))) (r0 := 1) (pp := pp) (mm := (-(ex ((pp * 3) + 1)))) (ss := 1) (dd := (dsc E pp)) (ee := (2 * (ex ((pp * 3) + 2)))) (by first | assumption | omega) (by first | exact up_s | (exfalso; omega)) (by first | assumption | omega)) (cwV 5 C.1.2.2.2.2 gX0_findRoots_X0_keepRoot rfl rfl rfl (by decide +kernel) ⟨Nat.le_of_ble_eq_true rfl, Nat.le_of_ble_eq_true rfl⟩) [1, 2, 3, 4, 5, 6] [0] rfl rfl (by decide) (by decide) (by decide) 0 rfl rfl rfl hl.1 _ rfl (Nat.le_of_ble_eq_true rfl) dX0_findRoots_144 ⟨Nat.le_of_ble_eq_true rfl, Nat.le_of_ble_eq_true rfl⟩ ?_
            clear hw
            rintro _ H locs rfl hw
            have hw : gW D A s.heap [cA G (a 1) 12 ex, oX0 h a cn ul rw, cA G (a 2) 4 (up (up (up (up rt pp 0) pp (0 + 1)) pp (0 + 1)) pp (1 + 1)), cA G (a 3) 8 (up (up (up mi (pp * 2 + 0) (-(ex ((pp * 3) + 1)))) (pp * 2 + 0) (-(ex ((pp * 3) + 1)))) (pp * 2 + 1) (-(ex ((pp * 3) + 1)))), cA G (a 4) 8 (up (up (up si (pp * 2 + 0) 0) (pp * 2 + 0) (-1)) (pp * 2 + 1) 1), cA G (a 5) 8 (up (up (up un (pp * 2 + 0) 0) (pp * 2 + 0) (dsc E pp)) (pp * 2 + 1) (dsc E pp)), cA G (a 6) 8 (up (up (up be (pp * 2 + 0) (2 * (ex ((pp * 3) + 2)))) (pp * 2 + 0) (2 * (ex ((pp * 3) + 2)))) (pp * 2 + 1) (2 * (ex ((pp * 3) + 2))))] H locs := hw
            exact g_vret C hr (ws' := [oX0 h a cn ul rw, cA G (a 1) 12 ex, cA G (a 2) 4 (up (up (up (up rt pp 0) pp (0 + 1)) pp (0 + 1)) pp (1 + 1)), cA G (a 3) 8 (up (up (up mi (pp * 2 + 0) (-(ex ((pp * 3) + 1)))) (pp * 2 + 0) (-(ex ((pp * 3) + 1)))) (pp * 2 + 1) (-(ex ((pp * 3) + 1)))), cA G (a 4) 8 (up (up (up si (pp * 2 + 0) 0) (pp * 2 + 0) (-1)) (pp * 2 + 1) 1), cA G (a 5) 8 (up (up (up un (pp * 2 + 0) 0) (pp * 2 + 0) (dsc E pp)) (pp * 2 + 1) (dsc E pp)), cA G (a 6) 8 (up (up (up be (pp * 2 + 0) (2 * (ex ((pp * 3) + 2)))) (pp * 2 + 0) (2 * (ex ((pp * 3) + 2)))) (pp * 2 + 1) (2 * (ex ((pp * 3) + 2))))]) hw [1, 0, 2, 3, 4, 5, 6] (by decide) rfl ⟨(up (up (up (up rt pp 0) pp (0 + 1)) pp (0 + 1)) pp (1 + 1)), (up (up (up mi (pp * 2 + 0) (-(ex ((pp * 3) + 1)))) (pp * 2 + 0) (-(ex ((pp * 3) + 1)))) (pp * 2 + 1) (-(ex ((pp * 3) + 1)))), (up (up (up si (pp * 2 + 0) 0) (pp * 2 + 0) (-1)) (pp * 2 + 1) 1), (up (up (up un (pp * 2 + 0) 0) (pp * 2 + 0) (dsc E pp)) (pp * 2 + 1) (dsc E pp)), (up (up (up be (pp * 2 + 0) (2 * (ex ((pp * 3) + 2)))) (pp * 2 + 0) (2 * (ex ((pp * 3) + 2)))) (pp * 2 + 1) (2 * (ex ((pp * 3) + 2)))), rfl, (by first | (exfalso; omega) | exact fR_0 (by unfold nR; (repeat' split) <;> omega) | exact fR_1 (by unfold nR; (repeat' split) <;> omega) (by unfold zP; (repeat' split) <;> omega) (by unfold zS; (repeat' split) <;> omega) (by unfold zD; (repeat' split) <;> omega) (by unfold zQ; (repeat' split) <;> omega) | exact fR_2 (by unfold nR; (repeat' split) <;> omega) (by unfold zP; (repeat' split) <;> omega) (by unfold zS; (repeat' split) <;> omega) (by unfold zS; (repeat' split) <;> omega) (by unfold zD; (repeat' split) <;> omega) (by unfold zQ; (repeat' split) <;> omega))⟩ dX0_findRoots_147
      · skip
        refine g_iload_n C hl 1 rfl rfl dX0_findRoots_69 ?_
        refine g_if_le C 83 dX0_findRoots_70 (by decide) (by omega) (fun c_12 => ?_) (fun c_12 => ?_)
        · skip
          exact g_vret C hr (ws' := [oX0 h a cn ul rw, cA G (a 1) 12 ex, cA G (a 2) 4 (up rt pp 0), cA G (a 3) 8 mi, cA G (a 4) 8 si, cA G (a 5) 8 un, cA G (a 6) 8 be]) hw [0, 1, 2, 3, 4, 5, 6] (by decide) rfl ⟨(up rt pp 0), mi, si, un, be, rfl, (by first | (exfalso; omega) | exact fR_0 (by unfold nR; (repeat' split) <;> omega) | exact fR_1 (by unfold nR; (repeat' split) <;> omega) (by unfold zP; (repeat' split) <;> omega) (by unfold zS; (repeat' split) <;> omega) (by unfold zD; (repeat' split) <;> omega) (by unfold zQ; (repeat' split) <;> omega) | exact fR_2 (by unfold nR; (repeat' split) <;> omega) (by unfold zP; (repeat' split) <;> omega) (by unfold zS; (repeat' split) <;> omega) (by unfold zS; (repeat' split) <;> omega) (by unfold zD; (repeat' split) <;> omega) (by unfold zQ; (repeat' split) <;> omega))⟩ dX0_findRoots_83
        · skip
          refine g_aload_n C hl 3 rfl rfl dX0_findRoots_73 ?_
          refine g_iload_n C hl 4 rfl rfl dX0_findRoots_74 ?_
          refine g_iload_n C hl 2 rfl rfl dX0_findRoots_75 ?_
          refine g_ineg C dX0_findRoots_76 ?_
          refine g_iconst C dX0_findRoots_77 ?_
          refine g_iconst C dX0_findRoots_78 ?_
          refine g_iload_n C hl 1 rfl rfl dX0_findRoots_79 ?_
          refine g_callVv C hw (wr := [cA G (a 1) 12 ex]) (As := [.int (iI pp), .int (iI (-(ex (pp * 3)))), .int (iI 0), .int (iI 0), .int (iI (ex ((pp * 3) + 1)))]) (rest := []) (m_X0_keepRoot l D G (h := h) (a := a) (cn := cn) (ul := ul) (rw := rw) (rt := (up rt pp 0)) (mi := mi) (si := si) (un := un) (be := be) (r0 := 0) (pp := pp) (mm := (-(ex (pp * 3)))) (ss := 0) (dd := 0) (ee := (ex ((pp * 3) + 1))) (by first | assumption | omega) (by first | exact up_s | (exfalso; omega)) (by first | assumption | omega)) (cwV 5 C.1.2.2.2.2 gX0_findRoots_X0_keepRoot rfl rfl rfl (by decide +kernel) ⟨Nat.le_of_ble_eq_true rfl, Nat.le_of_ble_eq_true rfl⟩) [0, 2, 3, 4, 5, 6] [1] rfl rfl (by decide) (by decide) (by decide) 0 rfl rfl rfl hl.1 _ rfl (Nat.le_of_ble_eq_true rfl) dX0_findRoots_80 ⟨Nat.le_of_ble_eq_true rfl, Nat.le_of_ble_eq_true rfl⟩ ?_
          clear hw
          rintro _ H locs rfl hw
          have hw : gW D A s.heap [cA G (a 1) 12 ex, oX0 h a cn ul rw, cA G (a 2) 4 (up (up rt pp 0) pp (0 + 1)), cA G (a 3) 8 (up mi (pp * 2 + 0) (-(ex (pp * 3)))), cA G (a 4) 8 (up si (pp * 2 + 0) 0), cA G (a 5) 8 (up un (pp * 2 + 0) 0), cA G (a 6) 8 (up be (pp * 2 + 0) (ex ((pp * 3) + 1)))] H locs := hw
          exact g_vret C hr (ws' := [oX0 h a cn ul rw, cA G (a 1) 12 ex, cA G (a 2) 4 (up (up rt pp 0) pp (0 + 1)), cA G (a 3) 8 (up mi (pp * 2 + 0) (-(ex (pp * 3)))), cA G (a 4) 8 (up si (pp * 2 + 0) 0), cA G (a 5) 8 (up un (pp * 2 + 0) 0), cA G (a 6) 8 (up be (pp * 2 + 0) (ex ((pp * 3) + 1)))]) hw [1, 0, 2, 3, 4, 5, 6] (by decide) rfl ⟨(up (up rt pp 0) pp (0 + 1)), (up mi (pp * 2 + 0) (-(ex (pp * 3)))), (up si (pp * 2 + 0) 0), (up un (pp * 2 + 0) 0), (up be (pp * 2 + 0) (ex ((pp * 3) + 1))), rfl, (by first | (exfalso; omega) | exact fR_0 (by unfold nR; (repeat' split) <;> omega) | exact fR_1 (by unfold nR; (repeat' split) <;> omega) (by unfold zP; (repeat' split) <;> omega) (by unfold zS; (repeat' split) <;> omega) (by unfold zD; (repeat' split) <;> omega) (by unfold zQ; (repeat' split) <;> omega) | exact fR_2 (by unfold nR; (repeat' split) <;> omega) (by unfold zP; (repeat' split) <;> omega) (by unfold zS; (repeat' split) <;> omega) (by unfold zS; (repeat' split) <;> omega) (by unfold zD; (repeat' split) <;> omega) (by unfold zQ; (repeat' split) <;> omega))⟩ dX0_findRoots_83
    · skip
      refine g_iload_n C hl 1 rfl rfl dX0_findRoots_49 ?_
      refine g_if_ge C 64 dX0_findRoots_50 (by decide) (by omega) (fun c_13 => ?_) (fun c_13 => ?_)
      · skip
        refine g_iload C hl 0 rfl dX0_findRoots_64 ?_
        refine g_if_ne C 84 dX0_findRoots_66 (by decide) (by omega) (fun c_14 => ?_) (fun c_14 => ?_)
        · skip
          refine g_iload_n C hl 1 rfl rfl dX0_findRoots_84 ?_
          refine g_iload_n C hl 1 rfl rfl dX0_findRoots_85 ?_
          refine g_imul C dX0_findRoots_86 ?_
          refine g_iconst C dX0_findRoots_87 ?_
          refine g_iload_n C hl 2 rfl rfl dX0_findRoots_88 ?_
          refine g_imul C dX0_findRoots_89 ?_
          refine g_iload C hl 0 rfl dX0_findRoots_90 ?_
          refine g_imul C dX0_findRoots_92 ?_
          refine g_isub C dX0_findRoots_93 ?_
          refine g_nI (show (((ex ((pp * 3) + 1)) * (ex ((pp * 3) + 1))) - ((4 * (ex (pp * 3))) * (ex ((pp * 3) + 2))) : Int) = dsc E pp by unfold dsc; rw [x0, x1, x2]; grind) ?_
          refine g_istore C [(5, .int (iI (dsc E pp))), (4, .int (iI (ex ((pp * 3) + 2)))), (3, .int (iI (ex ((pp * 3) + 1)))), (2, .int (iI (ex (pp * 3)))), (0, .ref h), (1, .int (iI pp))] dX0_findRoots_94 hl (by decide) rfl ?_
          clear hl
          intro ls hl
          refine g_iload C hl 0 rfl dX0_findRoots_96 ?_
          refine g_if_ne C 114 dX0_findRoots_98 (by decide) (by omega) (fun c_15 => ?_) (fun c_15 => ?_)
          · skip
            refine g_iload C hl 0 rfl dX0_findRoots_114 ?_
            refine g_if_le C 147 dX0_findRoots_116 (by decide) (by omega) (fun c_16 => ?_) (fun c_16 => ?_)
            · skip
              exact g_vret C hr (ws' := [oX0 h a cn ul rw, cA G (a 1) 12 ex, cA G (a 2) 4 (up rt pp 0), cA G (a 3) 8 mi, cA G (a 4) 8 si, cA G (a 5) 8 un, cA G (a 6) 8 be]) hw [0, 1, 2, 3, 4, 5, 6] (by decide) rfl ⟨(up rt pp 0), mi, si, un, be, rfl, (by first | (exfalso; omega) | exact fR_0 (by unfold nR; (repeat' split) <;> omega) | exact fR_1 (by unfold nR; (repeat' split) <;> omega) (by unfold zP; (repeat' split) <;> omega) (by unfold zS; (repeat' split) <;> omega) (by unfold zD; (repeat' split) <;> omega) (by unfold zQ; (repeat' split) <;> omega) | exact fR_2 (by unfold nR; (repeat' split) <;> omega) (by unfold zP; (repeat' split) <;> omega) (by unfold zS; (repeat' split) <;> omega) (by unfold zS; (repeat' split) <;> omega) (by unfold zD; (repeat' split) <;> omega) (by unfold zQ; (repeat' split) <;> omega))⟩ dX0_findRoots_147
            · skip
              refine g_aload_n C hl 4 rfl rfl dX0_findRoots_119 ?_
              refine g_iload_n C hl 5 rfl rfl dX0_findRoots_120 ?_
              refine g_iload_n C hl 2 rfl rfl dX0_findRoots_121 ?_
              refine g_ineg C dX0_findRoots_122 ?_
              refine g_iconst C dX0_findRoots_123 ?_
              refine g_iload C hl 0 rfl dX0_findRoots_124 ?_
              refine g_iconst C dX0_findRoots_126 ?_
              refine g_iload C hl 1 rfl dX0_findRoots_127 ?_
              refine g_imul C dX0_findRoots_129 ?_
              refine g_callVv C hw (wr := [cA G (a 1) 12 ex]) (As := [.int (iI pp), .int (iI (-(ex ((pp * 3) + 1)))), .int (iI ((-1))), .int (iI (dsc E pp)), .int (iI (2 * (ex ((pp * 3) + 2))))]) (rest := []) (m_X0_keepRoot l D G (h := h) (a := a) (cn := cn) (ul := ul) (rw := rw) (rt := (up rt pp 0)) (mi := mi) (si := si) (un := un) (be := be) (r0 := 0) (pp := pp) (mm := (-(ex ((pp * 3) + 1)))) (ss := (-1)) (dd := (dsc E pp)) (ee := (2 * (ex ((pp * 3) + 2)))) (by first | assumption | omega) (by first | exact up_s | (exfalso; omega)) (by first | assumption | omega)) (cwV 5 C.1.2.2.2.2 gX0_findRoots_X0_keepRoot rfl rfl rfl (by decide +kernel) ⟨Nat.le_of_ble_eq_true rfl, Nat.le_of_ble_eq_true rfl⟩) [0, 2, 3, 4, 5, 6] [1] rfl rfl (by decide) (by decide) (by decide) 0 rfl rfl rfl hl.1 _ rfl (Nat.le_of_ble_eq_true rfl) dX0_findRoots_130 ⟨Nat.le_of_ble_eq_true rfl, Nat.le_of_ble_eq_true rfl⟩ ?_
              clear hw
              rintro _ H locs rfl hw
              have hw : gW D A s.heap [cA G (a 1) 12 ex, oX0 h a cn ul rw, cA G (a 2) 4 (up (up rt pp 0) pp (0 + 1)), cA G (a 3) 8 (up mi (pp * 2 + 0) (-(ex ((pp * 3) + 1)))), cA G (a 4) 8 (up si (pp * 2 + 0) (-1)), cA G (a 5) 8 (up un (pp * 2 + 0) (dsc E pp)), cA G (a 6) 8 (up be (pp * 2 + 0) (2 * (ex ((pp * 3) + 2))))] H locs := hw
              refine g_aload_n C hl 4 rfl rfl dX0_findRoots_133 ?_
              refine g_iload_n C hl 5 rfl rfl dX0_findRoots_134 ?_
              refine g_iload_n C hl 2 rfl rfl dX0_findRoots_135 ?_
              refine g_ineg C dX0_findRoots_136 ?_
              refine g_iconst C dX0_findRoots_137 ?_
              refine g_iload C hl 0 rfl dX0_findRoots_138 ?_
              refine g_iconst C dX0_findRoots_140 ?_
              refine g_iload C hl 1 rfl dX0_findRoots_141 ?_
              refine g_imul C dX0_findRoots_143 ?_
              refine g_callVv C hw (wr := [cA G (a 1) 12 ex]) (As := [.int (iI pp), .int (iI (-(ex ((pp * 3) + 1)))), .int (iI 1), .int (iI (dsc E pp)), .int (iI (2 * (ex ((pp * 3) + 2))))]) (rest := []) (m_X0_keepRoot l D G (h := h) (a := a) (cn := cn) (ul := ul) (rw := rw) (rt := (up (up rt pp 0) pp (0 + 1))) (mi := (up mi (pp * 2 + 0) (-(ex ((pp * 3) + 1))))) (si := (up si (pp * 2 + 0) (-1))) (un := (up un (pp * 2 + 0) (dsc E pp))) (be := (up be (pp * 2 + 0) (2 * (ex ((pp * 3) + 2))))) (r0 := 1) (pp := pp) (mm := (-(ex ((pp * 3) + 1)))) (ss := 1) (dd := (dsc E pp)) (ee := (2 * (ex ((pp * 3) + 2)))) (by first | assumption | omega) (by first | exact up_s | (exfalso; omega)) (by first | assumption | omega)) (cwV 5 C.1.2.2.2.2 gX0_findRoots_X0_keepRoot rfl rfl rfl (by decide +kernel) ⟨Nat.le_of_ble_eq_true rfl, Nat.le_of_ble_eq_true rfl⟩) [1, 2, 3, 4, 5, 6] [0] rfl rfl (by decide) (by decide) (by decide) 0 rfl rfl rfl hl.1 _ rfl (Nat.le_of_ble_eq_true rfl) dX0_findRoots_144 ⟨Nat.le_of_ble_eq_true rfl, Nat.le_of_ble_eq_true rfl⟩ ?_
              clear hw
              rintro _ H locs rfl hw
              have hw : gW D A s.heap [cA G (a 1) 12 ex, oX0 h a cn ul rw, cA G (a 2) 4 (up (up (up rt pp 0) pp (0 + 1)) pp (1 + 1)), cA G (a 3) 8 (up (up mi (pp * 2 + 0) (-(ex ((pp * 3) + 1)))) (pp * 2 + 1) (-(ex ((pp * 3) + 1)))), cA G (a 4) 8 (up (up si (pp * 2 + 0) (-1)) (pp * 2 + 1) 1), cA G (a 5) 8 (up (up un (pp * 2 + 0) (dsc E pp)) (pp * 2 + 1) (dsc E pp)), cA G (a 6) 8 (up (up be (pp * 2 + 0) (2 * (ex ((pp * 3) + 2)))) (pp * 2 + 1) (2 * (ex ((pp * 3) + 2))))] H locs := hw
              exact g_vret C hr (ws' := [oX0 h a cn ul rw, cA G (a 1) 12 ex, cA G (a 2) 4 (up (up (up rt pp 0) pp (0 + 1)) pp (1 + 1)), cA G (a 3) 8 (up (up mi (pp * 2 + 0) (-(ex ((pp * 3) + 1)))) (pp * 2 + 1) (-(ex ((pp * 3) + 1)))), cA G (a 4) 8 (up (up si (pp * 2 + 0) (-1)) (pp * 2 + 1) 1), cA G (a 5) 8 (up (up un (pp * 2 + 0) (dsc E pp)) (pp * 2 + 1) (dsc E pp)), cA G (a 6) 8 (up (up be (pp * 2 + 0) (2 * (ex ((pp * 3) + 2)))) (pp * 2 + 1) (2 * (ex ((pp * 3) + 2))))]) hw [1, 0, 2, 3, 4, 5, 6] (by decide) rfl ⟨(up (up (up rt pp 0) pp (0 + 1)) pp (1 + 1)), (up (up mi (pp * 2 + 0) (-(ex ((pp * 3) + 1)))) (pp * 2 + 1) (-(ex ((pp * 3) + 1)))), (up (up si (pp * 2 + 0) (-1)) (pp * 2 + 1) 1), (up (up un (pp * 2 + 0) (dsc E pp)) (pp * 2 + 1) (dsc E pp)), (up (up be (pp * 2 + 0) (2 * (ex ((pp * 3) + 2)))) (pp * 2 + 1) (2 * (ex ((pp * 3) + 2)))), rfl, (by first | (exfalso; omega) | exact fR_0 (by unfold nR; (repeat' split) <;> omega) | exact fR_1 (by unfold nR; (repeat' split) <;> omega) (by unfold zP; (repeat' split) <;> omega) (by unfold zS; (repeat' split) <;> omega) (by unfold zD; (repeat' split) <;> omega) (by unfold zQ; (repeat' split) <;> omega) | exact fR_2 (by unfold nR; (repeat' split) <;> omega) (by unfold zP; (repeat' split) <;> omega) (by unfold zS; (repeat' split) <;> omega) (by unfold zS; (repeat' split) <;> omega) (by unfold zD; (repeat' split) <;> omega) (by unfold zQ; (repeat' split) <;> omega))⟩ dX0_findRoots_147
          · skip
            refine g_aload_n C hl 4 rfl rfl dX0_findRoots_101 ?_
            refine g_iload_n C hl 5 rfl rfl dX0_findRoots_102 ?_
            refine g_iload_n C hl 2 rfl rfl dX0_findRoots_103 ?_
            refine g_ineg C dX0_findRoots_104 ?_
            refine g_iconst C dX0_findRoots_105 ?_
            refine g_iconst C dX0_findRoots_106 ?_
            refine g_iconst C dX0_findRoots_107 ?_
            refine g_iload C hl 1 rfl dX0_findRoots_108 ?_
            refine g_imul C dX0_findRoots_110 ?_
            refine g_callVv C hw (wr := [cA G (a 1) 12 ex]) (As := [.int (iI pp), .int (iI (-(ex ((pp * 3) + 1)))), .int (iI 0), .int (iI 0), .int (iI (2 * (ex ((pp * 3) + 2))))]) (rest := []) (m_X0_keepRoot l D G (h := h) (a := a) (cn := cn) (ul := ul) (rw := rw) (rt := (up rt pp 0)) (mi := mi) (si := si) (un := un) (be := be) (r0 := 0) (pp := pp) (mm := (-(ex ((pp * 3) + 1)))) (ss := 0) (dd := 0) (ee := (2 * (ex ((pp * 3) + 2)))) (by first | assumption | omega) (by first | exact up_s | (exfalso; omega)) (by first | assumption | omega)) (cwV 5 C.1.2.2.2.2 gX0_findRoots_X0_keepRoot rfl rfl rfl (by decide +kernel) ⟨Nat.le_of_ble_eq_true rfl, Nat.le_of_ble_eq_true rfl⟩) [0, 2, 3, 4, 5, 6] [1] rfl rfl (by decide) (by decide) (by decide) 0 rfl rfl rfl hl.1 _ rfl (Nat.le_of_ble_eq_true rfl) dX0_findRoots_111 ⟨Nat.le_of_ble_eq_true rfl, Nat.le_of_ble_eq_true rfl⟩ ?_
            clear hw
            rintro _ H locs rfl hw
            have hw : gW D A s.heap [cA G (a 1) 12 ex, oX0 h a cn ul rw, cA G (a 2) 4 (up (up rt pp 0) pp (0 + 1)), cA G (a 3) 8 (up mi (pp * 2 + 0) (-(ex ((pp * 3) + 1)))), cA G (a 4) 8 (up si (pp * 2 + 0) 0), cA G (a 5) 8 (up un (pp * 2 + 0) 0), cA G (a 6) 8 (up be (pp * 2 + 0) (2 * (ex ((pp * 3) + 2))))] H locs := hw
            refine g_iload C hl 0 rfl dX0_findRoots_114 ?_
            refine g_if_le C 147 dX0_findRoots_116 (by decide) (by omega) (fun c_17 => ?_) (fun c_17 => ?_)
            · skip
              exact g_vret C hr (ws' := [oX0 h a cn ul rw, cA G (a 1) 12 ex, cA G (a 2) 4 (up (up rt pp 0) pp (0 + 1)), cA G (a 3) 8 (up mi (pp * 2 + 0) (-(ex ((pp * 3) + 1)))), cA G (a 4) 8 (up si (pp * 2 + 0) 0), cA G (a 5) 8 (up un (pp * 2 + 0) 0), cA G (a 6) 8 (up be (pp * 2 + 0) (2 * (ex ((pp * 3) + 2))))]) hw [1, 0, 2, 3, 4, 5, 6] (by decide) rfl ⟨(up (up rt pp 0) pp (0 + 1)), (up mi (pp * 2 + 0) (-(ex ((pp * 3) + 1)))), (up si (pp * 2 + 0) 0), (up un (pp * 2 + 0) 0), (up be (pp * 2 + 0) (2 * (ex ((pp * 3) + 2)))), rfl, (by first | (exfalso; omega) | exact fR_0 (by unfold nR; (repeat' split) <;> omega) | exact fR_1 (by unfold nR; (repeat' split) <;> omega) (by unfold zP; (repeat' split) <;> omega) (by unfold zS; (repeat' split) <;> omega) (by unfold zD; (repeat' split) <;> omega) (by unfold zQ; (repeat' split) <;> omega) | exact fR_2 (by unfold nR; (repeat' split) <;> omega) (by unfold zP; (repeat' split) <;> omega) (by unfold zS; (repeat' split) <;> omega) (by unfold zS; (repeat' split) <;> omega) (by unfold zD; (repeat' split) <;> omega) (by unfold zQ; (repeat' split) <;> omega))⟩ dX0_findRoots_147
            · skip
              refine g_aload_n C hl 4 rfl rfl dX0_findRoots_119 ?_
              refine g_iload_n C hl 5 rfl rfl dX0_findRoots_120 ?_
              refine g_iload_n C hl 2 rfl rfl dX0_findRoots_121 ?_
              refine g_ineg C dX0_findRoots_122 ?_
              refine g_iconst C dX0_findRoots_123 ?_
              refine g_iload C hl 0 rfl dX0_findRoots_124 ?_
              refine g_iconst C dX0_findRoots_126 ?_
              refine g_iload C hl 1 rfl dX0_findRoots_127 ?_
              refine g_imul C dX0_findRoots_129 ?_
              refine g_callVv C hw (wr := [cA G (a 1) 12 ex]) (As := [.int (iI pp), .int (iI (-(ex ((pp * 3) + 1)))), .int (iI ((-1))), .int (iI (dsc E pp)), .int (iI (2 * (ex ((pp * 3) + 2))))]) (rest := []) (m_X0_keepRoot l D G (h := h) (a := a) (cn := cn) (ul := ul) (rw := rw) (rt := (up (up rt pp 0) pp (0 + 1))) (mi := (up mi (pp * 2 + 0) (-(ex ((pp * 3) + 1))))) (si := (up si (pp * 2 + 0) 0)) (un := (up un (pp * 2 + 0) 0)) (be := (up be (pp * 2 + 0) (2 * (ex ((pp * 3) + 2))))) (r0 := 0) (pp := pp) (mm := (-(ex ((pp * 3) + 1)))) (ss := (-1)) (dd := (dsc E pp)) (ee := (2 * (ex ((pp * 3) + 2)))) (by first | assumption | omega) (by first | exact up_s | (exfalso; omega)) (by first | assumption | omega)) (cwV 5 C.1.2.2.2.2 gX0_findRoots_X0_keepRoot rfl rfl rfl (by decide +kernel) ⟨Nat.le_of_ble_eq_true rfl, Nat.le_of_ble_eq_true rfl⟩) [1, 2, 3, 4, 5, 6] [0] rfl rfl (by decide) (by decide) (by decide) 0 rfl rfl rfl hl.1 _ rfl (Nat.le_of_ble_eq_true rfl) dX0_findRoots_130 ⟨Nat.le_of_ble_eq_true rfl, Nat.le_of_ble_eq_true rfl⟩ ?_
              clear hw
              rintro _ H locs rfl hw
              have hw : gW D A s.heap [cA G (a 1) 12 ex, oX0 h a cn ul rw, cA G (a 2) 4 (up (up (up rt pp 0) pp (0 + 1)) pp (0 + 1)), cA G (a 3) 8 (up (up mi (pp * 2 + 0) (-(ex ((pp * 3) + 1)))) (pp * 2 + 0) (-(ex ((pp * 3) + 1)))), cA G (a 4) 8 (up (up si (pp * 2 + 0) 0) (pp * 2 + 0) (-1)), cA G (a 5) 8 (up (up un (pp * 2 + 0) 0) (pp * 2 + 0) (dsc E pp)), cA G (a 6) 8 (up (up be (pp * 2 + 0) (2 * (ex ((pp * 3) + 2)))) (pp * 2 + 0) (2 * (ex ((pp * 3) + 2))))] H locs := hw
              refine g_aload_n C hl 4 rfl rfl dX0_findRoots_133 ?_
              refine g_iload_n C hl 5 rfl rfl dX0_findRoots_134 ?_
              refine g_iload_n C hl 2 rfl rfl dX0_findRoots_135 ?_
              refine g_ineg C dX0_findRoots_136 ?_
              refine g_iconst C dX0_findRoots_137 ?_
              refine g_iload C hl 0 rfl dX0_findRoots_138 ?_
              refine g_iconst C dX0_findRoots_140 ?_
              refine g_iload C hl 1 rfl dX0_findRoots_141 ?_
              refine g_imul C dX0_findRoots_143 ?_
              refine g_callVv C hw (wr := [cA G (a 1) 12 ex]) (As := [.int (iI pp), .int (iI (-(ex ((pp * 3) + 1)))), .int (iI 1), .int (iI (dsc E pp)), .int (iI (2 * (ex ((pp * 3) + 2))))]) (rest := []) (m_X0_keepRoot l D G (h := h) (a := a) (cn := cn) (ul := ul) (rw := rw) (rt := (up (up (up rt pp 0) pp (0 + 1)) pp (0 + 1))) (mi := (up (up mi (pp * 2 + 0) (-(ex ((pp * 3) + 1)))) (pp * 2 + 0) (-(ex ((pp * 3) + 1))))) (si := (up (up si (pp * 2 + 0) 0) (pp * 2 + 0) (-1))) (un := (up (up un (pp * 2 + 0) 0) (pp * 2 + 0) (dsc E pp))) (be := (up (up be (pp * 2 + 0) (2 * (ex ((pp * 3) + 2)))) (pp * 2 + 0) (2 * (ex ((pp * 3) + 2))))) (r0 := 1) (pp := pp) (mm := (-(ex ((pp * 3) + 1)))) (ss := 1) (dd := (dsc E pp)) (ee := (2 * (ex ((pp * 3) + 2)))) (by first | assumption | omega) (by first | exact up_s | (exfalso; omega)) (by first | assumption | omega)) (cwV 5 C.1.2.2.2.2 gX0_findRoots_X0_keepRoot rfl rfl rfl (by decide +kernel) ⟨Nat.le_of_ble_eq_true rfl, Nat.le_of_ble_eq_true rfl⟩) [1, 2, 3, 4, 5, 6] [0] rfl rfl (by decide) (by decide) (by decide) 0 rfl rfl rfl hl.1 _ rfl (Nat.le_of_ble_eq_true rfl) dX0_findRoots_144 ⟨Nat.le_of_ble_eq_true rfl, Nat.le_of_ble_eq_true rfl⟩ ?_
              clear hw
              rintro _ H locs rfl hw
              have hw : gW D A s.heap [cA G (a 1) 12 ex, oX0 h a cn ul rw, cA G (a 2) 4 (up (up (up (up rt pp 0) pp (0 + 1)) pp (0 + 1)) pp (1 + 1)), cA G (a 3) 8 (up (up (up mi (pp * 2 + 0) (-(ex ((pp * 3) + 1)))) (pp * 2 + 0) (-(ex ((pp * 3) + 1)))) (pp * 2 + 1) (-(ex ((pp * 3) + 1)))), cA G (a 4) 8 (up (up (up si (pp * 2 + 0) 0) (pp * 2 + 0) (-1)) (pp * 2 + 1) 1), cA G (a 5) 8 (up (up (up un (pp * 2 + 0) 0) (pp * 2 + 0) (dsc E pp)) (pp * 2 + 1) (dsc E pp)), cA G (a 6) 8 (up (up (up be (pp * 2 + 0) (2 * (ex ((pp * 3) + 2)))) (pp * 2 + 0) (2 * (ex ((pp * 3) + 2)))) (pp * 2 + 1) (2 * (ex ((pp * 3) + 2))))] H locs := hw
              exact g_vret C hr (ws' := [oX0 h a cn ul rw, cA G (a 1) 12 ex, cA G (a 2) 4 (up (up (up (up rt pp 0) pp (0 + 1)) pp (0 + 1)) pp (1 + 1)), cA G (a 3) 8 (up (up (up mi (pp * 2 + 0) (-(ex ((pp * 3) + 1)))) (pp * 2 + 0) (-(ex ((pp * 3) + 1)))) (pp * 2 + 1) (-(ex ((pp * 3) + 1)))), cA G (a 4) 8 (up (up (up si (pp * 2 + 0) 0) (pp * 2 + 0) (-1)) (pp * 2 + 1) 1), cA G (a 5) 8 (up (up (up un (pp * 2 + 0) 0) (pp * 2 + 0) (dsc E pp)) (pp * 2 + 1) (dsc E pp)), cA G (a 6) 8 (up (up (up be (pp * 2 + 0) (2 * (ex ((pp * 3) + 2)))) (pp * 2 + 0) (2 * (ex ((pp * 3) + 2)))) (pp * 2 + 1) (2 * (ex ((pp * 3) + 2))))]) hw [1, 0, 2, 3, 4, 5, 6] (by decide) rfl ⟨(up (up (up (up rt pp 0) pp (0 + 1)) pp (0 + 1)) pp (1 + 1)), (up (up (up mi (pp * 2 + 0) (-(ex ((pp * 3) + 1)))) (pp * 2 + 0) (-(ex ((pp * 3) + 1)))) (pp * 2 + 1) (-(ex ((pp * 3) + 1)))), (up (up (up si (pp * 2 + 0) 0) (pp * 2 + 0) (-1)) (pp * 2 + 1) 1), (up (up (up un (pp * 2 + 0) 0) (pp * 2 + 0) (dsc E pp)) (pp * 2 + 1) (dsc E pp)), (up (up (up be (pp * 2 + 0) (2 * (ex ((pp * 3) + 2)))) (pp * 2 + 0) (2 * (ex ((pp * 3) + 2)))) (pp * 2 + 1) (2 * (ex ((pp * 3) + 2)))), rfl, (by first | (exfalso; omega) | exact fR_0 (by unfold nR; (repeat' split) <;> omega) | exact fR_1 (by unfold nR; (repeat' split) <;> omega) (by unfold zP; (repeat' split) <;> omega) (by unfold zS; (repeat' split) <;> omega) (by unfold zD; (repeat' split) <;> omega) (by unfold zQ; (repeat' split) <;> omega) | exact fR_2 (by unfold nR; (repeat' split) <;> omega) (by unfold zP; (repeat' split) <;> omega) (by unfold zS; (repeat' split) <;> omega) (by unfold zS; (repeat' split) <;> omega) (by unfold zD; (repeat' split) <;> omega) (by unfold zQ; (repeat' split) <;> omega))⟩ dX0_findRoots_147
        · skip
          refine g_iload_n C hl 1 rfl rfl dX0_findRoots_69 ?_
          refine g_if_le C 83 dX0_findRoots_70 (by decide) (by omega) (fun c_18 => ?_) (fun c_18 => ?_)
          · skip
            exact g_vret C hr (ws' := [oX0 h a cn ul rw, cA G (a 1) 12 ex, cA G (a 2) 4 (up rt pp 0), cA G (a 3) 8 mi, cA G (a 4) 8 si, cA G (a 5) 8 un, cA G (a 6) 8 be]) hw [0, 1, 2, 3, 4, 5, 6] (by decide) rfl ⟨(up rt pp 0), mi, si, un, be, rfl, (by first | (exfalso; omega) | exact fR_0 (by unfold nR; (repeat' split) <;> omega) | exact fR_1 (by unfold nR; (repeat' split) <;> omega) (by unfold zP; (repeat' split) <;> omega) (by unfold zS; (repeat' split) <;> omega) (by unfold zD; (repeat' split) <;> omega) (by unfold zQ; (repeat' split) <;> omega) | exact fR_2 (by unfold nR; (repeat' split) <;> omega) (by unfold zP; (repeat' split) <;> omega) (by unfold zS; (repeat' split) <;> omega) (by unfold zS; (repeat' split) <;> omega) (by unfold zD; (repeat' split) <;> omega) (by unfold zQ; (repeat' split) <;> omega))⟩ dX0_findRoots_83
          · skip
            refine g_aload_n C hl 3 rfl rfl dX0_findRoots_73 ?_
            refine g_iload_n C hl 4 rfl rfl dX0_findRoots_74 ?_
            refine g_iload_n C hl 2 rfl rfl dX0_findRoots_75 ?_
            refine g_ineg C dX0_findRoots_76 ?_
            refine g_iconst C dX0_findRoots_77 ?_
            refine g_iconst C dX0_findRoots_78 ?_
            refine g_iload_n C hl 1 rfl rfl dX0_findRoots_79 ?_
            refine g_callVv C hw (wr := [cA G (a 1) 12 ex]) (As := [.int (iI pp), .int (iI (-(ex (pp * 3)))), .int (iI 0), .int (iI 0), .int (iI (ex ((pp * 3) + 1)))]) (rest := []) (m_X0_keepRoot l D G (h := h) (a := a) (cn := cn) (ul := ul) (rw := rw) (rt := (up rt pp 0)) (mi := mi) (si := si) (un := un) (be := be) (r0 := 0) (pp := pp) (mm := (-(ex (pp * 3)))) (ss := 0) (dd := 0) (ee := (ex ((pp * 3) + 1))) (by first | assumption | omega) (by first | exact up_s | (exfalso; omega)) (by first | assumption | omega)) (cwV 5 C.1.2.2.2.2 gX0_findRoots_X0_keepRoot rfl rfl rfl (by decide +kernel) ⟨Nat.le_of_ble_eq_true rfl, Nat.le_of_ble_eq_true rfl⟩) [0, 2, 3, 4, 5, 6] [1] rfl rfl (by decide) (by decide) (by decide) 0 rfl rfl rfl hl.1 _ rfl (Nat.le_of_ble_eq_true rfl) dX0_findRoots_80 ⟨Nat.le_of_ble_eq_true rfl, Nat.le_of_ble_eq_true rfl⟩ ?_
            clear hw
            rintro _ H locs rfl hw
            have hw : gW D A s.heap [cA G (a 1) 12 ex, oX0 h a cn ul rw, cA G (a 2) 4 (up (up rt pp 0) pp (0 + 1)), cA G (a 3) 8 (up mi (pp * 2 + 0) (-(ex (pp * 3)))), cA G (a 4) 8 (up si (pp * 2 + 0) 0), cA G (a 5) 8 (up un (pp * 2 + 0) 0), cA G (a 6) 8 (up be (pp * 2 + 0) (ex ((pp * 3) + 1)))] H locs := hw
            exact g_vret C hr (ws' := [oX0 h a cn ul rw, cA G (a 1) 12 ex, cA G (a 2) 4 (up (up rt pp 0) pp (0 + 1)), cA G (a 3) 8 (up mi (pp * 2 + 0) (-(ex (pp * 3)))), cA G (a 4) 8 (up si (pp * 2 + 0) 0), cA G (a 5) 8 (up un (pp * 2 + 0) 0), cA G (a 6) 8 (up be (pp * 2 + 0) (ex ((pp * 3) + 1)))]) hw [1, 0, 2, 3, 4, 5, 6] (by decide) rfl ⟨(up (up rt pp 0) pp (0 + 1)), (up mi (pp * 2 + 0) (-(ex (pp * 3)))), (up si (pp * 2 + 0) 0), (up un (pp * 2 + 0) 0), (up be (pp * 2 + 0) (ex ((pp * 3) + 1))), rfl, (by first | (exfalso; omega) | exact fR_0 (by unfold nR; (repeat' split) <;> omega) | exact fR_1 (by unfold nR; (repeat' split) <;> omega) (by unfold zP; (repeat' split) <;> omega) (by unfold zS; (repeat' split) <;> omega) (by unfold zD; (repeat' split) <;> omega) (by unfold zQ; (repeat' split) <;> omega) | exact fR_2 (by unfold nR; (repeat' split) <;> omega) (by unfold zP; (repeat' split) <;> omega) (by unfold zS; (repeat' split) <;> omega) (by unfold zS; (repeat' split) <;> omega) (by unfold zD; (repeat' split) <;> omega) (by unfold zQ; (repeat' split) <;> omega))⟩ dX0_findRoots_83
      · skip
        refine g_iload_n C hl 2 rfl rfl dX0_findRoots_53 ?_
        refine g_ineg C dX0_findRoots_54 ?_
        refine g_istore_n C [(2, .int (iI (-(ex (pp * 3))))), (4, .int (iI (ex ((pp * 3) + 2)))), (3, .int (iI (ex ((pp * 3) + 1)))), (0, .ref h), (1, .int (iI pp))] dX0_findRoots_55 rfl hl (by decide) rfl ?_
        clear hl
        intro ls hl
        refine g_iload_n C hl 2 rfl rfl dX0_findRoots_56 ?_
        refine g_ineg C dX0_findRoots_57 ?_
        refine g_istore_n C [(3, .int (iI (-(ex ((pp * 3) + 1))))), (2, .int (iI (-(ex (pp * 3))))), (4, .int (iI (ex ((pp * 3) + 2)))), (0, .ref h), (1, .int (iI pp))] dX0_findRoots_58 rfl hl (by decide) rfl ?_
        clear hl
        intro ls hl
        refine g_iload C hl 2 rfl dX0_findRoots_59 ?_
        refine g_ineg C dX0_findRoots_61 ?_
        refine g_istore C [(4, .int (iI (-(ex ((pp * 3) + 2))))), (3, .int (iI (-(ex ((pp * 3) + 1))))), (2, .int (iI (-(ex (pp * 3))))), (0, .ref h), (1, .int (iI pp))] dX0_findRoots_62 hl (by decide) rfl ?_
        clear hl
        intro ls hl
        refine g_iload C hl 0 rfl dX0_findRoots_64 ?_
        refine g_if_ne C 84 dX0_findRoots_66 (by decide) (by omega) (fun c_19 => ?_) (fun c_19 => ?_)
        · skip
          refine g_iload_n C hl 1 rfl rfl dX0_findRoots_84 ?_
          refine g_iload_n C hl 1 rfl rfl dX0_findRoots_85 ?_
          refine g_imul C dX0_findRoots_86 ?_
          refine g_iconst C dX0_findRoots_87 ?_
          refine g_iload_n C hl 2 rfl rfl dX0_findRoots_88 ?_
          refine g_imul C dX0_findRoots_89 ?_
          refine g_iload C hl 0 rfl dX0_findRoots_90 ?_
          refine g_imul C dX0_findRoots_92 ?_
          refine g_isub C dX0_findRoots_93 ?_
          refine g_nI (show (((-(ex ((pp * 3) + 1))) * (-(ex ((pp * 3) + 1)))) - ((4 * (-(ex (pp * 3)))) * (-(ex ((pp * 3) + 2)))) : Int) = dsc E pp by unfold dsc; rw [x0, x1, x2]; grind) ?_
          refine g_istore C [(5, .int (iI (dsc E pp))), (4, .int (iI (-(ex ((pp * 3) + 2))))), (3, .int (iI (-(ex ((pp * 3) + 1))))), (2, .int (iI (-(ex (pp * 3))))), (0, .ref h), (1, .int (iI pp))] dX0_findRoots_94 hl (by decide) rfl ?_
          clear hl
          intro ls hl
          refine g_iload C hl 0 rfl dX0_findRoots_96 ?_
          refine g_if_ne C 114 dX0_findRoots_98 (by decide) (by omega) (fun c_20 => ?_) (fun c_20 => ?_)
          · skip
            refine g_iload C hl 0 rfl dX0_findRoots_114 ?_
            refine g_if_le C 147 dX0_findRoots_116 (by decide) (by omega) (fun c_21 => ?_) (fun c_21 => ?_)
            · skip
              exact g_vret C hr (ws' := [oX0 h a cn ul rw, cA G (a 1) 12 ex, cA G (a 2) 4 (up rt pp 0), cA G (a 3) 8 mi, cA G (a 4) 8 si, cA G (a 5) 8 un, cA G (a 6) 8 be]) hw [0, 1, 2, 3, 4, 5, 6] (by decide) rfl ⟨(up rt pp 0), mi, si, un, be, rfl, (by first | (exfalso; omega) | exact fR_0 (by unfold nR; (repeat' split) <;> omega) | exact fR_1 (by unfold nR; (repeat' split) <;> omega) (by unfold zP; (repeat' split) <;> omega) (by unfold zS; (repeat' split) <;> omega) (by unfold zD; (repeat' split) <;> omega) (by unfold zQ; (repeat' split) <;> omega) | exact fR_2 (by unfold nR; (repeat' split) <;> omega) (by unfold zP; (repeat' split) <;> omega) (by unfold zS; (repeat' split) <;> omega) (by unfold zS; (repeat' split) <;> omega) (by unfold zD; (repeat' split) <;> omega) (by unfold zQ; (repeat' split) <;> omega))⟩ dX0_findRoots_147
            · skip
              refine g_aload_n C hl 4 rfl rfl dX0_findRoots_119 ?_
              refine g_iload_n C hl 5 rfl rfl dX0_findRoots_120 ?_
              refine g_iload_n C hl 2 rfl rfl dX0_findRoots_121 ?_
              refine g_ineg C dX0_findRoots_122 ?_
              refine g_iconst C dX0_findRoots_123 ?_
              refine g_iload C hl 0 rfl dX0_findRoots_124 ?_
              refine g_iconst C dX0_findRoots_126 ?_
              refine g_iload C hl 1 rfl dX0_findRoots_127 ?_
              refine g_imul C dX0_findRoots_129 ?_
              refine g_callVv C hw (wr := [cA G (a 1) 12 ex]) (As := [.int (iI pp), .int (iI (-(-(ex ((pp * 3) + 1))))), .int (iI ((-1))), .int (iI (dsc E pp)), .int (iI (2 * (-(ex ((pp * 3) + 2)))))]) (rest := []) (m_X0_keepRoot l D G (h := h) (a := a) (cn := cn) (ul := ul) (rw := rw) (rt := (up rt pp 0)) (mi := mi) (si := si) (un := un) (be := be) (r0 := 0) (pp := pp) (mm := (-(-(ex ((pp * 3) + 1))))) (ss := (-1)) (dd := (dsc E pp)) (ee := (2 * (-(ex ((pp * 3) + 2))))) (by first | assumption | omega) (by first | exact up_s | (exfalso; omega)) (by first | assumption | omega)) (cwV 5 C.1.2.2.2.2 gX0_findRoots_X0_keepRoot rfl rfl rfl (by decide +kernel) ⟨Nat.le_of_ble_eq_true rfl, Nat.le_of_ble_eq_true rfl⟩) [0, 2, 3, 4, 5, 6] [1] rfl rfl (by decide) (by decide) (by decide) 0 rfl rfl rfl hl.1 _ rfl (Nat.le_of_ble_eq_true rfl) dX0_findRoots_130 ⟨Nat.le_of_ble_eq_true rfl, Nat.le_of_ble_eq_true rfl⟩ ?_
              clear hw
              rintro _ H locs rfl hw
              have hw : gW D A s.heap [cA G (a 1) 12 ex, oX0 h a cn ul rw, cA G (a 2) 4 (up (up rt pp 0) pp (0 + 1)), cA G (a 3) 8 (up mi (pp * 2 + 0) (-(-(ex ((pp * 3) + 1))))), cA G (a 4) 8 (up si (pp * 2 + 0) (-1)), cA G (a 5) 8 (up un (pp * 2 + 0) (dsc E pp)), cA G (a 6) 8 (up be (pp * 2 + 0) (2 * (-(ex ((pp * 3) + 2)))))] H locs := hw
              refine g_aload_n C hl 4 rfl rfl dX0_findRoots_133 ?_
              refine g_iload_n C hl 5 rfl rfl dX0_findRoots_134 ?_
              refine g_iload_n C hl 2 rfl rfl dX0_findRoots_135 ?_
              refine g_ineg C dX0_findRoots_136 ?_
              refine g_iconst C dX0_findRoots_137 ?_
              refine g_iload C hl 0 rfl dX0_findRoots_138 ?_
              refine g_iconst C dX0_findRoots_140 ?_
              refine g_iload C hl 1 rfl dX0_findRoots_141 ?_
              refine g_imul C dX0_findRoots_143 ?_
              refine g_callVv C hw (wr := [cA G (a 1) 12 ex]) (As := [.int (iI pp), .int (iI (-(-(ex ((pp * 3) + 1))))), .int (iI 1), .int (iI (dsc E pp)), .int (iI (2 * (-(ex ((pp * 3) + 2)))))]) (rest := []) (m_X0_keepRoot l D G (h := h) (a := a) (cn := cn) (ul := ul) (rw := rw) (rt := (up (up rt pp 0) pp (0 + 1))) (mi := (up mi (pp * 2 + 0) (-(-(ex ((pp * 3) + 1)))))) (si := (up si (pp * 2 + 0) (-1))) (un := (up un (pp * 2 + 0) (dsc E pp))) (be := (up be (pp * 2 + 0) (2 * (-(ex ((pp * 3) + 2)))))) (r0 := 1) (pp := pp) (mm := (-(-(ex ((pp * 3) + 1))))) (ss := 1) (dd := (dsc E pp)) (ee := (2 * (-(ex ((pp * 3) + 2))))) (by first | assumption | omega) (by first | exact up_s | (exfalso; omega)) (by first | assumption | omega)) (cwV 5 C.1.2.2.2.2 gX0_findRoots_X0_keepRoot rfl rfl rfl (by decide +kernel) ⟨Nat.le_of_ble_eq_true rfl, Nat.le_of_ble_eq_true rfl⟩) [1, 2, 3, 4, 5, 6] [0] rfl rfl (by decide) (by decide) (by decide) 0 rfl rfl rfl hl.1 _ rfl (Nat.le_of_ble_eq_true rfl) dX0_findRoots_144 ⟨Nat.le_of_ble_eq_true rfl, Nat.le_of_ble_eq_true rfl⟩ ?_
              clear hw
              rintro _ H locs rfl hw
              have hw : gW D A s.heap [cA G (a 1) 12 ex, oX0 h a cn ul rw, cA G (a 2) 4 (up (up (up rt pp 0) pp (0 + 1)) pp (1 + 1)), cA G (a 3) 8 (up (up mi (pp * 2 + 0) (-(-(ex ((pp * 3) + 1))))) (pp * 2 + 1) (-(-(ex ((pp * 3) + 1))))), cA G (a 4) 8 (up (up si (pp * 2 + 0) (-1)) (pp * 2 + 1) 1), cA G (a 5) 8 (up (up un (pp * 2 + 0) (dsc E pp)) (pp * 2 + 1) (dsc E pp)), cA G (a 6) 8 (up (up be (pp * 2 + 0) (2 * (-(ex ((pp * 3) + 2))))) (pp * 2 + 1) (2 * (-(ex ((pp * 3) + 2)))))] H locs := hw
              exact g_vret C hr (ws' := [oX0 h a cn ul rw, cA G (a 1) 12 ex, cA G (a 2) 4 (up (up (up rt pp 0) pp (0 + 1)) pp (1 + 1)), cA G (a 3) 8 (up (up mi (pp * 2 + 0) (-(-(ex ((pp * 3) + 1))))) (pp * 2 + 1) (-(-(ex ((pp * 3) + 1))))), cA G (a 4) 8 (up (up si (pp * 2 + 0) (-1)) (pp * 2 + 1) 1), cA G (a 5) 8 (up (up un (pp * 2 + 0) (dsc E pp)) (pp * 2 + 1) (dsc E pp)), cA G (a 6) 8 (up (up be (pp * 2 + 0) (2 * (-(ex ((pp * 3) + 2))))) (pp * 2 + 1) (2 * (-(ex ((pp * 3) + 2)))))]) hw [1, 0, 2, 3, 4, 5, 6] (by decide) rfl ⟨(up (up (up rt pp 0) pp (0 + 1)) pp (1 + 1)), (up (up mi (pp * 2 + 0) (-(-(ex ((pp * 3) + 1))))) (pp * 2 + 1) (-(-(ex ((pp * 3) + 1))))), (up (up si (pp * 2 + 0) (-1)) (pp * 2 + 1) 1), (up (up un (pp * 2 + 0) (dsc E pp)) (pp * 2 + 1) (dsc E pp)), (up (up be (pp * 2 + 0) (2 * (-(ex ((pp * 3) + 2))))) (pp * 2 + 1) (2 * (-(ex ((pp * 3) + 2))))), rfl, (by first | (exfalso; omega) | exact fR_0 (by unfold nR; (repeat' split) <;> omega) | exact fR_1 (by unfold nR; (repeat' split) <;> omega) (by unfold zP; (repeat' split) <;> omega) (by unfold zS; (repeat' split) <;> omega) (by unfold zD; (repeat' split) <;> omega) (by unfold zQ; (repeat' split) <;> omega) | exact fR_2 (by unfold nR; (repeat' split) <;> omega) (by unfold zP; (repeat' split) <;> omega) (by unfold zS; (repeat' split) <;> omega) (by unfold zS; (repeat' split) <;> omega) (by unfold zD; (repeat' split) <;> omega) (by unfold zQ; (repeat' split) <;> omega))⟩ dX0_findRoots_147
          · skip
            refine g_aload_n C hl 4 rfl rfl dX0_findRoots_101 ?_
            refine g_iload_n C hl 5 rfl rfl dX0_findRoots_102 ?_
            refine g_iload_n C hl 2 rfl rfl dX0_findRoots_103 ?_
            refine g_ineg C dX0_findRoots_104 ?_
            refine g_iconst C dX0_findRoots_105 ?_
            refine g_iconst C dX0_findRoots_106 ?_
            refine g_iconst C dX0_findRoots_107 ?_
            refine g_iload C hl 1 rfl dX0_findRoots_108 ?_
            refine g_imul C dX0_findRoots_110 ?_
            refine g_callVv C hw (wr := [cA G (a 1) 12 ex]) (As := [.int (iI pp), .int (iI (-(-(ex ((pp * 3) + 1))))), .int (iI 0), .int (iI 0), .int (iI (2 * (-(ex ((pp * 3) + 2)))))]) (rest := []) (m_X0_keepRoot l D G (h := h) (a := a) (cn := cn) (ul := ul) (rw := rw) (rt := (up rt pp 0)) (mi := mi) (si := si) (un := un) (be := be) (r0 := 0) (pp := pp) (mm := (-(-(ex ((pp * 3) + 1))))) (ss := 0) (dd := 0) (ee := (2 * (-(ex ((pp * 3) + 2))))) (by first | assumption | omega) (by first | exact up_s | (exfalso; omega)) (by first | assumption | omega)) (cwV 5 C.1.2.2.2.2 gX0_findRoots_X0_keepRoot rfl rfl rfl (by decide +kernel) ⟨Nat.le_of_ble_eq_true rfl, Nat.le_of_ble_eq_true rfl⟩) [0, 2, 3, 4, 5, 6] [1] rfl rfl (by decide) (by decide) (by decide) 0 rfl rfl rfl hl.1 _ rfl (Nat.le_of_ble_eq_true rfl) dX0_findRoots_111 ⟨Nat.le_of_ble_eq_true rfl, Nat.le_of_ble_eq_true rfl⟩ ?_
            clear hw
            rintro _ H locs rfl hw
            have hw : gW D A s.heap [cA G (a 1) 12 ex, oX0 h a cn ul rw, cA G (a 2) 4 (up (up rt pp 0) pp (0 + 1)), cA G (a 3) 8 (up mi (pp * 2 + 0) (-(-(ex ((pp * 3) + 1))))), cA G (a 4) 8 (up si (pp * 2 + 0) 0), cA G (a 5) 8 (up un (pp * 2 + 0) 0), cA G (a 6) 8 (up be (pp * 2 + 0) (2 * (-(ex ((pp * 3) + 2)))))] H locs := hw
            refine g_iload C hl 0 rfl dX0_findRoots_114 ?_
            refine g_if_le C 147 dX0_findRoots_116 (by decide) (by omega) (fun c_22 => ?_) (fun c_22 => ?_)
            · skip
              exact g_vret C hr (ws' := [oX0 h a cn ul rw, cA G (a 1) 12 ex, cA G (a 2) 4 (up (up rt pp 0) pp (0 + 1)), cA G (a 3) 8 (up mi (pp * 2 + 0) (-(-(ex ((pp * 3) + 1))))), cA G (a 4) 8 (up si (pp * 2 + 0) 0), cA G (a 5) 8 (up un (pp * 2 + 0) 0), cA G (a 6) 8 (up be (pp * 2 + 0) (2 * (-(ex ((pp * 3) + 2)))))]) hw [1, 0, 2, 3, 4, 5, 6] (by decide) rfl ⟨(up (up rt pp 0) pp (0 + 1)), (up mi (pp * 2 + 0) (-(-(ex ((pp * 3) + 1))))), (up si (pp * 2 + 0) 0), (up un (pp * 2 + 0) 0), (up be (pp * 2 + 0) (2 * (-(ex ((pp * 3) + 2))))), rfl, (by first | (exfalso; omega) | exact fR_0 (by unfold nR; (repeat' split) <;> omega) | exact fR_1 (by unfold nR; (repeat' split) <;> omega) (by unfold zP; (repeat' split) <;> omega) (by unfold zS; (repeat' split) <;> omega) (by unfold zD; (repeat' split) <;> omega) (by unfold zQ; (repeat' split) <;> omega) | exact fR_2 (by unfold nR; (repeat' split) <;> omega) (by unfold zP; (repeat' split) <;> omega) (by unfold zS; (repeat' split) <;> omega) (by unfold zS; (repeat' split) <;> omega) (by unfold zD; (repeat' split) <;> omega) (by unfold zQ; (repeat' split) <;> omega))⟩ dX0_findRoots_147
            · skip
              refine g_aload_n C hl 4 rfl rfl dX0_findRoots_119 ?_
              refine g_iload_n C hl 5 rfl rfl dX0_findRoots_120 ?_
              refine g_iload_n C hl 2 rfl rfl dX0_findRoots_121 ?_
              refine g_ineg C dX0_findRoots_122 ?_
              refine g_iconst C dX0_findRoots_123 ?_
              refine g_iload C hl 0 rfl dX0_findRoots_124 ?_
              refine g_iconst C dX0_findRoots_126 ?_
              refine g_iload C hl 1 rfl dX0_findRoots_127 ?_
              refine g_imul C dX0_findRoots_129 ?_
              refine g_callVv C hw (wr := [cA G (a 1) 12 ex]) (As := [.int (iI pp), .int (iI (-(-(ex ((pp * 3) + 1))))), .int (iI ((-1))), .int (iI (dsc E pp)), .int (iI (2 * (-(ex ((pp * 3) + 2)))))]) (rest := []) (m_X0_keepRoot l D G (h := h) (a := a) (cn := cn) (ul := ul) (rw := rw) (rt := (up (up rt pp 0) pp (0 + 1))) (mi := (up mi (pp * 2 + 0) (-(-(ex ((pp * 3) + 1)))))) (si := (up si (pp * 2 + 0) 0)) (un := (up un (pp * 2 + 0) 0)) (be := (up be (pp * 2 + 0) (2 * (-(ex ((pp * 3) + 2)))))) (r0 := 0) (pp := pp) (mm := (-(-(ex ((pp * 3) + 1))))) (ss := (-1)) (dd := (dsc E pp)) (ee := (2 * (-(ex ((pp * 3) + 2))))) (by first | assumption | omega) (by first | exact up_s | (exfalso; omega)) (by first | assumption | omega)) (cwV 5 C.1.2.2.2.2 gX0_findRoots_X0_keepRoot rfl rfl rfl (by decide +kernel) ⟨Nat.le_of_ble_eq_true rfl, Nat.le_of_ble_eq_true rfl⟩) [1, 2, 3, 4, 5, 6] [0] rfl rfl (by decide) (by decide) (by decide) 0 rfl rfl rfl hl.1 _ rfl (Nat.le_of_ble_eq_true rfl) dX0_findRoots_130 ⟨Nat.le_of_ble_eq_true rfl, Nat.le_of_ble_eq_true rfl⟩ ?_
              clear hw
              rintro _ H locs rfl hw
              have hw : gW D A s.heap [cA G (a 1) 12 ex, oX0 h a cn ul rw, cA G (a 2) 4 (up (up (up rt pp 0) pp (0 + 1)) pp (0 + 1)), cA G (a 3) 8 (up (up mi (pp * 2 + 0) (-(-(ex ((pp * 3) + 1))))) (pp * 2 + 0) (-(-(ex ((pp * 3) + 1))))), cA G (a 4) 8 (up (up si (pp * 2 + 0) 0) (pp * 2 + 0) (-1)), cA G (a 5) 8 (up (up un (pp * 2 + 0) 0) (pp * 2 + 0) (dsc E pp)), cA G (a 6) 8 (up (up be (pp * 2 + 0) (2 * (-(ex ((pp * 3) + 2))))) (pp * 2 + 0) (2 * (-(ex ((pp * 3) + 2)))))] H locs := hw
              refine g_aload_n C hl 4 rfl rfl dX0_findRoots_133 ?_
              refine g_iload_n C hl 5 rfl rfl dX0_findRoots_134 ?_
              refine g_iload_n C hl 2 rfl rfl dX0_findRoots_135 ?_
              refine g_ineg C dX0_findRoots_136 ?_
              refine g_iconst C dX0_findRoots_137 ?_
              refine g_iload C hl 0 rfl dX0_findRoots_138 ?_
              refine g_iconst C dX0_findRoots_140 ?_
              refine g_iload C hl 1 rfl dX0_findRoots_141 ?_
              refine g_imul C dX0_findRoots_143 ?_
              refine g_callVv C hw (wr := [cA G (a 1) 12 ex]) (As := [.int (iI pp), .int (iI (-(-(ex ((pp * 3) + 1))))), .int (iI 1), .int (iI (dsc E pp)), .int (iI (2 * (-(ex ((pp * 3) + 2)))))]) (rest := []) (m_X0_keepRoot l D G (h := h) (a := a) (cn := cn) (ul := ul) (rw := rw) (rt := (up (up (up rt pp 0) pp (0 + 1)) pp (0 + 1))) (mi := (up (up mi (pp * 2 + 0) (-(-(ex ((pp * 3) + 1))))) (pp * 2 + 0) (-(-(ex ((pp * 3) + 1)))))) (si := (up (up si (pp * 2 + 0) 0) (pp * 2 + 0) (-1))) (un := (up (up un (pp * 2 + 0) 0) (pp * 2 + 0) (dsc E pp))) (be := (up (up be (pp * 2 + 0) (2 * (-(ex ((pp * 3) + 2))))) (pp * 2 + 0) (2 * (-(ex ((pp * 3) + 2)))))) (r0 := 1) (pp := pp) (mm := (-(-(ex ((pp * 3) + 1))))) (ss := 1) (dd := (dsc E pp)) (ee := (2 * (-(ex ((pp * 3) + 2))))) (by first | assumption | omega) (by first | exact up_s | (exfalso; omega)) (by first | assumption | omega)) (cwV 5 C.1.2.2.2.2 gX0_findRoots_X0_keepRoot rfl rfl rfl (by decide +kernel) ⟨Nat.le_of_ble_eq_true rfl, Nat.le_of_ble_eq_true rfl⟩) [1, 2, 3, 4, 5, 6] [0] rfl rfl (by decide) (by decide) (by decide) 0 rfl rfl rfl hl.1 _ rfl (Nat.le_of_ble_eq_true rfl) dX0_findRoots_144 ⟨Nat.le_of_ble_eq_true rfl, Nat.le_of_ble_eq_true rfl⟩ ?_
              clear hw
              rintro _ H locs rfl hw
              have hw : gW D A s.heap [cA G (a 1) 12 ex, oX0 h a cn ul rw, cA G (a 2) 4 (up (up (up (up rt pp 0) pp (0 + 1)) pp (0 + 1)) pp (1 + 1)), cA G (a 3) 8 (up (up (up mi (pp * 2 + 0) (-(-(ex ((pp * 3) + 1))))) (pp * 2 + 0) (-(-(ex ((pp * 3) + 1))))) (pp * 2 + 1) (-(-(ex ((pp * 3) + 1))))), cA G (a 4) 8 (up (up (up si (pp * 2 + 0) 0) (pp * 2 + 0) (-1)) (pp * 2 + 1) 1), cA G (a 5) 8 (up (up (up un (pp * 2 + 0) 0) (pp * 2 + 0) (dsc E pp)) (pp * 2 + 1) (dsc E pp)), cA G (a 6) 8 (up (up (up be (pp * 2 + 0) (2 * (-(ex ((pp * 3) + 2))))) (pp * 2 + 0) (2 * (-(ex ((pp * 3) + 2))))) (pp * 2 + 1) (2 * (-(ex ((pp * 3) + 2)))))] H locs := hw
              exact g_vret C hr (ws' := [oX0 h a cn ul rw, cA G (a 1) 12 ex, cA G (a 2) 4 (up (up (up (up rt pp 0) pp (0 + 1)) pp (0 + 1)) pp (1 + 1)), cA G (a 3) 8 (up (up (up mi (pp * 2 + 0) (-(-(ex ((pp * 3) + 1))))) (pp * 2 + 0) (-(-(ex ((pp * 3) + 1))))) (pp * 2 + 1) (-(-(ex ((pp * 3) + 1))))), cA G (a 4) 8 (up (up (up si (pp * 2 + 0) 0) (pp * 2 + 0) (-1)) (pp * 2 + 1) 1), cA G (a 5) 8 (up (up (up un (pp * 2 + 0) 0) (pp * 2 + 0) (dsc E pp)) (pp * 2 + 1) (dsc E pp)), cA G (a 6) 8 (up (up (up be (pp * 2 + 0) (2 * (-(ex ((pp * 3) + 2))))) (pp * 2 + 0) (2 * (-(ex ((pp * 3) + 2))))) (pp * 2 + 1) (2 * (-(ex ((pp * 3) + 2)))))]) hw [1, 0, 2, 3, 4, 5, 6] (by decide) rfl ⟨(up (up (up (up rt pp 0) pp (0 + 1)) pp (0 + 1)) pp (1 + 1)), (up (up (up mi (pp * 2 + 0) (-(-(ex ((pp * 3) + 1))))) (pp * 2 + 0) (-(-(ex ((pp * 3) + 1))))) (pp * 2 + 1) (-(-(ex ((pp * 3) + 1))))), (up (up (up si (pp * 2 + 0) 0) (pp * 2 + 0) (-1)) (pp * 2 + 1) 1), (up (up (up un (pp * 2 + 0) 0) (pp * 2 + 0) (dsc E pp)) (pp * 2 + 1) (dsc E pp)), (up (up (up be (pp * 2 + 0) (2 * (-(ex ((pp * 3) + 2))))) (pp * 2 + 0) (2 * (-(ex ((pp * 3) + 2))))) (pp * 2 + 1) (2 * (-(ex ((pp * 3) + 2))))), rfl, (by first | (exfalso; omega) | exact fR_0 (by unfold nR; (repeat' split) <;> omega) | exact fR_1 (by unfold nR; (repeat' split) <;> omega) (by unfold zP; (repeat' split) <;> omega) (by unfold zS; (repeat' split) <;> omega) (by unfold zD; (repeat' split) <;> omega) (by unfold zQ; (repeat' split) <;> omega) | exact fR_2 (by unfold nR; (repeat' split) <;> omega) (by unfold zP; (repeat' split) <;> omega) (by unfold zS; (repeat' split) <;> omega) (by unfold zS; (repeat' split) <;> omega) (by unfold zD; (repeat' split) <;> omega) (by unfold zQ; (repeat' split) <;> omega))⟩ dX0_findRoots_147
        · skip
          refine g_iload_n C hl 1 rfl rfl dX0_findRoots_69 ?_
          refine g_if_le C 83 dX0_findRoots_70 (by decide) (by omega) (fun c_23 => ?_) (fun c_23 => ?_)
          · skip
            exact g_vret C hr (ws' := [oX0 h a cn ul rw, cA G (a 1) 12 ex, cA G (a 2) 4 (up rt pp 0), cA G (a 3) 8 mi, cA G (a 4) 8 si, cA G (a 5) 8 un, cA G (a 6) 8 be]) hw [0, 1, 2, 3, 4, 5, 6] (by decide) rfl ⟨(up rt pp 0), mi, si, un, be, rfl, (by first | (exfalso; omega) | exact fR_0 (by unfold nR; (repeat' split) <;> omega) | exact fR_1 (by unfold nR; (repeat' split) <;> omega) (by unfold zP; (repeat' split) <;> omega) (by unfold zS; (repeat' split) <;> omega) (by unfold zD; (repeat' split) <;> omega) (by unfold zQ; (repeat' split) <;> omega) | exact fR_2 (by unfold nR; (repeat' split) <;> omega) (by unfold zP; (repeat' split) <;> omega) (by unfold zS; (repeat' split) <;> omega) (by unfold zS; (repeat' split) <;> omega) (by unfold zD; (repeat' split) <;> omega) (by unfold zQ; (repeat' split) <;> omega))⟩ dX0_findRoots_83
          · skip
            refine g_aload_n C hl 3 rfl rfl dX0_findRoots_73 ?_
            refine g_iload_n C hl 4 rfl rfl dX0_findRoots_74 ?_
            refine g_iload_n C hl 2 rfl rfl dX0_findRoots_75 ?_
            refine g_ineg C dX0_findRoots_76 ?_
            refine g_iconst C dX0_findRoots_77 ?_
            refine g_iconst C dX0_findRoots_78 ?_
            refine g_iload_n C hl 1 rfl rfl dX0_findRoots_79 ?_
            refine g_callVv C hw (wr := [cA G (a 1) 12 ex]) (As := [.int (iI pp), .int (iI (-(-(ex (pp * 3))))), .int (iI 0), .int (iI 0), .int (iI (-(ex ((pp * 3) + 1))))]) (rest := []) (m_X0_keepRoot l D G (h := h) (a := a) (cn := cn) (ul := ul) (rw := rw) (rt := (up rt pp 0)) (mi := mi) (si := si) (un := un) (be := be) (r0 := 0) (pp := pp) (mm := (-(-(ex (pp * 3))))) (ss := 0) (dd := 0) (ee := (-(ex ((pp * 3) + 1)))) (by first | assumption | omega) (by first | exact up_s | (exfalso; omega)) (by first | assumption | omega)) (cwV 5 C.1.2.2.2.2 gX0_findRoots_X0_keepRoot rfl rfl rfl (by decide +kernel) ⟨Nat.le_of_ble_eq_true rfl, Nat.le_of_ble_eq_true rfl⟩) [0, 2, 3, 4, 5, 6] [1] rfl rfl (by decide) (by decide) (by decide) 0 rfl rfl rfl hl.1 _ rfl (Nat.le_of_ble_eq_true rfl) dX0_findRoots_80 ⟨Nat.le_of_ble_eq_true rfl, Nat.le_of_ble_eq_true rfl⟩ ?_
            clear hw
            rintro _ H locs rfl hw
            have hw : gW D A s.heap [cA G (a 1) 12 ex, oX0 h a cn ul rw, cA G (a 2) 4 (up (up rt pp 0) pp (0 + 1)), cA G (a 3) 8 (up mi (pp * 2 + 0) (-(-(ex (pp * 3))))), cA G (a 4) 8 (up si (pp * 2 + 0) 0), cA G (a 5) 8 (up un (pp * 2 + 0) 0), cA G (a 6) 8 (up be (pp * 2 + 0) (-(ex ((pp * 3) + 1))))] H locs := hw
            exact g_vret C hr (ws' := [oX0 h a cn ul rw, cA G (a 1) 12 ex, cA G (a 2) 4 (up (up rt pp 0) pp (0 + 1)), cA G (a 3) 8 (up mi (pp * 2 + 0) (-(-(ex (pp * 3))))), cA G (a 4) 8 (up si (pp * 2 + 0) 0), cA G (a 5) 8 (up un (pp * 2 + 0) 0), cA G (a 6) 8 (up be (pp * 2 + 0) (-(ex ((pp * 3) + 1))))]) hw [1, 0, 2, 3, 4, 5, 6] (by decide) rfl ⟨(up (up rt pp 0) pp (0 + 1)), (up mi (pp * 2 + 0) (-(-(ex (pp * 3))))), (up si (pp * 2 + 0) 0), (up un (pp * 2 + 0) 0), (up be (pp * 2 + 0) (-(ex ((pp * 3) + 1)))), rfl, (by first | (exfalso; omega) | exact fR_0 (by unfold nR; (repeat' split) <;> omega) | exact fR_1 (by unfold nR; (repeat' split) <;> omega) (by unfold zP; (repeat' split) <;> omega) (by unfold zS; (repeat' split) <;> omega) (by unfold zD; (repeat' split) <;> omega) (by unfold zQ; (repeat' split) <;> omega) | exact fR_2 (by unfold nR; (repeat' split) <;> omega) (by unfold zP; (repeat' split) <;> omega) (by unfold zS; (repeat' split) <;> omega) (by unfold zS; (repeat' split) <;> omega) (by unfold zD; (repeat' split) <;> omega) (by unfold zQ; (repeat' split) <;> omega))⟩ dX0_findRoots_83
