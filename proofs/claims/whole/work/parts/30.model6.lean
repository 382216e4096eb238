set_option maxRecDepth 20000 in
theorem hin_X6_noCell_X6 : ∀ w ∈ u_ws RX6 TX6 30, w ∈ wsX6_noCell := by
  intro w h
  exact List.mem_cons_of_mem _ (List.mem_append_right _ (h))
set_option maxRecDepth 20000 in
theorem lk_X6_noCell_53 : Cond.fieldLink RX6 53 (TX6 25).1 (TX6 25).2.1 (TX6 25).2.2.1 ∈ wsX6_noCell := List.mem_cons_of_mem _ (List.mem_append_left _ (List.mem_of_getElem? (i := 0) rfl))
set_option maxRecDepth 100000 in
set_option maxHeartbeats 8000000 in
theorem m_X6_noCell (l : Launch) (D : va_G) (G : gT) (h : Nat) (a : Nat → Nat) (ft : Int) (pn : Int) (ra : Int) (rm : Int) (rP : Int) (rS : Int) (rD : Int) (rQ : Int) (al : Int) (rw : Int) (rc : Int) (tr : Int) (sz : Int → Int) (kk : Int) (ii : Int) (hk : 0 ≤ kk ∧ kk ≤ 3) (hi : -2147483648 ≤ ii ∧ ii ≤ 2147483647) (hsz : ∀ k, -1 ≤ sz k ∧ sz k ≤ 60) : gMi l yX6_noCell wsX6_noCell ({ frames := 1, cells := 0, slots := 0, locals := 25 }) D G [.ref h, .int (iI kk), .int (iI ii)] [oX6 h a ft pn ra rm rP rS rD rQ al rw rc tr, cA G (a 25) 4 sz] 0 0 (fun (r : Int32) (w : va_W) => r = (iI (noC sz kk ii)) ∧ w = [oX6 h a ft pn ra rm rP rS rD rQ al rw rc tr, cA G (a 25) 4 sz]) := by
  refine g_start_i (cc := cX6_noCell) (nL := 3) (own := RX6) (ret := some .int) (by decide +kernel) rfl rfl (Nat.le_of_ble_eq_true rfl) ?_
  intro p e s m below meth c A ls C hr hnm hw hl
  have hl : lv_has ls 3 [(0, .ref h), (1, .int (iI kk)), (2, .int (iI ii))] := hl
  have s0 := hsz kk
  refine g_aload_n C hl 0 rfl rfl dX6_noCell_0 ?_
  refine g_get C hw hin_X6_noCell_X6 0 rfl rfl 25 (by decide) lk_X6_noCell_53 rfl dX6_noCell_1 ?_
  refine g_iload_n C hl 1 rfl rfl dX6_noCell_4 ?_
  refine g_iald C hw 1 rfl (by omega) (Nat.le_of_ble_eq_true rfl) dX6_noCell_5 ?_
  refine g_if_ge C 13 dX6_noCell_6 (by decide) (by omega) (fun c_1 => ?_) (fun c_1 => ?_)
  · skip
    refine g_iload_n C hl 2 rfl rfl dX6_noCell_13 ?_
    refine g_i2l C dX6_noCell_14 (by omega) ?_
    refine g_lconst0 C dX6_noCell_15 ?_
    refine g_aload_n C hl 0 rfl rfl dX6_noCell_16 ?_
    refine g_get C hw hin_X6_noCell_X6 0 rfl rfl 25 (by decide) lk_X6_noCell_53 rfl dX6_noCell_17 ?_
    refine g_iload_n C hl 1 rfl rfl dX6_noCell_20 ?_
    refine g_iald C hw 1 rfl (by omega) (Nat.le_of_ble_eq_true rfl) dX6_noCell_21 ?_
    refine g_i2l C dX6_noCell_22 (by omega) ?_
    refine g_lconst1 C dX6_noCell_23 ?_
    refine g_lsub C dX6_noCell_24 ?_
    refine g_callSi C hw (wr := [oX6 h a ft pn ra rm rP rS rD rQ al rw rc tr, cA G (a 25) 4 sz]) (As := [.long (lI (ii)), .long (lI (0)), .long (lI ((sz kk) - 1))]) (rest := []) (m_X6_in l D G (va := ii) (vb := 0) (vc := ((sz kk) - 1)) (by first | assumption | omega) (by first | assumption | omega) (by first | assumption | omega)) (va_cwS 3 C.1.2.2.2.2 gX6_noCell_X6_in rfl rfl rfl (by decide +kernel) ⟨Nat.le_of_ble_eq_true rfl, Nat.le_of_ble_eq_true rfl⟩) [] [0, 1] rfl rfl (by decide) (by decide) (by decide) rfl hl.1 _ rfl (Nat.le_of_ble_eq_true rfl) dX6_noCell_25 ⟨Nat.le_of_ble_eq_true rfl, Nat.le_of_ble_eq_true rfl⟩ ?_
    clear hw
    rintro _ _ H locs ⟨rfl, rfl⟩ hw
    have hw : gW D A s.heap [oX6 h a ft pn ra rm rP rS rD rQ al rw rc tr, cA G (a 25) 4 sz] H locs := hw
    refine g_ifb_eq C 35 dX6_noCell_28 (by decide) (fun c_2 => ?_) (fun c_2 => ?_)
    · skip
      refine g_iconst C dX6_noCell_35 ?_
      exact g_iret C hr (ws' := [oX6 h a ft pn ra rm rP rS rD rQ al rw rc tr, cA G (a 25) 4 sz]) hw [0, 1] (by decide) rfl ⟨(congrArg iI (by unfold noC; (repeat' split) <;> omega)), rfl⟩ dX6_noCell_36
    · skip
      refine g_iconst C dX6_noCell_31 ?_
      refine g_goto C 36 dX6_noCell_32 (by decide) ?_
      exact g_iret C hr (ws' := [oX6 h a ft pn ra rm rP rS rD rQ al rw rc tr, cA G (a 25) 4 sz]) hw [0, 1] (by decide) rfl ⟨(congrArg iI (by unfold noC; (repeat' split) <;> omega)), rfl⟩ dX6_noCell_36
  · skip
    refine g_iconst C dX6_noCell_9 ?_
    refine g_goto C 36 dX6_noCell_10 (by decide) ?_
    exact g_iret C hr (ws' := [oX6 h a ft pn ra rm rP rS rD rQ al rw rc tr, cA G (a 25) 4 sz]) hw [0, 1] (by decide) rfl ⟨(congrArg iI (by unfold noC; (repeat' split) <;> omega)), rfl⟩ dX6_noCell_36

set_option maxRecDepth 20000 in
theorem hin_X6_lose_X6 : ∀ w ∈ u_ws RX6 TX6 30, w ∈ wsX6_lose := by
  intro w h
  exact List.mem_cons_of_mem _ (List.mem_append_right _ (h))
set_option maxRecDepth 20000 in
theorem lk_X6_lose_53 : Cond.fieldLink RX6 53 (TX6 25).1 (TX6 25).2.1 (TX6 25).2.2.1 ∈ wsX6_lose := List.mem_cons_of_mem _ (List.mem_append_left _ (List.mem_of_getElem? (i := 0) rfl))
set_option maxRecDepth 100000 in
set_option maxHeartbeats 8000000 in
theorem m_X6_lose (l : Launch) (D : va_G) (G : gT) (h : Nat) (a : Nat → Nat) (ft : Int) (pn : Int) (ra : Int) (rm : Int) (rP : Int) (rS : Int) (rD : Int) (rQ : Int) (al : Int) (rw : Int) (rc : Int) (tr : Int) (sz : Int → Int) (kk : Int) (hk : -2147483648 ≤ kk ∧ kk ≤ 2147483647) (hsz : ∀ k, -1 ≤ sz k ∧ sz k ≤ 60) : gMi l yX6_lose wsX6_lose ({ frames := 2, cells := 0, slots := 0, locals := 45 }) D G [.ref h, .int (iI kk)] [oX6 h a ft pn ra rm rP rS rD rQ al rw rc tr, cA G (a 25) 4 sz] 0 0 (fun (r : Int32) (w : va_W) => ∃ (sz2 : Int → Int), r = (iI (R_lose sz kk)) ∧ w = [oX6 h a ft pn ra rm rP rS rD rQ al rw rc tr, cA G (a 25) 4 sz2] ∧ (sz2 = if 0 ≤ kk ∧ kk ≤ 3 then up sz kk (-1) else sz)) := by
  refine g_start_i (cc := cX6_lose) (nL := 3) (own := RX6) (ret := some .int) (by decide +kernel) rfl rfl (Nat.le_of_ble_eq_true rfl) ?_
  intro p e s m below meth c A ls C hr hnm hw hl
  have hl : lv_has ls 3 [(0, .ref h), (1, .int (iI kk))] := hl
  have s0 := hsz kk
  refine g_iload_n C hl 1 rfl rfl dX6_lose_0 ?_
  refine g_callSi C hw (wr := [oX6 h a ft pn ra rm rP rS rD rQ al rw rc tr, cA G (a 25) 4 sz]) (As := [.int (iI kk)]) (rest := []) (m_X6_noSheet l D G (kk := kk) (by first | assumption | omega)) (va_cwS 1 C.1.2.2.2.2 gX6_lose_X6_noSheet rfl rfl rfl (by decide +kernel) ⟨Nat.le_of_ble_eq_true rfl, Nat.le_of_ble_eq_true rfl⟩) [] [0, 1] rfl rfl (by decide) (by decide) (by decide) rfl hl.1 _ rfl (Nat.le_of_ble_eq_true rfl) dX6_lose_1 ⟨Nat.le_of_ble_eq_true rfl, Nat.le_of_ble_eq_true rfl⟩ ?_
  clear hw
  rintro _ _ H locs ⟨rfl, rfl⟩ hw
  have hw : gW D A s.heap [oX6 h a ft pn ra rm rP rS rD rQ al rw rc tr, cA G (a 25) 4 sz] H locs := hw
  refine g_ifb_eq C 9 dX6_lose_4 (by decide) (fun c_1 => ?_) (fun c_1 => ?_)
  · skip
    refine g_aload_n C hl 0 rfl rfl dX6_lose_9 ?_
    refine g_get C hw hin_X6_lose_X6 0 rfl rfl 25 (by decide) lk_X6_lose_53 rfl dX6_lose_10 ?_
    refine g_iload_n C hl 1 rfl rfl dX6_lose_13 ?_
    refine g_iald C hw 1 rfl (by omega) (Nat.le_of_ble_eq_true rfl) dX6_lose_14 ?_
    refine g_if_ge C 22 dX6_lose_15 (by decide) (by omega) (fun c_2 => ?_) (fun c_2 => ?_)
    · skip
      refine g_iconst C dX6_lose_22 ?_
      refine g_istore_n C [(2, .int (iI 1)), (0, .ref h), (1, .int (iI kk))] dX6_lose_23 rfl hl (by decide) rfl ?_
      clear hl
      intro ls hl
      refine g_aload_n C hl 1 rfl rfl dX6_lose_24 ?_
      refine g_get C hw hin_X6_lose_X6 0 rfl rfl 25 (by decide) lk_X6_lose_53 rfl dX6_lose_25 ?_
      refine g_iload_n C hl 2 rfl rfl dX6_lose_28 ?_
      refine g_iconst C dX6_lose_29 ?_
      refine g_iast C hw [oX6 h a ft pn ra rm rP rS rD rQ al rw rc tr, cA G (a 25) 4 (up sz kk (-1))] 1 rfl (by omega) (Nat.le_of_ble_eq_true rfl) rfl dX6_lose_30 ?_
      clear hw
      intro H locs hw
      refine g_iload_n C hl 0 rfl rfl dX6_lose_31 ?_
      exact g_iret C hr (ws' := [oX6 h a ft pn ra rm rP rS rD rQ al rw rc tr, cA G (a 25) 4 (up sz kk (-1))]) hw [0, 1] (by decide) rfl ⟨(up sz kk (-1)), (congrArg iI (by unfold R_lose; (repeat' split) <;> omega)), rfl, (by first | (rw [if_pos (by omega)]; done) | (rw [if_neg (by omega)]; done))⟩ dX6_lose_32
    · skip
      refine g_iconst C dX6_lose_18 ?_
      refine g_goto C 23 dX6_lose_19 (by decide) ?_
      refine g_istore_n C [(2, .int (iI 0)), (0, .ref h), (1, .int (iI kk))] dX6_lose_23 rfl hl (by decide) rfl ?_
      clear hl
      intro ls hl
      refine g_aload_n C hl 1 rfl rfl dX6_lose_24 ?_
      refine g_get C hw hin_X6_lose_X6 0 rfl rfl 25 (by decide) lk_X6_lose_53 rfl dX6_lose_25 ?_
      refine g_iload_n C hl 2 rfl rfl dX6_lose_28 ?_
      refine g_iconst C dX6_lose_29 ?_
      refine g_iast C hw [oX6 h a ft pn ra rm rP rS rD rQ al rw rc tr, cA G (a 25) 4 (up sz kk (-1))] 1 rfl (by omega) (Nat.le_of_ble_eq_true rfl) rfl dX6_lose_30 ?_
      clear hw
      intro H locs hw
      refine g_iload_n C hl 0 rfl rfl dX6_lose_31 ?_
      exact g_iret C hr (ws' := [oX6 h a ft pn ra rm rP rS rD rQ al rw rc tr, cA G (a 25) 4 (up sz kk (-1))]) hw [0, 1] (by decide) rfl ⟨(up sz kk (-1)), (congrArg iI (by unfold R_lose; (repeat' split) <;> omega)), rfl, (by first | (rw [if_pos (by omega)]; done) | (rw [if_neg (by omega)]; done))⟩ dX6_lose_32
  · skip
    refine g_iconst C dX6_lose_7 ?_
    exact g_iret C hr (ws' := [oX6 h a ft pn ra rm rP rS rD rQ al rw rc tr, cA G (a 25) 4 sz]) hw [0, 1] (by decide) rfl ⟨sz, (congrArg iI (by unfold R_lose; (repeat' split) <;> omega)), rfl, (by first | (rw [if_pos (by omega)]; done) | (rw [if_neg (by omega)]; done))⟩ dX6_lose_8

set_option maxRecDepth 20000 in
theorem cn_X6_sheet_117 : Jvm.Cond.constantLong RX6 117 (2) ∈ wsX6_sheet := List.mem_cons_of_mem _ (List.mem_append_left _ (List.mem_of_getElem? (i := 0) rfl))
set_option maxRecDepth 20000 in
theorem hin_X6_sheet_X6 : ∀ w ∈ u_ws RX6 TX6 30, w ∈ wsX6_sheet := by
  intro w h
  exact List.mem_cons_of_mem _ (List.mem_append_right _ (h))
set_option maxRecDepth 20000 in
theorem lk_X6_sheet_53 : Cond.fieldLink RX6 53 (TX6 25).1 (TX6 25).2.1 (TX6 25).2.2.1 ∈ wsX6_sheet := List.mem_cons_of_mem _ (List.mem_append_left _ (List.mem_of_getElem? (i := 1) rfl))
set_option maxRecDepth 20000 in
theorem lk_X6_sheet_56 : Cond.fieldLink RX6 56 (TX6 26).1 (TX6 26).2.1 (TX6 26).2.2.1 ∈ wsX6_sheet := List.mem_cons_of_mem _ (List.mem_append_left _ (List.mem_of_getElem? (i := 2) rfl))
set_option maxRecDepth 20000 in
theorem lk_X6_sheet_59 : Cond.fieldLink RX6 59 (TX6 27).1 (TX6 27).2.1 (TX6 27).2.2.1 ∈ wsX6_sheet := List.mem_cons_of_mem _ (List.mem_append_left _ (List.mem_of_getElem? (i := 3) rfl))
set_option maxRecDepth 100000 in
set_option maxHeartbeats 8000000 in
theorem m_X6_sheet (l : Launch) (D : va_G) (G : gT) (h : Nat) (a : Nat → Nat) (ft : Int) (pn : Int) (ra : Int) (rm : Int) (rP : Int) (rS : Int) (rD : Int) (rQ : Int) (al : Int) (rw : Int) (rc : Int) (tr : Int) (sz : Int → Int) (ln : Int → Int) (ce : Int → Int) (kk : Int) (lv : Int) (nn : Int) (hk : -2147483648 ≤ kk ∧ kk ≤ 2147483647) (hla : -2147483648 ≤ lv ∧ lv ≤ 2147483647) (hn9 : -2147483648 ≤ nn ∧ nn ≤ 2147483647) (hsh : shOK sz ln ce) : gMi l yX6_sheet wsX6_sheet ({ frames := 2, cells := 0, slots := 0, locals := 45 }) D G [.ref h, .int (iI kk), .int (iI lv), .int (iI nn)] [oX6 h a ft pn ra rm rP rS rD rQ al rw rc tr, cA G (a 25) 4 sz, cA G (a 26) 4 ln, cA G (a 27) 240 ce] 0 0 (fun (r : Int32) (w : va_W) => ∃ (sz2 : Int → Int) (ln2 : Int → Int) (ce2 : Int → Int), r = (iI (R_she kk lv nn)) ∧ w = [oX6 h a (F_she kk lv nn) pn ra rm rP rS rD rQ al rw rc tr, cA G (a 25) 4 sz2, cA G (a 26) 4 ln2, cA G (a 27) 240 ce2] ∧ ((R_she kk lv nn = 1 → sz2 = up sz kk nn ∧ ln2 = up ln kk lv ∧ ce2 = zfF ce (60 * kk) nn) ∧ (¬ R_she kk lv nn = 1 → sz2 = sz ∧ ln2 = ln ∧ ce2 = ce))) := by
  refine g_start_i (cc := cX6_sheet) (nL := 5) (own := RX6) (ret := some .int) (by decide +kernel) rfl rfl (Nat.le_of_ble_eq_true rfl) ?_
  intro p e s m below meth c A ls C hr hnm hw hl
  have hl : lv_has ls 5 [(0, .ref h), (1, .int (iI kk)), (2, .int (iI lv)), (3, .int (iI nn))] := hl
  obtain ⟨hsz, hln, hce⟩ := id hsh
  refine g_iload_n C hl 1 rfl rfl dX6_sheet_0 ?_
  refine g_callSi C hw (wr := [oX6 h a ft pn ra rm rP rS rD rQ al rw rc tr, cA G (a 25) 4 sz, cA G (a 26) 4 ln, cA G (a 27) 240 ce]) (As := [.int (iI kk)]) (rest := []) (m_X6_noSheet l D G (kk := kk) (by first | assumption | omega)) (va_cwS 1 C.1.2.2.2.2 gX6_sheet_X6_noSheet rfl rfl rfl (by decide +kernel) ⟨Nat.le_of_ble_eq_true rfl, Nat.le_of_ble_eq_true rfl⟩) [] [0, 1, 2, 3] rfl rfl (by decide) (by decide) (by decide) rfl hl.1 _ rfl (Nat.le_of_ble_eq_true rfl) dX6_sheet_1 ⟨Nat.le_of_ble_eq_true rfl, Nat.le_of_ble_eq_true rfl⟩ ?_
  clear hw
  rintro _ _ H locs ⟨rfl, rfl⟩ hw
  have hw : gW D A s.heap [oX6 h a ft pn ra rm rP rS rD rQ al rw rc tr, cA G (a 25) 4 sz, cA G (a 26) 4 ln, cA G (a 27) 240 ce] H locs := hw
  refine g_ifb_eq C 13 dX6_sheet_4 (by decide) (fun c_1 => ?_) (fun c_1 => ?_)
  · skip
    refine g_iload_n C hl 2 rfl rfl dX6_sheet_13 ?_
    refine g_i2l C dX6_sheet_14 (by omega) ?_
    refine g_lconst0 C dX6_sheet_15 ?_
    refine g_ldc2 C (2) cn_X6_sheet_117 (by decide +kernel) dX6_sheet_16 ?_
    refine g_callSi C hw (wr := [oX6 h a ft pn ra rm rP rS rD rQ al rw rc tr, cA G (a 25) 4 sz, cA G (a 26) 4 ln, cA G (a 27) 240 ce]) (As := [.long (lI (lv)), .long (lI (0)), .long (lI (2))]) (rest := []) (m_X6_in l D G (va := lv) (vb := 0) (vc := 2) (by first | assumption | omega) (by first | assumption | omega) (by first | assumption | omega)) (va_cwS 3 C.1.2.2.2.2 gX6_sheet_X6_in rfl rfl rfl (by decide +kernel) ⟨Nat.le_of_ble_eq_true rfl, Nat.le_of_ble_eq_true rfl⟩) [] [0, 1, 2, 3] rfl rfl (by decide) (by decide) (by decide) rfl hl.1 _ rfl (Nat.le_of_ble_eq_true rfl) dX6_sheet_19 ⟨Nat.le_of_ble_eq_true rfl, Nat.le_of_ble_eq_true rfl⟩ ?_
    clear hw
    rintro _ _ H locs ⟨rfl, rfl⟩ hw
    have hw : gW D A s.heap [oX6 h a ft pn ra rm rP rS rD rQ al rw rc tr, cA G (a 25) 4 sz, cA G (a 26) 4 ln, cA G (a 27) 240 ce] H locs := hw
    refine g_ifb_eq C 31 dX6_sheet_22 (by decide) (fun c_2 => ?_) (fun c_2 => ?_)
    · skip
      refine g_aload_n C hl 0 rfl rfl dX6_sheet_31 ?_
      refine g_bipush C dX6_sheet_32 (by decide) ?_
      refine g_callVi C hw (wr := [cA G (a 25) 4 sz, cA G (a 26) 4 ln, cA G (a 27) 240 ce]) (As := [.int (iI ((-2)))]) (rest := []) (m_X6_refused l D G (h := h) (a := a) (ft := ft) (pn := pn) (ra := ra) (rm := rm) (rP := rP) (rS := rS) (rD := rD) (rQ := rQ) (al := al) (rw := rw) (rc := rc) (tr := tr) (cd := (-2)) ) (cwV 1 C.1.2.2.2.2 gX6_sheet_X6_refused rfl rfl rfl (by decide +kernel) ⟨Nat.le_of_ble_eq_true rfl, Nat.le_of_ble_eq_true rfl⟩) [0] [1, 2, 3] rfl rfl (by decide) (by decide) (by decide) 0 rfl rfl rfl hl.1 _ rfl (Nat.le_of_ble_eq_true rfl) dX6_sheet_34 ⟨Nat.le_of_ble_eq_true rfl, Nat.le_of_ble_eq_true rfl⟩ ?_
      clear hw
      rintro _ _ H locs ⟨rfl, rfl⟩ hw
      have hw : gW D A s.heap [cA G (a 25) 4 sz, cA G (a 26) 4 ln, cA G (a 27) 240 ce, oX6 h a 0 pn ra rm rP rS rD rQ al rw rc tr] H locs := hw
      exact g_iret C hr (ws' := [oX6 h a 0 pn ra rm rP rS rD rQ al rw rc tr, cA G (a 25) 4 sz, cA G (a 26) 4 ln, cA G (a 27) 240 ce]) hw [3, 0, 1, 2] (by decide) rfl ⟨sz, ln, ce, (congrArg iI (by unfold R_she; (repeat' split) <;> omega)), (by unfold F_she R_she; (repeat' (split <;> try (exfalso; omega))) <;> first | rfl | (exfalso; omega)), (by refine ⟨fun q9 => ?_, fun q9 => ?_⟩ <;> first | exact ⟨rfl, rfl, by rw [hc1, show ii = nn by omega]⟩ | exact ⟨rfl, rfl, rfl⟩ | (exfalso; unfold R_she at q9; (repeat' split at q9) <;> omega))⟩ dX6_sheet_37
    · skip
      refine g_iload_n C hl 3 rfl rfl dX6_sheet_25 ?_
      refine g_bipush C dX6_sheet_26 (by decide) ?_
      refine g_icmp_le C 38 dX6_sheet_28 (by decide) (by omega) (by omega) (fun c_3 => ?_) (fun c_3 => ?_)
      · skip
        refine g_iload_n C hl 3 rfl rfl dX6_sheet_38 ?_
        refine g_if_ge C 48 dX6_sheet_39 (by decide) (by omega) (fun c_4 => ?_) (fun c_4 => ?_)
        · skip
          refine g_aload_n C hl 0 rfl rfl dX6_sheet_48 ?_
          refine g_get C hw hin_X6_sheet_X6 0 rfl rfl 25 (by decide) lk_X6_sheet_53 rfl dX6_sheet_49 ?_
          refine g_iload_n C hl 1 rfl rfl dX6_sheet_52 ?_
          refine g_iload_n C hl 3 rfl rfl dX6_sheet_53 ?_
          refine g_iast C hw [oX6 h a ft pn ra rm rP rS rD rQ al rw rc tr, cA G (a 25) 4 (up sz kk nn), cA G (a 26) 4 ln, cA G (a 27) 240 ce] 1 rfl (by omega) (Nat.le_of_ble_eq_true rfl) rfl dX6_sheet_54 ?_
          clear hw
          intro H locs hw
          refine g_aload_n C hl 0 rfl rfl dX6_sheet_55 ?_
          refine g_get C hw hin_X6_sheet_X6 0 rfl rfl 26 (by decide) lk_X6_sheet_56 rfl dX6_sheet_56 ?_
          refine g_iload_n C hl 1 rfl rfl dX6_sheet_59 ?_
          refine g_iload_n C hl 2 rfl rfl dX6_sheet_60 ?_
          refine g_iast C hw [oX6 h a ft pn ra rm rP rS rD rQ al rw rc tr, cA G (a 25) 4 (up sz kk nn), cA G (a 26) 4 (up ln kk lv), cA G (a 27) 240 ce] 2 rfl (by omega) (Nat.le_of_ble_eq_true rfl) rfl dX6_sheet_61 ?_
          clear hw
          intro H locs hw
          refine g_iconst C dX6_sheet_62 ?_
          refine g_istore C [(4, .int (iI 0)), (0, .ref h), (1, .int (iI kk)), (2, .int (iI lv)), (3, .int (iI nn))] dX6_sheet_63 hl (by decide) rfl ?_
          clear hl
          intro ls hl
          refine g_loop (σ := (Int) × (Int → Int)) (fun z_ => [oX6 h a ft pn ra rm rP rS rD rQ al rw rc tr, cA G (a 25) 4 (up sz kk nn), cA G (a 26) 4 (up ln kk lv), cA G (a 27) 240 z_.2]) (fun z_ => [(4, .int (iI (z_.1))), (0, .ref h), (1, .int (iI kk)), (2, .int (iI lv)), (3, .int (iI nn))]) (fun z_ => (0 ≤ z_.1 ∧ z_.1 ≤ nn) ∧ (z_.2 = zfF ce (60 * kk) z_.1)) (fun z_ => (nn - z_.1).toNat) (0, ce) ⟨by (try dsimp only); omega, by (try dsimp only); exact (zfF_0 _ _).symm⟩ hw (lv_sub hl [0, 1, 2, 3, 4] rfl) ?_
          clear hw hl
          rintro ⟨ii, c1⟩ ⟨hii, hc1⟩ H locs ls hw hl ih_5
          replace hii : 0 ≤ ii ∧ ii ≤ nn := hii
          replace hc1 : c1 = zfF ce (60 * kk) ii := hc1
          replace hw : gW D A s.heap [oX6 h a ft pn ra rm rP rS rD rQ al rw rc tr, cA G (a 25) 4 (up sz kk nn), cA G (a 26) 4 (up ln kk lv), cA G (a 27) 240 c1] H locs := hw
          replace hl : lv_has ls 5 [(4, .int (iI ii)), (0, .ref h), (1, .int (iI kk)), (2, .int (iI lv)), (3, .int (iI nn))] := hl
          replace ih_5 : ∀ (ii' : Int) (c1' : Int → Int), ((0 ≤ ii' ∧ ii' ≤ nn) ∧ (c1' = zfF ce (60 * kk) ii')) → ((nn - ii').toNat) < ((nn - ii).toNat) → ∀ (H : Heap) (locs : List Loc) (ls : Array Slot), gW D A s.heap [oX6 h a ft pn ra rm rP rS rD rQ al rw rc tr, cA G (a 25) 4 (up sz kk nn), cA G (a 26) 4 (up ln kk lv), cA G (a 27) 240 c1'] H locs → lv_has ls 5 [(4, .int (iI (ii'))), (0, .ref h), (1, .int (iI kk)), (2, .int (iI lv)), (3, .int (iI nn))] → W p l e _ s m _ below meth c H locs _ _ _ (F0 m 65 ls []) := fun ii' c1' => ih_5 (ii', c1')
          refine g_iload C hl 0 rfl dX6_sheet_65 ?_
          refine g_iload_n C hl 4 rfl rfl dX6_sheet_67 ?_
          refine g_icmp_ge C 90 dX6_sheet_68 (by decide) (by omega) (by omega) (fun c_6 => ?_) (fun c_6 => ?_)
          · skip
            refine g_aload_n C hl 1 rfl rfl dX6_sheet_90 ?_
            refine g_iconst C dX6_sheet_91 ?_
            refine g_callVi C hw (wr := [cA G (a 25) 4 (up sz kk nn), cA G (a 26) 4 (up ln kk lv), cA G (a 27) 240 c1]) (As := [.int (iI 1)]) (rest := []) (m_X6_refused l D G (h := h) (a := a) (ft := ft) (pn := pn) (ra := ra) (rm := rm) (rP := rP) (rS := rS) (rD := rD) (rQ := rQ) (al := al) (rw := rw) (rc := rc) (tr := tr) (cd := 1) ) (cwV 1 C.1.2.2.2.2 gX6_sheet_X6_refused rfl rfl rfl (by decide +kernel) ⟨Nat.le_of_ble_eq_true rfl, Nat.le_of_ble_eq_true rfl⟩) [0] [1, 2, 3] rfl rfl (by decide) (by decide) (by decide) 0 rfl rfl rfl hl.1 _ rfl (Nat.le_of_ble_eq_true rfl) dX6_sheet_92 ⟨Nat.le_of_ble_eq_true rfl, Nat.le_of_ble_eq_true rfl⟩ ?_
            clear hw
            rintro _ _ H locs ⟨rfl, rfl⟩ hw
            have hw : gW D A s.heap [cA G (a 25) 4 (up sz kk nn), cA G (a 26) 4 (up ln kk lv), cA G (a 27) 240 c1, oX6 h a 0 pn ra rm rP rS rD rQ al rw rc tr] H locs := hw
            exact g_iret C hr (ws' := [oX6 h a 0 pn ra rm rP rS rD rQ al rw rc tr, cA G (a 25) 4 (up sz kk nn), cA G (a 26) 4 (up ln kk lv), cA G (a 27) 240 c1]) hw [3, 0, 1, 2] (by decide) rfl ⟨(up sz kk nn), (up ln kk lv), c1, (congrArg iI (by unfold R_she; (repeat' split) <;> omega)), (by unfold F_she R_she; (repeat' (split <;> try (exfalso; omega))) <;> first | rfl | (exfalso; omega)), (by refine ⟨fun q9 => ?_, fun q9 => ?_⟩ <;> first | exact ⟨rfl, rfl, by rw [hc1, show ii = nn by omega]⟩ | exact ⟨rfl, rfl, rfl⟩ | (exfalso; unfold R_she at q9; (repeat' split at q9) <;> omega))⟩ dX6_sheet_95
          · skip
            refine g_aload_n C hl 1 rfl rfl dX6_sheet_71 ?_
            refine g_get C hw hin_X6_sheet_X6 0 rfl rfl 27 (by decide) lk_X6_sheet_59 rfl dX6_sheet_72 ?_
            refine g_bipush C dX6_sheet_75 (by decide) ?_
            refine g_iload_n C hl 2 rfl rfl dX6_sheet_77 ?_
            refine g_imul C dX6_sheet_78 ?_
            refine g_iload C hl 0 rfl dX6_sheet_79 ?_
            refine g_iadd C dX6_sheet_81 ?_
            refine g_iconst C dX6_sheet_82 ?_
            refine g_iast C hw [oX6 h a ft pn ra rm rP rS rD rQ al rw rc tr, cA G (a 25) 4 (up sz kk nn), cA G (a 26) 4 (up ln kk lv), cA G (a 27) 240 (up c1 ((60 * kk) + ii) 0)] 3 rfl (by omega) (Nat.le_of_ble_eq_true rfl) rfl dX6_sheet_83 ?_
            clear hw
            intro H locs hw
            refine g_iinc C [(4, .int (iI (ii + 1))), (0, .ref h), (1, .int (iI kk)), (2, .int (iI lv)), (3, .int (iI nn))] 0 dX6_sheet_84 hl rfl (by decide) rfl ?_
            clear hl
            intro ls hl
            refine g_goto C 65 dX6_sheet_87 (by decide) ?_
            have hw : gW D A s.heap [oX6 h a ft pn ra rm rP rS rD rQ al rw rc tr, cA G (a 25) 4 (up sz kk nn), cA G (a 26) 4 (up ln kk lv), cA G (a 27) 240 (up c1 ((60 * kk) + ii) 0)] H locs := g_perm hw [0, 1, 2, 3] (by decide) rfl
            exact ih_5 (ii + 1) (up c1 ((60 * kk) + ii) 0) ⟨by omega, by rw [hc1]; exact zfF_s hii.1⟩ (by omega) H locs ls hw (lv_sub hl [0, 1, 2, 3, 4] rfl)
        · skip
          refine g_aload_n C hl 0 rfl rfl dX6_sheet_42 ?_
          refine g_iconst C dX6_sheet_43 ?_
          refine g_callVi C hw (wr := [cA G (a 25) 4 sz, cA G (a 26) 4 ln, cA G (a 27) 240 ce]) (As := [.int (iI 4)]) (rest := []) (m_X6_failed l D G (h := h) (a := a) (ft := ft) (pn := pn) (ra := ra) (rm := rm) (rP := rP) (rS := rS) (rD := rD) (rQ := rQ) (al := al) (rw := rw) (rc := rc) (tr := tr) (fv := 4) ) (cwV 1 C.1.2.2.2.2 gX6_sheet_X6_failed rfl rfl rfl (by decide +kernel) ⟨Nat.le_of_ble_eq_true rfl, Nat.le_of_ble_eq_true rfl⟩) [0] [1, 2, 3] rfl rfl (by decide) (by decide) (by decide) 0 rfl rfl rfl hl.1 _ rfl (Nat.le_of_ble_eq_true rfl) dX6_sheet_44 ⟨Nat.le_of_ble_eq_true rfl, Nat.le_of_ble_eq_true rfl⟩ ?_
          clear hw
          rintro _ _ H locs ⟨rfl, rfl⟩ hw
          have hw : gW D A s.heap [cA G (a 25) 4 sz, cA G (a 26) 4 ln, cA G (a 27) 240 ce, oX6 h a 4 pn ra rm rP rS rD rQ al rw rc tr] H locs := hw
          exact g_iret C hr (ws' := [oX6 h a 4 pn ra rm rP rS rD rQ al rw rc tr, cA G (a 25) 4 sz, cA G (a 26) 4 ln, cA G (a 27) 240 ce]) hw [3, 0, 1, 2] (by decide) rfl ⟨sz, ln, ce, (congrArg iI (by unfold R_she; (repeat' split) <;> omega)), (by unfold F_she R_she; (repeat' (split <;> try (exfalso; omega))) <;> first | rfl | (exfalso; omega)), (by refine ⟨fun q9 => ?_, fun q9 => ?_⟩ <;> first | exact ⟨rfl, rfl, by rw [hc1, show ii = nn by omega]⟩ | exact ⟨rfl, rfl, rfl⟩ | (exfalso; unfold R_she at q9; (repeat' split at q9) <;> omega))⟩ dX6_sheet_47
      · skip
        refine g_aload_n C hl 0 rfl rfl dX6_sheet_31 ?_
        refine g_bipush C dX6_sheet_32 (by decide) ?_
        refine g_callVi C hw (wr := [cA G (a 25) 4 sz, cA G (a 26) 4 ln, cA G (a 27) 240 ce]) (As := [.int (iI ((-2)))]) (rest := []) (m_X6_refused l D G (h := h) (a := a) (ft := ft) (pn := pn) (ra := ra) (rm := rm) (rP := rP) (rS := rS) (rD := rD) (rQ := rQ) (al := al) (rw := rw) (rc := rc) (tr := tr) (cd := (-2)) ) (cwV 1 C.1.2.2.2.2 gX6_sheet_X6_refused rfl rfl rfl (by decide +kernel) ⟨Nat.le_of_ble_eq_true rfl, Nat.le_of_ble_eq_true rfl⟩) [0] [1, 2, 3] rfl rfl (by decide) (by decide) (by decide) 0 rfl rfl rfl hl.1 _ rfl (Nat.le_of_ble_eq_true rfl) dX6_sheet_34 ⟨Nat.le_of_ble_eq_true rfl, Nat.le_of_ble_eq_true rfl⟩ ?_
        clear hw
        rintro _ _ H locs ⟨rfl, rfl⟩ hw
        have hw : gW D A s.heap [cA G (a 25) 4 sz, cA G (a 26) 4 ln, cA G (a 27) 240 ce, oX6 h a 0 pn ra rm rP rS rD rQ al rw rc tr] H locs := hw
        exact g_iret C hr (ws' := [oX6 h a 0 pn ra rm rP rS rD rQ al rw rc tr, cA G (a 25) 4 sz, cA G (a 26) 4 ln, cA G (a 27) 240 ce]) hw [3, 0, 1, 2] (by decide) rfl ⟨sz, ln, ce, (congrArg iI (by unfold R_she; (repeat' split) <;> omega)), (by unfold F_she R_she; (repeat' (split <;> try (exfalso; omega))) <;> first | rfl | (exfalso; omega)), (by refine ⟨fun q9 => ?_, fun q9 => ?_⟩ <;> first | exact ⟨rfl, rfl, by rw [hc1, show ii = nn by omega]⟩ | exact ⟨rfl, rfl, rfl⟩ | (exfalso; unfold R_she at q9; (repeat' split at q9) <;> omega))⟩ dX6_sheet_37
  · skip
    refine g_aload_n C hl 0 rfl rfl dX6_sheet_7 ?_
    refine g_iconst C dX6_sheet_8 ?_
    refine g_callVi C hw (wr := [cA G (a 25) 4 sz, cA G (a 26) 4 ln, cA G (a 27) 240 ce]) (As := [.int (iI ((-1)))]) (rest := []) (m_X6_refused l D G (h := h) (a := a) (ft := ft) (pn := pn) (ra := ra) (rm := rm) (rP := rP) (rS := rS) (rD := rD) (rQ := rQ) (al := al) (rw := rw) (rc := rc) (tr := tr) (cd := (-1)) ) (cwV 1 C.1.2.2.2.2 gX6_sheet_X6_refused rfl rfl rfl (by decide +kernel) ⟨Nat.le_of_ble_eq_true rfl, Nat.le_of_ble_eq_true rfl⟩) [0] [1, 2, 3] rfl rfl (by decide) (by decide) (by decide) 0 rfl rfl rfl hl.1 _ rfl (Nat.le_of_ble_eq_true rfl) dX6_sheet_9 ⟨Nat.le_of_ble_eq_true rfl, Nat.le_of_ble_eq_true rfl⟩ ?_
    clear hw
    rintro _ _ H locs ⟨rfl, rfl⟩ hw
    have hw : gW D A s.heap [cA G (a 25) 4 sz, cA G (a 26) 4 ln, cA G (a 27) 240 ce, oX6 h a 0 pn ra rm rP rS rD rQ al rw rc tr] H locs := hw
    exact g_iret C hr (ws' := [oX6 h a 0 pn ra rm rP rS rD rQ al rw rc tr, cA G (a 25) 4 sz, cA G (a 26) 4 ln, cA G (a 27) 240 ce]) hw [3, 0, 1, 2] (by decide) rfl ⟨sz, ln, ce, (congrArg iI (by unfold R_she; (repeat' split) <;> omega)), (by unfold F_she R_she; (repeat' (split <;> try (exfalso; omega))) <;> first | rfl | (exfalso; omega)), (by refine ⟨fun q9 => ?_, fun q9 => ?_⟩ <;> first | exact ⟨rfl, rfl, by rw [hc1, show ii = nn by omega]⟩ | exact ⟨rfl, rfl, rfl⟩ | (exfalso; unfold R_she at q9; (repeat' split at q9) <;> omega))⟩ dX6_sheet_12

set_option maxRecDepth 20000 in
theorem hin_X6_put_X6 : ∀ w ∈ u_ws RX6 TX6 30, w ∈ wsX6_put := by
  intro w h
  exact List.mem_cons_of_mem _ (List.mem_append_right _ (h))
set_option maxRecDepth 20000 in
theorem lk_X6_put_59 : Cond.fieldLink RX6 59 (TX6 27).1 (TX6 27).2.1 (TX6 27).2.2.1 ∈ wsX6_put := List.mem_cons_of_mem _ (List.mem_append_left _ (List.mem_of_getElem? (i := 0) rfl))
set_option maxRecDepth 20000 in
theorem lk_X6_put_56 : Cond.fieldLink RX6 56 (TX6 26).1 (TX6 26).2.1 (TX6 26).2.2.1 ∈ wsX6_put := List.mem_cons_of_mem _ (List.mem_append_left _ (List.mem_of_getElem? (i := 1) rfl))
set_option maxRecDepth 100000 in
set_option maxHeartbeats 8000000 in
theorem m_X6_put (l : Launch) (D : va_G) (G : gT) (h : Nat) (a : Nat → Nat) (ft : Int) (pn : Int) (ra : Int) (rm : Int) (rP : Int) (rS : Int) (rD : Int) (rQ : Int) (al : Int) (rw : Int) (rc : Int) (tr : Int) (sz : Int → Int) (ln : Int → Int) (ce : Int → Int) (kk : Int) (ii : Int) (vv : Int) (hk : -2147483648 ≤ kk ∧ kk ≤ 2147483647) (hi : -2147483648 ≤ ii ∧ ii ≤ 2147483647) (hv : -2147483648 ≤ vv ∧ vv ≤ 2147483647) (hsh : shOK sz ln ce) : gMi l yX6_put wsX6_put ({ frames := 2, cells := 0, slots := 0, locals := 47 }) D G [.ref h, .int (iI kk), .int (iI ii), .int (iI vv)] [oX6 h a ft pn ra rm rP rS rD rQ al rw rc tr, cA G (a 25) 4 sz, cA G (a 26) 4 ln, cA G (a 27) 240 ce] 0 0 (fun (r : Int32) (w : va_W) => ∃ (ce2 : Int → Int), r = (iI (R_put sz kk ii)) ∧ w = [oX6 h a (F_put sz kk ii) pn ra rm rP rS rD rQ al rw rc tr, cA G (a 25) 4 sz, cA G (a 26) 4 ln, cA G (a 27) 240 ce2] ∧ (ce2 = if R_put sz kk ii = 1 then up ce (60 * kk + ii) (cutF (ln kk) vv) else ce)) := by
  refine g_start_i (cc := cX6_put) (nL := 4) (own := RX6) (ret := some .int) (by decide +kernel) rfl rfl (Nat.le_of_ble_eq_true rfl) ?_
  intro p e s m below meth c A ls C hr hnm hw hl
  have hl : lv_has ls 4 [(0, .ref h), (1, .int (iI kk)), (2, .int (iI ii)), (3, .int (iI vv))] := hl
  obtain ⟨hsz, hln, hce⟩ := id hsh
  have s0 := hsz kk
  have l0 := hln kk
  have c0 : 0 ≤ noC sz kk ii ∧ noC sz kk ii ≤ 3 ∧ (noC sz kk ii = 0 → 0 ≤ ii ∧ ii < sz kk) := by unfold noC; (repeat' split) <;> omega
  refine g_iload_n C hl 1 rfl rfl dX6_put_0 ?_
  refine g_callSi C hw (wr := [oX6 h a ft pn ra rm rP rS rD rQ al rw rc tr, cA G (a 25) 4 sz, cA G (a 26) 4 ln, cA G (a 27) 240 ce]) (As := [.int (iI kk)]) (rest := []) (m_X6_noSheet l D G (kk := kk) (by first | assumption | omega)) (va_cwS 1 C.1.2.2.2.2 gX6_put_X6_noSheet rfl rfl rfl (by decide +kernel) ⟨Nat.le_of_ble_eq_true rfl, Nat.le_of_ble_eq_true rfl⟩) [] [0, 1, 2, 3] rfl rfl (by decide) (by decide) (by decide) rfl hl.1 _ rfl (Nat.le_of_ble_eq_true rfl) dX6_put_1 ⟨Nat.le_of_ble_eq_true rfl, Nat.le_of_ble_eq_true rfl⟩ ?_
  clear hw
  rintro _ _ H locs ⟨rfl, rfl⟩ hw
  have hw : gW D A s.heap [oX6 h a ft pn ra rm rP rS rD rQ al rw rc tr, cA G (a 25) 4 sz, cA G (a 26) 4 ln, cA G (a 27) 240 ce] H locs := hw
  refine g_ifb_eq C 13 dX6_put_4 (by decide) (fun c_1 => ?_) (fun c_1 => ?_)
  · skip
    refine g_aload_n C hl 0 rfl rfl dX6_put_13 ?_
    refine g_iload_n C hl 1 rfl rfl dX6_put_14 ?_
    refine g_iload_n C hl 2 rfl rfl dX6_put_15 ?_
    refine g_callVi C hw (wr := [cA G (a 26) 4 ln, cA G (a 27) 240 ce]) (As := [.int (iI kk), .int (iI ii)]) (rest := []) (m_X6_noCell l D G (h := h) (a := a) (ft := ft) (pn := pn) (ra := ra) (rm := rm) (rP := rP) (rS := rS) (rD := rD) (rQ := rQ) (al := al) (rw := rw) (rc := rc) (tr := tr) (sz := sz) (kk := kk) (ii := ii) (by first | assumption | omega) (by first | assumption | omega) (by first | assumption | omega)) (cwV 2 C.1.2.2.2.2 gX6_put_X6_noCell rfl rfl rfl (by decide +kernel) ⟨Nat.le_of_ble_eq_true rfl, Nat.le_of_ble_eq_true rfl⟩) [0, 1] [2, 3] rfl rfl (by decide) (by decide) (by decide) 0 rfl rfl rfl hl.1 _ rfl (Nat.le_of_ble_eq_true rfl) dX6_put_16 ⟨Nat.le_of_ble_eq_true rfl, Nat.le_of_ble_eq_true rfl⟩ ?_
    clear hw
    rintro _ _ H locs ⟨rfl, rfl⟩ hw
    have hw : gW D A s.heap [cA G (a 26) 4 ln, cA G (a 27) 240 ce, oX6 h a ft pn ra rm rP rS rD rQ al rw rc tr, cA G (a 25) 4 sz] H locs := hw
    refine g_if_le C 33 dX6_put_19 (by decide) (by omega) (fun c_2 => ?_) (fun c_2 => ?_)
    · skip
      refine g_aload_n C hl 0 rfl rfl dX6_put_33 ?_
      refine g_get C hw hin_X6_put_X6 2 rfl rfl 27 (by decide) lk_X6_put_59 rfl dX6_put_34 ?_
      refine g_bipush C dX6_put_37 (by decide) ?_
      refine g_iload_n C hl 1 rfl rfl dX6_put_39 ?_
      refine g_imul C dX6_put_40 ?_
      refine g_iload_n C hl 2 rfl rfl dX6_put_41 ?_
      refine g_iadd C dX6_put_42 ?_
      refine g_aload_n C hl 0 rfl rfl dX6_put_43 ?_
      refine g_get C hw hin_X6_put_X6 2 rfl rfl 26 (by decide) lk_X6_put_56 rfl dX6_put_44 ?_
      refine g_iload_n C hl 1 rfl rfl dX6_put_47 ?_
      refine g_iald C hw 0 rfl (by omega) (Nat.le_of_ble_eq_true rfl) dX6_put_48 ?_
      refine g_if_ne C 57 dX6_put_49 (by decide) (by omega) (fun c_3 => ?_) (fun c_3 => ?_)
      · skip
        refine g_aload_n C hl 0 rfl rfl dX6_put_57 ?_
        refine g_get C hw hin_X6_put_X6 2 rfl rfl 26 (by decide) lk_X6_put_56 rfl dX6_put_58 ?_
        refine g_iload_n C hl 1 rfl rfl dX6_put_61 ?_
        refine g_iald C hw 0 rfl (by omega) (Nat.le_of_ble_eq_true rfl) dX6_put_62 ?_
        refine g_iconst C dX6_put_63 ?_
        refine g_icmp_ne C 72 dX6_put_64 (by decide) (by omega) (by omega) (fun c_4 => ?_) (fun c_4 => ?_)
        · skip
          refine g_iload_n C hl 3 rfl rfl dX6_put_72 ?_
          refine g_iast C hw [cA G (a 26) 4 ln, cA G (a 27) 240 (up ce ((60 * kk) + ii) vv), oX6 h a ft pn ra rm rP rS rD rQ al rw rc tr, cA G (a 25) 4 sz] 1 rfl (by omega) (Nat.le_of_ble_eq_true rfl) rfl dX6_put_73 ?_
          clear hw
          intro H locs hw
          refine g_aload_n C hl 0 rfl rfl dX6_put_74 ?_
          refine g_iconst C dX6_put_75 ?_
          refine g_callVi C hw (wr := [cA G (a 26) 4 ln, cA G (a 27) 240 (up ce ((60 * kk) + ii) vv), cA G (a 25) 4 sz]) (As := [.int (iI 1)]) (rest := []) (m_X6_refused l D G (h := h) (a := a) (ft := ft) (pn := pn) (ra := ra) (rm := rm) (rP := rP) (rS := rS) (rD := rD) (rQ := rQ) (al := al) (rw := rw) (rc := rc) (tr := tr) (cd := 1) ) (cwV 1 C.1.2.2.2.2 gX6_put_X6_refused rfl rfl rfl (by decide +kernel) ⟨Nat.le_of_ble_eq_true rfl, Nat.le_of_ble_eq_true rfl⟩) [2] [0, 1, 3] rfl rfl (by decide) (by decide) (by decide) 0 rfl rfl rfl hl.1 _ rfl (Nat.le_of_ble_eq_true rfl) dX6_put_76 ⟨Nat.le_of_ble_eq_true rfl, Nat.le_of_ble_eq_true rfl⟩ ?_
          clear hw
          rintro _ _ H locs ⟨rfl, rfl⟩ hw
          have hw : gW D A s.heap [cA G (a 26) 4 ln, cA G (a 27) 240 (up ce ((60 * kk) + ii) vv), cA G (a 25) 4 sz, oX6 h a 0 pn ra rm rP rS rD rQ al rw rc tr] H locs := hw
          exact g_iret C hr (ws' := [oX6 h a 0 pn ra rm rP rS rD rQ al rw rc tr, cA G (a 25) 4 sz, cA G (a 26) 4 ln, cA G (a 27) 240 (up ce ((60 * kk) + ii) vv)]) hw [3, 2, 0, 1] (by decide) rfl ⟨(up ce ((60 * kk) + ii) vv), (congrArg iI (by unfold R_put; (repeat' split) <;> omega)), (by unfold F_put; (repeat' (split <;> try (exfalso; omega))) <;> first | rfl | (rw [show noC sz kk ii = 0 by omega]; done)), (by unfold R_put cutF; (repeat' (split <;> try (exfalso; omega))) <;> first | rfl | (exfalso; omega))⟩ dX6_put_79
        · skip
          refine g_iload_n C hl 3 rfl rfl dX6_put_67 ?_
          refine g_i2s C dX6_put_68 ?_
          refine g_topi (show ((((iI vv)).toInt16.toInt32) : Int32) = (iI (cuS vv)) by exact iI_of _) ?_
          refine g_goto C 73 dX6_put_69 (by decide) ?_
          refine g_iast C hw [cA G (a 26) 4 ln, cA G (a 27) 240 (up ce ((60 * kk) + ii) (cuS vv)), oX6 h a ft pn ra rm rP rS rD rQ al rw rc tr, cA G (a 25) 4 sz] 1 rfl (by omega) (Nat.le_of_ble_eq_true rfl) rfl dX6_put_73 ?_
          clear hw
          intro H locs hw
          refine g_aload_n C hl 0 rfl rfl dX6_put_74 ?_
          refine g_iconst C dX6_put_75 ?_
          refine g_callVi C hw (wr := [cA G (a 26) 4 ln, cA G (a 27) 240 (up ce ((60 * kk) + ii) (cuS vv)), cA G (a 25) 4 sz]) (As := [.int (iI 1)]) (rest := []) (m_X6_refused l D G (h := h) (a := a) (ft := ft) (pn := pn) (ra := ra) (rm := rm) (rP := rP) (rS := rS) (rD := rD) (rQ := rQ) (al := al) (rw := rw) (rc := rc) (tr := tr) (cd := 1) ) (cwV 1 C.1.2.2.2.2 gX6_put_X6_refused rfl rfl rfl (by decide +kernel) ⟨Nat.le_of_ble_eq_true rfl, Nat.le_of_ble_eq_true rfl⟩) [2] [0, 1, 3] rfl rfl (by decide) (by decide) (by decide) 0 rfl rfl rfl hl.1 _ rfl (Nat.le_of_ble_eq_true rfl) dX6_put_76 ⟨Nat.le_of_ble_eq_true rfl, Nat.le_of_ble_eq_true rfl⟩ ?_
          clear hw
          rintro _ _ H locs ⟨rfl, rfl⟩ hw
          have hw : gW D A s.heap [cA G (a 26) 4 ln, cA G (a 27) 240 (up ce ((60 * kk) + ii) (cuS vv)), cA G (a 25) 4 sz, oX6 h a 0 pn ra rm rP rS rD rQ al rw rc tr] H locs := hw
          exact g_iret C hr (ws' := [oX6 h a 0 pn ra rm rP rS rD rQ al rw rc tr, cA G (a 25) 4 sz, cA G (a 26) 4 ln, cA G (a 27) 240 (up ce ((60 * kk) + ii) (cuS vv))]) hw [3, 2, 0, 1] (by decide) rfl ⟨(up ce ((60 * kk) + ii) (cuS vv)), (congrArg iI (by unfold R_put; (repeat' split) <;> omega)), (by unfold F_put; (repeat' (split <;> try (exfalso; omega))) <;> first | rfl | (rw [show noC sz kk ii = 0 by omega]; done)), (by unfold R_put cutF; (repeat' (split <;> try (exfalso; omega))) <;> first | rfl | (exfalso; omega))⟩ dX6_put_79
      · skip
        refine g_iload_n C hl 3 rfl rfl dX6_put_52 ?_
        refine g_i2b C dX6_put_53 ?_
        refine g_topi (show ((((iI vv)).toInt8.toInt32) : Int32) = (iI (cuB vv)) by exact iI_of _) ?_
        refine g_goto C 73 dX6_put_54 (by decide) ?_
        refine g_iast C hw [cA G (a 26) 4 ln, cA G (a 27) 240 (up ce ((60 * kk) + ii) (cuB vv)), oX6 h a ft pn ra rm rP rS rD rQ al rw rc tr, cA G (a 25) 4 sz] 1 rfl (by omega) (Nat.le_of_ble_eq_true rfl) rfl dX6_put_73 ?_
        clear hw
        intro H locs hw
        refine g_aload_n C hl 0 rfl rfl dX6_put_74 ?_
        refine g_iconst C dX6_put_75 ?_
        refine g_callVi C hw (wr := [cA G (a 26) 4 ln, cA G (a 27) 240 (up ce ((60 * kk) + ii) (cuB vv)), cA G (a 25) 4 sz]) (As := [.int (iI 1)]) (rest := []) (m_X6_refused l D G (h := h) (a := a) (ft := ft) (pn := pn) (ra := ra) (rm := rm) (rP := rP) (rS := rS) (rD := rD) (rQ := rQ) (al := al) (rw := rw) (rc := rc) (tr := tr) (cd := 1) ) (cwV 1 C.1.2.2.2.2 gX6_put_X6_refused rfl rfl rfl (by decide +kernel) ⟨Nat.le_of_ble_eq_true rfl, Nat.le_of_ble_eq_true rfl⟩) [2] [0, 1, 3] rfl rfl (by decide) (by decide) (by decide) 0 rfl rfl rfl hl.1 _ rfl (Nat.le_of_ble_eq_true rfl) dX6_put_76 ⟨Nat.le_of_ble_eq_true rfl, Nat.le_of_ble_eq_true rfl⟩ ?_
        clear hw
        rintro _ _ H locs ⟨rfl, rfl⟩ hw
        have hw : gW D A s.heap [cA G (a 26) 4 ln, cA G (a 27) 240 (up ce ((60 * kk) + ii) (cuB vv)), cA G (a 25) 4 sz, oX6 h a 0 pn ra rm rP rS rD rQ al rw rc tr] H locs := hw
        exact g_iret C hr (ws' := [oX6 h a 0 pn ra rm rP rS rD rQ al rw rc tr, cA G (a 25) 4 sz, cA G (a 26) 4 ln, cA G (a 27) 240 (up ce ((60 * kk) + ii) (cuB vv))]) hw [3, 2, 0, 1] (by decide) rfl ⟨(up ce ((60 * kk) + ii) (cuB vv)), (congrArg iI (by unfold R_put; (repeat' split) <;> omega)), (by unfold F_put; (repeat' (split <;> try (exfalso; omega))) <;> first | rfl | (rw [show noC sz kk ii = 0 by omega]; done)), (by unfold R_put cutF; (repeat' (split <;> try (exfalso; omega))) <;> first | rfl | (exfalso; omega))⟩ dX6_put_79
    · skip
      refine g_aload_n C hl 0 rfl rfl dX6_put_22 ?_
      refine g_aload_n C hl 0 rfl rfl dX6_put_23 ?_
      refine g_iload_n C hl 1 rfl rfl dX6_put_24 ?_
      refine g_iload_n C hl 2 rfl rfl dX6_put_25 ?_
      refine g_callVi C hw (wr := [cA G (a 26) 4 ln, cA G (a 27) 240 ce]) (As := [.int (iI kk), .int (iI ii)]) (rest := [.ref h]) (m_X6_noCell l D G (h := h) (a := a) (ft := ft) (pn := pn) (ra := ra) (rm := rm) (rP := rP) (rS := rS) (rD := rD) (rQ := rQ) (al := al) (rw := rw) (rc := rc) (tr := tr) (sz := sz) (kk := kk) (ii := ii) (by first | assumption | omega) (by first | assumption | omega) (by first | assumption | omega)) (cwV 2 C.1.2.2.2.2 gX6_put_X6_noCell rfl rfl rfl (by decide +kernel) ⟨Nat.le_of_ble_eq_true rfl, Nat.le_of_ble_eq_true rfl⟩) [2, 3] [0, 1] rfl rfl (by decide) (by decide) (by decide) 0 rfl rfl rfl hl.1 _ rfl (Nat.le_of_ble_eq_true rfl) dX6_put_26 ⟨Nat.le_of_ble_eq_true rfl, Nat.le_of_ble_eq_true rfl⟩ ?_
      clear hw
      rintro _ _ H locs ⟨rfl, rfl⟩ hw
      have hw : gW D A s.heap [cA G (a 26) 4 ln, cA G (a 27) 240 ce, oX6 h a ft pn ra rm rP rS rD rQ al rw rc tr, cA G (a 25) 4 sz] H locs := hw
      refine g_callVi C hw (wr := [cA G (a 26) 4 ln, cA G (a 27) 240 ce, cA G (a 25) 4 sz]) (As := [.int (iI ((noC sz kk ii)))]) (rest := []) (m_X6_failed l D G (h := h) (a := a) (ft := ft) (pn := pn) (ra := ra) (rm := rm) (rP := rP) (rS := rS) (rD := rD) (rQ := rQ) (al := al) (rw := rw) (rc := rc) (tr := tr) (fv := (noC sz kk ii)) ) (cwV 1 C.1.2.2.2.2 gX6_put_X6_failed rfl rfl rfl (by decide +kernel) ⟨Nat.le_of_ble_eq_true rfl, Nat.le_of_ble_eq_true rfl⟩) [2] [0, 1, 3] rfl rfl (by decide) (by decide) (by decide) 0 rfl rfl rfl hl.1 _ rfl (Nat.le_of_ble_eq_true rfl) dX6_put_29 ⟨Nat.le_of_ble_eq_true rfl, Nat.le_of_ble_eq_true rfl⟩ ?_
      clear hw
      rintro _ _ H locs ⟨rfl, rfl⟩ hw
      have hw : gW D A s.heap [cA G (a 26) 4 ln, cA G (a 27) 240 ce, cA G (a 25) 4 sz, oX6 h a (noC sz kk ii) pn ra rm rP rS rD rQ al rw rc tr] H locs := hw
      exact g_iret C hr (ws' := [oX6 h a (noC sz kk ii) pn ra rm rP rS rD rQ al rw rc tr, cA G (a 25) 4 sz, cA G (a 26) 4 ln, cA G (a 27) 240 ce]) hw [3, 2, 0, 1] (by decide) rfl ⟨ce, (congrArg iI (by unfold R_put; (repeat' split) <;> omega)), (by unfold F_put; (repeat' (split <;> try (exfalso; omega))) <;> first | rfl | (rw [show noC sz kk ii = 0 by omega]; done)), (by unfold R_put cutF; (repeat' (split <;> try (exfalso; omega))) <;> first | rfl | (exfalso; omega))⟩ dX6_put_32
  · skip
    refine g_aload_n C hl 0 rfl rfl dX6_put_7 ?_
    refine g_iconst C dX6_put_8 ?_
    refine g_callVi C hw (wr := [cA G (a 25) 4 sz, cA G (a 26) 4 ln, cA G (a 27) 240 ce]) (As := [.int (iI ((-1)))]) (rest := []) (m_X6_refused l D G (h := h) (a := a) (ft := ft) (pn := pn) (ra := ra) (rm := rm) (rP := rP) (rS := rS) (rD := rD) (rQ := rQ) (al := al) (rw := rw) (rc := rc) (tr := tr) (cd := (-1)) ) (cwV 1 C.1.2.2.2.2 gX6_put_X6_refused rfl rfl rfl (by decide +kernel) ⟨Nat.le_of_ble_eq_true rfl, Nat.le_of_ble_eq_true rfl⟩) [0] [1, 2, 3] rfl rfl (by decide) (by decide) (by decide) 0 rfl rfl rfl hl.1 _ rfl (Nat.le_of_ble_eq_true rfl) dX6_put_9 ⟨Nat.le_of_ble_eq_true rfl, Nat.le_of_ble_eq_true rfl⟩ ?_
    clear hw
    rintro _ _ H locs ⟨rfl, rfl⟩ hw
    have hw : gW D A s.heap [cA G (a 25) 4 sz, cA G (a 26) 4 ln, cA G (a 27) 240 ce, oX6 h a 0 pn ra rm rP rS rD rQ al rw rc tr] H locs := hw
    exact g_iret C hr (ws' := [oX6 h a 0 pn ra rm rP rS rD rQ al rw rc tr, cA G (a 25) 4 sz, cA G (a 26) 4 ln, cA G (a 27) 240 ce]) hw [3, 0, 1, 2] (by decide) rfl ⟨ce, (congrArg iI (by unfold R_put; (repeat' split) <;> omega)), (by unfold F_put; (repeat' (split <;> try (exfalso; omega))) <;> first | rfl | (rw [show noC sz kk ii = 0 by omega]; done)), (by unfold R_put cutF; (repeat' (split <;> try (exfalso; omega))) <;> first | rfl | (exfalso; omega))⟩ dX6_put_12

set_option maxRecDepth 20000 in
theorem hin_X6_cell_X6 : ∀ w ∈ u_ws RX6 TX6 30, w ∈ wsX6_cell := by
  intro w h
  exact List.mem_cons_of_mem _ (List.mem_append_right _ (h))
set_option maxRecDepth 20000 in
theorem lk_X6_cell_67 : Cond.fieldLink RX6 67 (TX6 0).1 (TX6 0).2.1 (TX6 0).2.2.1 ∈ wsX6_cell := List.mem_cons_of_mem _ (List.mem_append_left _ (List.mem_append_left _ (List.mem_of_getElem? (i := 0) rfl)))
set_option maxRecDepth 20000 in
theorem cn_X6_cell_117 : Jvm.Cond.constantLong RX6 117 (2) ∈ wsX6_cell := List.mem_cons_of_mem _ (List.mem_append_left _ (List.mem_append_left _ (List.mem_of_getElem? (i := 1) rfl)))
set_option maxRecDepth 20000 in
theorem lk_X6_cell_53 : Cond.fieldLink RX6 53 (TX6 25).1 (TX6 25).2.1 (TX6 25).2.2.1 ∈ wsX6_cell := List.mem_cons_of_mem _ (List.mem_append_left _ (List.mem_append_left _ (List.mem_of_getElem? (i := 2) rfl)))
set_option maxRecDepth 20000 in
theorem lk_X6_cell_59 : Cond.fieldLink RX6 59 (TX6 27).1 (TX6 27).2.1 (TX6 27).2.2.1 ∈ wsX6_cell := List.mem_cons_of_mem _ (List.mem_append_left _ (List.mem_append_left _ (List.mem_of_getElem? (i := 4) rfl)))
set_option maxRecDepth 20000 in
theorem lk_X6_cell_56 : Cond.fieldLink RX6 56 (TX6 26).1 (TX6 26).2.1 (TX6 26).2.2.1 ∈ wsX6_cell := List.mem_cons_of_mem _ (List.mem_append_left _ (List.mem_append_left _ (List.mem_of_getElem? (i := 3) rfl)))
set_option maxRecDepth 100000 in
set_option maxHeartbeats 8000000 in
theorem m_X6_cell (l : Launch) (D : va_G) (G : gT) (h : Nat) (a : Nat → Nat) (ft : Int) (pn : Int) (ra : Int) (rm : Int) (rP : Int) (rS : Int) (rD : Int) (rQ : Int) (al : Int) (rw : Int) (rc : Int) (tr : Int) (sz : Int → Int) (ln : Int → Int) (ce : Int → Int) (kk : Int) (ii : Int) (lv : Int) (hk : -2147483648 ≤ kk ∧ kk ≤ 2147483647) (hi : -2147483648 ≤ ii ∧ ii ≤ 2147483647) (hla : -2147483648 ≤ lv ∧ lv ≤ 2147483647) (hsh : shOK sz ln ce) : gMl l yX6_cell wsX6_cell ({ frames := 2, cells := 0, slots := 0, locals := 47 }) D G [.ref h, .int (iI kk), .int (iI ii), .int (iI lv)] [oX6 h a ft pn ra rm rP rS rD rQ al rw rc tr, cA G (a 25) 4 sz, cA G (a 26) 4 ln, cA G (a 27) 240 ce] 0 0 (fun (r : Int64) (w : va_W) => r = (lI (R_cel sz ln ce kk ii lv)) ∧ w = [oX6 h a (F_cel sz ln kk ii lv) pn ra rm rP rS rD rQ al rw rc tr, cA G (a 25) 4 sz, cA G (a 26) 4 ln, cA G (a 27) 240 ce]) := by
  refine g_start_l (cc := cX6_cell) (nL := 4) (own := RX6) (ret := some .long) (by decide +kernel) rfl rfl (Nat.le_of_ble_eq_true rfl) ?_
  intro p e s m below meth c A ls C hr hnm hw hl
  have hl : lv_has ls 4 [(0, .ref h), (1, .int (iI kk)), (2, .int (iI ii)), (3, .int (iI lv))] := hl
  obtain ⟨hsz, hln, hce⟩ := id hsh
  have s0 := hsz kk
  have l0 := hln kk
  have c9 := hce (60 * kk + ii)
  have c0 : 0 ≤ noC sz kk ii ∧ noC sz kk ii ≤ 3 ∧ (noC sz kk ii = 0 → 0 ≤ ii ∧ ii < sz kk) := by unfold noC; (repeat' split) <;> omega
  refine g_aload_n C hl 0 rfl rfl dX6_cell_0 ?_
  refine g_iconst C dX6_cell_1 ?_
  refine g_put C hw [oX6 h a 0 pn ra rm rP rS rD rQ al rw rc tr, cA G (a 25) 4 sz, cA G (a 26) 4 ln, cA G (a 27) 240 ce] hin_X6_cell_X6 tyX6 tyX6_ok nmX6 0 rfl rfl 0 (by decide) lk_X6_cell_67 rfl rfl rfl rfl (Nat.le_of_ble_eq_true rfl) rfl dX6_cell_2 ?_
  clear hw
  intro H locs hw
  refine g_iload_n C hl 1 rfl rfl dX6_cell_5 ?_
  refine g_callSi C hw (wr := [oX6 h a 0 pn ra rm rP rS rD rQ al rw rc tr, cA G (a 25) 4 sz, cA G (a 26) 4 ln, cA G (a 27) 240 ce]) (As := [.int (iI kk)]) (rest := []) (m_X6_noSheet l D G (kk := kk) (by first | assumption | omega)) (va_cwS 1 C.1.2.2.2.2 gX6_cell_X6_noSheet rfl rfl rfl (by decide +kernel) ⟨Nat.le_of_ble_eq_true rfl, Nat.le_of_ble_eq_true rfl⟩) [] [0, 1, 2, 3] rfl rfl (by decide) (by decide) (by decide) rfl hl.1 _ rfl (Nat.le_of_ble_eq_true rfl) dX6_cell_6 ⟨Nat.le_of_ble_eq_true rfl, Nat.le_of_ble_eq_true rfl⟩ ?_
  clear hw
  rintro _ _ H locs ⟨rfl, rfl⟩ hw
  have hw : gW D A s.heap [oX6 h a 0 pn ra rm rP rS rD rQ al rw rc tr, cA G (a 25) 4 sz, cA G (a 26) 4 ln, cA G (a 27) 240 ce] H locs := hw
  refine g_ifb_ne C 24 dX6_cell_9 (by decide) (fun c_1 => ?_) (fun c_1 => ?_)
  · skip
    refine g_callSl C hw (wr := [oX6 h a 0 pn ra rm rP rS rD rQ al rw rc tr, cA G (a 25) 4 sz, cA G (a 26) 4 ln, cA G (a 27) 240 ce]) (As := []) (rest := []) (m_X6_lost l D G  ) (va_cwS 0 C.1.2.2.2.2 gX6_cell_X6_lost rfl rfl rfl (by decide +kernel) ⟨Nat.le_of_ble_eq_true rfl, Nat.le_of_ble_eq_true rfl⟩) [] [0, 1, 2, 3] rfl rfl (by decide) (by decide) (by decide) rfl hl.1 _ rfl (Nat.le_of_ble_eq_true rfl) dX6_cell_24 ⟨Nat.le_of_ble_eq_true rfl, Nat.le_of_ble_eq_true rfl⟩ ?_
    clear hw
    rintro _ _ H locs ⟨rfl, rfl⟩ hw
    have hw : gW D A s.heap [oX6 h a 0 pn ra rm rP rS rD rQ al rw rc tr, cA G (a 25) 4 sz, cA G (a 26) 4 ln, cA G (a 27) 240 ce] H locs := hw
    exact g_lret C hr (ws' := [oX6 h a 0 pn ra rm rP rS rD rQ al rw rc tr, cA G (a 25) 4 sz, cA G (a 26) 4 ln, cA G (a 27) 240 ce]) hw [0, 1, 2, 3] (by decide) rfl ⟨(congrArg lI (by unfold R_cel C_cel; (repeat' split) <;> omega)), (by unfold F_cel C_cel; (repeat' (split <;> try (exfalso; omega))) <;> first | rfl | (exfalso; omega) | (rw [show noC sz kk ii = 0 by omega]; done))⟩ dX6_cell_27
  · skip
    refine g_iload_n C hl 3 rfl rfl dX6_cell_12 ?_
    refine g_i2l C dX6_cell_13 (by omega) ?_
    refine g_lconst0 C dX6_cell_14 ?_
    refine g_ldc2 C (2) cn_X6_cell_117 (by decide +kernel) dX6_cell_15 ?_
    refine g_callSi C hw (wr := [oX6 h a 0 pn ra rm rP rS rD rQ al rw rc tr, cA G (a 25) 4 sz, cA G (a 26) 4 ln, cA G (a 27) 240 ce]) (As := [.long (lI (lv)), .long (lI (0)), .long (lI (2))]) (rest := []) (m_X6_in l D G (va := lv) (vb := 0) (vc := 2) (by first | assumption | omega) (by first | assumption | omega) (by first | assumption | omega)) (va_cwS 3 C.1.2.2.2.2 gX6_cell_X6_in rfl rfl rfl (by decide +kernel) ⟨Nat.le_of_ble_eq_true rfl, Nat.le_of_ble_eq_true rfl⟩) [] [0, 1, 2, 3] rfl rfl (by decide) (by decide) (by decide) rfl hl.1 _ rfl (Nat.le_of_ble_eq_true rfl) dX6_cell_18 ⟨Nat.le_of_ble_eq_true rfl, Nat.le_of_ble_eq_true rfl⟩ ?_
    clear hw
    rintro _ _ H locs ⟨rfl, rfl⟩ hw
    have hw : gW D A s.heap [oX6 h a 0 pn ra rm rP rS rD rQ al rw rc tr, cA G (a 25) 4 sz, cA G (a 26) 4 ln, cA G (a 27) 240 ce] H locs := hw
    refine g_ifb_ne C 28 dX6_cell_21 (by decide) (fun c_2 => ?_) (fun c_2 => ?_)
    · skip
      refine g_aload_n C hl 0 rfl rfl dX6_cell_28 ?_
      refine g_get C hw hin_X6_cell_X6 0 rfl rfl 25 (by decide) lk_X6_cell_53 rfl dX6_cell_29 ?_
      refine g_iload_n C hl 1 rfl rfl dX6_cell_32 ?_
      refine g_iald C hw 1 rfl (by omega) (Nat.le_of_ble_eq_true rfl) dX6_cell_33 ?_
      refine g_if_lt C 53 dX6_cell_34 (by decide) (by omega) (fun c_3 => ?_) (fun c_3 => ?_)
      · skip
        refine g_aload_n C hl 0 rfl rfl dX6_cell_53 ?_
        refine g_iload_n C hl 1 rfl rfl dX6_cell_54 ?_
        refine g_iload_n C hl 2 rfl rfl dX6_cell_55 ?_
        refine g_callVi C hw (wr := [cA G (a 26) 4 ln, cA G (a 27) 240 ce]) (As := [.int (iI kk), .int (iI ii)]) (rest := []) (m_X6_noCell l D G (h := h) (a := a) (ft := 0) (pn := pn) (ra := ra) (rm := rm) (rP := rP) (rS := rS) (rD := rD) (rQ := rQ) (al := al) (rw := rw) (rc := rc) (tr := tr) (sz := sz) (kk := kk) (ii := ii) (by first | assumption | omega) (by first | assumption | omega) (by first | assumption | omega)) (cwV 2 C.1.2.2.2.2 gX6_cell_X6_noCell rfl rfl rfl (by decide +kernel) ⟨Nat.le_of_ble_eq_true rfl, Nat.le_of_ble_eq_true rfl⟩) [0, 1] [2, 3] rfl rfl (by decide) (by decide) (by decide) 0 rfl rfl rfl hl.1 _ rfl (Nat.le_of_ble_eq_true rfl) dX6_cell_56 ⟨Nat.le_of_ble_eq_true rfl, Nat.le_of_ble_eq_true rfl⟩ ?_
        clear hw
        rintro _ _ H locs ⟨rfl, rfl⟩ hw
        have hw : gW D A s.heap [cA G (a 26) 4 ln, cA G (a 27) 240 ce, oX6 h a 0 pn ra rm rP rS rD rQ al rw rc tr, cA G (a 25) 4 sz] H locs := hw
        refine g_if_le C 75 dX6_cell_59 (by decide) (by omega) (fun c_4 => ?_) (fun c_4 => ?_)
        · skip
          refine g_aload_n C hl 0 rfl rfl dX6_cell_75 ?_
          refine g_get C hw hin_X6_cell_X6 2 rfl rfl 27 (by decide) lk_X6_cell_59 rfl dX6_cell_76 ?_
          refine g_bipush C dX6_cell_79 (by decide) ?_
          refine g_iload_n C hl 1 rfl rfl dX6_cell_81 ?_
          refine g_imul C dX6_cell_82 ?_
          refine g_iload_n C hl 2 rfl rfl dX6_cell_83 ?_
          refine g_iadd C dX6_cell_84 ?_
          refine g_iald C hw 1 rfl (by omega) (Nat.le_of_ble_eq_true rfl) dX6_cell_85 ?_
          refine g_i2l C dX6_cell_86 (by omega) ?_
          exact g_lret C hr (ws' := [oX6 h a 0 pn ra rm rP rS rD rQ al rw rc tr, cA G (a 25) 4 sz, cA G (a 26) 4 ln, cA G (a 27) 240 ce]) hw [2, 3, 0, 1] (by decide) rfl ⟨(congrArg lI (by unfold R_cel C_cel; (repeat' split) <;> omega)), (by unfold F_cel C_cel; (repeat' (split <;> try (exfalso; omega))) <;> first | rfl | (exfalso; omega) | (rw [show noC sz kk ii = 0 by omega]; done))⟩ dX6_cell_87
        · skip
          refine g_aload_n C hl 0 rfl rfl dX6_cell_62 ?_
          refine g_aload_n C hl 0 rfl rfl dX6_cell_63 ?_
          refine g_iload_n C hl 1 rfl rfl dX6_cell_64 ?_
          refine g_iload_n C hl 2 rfl rfl dX6_cell_65 ?_
          refine g_callVi C hw (wr := [cA G (a 26) 4 ln, cA G (a 27) 240 ce]) (As := [.int (iI kk), .int (iI ii)]) (rest := [.ref h]) (m_X6_noCell l D G (h := h) (a := a) (ft := 0) (pn := pn) (ra := ra) (rm := rm) (rP := rP) (rS := rS) (rD := rD) (rQ := rQ) (al := al) (rw := rw) (rc := rc) (tr := tr) (sz := sz) (kk := kk) (ii := ii) (by first | assumption | omega) (by first | assumption | omega) (by first | assumption | omega)) (cwV 2 C.1.2.2.2.2 gX6_cell_X6_noCell rfl rfl rfl (by decide +kernel) ⟨Nat.le_of_ble_eq_true rfl, Nat.le_of_ble_eq_true rfl⟩) [2, 3] [0, 1] rfl rfl (by decide) (by decide) (by decide) 0 rfl rfl rfl hl.1 _ rfl (Nat.le_of_ble_eq_true rfl) dX6_cell_66 ⟨Nat.le_of_ble_eq_true rfl, Nat.le_of_ble_eq_true rfl⟩ ?_
          clear hw
          rintro _ _ H locs ⟨rfl, rfl⟩ hw
          have hw : gW D A s.heap [cA G (a 26) 4 ln, cA G (a 27) 240 ce, oX6 h a 0 pn ra rm rP rS rD rQ al rw rc tr, cA G (a 25) 4 sz] H locs := hw
          refine g_callVl C hw (wr := [cA G (a 26) 4 ln, cA G (a 27) 240 ce, cA G (a 25) 4 sz]) (As := [.int (iI ((noC sz kk ii)))]) (rest := []) (m_X6_failedLong l D G (h := h) (a := a) (ft := 0) (pn := pn) (ra := ra) (rm := rm) (rP := rP) (rS := rS) (rD := rD) (rQ := rQ) (al := al) (rw := rw) (rc := rc) (tr := tr) (fv := (noC sz kk ii)) ) (cwV 1 C.1.2.2.2.2 gX6_cell_X6_failedLong rfl rfl rfl (by decide +kernel) ⟨Nat.le_of_ble_eq_true rfl, Nat.le_of_ble_eq_true rfl⟩) [2] [0, 1, 3] rfl rfl (by decide) (by decide) (by decide) 0 rfl rfl rfl hl.1 _ rfl (Nat.le_of_ble_eq_true rfl) dX6_cell_69 ⟨Nat.le_of_ble_eq_true rfl, Nat.le_of_ble_eq_true rfl⟩ ?_
          clear hw
          rintro _ _ H locs ⟨rfl, rfl⟩ hw
          have hw : gW D A s.heap [cA G (a 26) 4 ln, cA G (a 27) 240 ce, cA G (a 25) 4 sz, oX6 h a (noC sz kk ii) pn ra rm rP rS rD rQ al rw rc tr] H locs := hw
          refine g_goto C 87 dX6_cell_72 (by decide) ?_
          exact g_lret C hr (ws' := [oX6 h a (noC sz kk ii) pn ra rm rP rS rD rQ al rw rc tr, cA G (a 25) 4 sz, cA G (a 26) 4 ln, cA G (a 27) 240 ce]) hw [3, 2, 0, 1] (by decide) rfl ⟨(congrArg lI (by unfold R_cel C_cel; (repeat' split) <;> omega)), (by unfold F_cel C_cel; (repeat' (split <;> try (exfalso; omega))) <;> first | rfl | (exfalso; omega) | (rw [show noC sz kk ii = 0 by omega]; done))⟩ dX6_cell_87
      · skip
        refine g_aload_n C hl 0 rfl rfl dX6_cell_37 ?_
        refine g_get C hw hin_X6_cell_X6 0 rfl rfl 26 (by decide) lk_X6_cell_56 rfl dX6_cell_38 ?_
        refine g_iload_n C hl 1 rfl rfl dX6_cell_41 ?_
        refine g_iald C hw 2 rfl (by omega) (Nat.le_of_ble_eq_true rfl) dX6_cell_42 ?_
        refine g_iload_n C hl 3 rfl rfl dX6_cell_43 ?_
        refine g_icmp_eq C 53 dX6_cell_44 (by decide) (by omega) (by omega) (fun c_5 => ?_) (fun c_5 => ?_)
        · skip
          refine g_aload_n C hl 0 rfl rfl dX6_cell_53 ?_
          refine g_iload_n C hl 1 rfl rfl dX6_cell_54 ?_
          refine g_iload_n C hl 2 rfl rfl dX6_cell_55 ?_
          refine g_callVi C hw (wr := [cA G (a 26) 4 ln, cA G (a 27) 240 ce]) (As := [.int (iI kk), .int (iI ii)]) (rest := []) (m_X6_noCell l D G (h := h) (a := a) (ft := 0) (pn := pn) (ra := ra) (rm := rm) (rP := rP) (rS := rS) (rD := rD) (rQ := rQ) (al := al) (rw := rw) (rc := rc) (tr := tr) (sz := sz) (kk := kk) (ii := ii) (by first | assumption | omega) (by first | assumption | omega) (by first | assumption | omega)) (cwV 2 C.1.2.2.2.2 gX6_cell_X6_noCell rfl rfl rfl (by decide +kernel) ⟨Nat.le_of_ble_eq_true rfl, Nat.le_of_ble_eq_true rfl⟩) [0, 1] [2, 3] rfl rfl (by decide) (by decide) (by decide) 0 rfl rfl rfl hl.1 _ rfl (Nat.le_of_ble_eq_true rfl) dX6_cell_56 ⟨Nat.le_of_ble_eq_true rfl, Nat.le_of_ble_eq_true rfl⟩ ?_
          clear hw
          rintro _ _ H locs ⟨rfl, rfl⟩ hw
          have hw : gW D A s.heap [cA G (a 26) 4 ln, cA G (a 27) 240 ce, oX6 h a 0 pn ra rm rP rS rD rQ al rw rc tr, cA G (a 25) 4 sz] H locs := hw
          refine g_if_le C 75 dX6_cell_59 (by decide) (by omega) (fun c_6 => ?_) (fun c_6 => ?_)
          · skip
            refine g_aload_n C hl 0 rfl rfl dX6_cell_75 ?_
            refine g_get C hw hin_X6_cell_X6 2 rfl rfl 27 (by decide) lk_X6_cell_59 rfl dX6_cell_76 ?_
            refine g_bipush C dX6_cell_79 (by decide) ?_
            refine g_iload_n C hl 1 rfl rfl dX6_cell_81 ?_
            refine g_imul C dX6_cell_82 ?_
            refine g_iload_n C hl 2 rfl rfl dX6_cell_83 ?_
            refine g_iadd C dX6_cell_84 ?_
            refine g_iald C hw 1 rfl (by omega) (Nat.le_of_ble_eq_true rfl) dX6_cell_85 ?_
            refine g_i2l C dX6_cell_86 (by omega) ?_
            exact g_lret C hr (ws' := [oX6 h a 0 pn ra rm rP rS rD rQ al rw rc tr, cA G (a 25) 4 sz, cA G (a 26) 4 ln, cA G (a 27) 240 ce]) hw [2, 3, 0, 1] (by decide) rfl ⟨(congrArg lI (by unfold R_cel C_cel; (repeat' split) <;> omega)), (by unfold F_cel C_cel; (repeat' (split <;> try (exfalso; omega))) <;> first | rfl | (exfalso; omega) | (rw [show noC sz kk ii = 0 by omega]; done))⟩ dX6_cell_87
          · skip
            refine g_aload_n C hl 0 rfl rfl dX6_cell_62 ?_
            refine g_aload_n C hl 0 rfl rfl dX6_cell_63 ?_
            refine g_iload_n C hl 1 rfl rfl dX6_cell_64 ?_
            refine g_iload_n C hl 2 rfl rfl dX6_cell_65 ?_
            refine g_callVi C hw (wr := [cA G (a 26) 4 ln, cA G (a 27) 240 ce]) (As := [.int (iI kk), .int (iI ii)]) (rest := [.ref h]) (m_X6_noCell l D G (h := h) (a := a) (ft := 0) (pn := pn) (ra := ra) (rm := rm) (rP := rP) (rS := rS) (rD := rD) (rQ := rQ) (al := al) (rw := rw) (rc := rc) (tr := tr) (sz := sz) (kk := kk) (ii := ii) (by first | assumption | omega) (by first | assumption | omega) (by first | assumption | omega)) (cwV 2 C.1.2.2.2.2 gX6_cell_X6_noCell rfl rfl rfl (by decide +kernel) ⟨Nat.le_of_ble_eq_true rfl, Nat.le_of_ble_eq_true rfl⟩) [2, 3] [0, 1] rfl rfl (by decide) (by decide) (by decide) 0 rfl rfl rfl hl.1 _ rfl (Nat.le_of_ble_eq_true rfl) dX6_cell_66 ⟨Nat.le_of_ble_eq_true rfl, Nat.le_of_ble_eq_true rfl⟩ ?_
            clear hw
            rintro _ _ H locs ⟨rfl, rfl⟩ hw
            have hw : gW D A s.heap [cA G (a 26) 4 ln, cA G (a 27) 240 ce, oX6 h a 0 pn ra rm rP rS rD rQ al rw rc tr, cA G (a 25) 4 sz] H locs := hw
            refine g_callVl C hw (wr := [cA G (a 26) 4 ln, cA G (a 27) 240 ce, cA G (a 25) 4 sz]) (As := [.int (iI ((noC sz kk ii)))]) (rest := []) (m_X6_failedLong l D G (h := h) (a := a) (ft := 0) (pn := pn) (ra := ra) (rm := rm) (rP := rP) (rS := rS) (rD := rD) (rQ := rQ) (al := al) (rw := rw) (rc := rc) (tr := tr) (fv := (noC sz kk ii)) ) (cwV 1 C.1.2.2.2.2 gX6_cell_X6_failedLong rfl rfl rfl (by decide +kernel) ⟨Nat.le_of_ble_eq_true rfl, Nat.le_of_ble_eq_true rfl⟩) [2] [0, 1, 3] rfl rfl (by decide) (by decide) (by decide) 0 rfl rfl rfl hl.1 _ rfl (Nat.le_of_ble_eq_true rfl) dX6_cell_69 ⟨Nat.le_of_ble_eq_true rfl, Nat.le_of_ble_eq_true rfl⟩ ?_
            clear hw
            rintro _ _ H locs ⟨rfl, rfl⟩ hw
            have hw : gW D A s.heap [cA G (a 26) 4 ln, cA G (a 27) 240 ce, cA G (a 25) 4 sz, oX6 h a (noC sz kk ii) pn ra rm rP rS rD rQ al rw rc tr] H locs := hw
            refine g_goto C 87 dX6_cell_72 (by decide) ?_
            exact g_lret C hr (ws' := [oX6 h a (noC sz kk ii) pn ra rm rP rS rD rQ al rw rc tr, cA G (a 25) 4 sz, cA G (a 26) 4 ln, cA G (a 27) 240 ce]) hw [3, 2, 0, 1] (by decide) rfl ⟨(congrArg lI (by unfold R_cel C_cel; (repeat' split) <;> omega)), (by unfold F_cel C_cel; (repeat' (split <;> try (exfalso; omega))) <;> first | rfl | (exfalso; omega) | (rw [show noC sz kk ii = 0 by omega]; done))⟩ dX6_cell_87
        · skip
          refine g_aload_n C hl 0 rfl rfl dX6_cell_47 ?_
          refine g_iconst C dX6_cell_48 ?_
          refine g_callVl C hw (wr := [cA G (a 25) 4 sz, cA G (a 26) 4 ln, cA G (a 27) 240 ce]) (As := [.int (iI 2)]) (rest := []) (m_X6_failedLong l D G (h := h) (a := a) (ft := 0) (pn := pn) (ra := ra) (rm := rm) (rP := rP) (rS := rS) (rD := rD) (rQ := rQ) (al := al) (rw := rw) (rc := rc) (tr := tr) (fv := 2) ) (cwV 1 C.1.2.2.2.2 gX6_cell_X6_failedLong rfl rfl rfl (by decide +kernel) ⟨Nat.le_of_ble_eq_true rfl, Nat.le_of_ble_eq_true rfl⟩) [0] [1, 2, 3] rfl rfl (by decide) (by decide) (by decide) 0 rfl rfl rfl hl.1 _ rfl (Nat.le_of_ble_eq_true rfl) dX6_cell_49 ⟨Nat.le_of_ble_eq_true rfl, Nat.le_of_ble_eq_true rfl⟩ ?_
          clear hw
          rintro _ _ H locs ⟨rfl, rfl⟩ hw
          have hw : gW D A s.heap [cA G (a 25) 4 sz, cA G (a 26) 4 ln, cA G (a 27) 240 ce, oX6 h a 2 pn ra rm rP rS rD rQ al rw rc tr] H locs := hw
          exact g_lret C hr (ws' := [oX6 h a 2 pn ra rm rP rS rD rQ al rw rc tr, cA G (a 25) 4 sz, cA G (a 26) 4 ln, cA G (a 27) 240 ce]) hw [3, 0, 1, 2] (by decide) rfl ⟨(congrArg lI (by unfold R_cel C_cel; (repeat' split) <;> omega)), (by unfold F_cel C_cel; (repeat' (split <;> try (exfalso; omega))) <;> first | rfl | (exfalso; omega) | (rw [show noC sz kk ii = 0 by omega]; done))⟩ dX6_cell_52
    · skip
      refine g_callSl C hw (wr := [oX6 h a 0 pn ra rm rP rS rD rQ al rw rc tr, cA G (a 25) 4 sz, cA G (a 26) 4 ln, cA G (a 27) 240 ce]) (As := []) (rest := []) (m_X6_lost l D G  ) (va_cwS 0 C.1.2.2.2.2 gX6_cell_X6_lost rfl rfl rfl (by decide +kernel) ⟨Nat.le_of_ble_eq_true rfl, Nat.le_of_ble_eq_true rfl⟩) [] [0, 1, 2, 3] rfl rfl (by decide) (by decide) (by decide) rfl hl.1 _ rfl (Nat.le_of_ble_eq_true rfl) dX6_cell_24 ⟨Nat.le_of_ble_eq_true rfl, Nat.le_of_ble_eq_true rfl⟩ ?_
      clear hw
      rintro _ _ H locs ⟨rfl, rfl⟩ hw
      have hw : gW D A s.heap [oX6 h a 0 pn ra rm rP rS rD rQ al rw rc tr, cA G (a 25) 4 sz, cA G (a 26) 4 ln, cA G (a 27) 240 ce] H locs := hw
      exact g_lret C hr (ws' := [oX6 h a 0 pn ra rm rP rS rD rQ al rw rc tr, cA G (a 25) 4 sz, cA G (a 26) 4 ln, cA G (a 27) 240 ce]) hw [0, 1, 2, 3] (by decide) rfl ⟨(congrArg lI (by unfold R_cel C_cel; (repeat' split) <;> omega)), (by unfold F_cel C_cel; (repeat' (split <;> try (exfalso; omega))) <;> first | rfl | (exfalso; omega) | (rw [show noC sz kk ii = 0 by omega]; done))⟩ dX6_cell_27

set_option maxRecDepth 20000 in
theorem hin_X6_copy_X6 : ∀ w ∈ u_ws RX6 TX6 30, w ∈ wsX6_copy := by
  intro w h
  exact List.mem_cons_of_mem _ (List.mem_append_right _ (h))
set_option maxRecDepth 20000 in
theorem lk_X6_copy_53 : Cond.fieldLink RX6 53 (TX6 25).1 (TX6 25).2.1 (TX6 25).2.2.1 ∈ wsX6_copy := List.mem_cons_of_mem _ (List.mem_append_left _ (List.mem_of_getElem? (i := 0) rfl))
set_option maxRecDepth 20000 in
theorem lk_X6_copy_56 : Cond.fieldLink RX6 56 (TX6 26).1 (TX6 26).2.1 (TX6 26).2.2.1 ∈ wsX6_copy := List.mem_cons_of_mem _ (List.mem_append_left _ (List.mem_of_getElem? (i := 1) rfl))
set_option maxRecDepth 20000 in
theorem lk_X6_copy_59 : Cond.fieldLink RX6 59 (TX6 27).1 (TX6 27).2.1 (TX6 27).2.2.1 ∈ wsX6_copy := List.mem_cons_of_mem _ (List.mem_append_left _ (List.mem_of_getElem? (i := 3) rfl))
set_option maxRecDepth 20000 in
theorem lk_X6_copy_62 : Cond.fieldLink RX6 62 (TX6 28).1 (TX6 28).2.1 (TX6 28).2.2.1 ∈ wsX6_copy := List.mem_cons_of_mem _ (List.mem_append_left _ (List.mem_of_getElem? (i := 2) rfl))
set_option maxRecDepth 100000 in
set_option maxHeartbeats 8000000 in
theorem m_X6_copy (l : Launch) (D : va_G) (G : gT) (h : Nat) (a : Nat → Nat) (ft : Int) (pn : Int) (ra : Int) (rm : Int) (rP : Int) (rS : Int) (rD : Int) (rQ : Int) (al : Int) (rw : Int) (rc : Int) (tr : Int) (sz : Int → Int) (ln : Int → Int) (ce : Int → Int) (hd : Int → Int) (kk : Int) (ii : Int) (oo : Int) (jj : Int) (nn : Int) (hk : -2147483648 ≤ kk ∧ kk ≤ 2147483647) (hi : -2147483648 ≤ ii ∧ ii ≤ 2147483647) (ho : -2147483648 ≤ oo ∧ oo ≤ 2147483647) (hj : -2147483648 ≤ jj ∧ jj ≤ 2147483647) (hn9 : -2147483648 ≤ nn ∧ nn ≤ 2147483647) (hsh : shOK sz ln ce) : gMi l yX6_copy wsX6_copy ({ frames := 2, cells := 0, slots := 0, locals := 45 }) D G [.ref h, .int (iI kk), .int (iI ii), .int (iI oo), .int (iI jj), .int (iI nn)] [oX6 h a ft pn ra rm rP rS rD rQ al rw rc tr, cA G (a 25) 4 sz, cA G (a 26) 4 ln, cA G (a 27) 240 ce, cA G (a 28) 60 hd] 0 0 (fun (r : Int32) (w : va_W) => ∃ (ce2 : Int → Int) (hd2 : Int → Int), r = (iI (R_cpy sz ln kk ii oo jj nn)) ∧ w = [oX6 h a (F_cpy sz ln kk ii oo jj nn) pn ra rm rP rS rD rQ al rw rc tr, cA G (a 25) 4 sz, cA G (a 26) 4 ln, cA G (a 27) 240 ce2, cA G (a 28) 60 hd2] ∧ (ce2 = if ((0 ≤ kk ∧ kk ≤ 3) ∧ (0 ≤ oo ∧ oo ≤ 3)) ∧ C_cpy sz ln kk ii oo jj nn = 0 then mvF (fun x => ce (60 * kk + ii + x)) ce (60 * oo + jj) nn else ce)) := by
  refine g_start_i (cc := cX6_copy) (nL := 7) (own := RX6) (ret := some .int) (by decide +kernel) rfl rfl (Nat.le_of_ble_eq_true rfl) ?_
  intro p e s m below meth c A ls C hr hnm hw hl
  have hl : lv_has ls 7 [(0, .ref h), (1, .int (iI kk)), (2, .int (iI ii)), (3, .int (iI oo)), (4, .int (iI jj)), (5, .int (iI nn))] := hl
  obtain ⟨hsz, hln, hce⟩ := id hsh
  have s0 := hsz kk
  have l0 := hln kk
  have s1 := hsz oo
  have l1 := hln oo
  refine g_iload_n C hl 1 rfl rfl dX6_copy_0 ?_
  refine g_callSi C hw (wr := [oX6 h a ft pn ra rm rP rS rD rQ al rw rc tr, cA G (a 25) 4 sz, cA G (a 26) 4 ln, cA G (a 27) 240 ce, cA G (a 28) 60 hd]) (As := [.int (iI kk)]) (rest := []) (m_X6_noSheet l D G (kk := kk) (by first | assumption | omega)) (va_cwS 1 C.1.2.2.2.2 gX6_copy_X6_noSheet rfl rfl rfl (by decide +kernel) ⟨Nat.le_of_ble_eq_true rfl, Nat.le_of_ble_eq_true rfl⟩) [] [0, 1, 2, 3, 4] rfl rfl (by decide) (by decide) (by decide) rfl hl.1 _ rfl (Nat.le_of_ble_eq_true rfl) dX6_copy_1 ⟨Nat.le_of_ble_eq_true rfl, Nat.le_of_ble_eq_true rfl⟩ ?_
  clear hw
  rintro _ _ H locs ⟨rfl, rfl⟩ hw
  have hw : gW D A s.heap [oX6 h a ft pn ra rm rP rS rD rQ al rw rc tr, cA G (a 25) 4 sz, cA G (a 26) 4 ln, cA G (a 27) 240 ce, cA G (a 28) 60 hd] H locs := hw
  refine g_ifb_ne C 14 dX6_copy_4 (by decide) (fun c_1 => ?_) (fun c_1 => ?_)
  · skip
    refine g_aload_n C hl 0 rfl rfl dX6_copy_14 ?_
    refine g_iconst C dX6_copy_15 ?_
    refine g_callVi C hw (wr := [cA G (a 25) 4 sz, cA G (a 26) 4 ln, cA G (a 27) 240 ce, cA G (a 28) 60 hd]) (As := [.int (iI ((-1)))]) (rest := []) (m_X6_refused l D G (h := h) (a := a) (ft := ft) (pn := pn) (ra := ra) (rm := rm) (rP := rP) (rS := rS) (rD := rD) (rQ := rQ) (al := al) (rw := rw) (rc := rc) (tr := tr) (cd := (-1)) ) (cwV 1 C.1.2.2.2.2 gX6_copy_X6_refused rfl rfl rfl (by decide +kernel) ⟨Nat.le_of_ble_eq_true rfl, Nat.le_of_ble_eq_true rfl⟩) [0] [1, 2, 3, 4] rfl rfl (by decide) (by decide) (by decide) 0 rfl rfl rfl hl.1 _ rfl (Nat.le_of_ble_eq_true rfl) dX6_copy_16 ⟨Nat.le_of_ble_eq_true rfl, Nat.le_of_ble_eq_true rfl⟩ ?_
    clear hw
    rintro _ _ H locs ⟨rfl, rfl⟩ hw
    have hw : gW D A s.heap [cA G (a 25) 4 sz, cA G (a 26) 4 ln, cA G (a 27) 240 ce, cA G (a 28) 60 hd, oX6 h a 0 pn ra rm rP rS rD rQ al rw rc tr] H locs := hw
    exact g_iret C hr (ws' := [oX6 h a 0 pn ra rm rP rS rD rQ al rw rc tr, cA G (a 25) 4 sz, cA G (a 26) 4 ln, cA G (a 27) 240 ce, cA G (a 28) 60 hd]) hw [4, 0, 1, 2, 3] (by decide) rfl ⟨ce, hd, (congrArg iI (by unfold R_cpy C_cpy; (repeat' split) <;> omega)), (by unfold F_cpy C_cpy; (repeat' (split <;> try (exfalso; omega))) <;> first | rfl | (exfalso; omega)), (by first | (rw [if_neg (by unfold C_cpy; (repeat' split) <;> omega)]; done) | (rw [if_pos (by unfold C_cpy; (repeat' split) <;> omega), hc1, show yy = nn by omega]; exact mvF_eq (fun j h1 h2 => hd1 j h1 (by omega))))⟩ dX6_copy_19
  · skip
    refine g_iload_n C hl 3 rfl rfl dX6_copy_7 ?_
    refine g_callSi C hw (wr := [oX6 h a ft pn ra rm rP rS rD rQ al rw rc tr, cA G (a 25) 4 sz, cA G (a 26) 4 ln, cA G (a 27) 240 ce, cA G (a 28) 60 hd]) (As := [.int (iI oo)]) (rest := []) (m_X6_noSheet l D G (kk := oo) (by first | assumption | omega)) (va_cwS 1 C.1.2.2.2.2 gX6_copy_X6_noSheet rfl rfl rfl (by decide +kernel) ⟨Nat.le_of_ble_eq_true rfl, Nat.le_of_ble_eq_true rfl⟩) [] [0, 1, 2, 3, 4] rfl rfl (by decide) (by decide) (by decide) rfl hl.1 _ rfl (Nat.le_of_ble_eq_true rfl) dX6_copy_8 ⟨Nat.le_of_ble_eq_true rfl, Nat.le_of_ble_eq_true rfl⟩ ?_
    clear hw
    rintro _ _ H locs ⟨rfl, rfl⟩ hw
    have hw : gW D A s.heap [oX6 h a ft pn ra rm rP rS rD rQ al rw rc tr, cA G (a 25) 4 sz, cA G (a 26) 4 ln, cA G (a 27) 240 ce, cA G (a 28) 60 hd] H locs := hw
    refine g_ifb_eq C 20 dX6_copy_11 (by decide) (fun c_2 => ?_) (fun c_2 => ?_)
    · skip
      refine g_aload_n C hl 0 rfl rfl dX6_copy_20 ?_
      refine g_get C hw hin_X6_copy_X6 0 rfl rfl 25 (by decide) lk_X6_copy_53 rfl dX6_copy_21 ?_
      refine g_iload_n C hl 1 rfl rfl dX6_copy_24 ?_
      refine g_iald C hw 1 rfl (by omega) (Nat.le_of_ble_eq_true rfl) dX6_copy_25 ?_
      refine g_if_lt C 38 dX6_copy_26 (by decide) (by omega) (fun c_3 => ?_) (fun c_3 => ?_)
      · skip
        refine g_aload_n C hl 0 rfl rfl dX6_copy_38 ?_
        refine g_iconst C dX6_copy_39 ?_
        refine g_callVi C hw (wr := [cA G (a 25) 4 sz, cA G (a 26) 4 ln, cA G (a 27) 240 ce, cA G (a 28) 60 hd]) (As := [.int (iI 1)]) (rest := []) (m_X6_failed l D G (h := h) (a := a) (ft := ft) (pn := pn) (ra := ra) (rm := rm) (rP := rP) (rS := rS) (rD := rD) (rQ := rQ) (al := al) (rw := rw) (rc := rc) (tr := tr) (fv := 1) ) (cwV 1 C.1.2.2.2.2 gX6_copy_X6_failed rfl rfl rfl (by decide +kernel) ⟨Nat.le_of_ble_eq_true rfl, Nat.le_of_ble_eq_true rfl⟩) [0] [1, 2, 3, 4] rfl rfl (by decide) (by decide) (by decide) 0 rfl rfl rfl hl.1 _ rfl (Nat.le_of_ble_eq_true rfl) dX6_copy_40 ⟨Nat.le_of_ble_eq_true rfl, Nat.le_of_ble_eq_true rfl⟩ ?_
        clear hw
        rintro _ _ H locs ⟨rfl, rfl⟩ hw
        have hw : gW D A s.heap [cA G (a 25) 4 sz, cA G (a 26) 4 ln, cA G (a 27) 240 ce, cA G (a 28) 60 hd, oX6 h a 1 pn ra rm rP rS rD rQ al rw rc tr] H locs := hw
        exact g_iret C hr (ws' := [oX6 h a 1 pn ra rm rP rS rD rQ al rw rc tr, cA G (a 25) 4 sz, cA G (a 26) 4 ln, cA G (a 27) 240 ce, cA G (a 28) 60 hd]) hw [4, 0, 1, 2, 3] (by decide) rfl ⟨ce, hd, (congrArg iI (by unfold R_cpy C_cpy; (repeat' split) <;> omega)), (by unfold F_cpy C_cpy; (repeat' (split <;> try (exfalso; omega))) <;> first | rfl | (exfalso; omega)), (by first | (rw [if_neg (by unfold C_cpy; (repeat' split) <;> omega)]; done) | (rw [if_pos (by unfold C_cpy; (repeat' split) <;> omega), hc1, show yy = nn by omega]; exact mvF_eq (fun j h1 h2 => hd1 j h1 (by omega))))⟩ dX6_copy_43
      · skip
        refine g_aload_n C hl 0 rfl rfl dX6_copy_29 ?_
        refine g_get C hw hin_X6_copy_X6 0 rfl rfl 25 (by decide) lk_X6_copy_53 rfl dX6_copy_30 ?_
        refine g_iload_n C hl 3 rfl rfl dX6_copy_33 ?_
        refine g_iald C hw 1 rfl (by omega) (Nat.le_of_ble_eq_true rfl) dX6_copy_34 ?_
        refine g_if_ge C 44 dX6_copy_35 (by decide) (by omega) (fun c_4 => ?_) (fun c_4 => ?_)
        · skip
          refine g_aload_n C hl 0 rfl rfl dX6_copy_44 ?_
          refine g_get C hw hin_X6_copy_X6 0 rfl rfl 26 (by decide) lk_X6_copy_56 rfl dX6_copy_45 ?_
          refine g_iload_n C hl 1 rfl rfl dX6_copy_48 ?_
          refine g_iald C hw 2 rfl (by omega) (Nat.le_of_ble_eq_true rfl) dX6_copy_49 ?_
          refine g_aload_n C hl 0 rfl rfl dX6_copy_50 ?_
          refine g_get C hw hin_X6_copy_X6 0 rfl rfl 26 (by decide) lk_X6_copy_56 rfl dX6_copy_51 ?_
          refine g_iload_n C hl 3 rfl rfl dX6_copy_54 ?_
          refine g_iald C hw 2 rfl (by omega) (Nat.le_of_ble_eq_true rfl) dX6_copy_55 ?_
          refine g_icmp_eq C 65 dX6_copy_56 (by decide) (by omega) (by omega) (fun c_5 => ?_) (fun c_5 => ?_)
          · skip
            refine g_iload_n C hl 2 rfl rfl dX6_copy_65 ?_
            refine g_iload C hl 5 rfl dX6_copy_66 ?_
            refine g_i2l C dX6_copy_68 (by omega) ?_
            refine g_aload_n C hl 0 rfl rfl dX6_copy_69 ?_
            refine g_get C hw hin_X6_copy_X6 0 rfl rfl 25 (by decide) lk_X6_copy_53 rfl dX6_copy_70 ?_
            refine g_iload_n C hl 1 rfl rfl dX6_copy_73 ?_
            refine g_iald C hw 1 rfl (by omega) (Nat.le_of_ble_eq_true rfl) dX6_copy_74 ?_
            refine g_callSi C hw (wr := [oX6 h a ft pn ra rm rP rS rD rQ al rw rc tr, cA G (a 25) 4 sz, cA G (a 26) 4 ln, cA G (a 27) 240 ce, cA G (a 28) 60 hd]) (As := [.int (iI ii), .long (lI (nn)), .int (iI (sz kk))]) (rest := []) (m_X6_isBeyond l D G (ii := ii) (nn := nn) (ss := (sz kk)) (by first | assumption | omega) (by first | assumption | omega) (by first | assumption | omega)) (va_cwS 3 C.1.2.2.2.2 gX6_copy_X6_isBeyond rfl rfl rfl (by decide +kernel) ⟨Nat.le_of_ble_eq_true rfl, Nat.le_of_ble_eq_true rfl⟩) [] [0, 1, 2, 3, 4] rfl rfl (by decide) (by decide) (by decide) rfl hl.1 _ rfl (Nat.le_of_ble_eq_true rfl) dX6_copy_75 ⟨Nat.le_of_ble_eq_true rfl, Nat.le_of_ble_eq_true rfl⟩ ?_
            clear hw
            rintro _ _ H locs ⟨rfl, rfl⟩ hw
            have hw : gW D A s.heap [oX6 h a ft pn ra rm rP rS rD rQ al rw rc tr, cA G (a 25) 4 sz, cA G (a 26) 4 ln, cA G (a 27) 240 ce, cA G (a 28) 60 hd] H locs := hw
            refine g_ifb_ne C 98 dX6_copy_78 (by decide) (fun c_6 => ?_) (fun c_6 => ?_)
            · skip
              refine g_aload_n C hl 0 rfl rfl dX6_copy_98 ?_
              refine g_iconst C dX6_copy_99 ?_
              refine g_callVi C hw (wr := [cA G (a 25) 4 sz, cA G (a 26) 4 ln, cA G (a 27) 240 ce, cA G (a 28) 60 hd]) (As := [.int (iI 3)]) (rest := []) (m_X6_failed l D G (h := h) (a := a) (ft := ft) (pn := pn) (ra := ra) (rm := rm) (rP := rP) (rS := rS) (rD := rD) (rQ := rQ) (al := al) (rw := rw) (rc := rc) (tr := tr) (fv := 3) ) (cwV 1 C.1.2.2.2.2 gX6_copy_X6_failed rfl rfl rfl (by decide +kernel) ⟨Nat.le_of_ble_eq_true rfl, Nat.le_of_ble_eq_true rfl⟩) [0] [1, 2, 3, 4] rfl rfl (by decide) (by decide) (by decide) 0 rfl rfl rfl hl.1 _ rfl (Nat.le_of_ble_eq_true rfl) dX6_copy_100 ⟨Nat.le_of_ble_eq_true rfl, Nat.le_of_ble_eq_true rfl⟩ ?_
              clear hw
              rintro _ _ H locs ⟨rfl, rfl⟩ hw
              have hw : gW D A s.heap [cA G (a 25) 4 sz, cA G (a 26) 4 ln, cA G (a 27) 240 ce, cA G (a 28) 60 hd, oX6 h a 3 pn ra rm rP rS rD rQ al rw rc tr] H locs := hw
              exact g_iret C hr (ws' := [oX6 h a 3 pn ra rm rP rS rD rQ al rw rc tr, cA G (a 25) 4 sz, cA G (a 26) 4 ln, cA G (a 27) 240 ce, cA G (a 28) 60 hd]) hw [4, 0, 1, 2, 3] (by decide) rfl ⟨ce, hd, (congrArg iI (by unfold R_cpy C_cpy; (repeat' split) <;> omega)), (by unfold F_cpy C_cpy; (repeat' (split <;> try (exfalso; omega))) <;> first | rfl | (exfalso; omega)), (by first | (rw [if_neg (by unfold C_cpy; (repeat' split) <;> omega)]; done) | (rw [if_pos (by unfold C_cpy; (repeat' split) <;> omega), hc1, show yy = nn by omega]; exact mvF_eq (fun j h1 h2 => hd1 j h1 (by omega))))⟩ dX6_copy_103
            · skip
              refine g_iload C hl 4 rfl dX6_copy_81 ?_
              refine g_iload C hl 5 rfl dX6_copy_83 ?_
              refine g_i2l C dX6_copy_85 (by omega) ?_
              refine g_aload_n C hl 0 rfl rfl dX6_copy_86 ?_
              refine g_get C hw hin_X6_copy_X6 0 rfl rfl 25 (by decide) lk_X6_copy_53 rfl dX6_copy_87 ?_
              refine g_iload_n C hl 3 rfl rfl dX6_copy_90 ?_
              refine g_iald C hw 1 rfl (by omega) (Nat.le_of_ble_eq_true rfl) dX6_copy_91 ?_
              refine g_callSi C hw (wr := [oX6 h a ft pn ra rm rP rS rD rQ al rw rc tr, cA G (a 25) 4 sz, cA G (a 26) 4 ln, cA G (a 27) 240 ce, cA G (a 28) 60 hd]) (As := [.int (iI jj), .long (lI (nn)), .int (iI (sz oo))]) (rest := []) (m_X6_isBeyond l D G (ii := jj) (nn := nn) (ss := (sz oo)) (by first | assumption | omega) (by first | assumption | omega) (by first | assumption | omega)) (va_cwS 3 C.1.2.2.2.2 gX6_copy_X6_isBeyond rfl rfl rfl (by decide +kernel) ⟨Nat.le_of_ble_eq_true rfl, Nat.le_of_ble_eq_true rfl⟩) [] [0, 1, 2, 3, 4] rfl rfl (by decide) (by decide) (by decide) rfl hl.1 _ rfl (Nat.le_of_ble_eq_true rfl) dX6_copy_92 ⟨Nat.le_of_ble_eq_true rfl, Nat.le_of_ble_eq_true rfl⟩ ?_
              clear hw
              rintro _ _ H locs ⟨rfl, rfl⟩ hw
              have hw : gW D A s.heap [oX6 h a ft pn ra rm rP rS rD rQ al rw rc tr, cA G (a 25) 4 sz, cA G (a 26) 4 ln, cA G (a 27) 240 ce, cA G (a 28) 60 hd] H locs := hw
              refine g_ifb_eq C 104 dX6_copy_95 (by decide) (fun c_7 => ?_) (fun c_7 => ?_)
              · skip
                refine g_iconst C dX6_copy_104 ?_
                refine g_istore C [(6, .int (iI 0)), (0, .ref h), (1, .int (iI kk)), (2, .int (iI ii)), (3, .int (iI oo)), (4, .int (iI jj)), (5, .int (iI nn))] dX6_copy_105 hl (by decide) rfl ?_
                clear hl
                intro ls hl
                refine g_loop (σ := (Int) × (Int → Int)) (fun z_ => [oX6 h a ft pn ra rm rP rS rD rQ al rw rc tr, cA G (a 25) 4 sz, cA G (a 26) 4 ln, cA G (a 27) 240 ce, cA G (a 28) 60 z_.2]) (fun z_ => [(6, .int (iI (z_.1))), (0, .ref h), (1, .int (iI kk)), (2, .int (iI ii)), (3, .int (iI oo)), (4, .int (iI jj)), (5, .int (iI nn))]) (fun z_ => (0 ≤ z_.1 ∧ z_.1 ≤ nn) ∧ (∀ j, 0 ≤ j → j < z_.1 → z_.2 j = ce (60 * kk + ii + j))) (fun z_ => (nn - z_.1).toNat) (0, hd) ⟨by (try dsimp only); omega, by (try dsimp only); intro j h1 h2; omega⟩ hw (lv_sub hl [0, 1, 2, 3, 4, 5, 6] rfl) ?_
                clear hw hl
                rintro ⟨xx, d1⟩ ⟨hxx, hd1⟩ H locs ls hw hl ih_8
                replace hxx : 0 ≤ xx ∧ xx ≤ nn := hxx
                replace hd1 : ∀ j, 0 ≤ j → j < xx → d1 j = ce (60 * kk + ii + j) := hd1
                replace hw : gW D A s.heap [oX6 h a ft pn ra rm rP rS rD rQ al rw rc tr, cA G (a 25) 4 sz, cA G (a 26) 4 ln, cA G (a 27) 240 ce, cA G (a 28) 60 d1] H locs := hw
                replace hl : lv_has ls 7 [(6, .int (iI xx)), (0, .ref h), (1, .int (iI kk)), (2, .int (iI ii)), (3, .int (iI oo)), (4, .int (iI jj)), (5, .int (iI nn))] := hl
                replace ih_8 : ∀ (xx' : Int) (d1' : Int → Int), ((0 ≤ xx' ∧ xx' ≤ nn) ∧ (∀ j, 0 ≤ j → j < xx' → d1' j = ce (60 * kk + ii + j))) → ((nn - xx').toNat) < ((nn - xx).toNat) → ∀ (H : Heap) (locs : List Loc) (ls : Array Slot), gW D A s.heap [oX6 h a ft pn ra rm rP rS rD rQ al rw rc tr, cA G (a 25) 4 sz, cA G (a 26) 4 ln, cA G (a 27) 240 ce, cA G (a 28) 60 d1'] H locs → lv_has ls 7 [(6, .int (iI (xx'))), (0, .ref h), (1, .int (iI kk)), (2, .int (iI ii)), (3, .int (iI oo)), (4, .int (iI jj)), (5, .int (iI nn))] → W p l e _ s m _ below meth c H locs _ _ _ (F0 m 107 ls []) := fun xx' d1' => ih_8 (xx', d1')
                refine g_iload C hl 0 rfl dX6_copy_107 ?_
                refine g_iload C hl 6 rfl dX6_copy_109 ?_
                refine g_icmp_ge C 141 dX6_copy_111 (by decide) (by omega) (by omega) (fun c_9 => ?_) (fun c_9 => ?_)
                · skip
                  refine g_iconst C dX6_copy_141 ?_
                  refine g_istore C [(6, .int (iI 0)), (0, .ref h), (1, .int (iI kk)), (2, .int (iI ii)), (3, .int (iI oo)), (4, .int (iI jj)), (5, .int (iI nn))] dX6_copy_142 hl (by decide) rfl ?_
                  clear hl
                  intro ls hl
                  refine g_loop (σ := (Int) × (Int → Int)) (fun z_ => [oX6 h a ft pn ra rm rP rS rD rQ al rw rc tr, cA G (a 25) 4 sz, cA G (a 26) 4 ln, cA G (a 27) 240 z_.2, cA G (a 28) 60 d1]) (fun z_ => [(6, .int (iI (z_.1))), (0, .ref h), (1, .int (iI kk)), (2, .int (iI ii)), (3, .int (iI oo)), (4, .int (iI jj)), (5, .int (iI nn))]) (fun z_ => (0 ≤ z_.1 ∧ z_.1 ≤ nn) ∧ (z_.2 = mvF d1 ce (60 * oo + jj) z_.1)) (fun z_ => (nn - z_.1).toNat) (0, ce) ⟨by (try dsimp only); omega, by (try dsimp only); exact (mvF_0 _ _ _).symm⟩ hw (lv_sub hl [0, 1, 2, 3, 4, 5, 6] rfl) ?_
                  clear hw hl
                  rintro ⟨yy, c1⟩ ⟨hyy, hc1⟩ H locs ls hw hl ih_10
                  replace hyy : 0 ≤ yy ∧ yy ≤ nn := hyy
                  replace hc1 : c1 = mvF d1 ce (60 * oo + jj) yy := hc1
                  replace hw : gW D A s.heap [oX6 h a ft pn ra rm rP rS rD rQ al rw rc tr, cA G (a 25) 4 sz, cA G (a 26) 4 ln, cA G (a 27) 240 c1, cA G (a 28) 60 d1] H locs := hw
                  replace hl : lv_has ls 7 [(6, .int (iI yy)), (0, .ref h), (1, .int (iI kk)), (2, .int (iI ii)), (3, .int (iI oo)), (4, .int (iI jj)), (5, .int (iI nn))] := hl
                  replace ih_10 : ∀ (yy' : Int) (c1' : Int → Int), ((0 ≤ yy' ∧ yy' ≤ nn) ∧ (c1' = mvF d1 ce (60 * oo + jj) yy')) → ((nn - yy').toNat) < ((nn - yy).toNat) → ∀ (H : Heap) (locs : List Loc) (ls : Array Slot), gW D A s.heap [oX6 h a ft pn ra rm rP rS rD rQ al rw rc tr, cA G (a 25) 4 sz, cA G (a 26) 4 ln, cA G (a 27) 240 c1', cA G (a 28) 60 d1] H locs → lv_has ls 7 [(6, .int (iI (yy'))), (0, .ref h), (1, .int (iI kk)), (2, .int (iI ii)), (3, .int (iI oo)), (4, .int (iI jj)), (5, .int (iI nn))] → W p l e _ s m _ below meth c H locs _ _ _ (F0 m 144 ls []) := fun yy' c1' => ih_10 (yy', c1')
                  refine g_iload C hl 0 rfl dX6_copy_144 ?_
                  refine g_iload C hl 6 rfl dX6_copy_146 ?_
                  refine g_icmp_ge C 179 dX6_copy_148 (by decide) (by omega) (by omega) (fun c_11 => ?_) (fun c_11 => ?_)
                  · skip
                    refine g_aload_n C hl 1 rfl rfl dX6_copy_179 ?_
                    refine g_iload C hl 6 rfl dX6_copy_180 ?_
                    refine g_callVi C hw (wr := [cA G (a 25) 4 sz, cA G (a 26) 4 ln, cA G (a 27) 240 c1, cA G (a 28) 60 d1]) (As := [.int (iI nn)]) (rest := []) (m_X6_refused l D G (h := h) (a := a) (ft := ft) (pn := pn) (ra := ra) (rm := rm) (rP := rP) (rS := rS) (rD := rD) (rQ := rQ) (al := al) (rw := rw) (rc := rc) (tr := tr) (cd := nn) ) (cwV 1 C.1.2.2.2.2 gX6_copy_X6_refused rfl rfl rfl (by decide +kernel) ⟨Nat.le_of_ble_eq_true rfl, Nat.le_of_ble_eq_true rfl⟩) [0] [1, 2, 3, 4] rfl rfl (by decide) (by decide) (by decide) 0 rfl rfl rfl hl.1 _ rfl (Nat.le_of_ble_eq_true rfl) dX6_copy_182 ⟨Nat.le_of_ble_eq_true rfl, Nat.le_of_ble_eq_true rfl⟩ ?_
                    clear hw
                    rintro _ _ H locs ⟨rfl, rfl⟩ hw
                    have hw : gW D A s.heap [cA G (a 25) 4 sz, cA G (a 26) 4 ln, cA G (a 27) 240 c1, cA G (a 28) 60 d1, oX6 h a 0 pn ra rm rP rS rD rQ al rw rc tr] H locs := hw
                    exact g_iret C hr (ws' := [oX6 h a 0 pn ra rm rP rS rD rQ al rw rc tr, cA G (a 25) 4 sz, cA G (a 26) 4 ln, cA G (a 27) 240 c1, cA G (a 28) 60 d1]) hw [4, 0, 1, 2, 3] (by decide) rfl ⟨c1, d1, (congrArg iI (by unfold R_cpy C_cpy; (repeat' split) <;> omega)), (by unfold F_cpy C_cpy; (repeat' (split <;> try (exfalso; omega))) <;> first | rfl | (exfalso; omega)), (by first | (rw [if_neg (by unfold C_cpy; (repeat' split) <;> omega)]; done) | (rw [if_pos (by unfold C_cpy; (repeat' split) <;> omega), hc1, show yy = nn by omega]; exact mvF_eq (fun j h1 h2 => hd1 j h1 (by omega))))⟩ dX6_copy_185
                  · skip
                    refine g_aload_n C hl 1 rfl rfl dX6_copy_151 ?_
                    refine g_get C hw hin_X6_copy_X6 0 rfl rfl 27 (by decide) lk_X6_copy_59 rfl dX6_copy_152 ?_
                    refine g_bipush C dX6_copy_155 (by decide) ?_
                    refine g_iload_n C hl 4 rfl rfl dX6_copy_157 ?_
                    refine g_imul C dX6_copy_158 ?_
                    refine g_iload C hl 5 rfl dX6_copy_159 ?_
                    refine g_iadd C dX6_copy_161 ?_
                    refine g_iload C hl 0 rfl dX6_copy_162 ?_
                    refine g_iadd C dX6_copy_164 ?_
                    refine g_aload_n C hl 1 rfl rfl dX6_copy_165 ?_
                    refine g_get C hw hin_X6_copy_X6 0 rfl rfl 28 (by decide) lk_X6_copy_62 rfl dX6_copy_166 ?_
                    refine g_iload C hl 0 rfl dX6_copy_169 ?_
                    refine g_iald C hw 4 rfl (by omega) (Nat.le_of_ble_eq_true rfl) dX6_copy_171 ?_
                    refine g_iast C hw [oX6 h a ft pn ra rm rP rS rD rQ al rw rc tr, cA G (a 25) 4 sz, cA G (a 26) 4 ln, cA G (a 27) 240 (up c1 (((60 * oo) + jj) + yy) (d1 yy)), cA G (a 28) 60 d1] 3 rfl (by omega) (Nat.le_of_ble_eq_true rfl) rfl dX6_copy_172 ?_
                    clear hw
                    intro H locs hw
                    refine g_iinc C [(6, .int (iI (yy + 1))), (0, .ref h), (1, .int (iI kk)), (2, .int (iI ii)), (3, .int (iI oo)), (4, .int (iI jj)), (5, .int (iI nn))] 0 dX6_copy_173 hl rfl (by decide) rfl ?_
                    clear hl
                    intro ls hl
                    refine g_goto C 144 dX6_copy_176 (by decide) ?_
                    have hw : gW D A s.heap [oX6 h a ft pn ra rm rP rS rD rQ al rw rc tr, cA G (a 25) 4 sz, cA G (a 26) 4 ln, cA G (a 27) 240 (up c1 (((60 * oo) + jj) + yy) (d1 yy)), cA G (a 28) 60 d1] H locs := g_perm hw [0, 1, 2, 3, 4] (by decide) rfl
                    exact ih_10 (yy + 1) (up c1 (((60 * oo) + jj) + yy) (d1 yy)) ⟨by omega, by rw [hc1]; exact mvF_s hyy.1⟩ (by omega) H locs ls hw (lv_sub hl [0, 1, 2, 3, 4, 5, 6] rfl)
                · skip
                  refine g_aload_n C hl 1 rfl rfl dX6_copy_114 ?_
                  refine g_get C hw hin_X6_copy_X6 0 rfl rfl 28 (by decide) lk_X6_copy_62 rfl dX6_copy_115 ?_
                  refine g_iload C hl 0 rfl dX6_copy_118 ?_
                  refine g_aload_n C hl 1 rfl rfl dX6_copy_120 ?_
                  refine g_get C hw hin_X6_copy_X6 0 rfl rfl 27 (by decide) lk_X6_copy_59 rfl dX6_copy_121 ?_
                  refine g_bipush C dX6_copy_124 (by decide) ?_
                  refine g_iload_n C hl 2 rfl rfl dX6_copy_126 ?_
                  refine g_imul C dX6_copy_127 ?_
                  refine g_iload_n C hl 3 rfl rfl dX6_copy_128 ?_
                  refine g_iadd C dX6_copy_129 ?_
                  refine g_iload C hl 0 rfl dX6_copy_130 ?_
                  refine g_iadd C dX6_copy_132 ?_
                  refine g_iald C hw 3 rfl (by omega) (Nat.le_of_ble_eq_true rfl) dX6_copy_133 ?_
                  refine g_iast C hw [oX6 h a ft pn ra rm rP rS rD rQ al rw rc tr, cA G (a 25) 4 sz, cA G (a 26) 4 ln, cA G (a 27) 240 ce, cA G (a 28) 60 (up d1 xx (ce (((60 * kk) + ii) + xx)))] 4 rfl (by omega) (Nat.le_of_ble_eq_true rfl) rfl dX6_copy_134 ?_
                  clear hw
                  intro H locs hw
                  refine g_iinc C [(6, .int (iI (xx + 1))), (0, .ref h), (1, .int (iI kk)), (2, .int (iI ii)), (3, .int (iI oo)), (4, .int (iI jj)), (5, .int (iI nn))] 0 dX6_copy_135 hl rfl (by decide) rfl ?_
                  clear hl
                  intro ls hl
                  refine g_goto C 107 dX6_copy_138 (by decide) ?_
                  have hw : gW D A s.heap [oX6 h a ft pn ra rm rP rS rD rQ al rw rc tr, cA G (a 25) 4 sz, cA G (a 26) 4 ln, cA G (a 27) 240 ce, cA G (a 28) 60 (up d1 xx (ce (((60 * kk) + ii) + xx)))] H locs := g_perm hw [0, 1, 2, 3, 4] (by decide) rfl
                  exact ih_8 (xx + 1) (up d1 xx (ce (((60 * kk) + ii) + xx))) ⟨by omega, by intro j h1 h2; by_cases q : j = xx; rw [q, up_s]; rw [up_n q]; exact hd1 j h1 (by omega)⟩ (by omega) H locs ls hw (lv_sub hl [0, 1, 2, 3, 4, 5, 6] rfl)
              · skip
                refine g_aload_n C hl 0 rfl rfl dX6_copy_98 ?_
                refine g_iconst C dX6_copy_99 ?_
                refine g_callVi C hw (wr := [cA G (a 25) 4 sz, cA G (a 26) 4 ln, cA G (a 27) 240 ce, cA G (a 28) 60 hd]) (As := [.int (iI 3)]) (rest := []) (m_X6_failed l D G (h := h) (a := a) (ft := ft) (pn := pn) (ra := ra) (rm := rm) (rP := rP) (rS := rS) (rD := rD) (rQ := rQ) (al := al) (rw := rw) (rc := rc) (tr := tr) (fv := 3) ) (cwV 1 C.1.2.2.2.2 gX6_copy_X6_failed rfl rfl rfl (by decide +kernel) ⟨Nat.le_of_ble_eq_true rfl, Nat.le_of_ble_eq_true rfl⟩) [0] [1, 2, 3, 4] rfl rfl (by decide) (by decide) (by decide) 0 rfl rfl rfl hl.1 _ rfl (Nat.le_of_ble_eq_true rfl) dX6_copy_100 ⟨Nat.le_of_ble_eq_true rfl, Nat.le_of_ble_eq_true rfl⟩ ?_
                clear hw
                rintro _ _ H locs ⟨rfl, rfl⟩ hw
                have hw : gW D A s.heap [cA G (a 25) 4 sz, cA G (a 26) 4 ln, cA G (a 27) 240 ce, cA G (a 28) 60 hd, oX6 h a 3 pn ra rm rP rS rD rQ al rw rc tr] H locs := hw
                exact g_iret C hr (ws' := [oX6 h a 3 pn ra rm rP rS rD rQ al rw rc tr, cA G (a 25) 4 sz, cA G (a 26) 4 ln, cA G (a 27) 240 ce, cA G (a 28) 60 hd]) hw [4, 0, 1, 2, 3] (by decide) rfl ⟨ce, hd, (congrArg iI (by unfold R_cpy C_cpy; (repeat' split) <;> omega)), (by unfold F_cpy C_cpy; (repeat' (split <;> try (exfalso; omega))) <;> first | rfl | (exfalso; omega)), (by first | (rw [if_neg (by unfold C_cpy; (repeat' split) <;> omega)]; done) | (rw [if_pos (by unfold C_cpy; (repeat' split) <;> omega), hc1, show yy = nn by omega]; exact mvF_eq (fun j h1 h2 => hd1 j h1 (by omega))))⟩ dX6_copy_103
          · skip
            refine g_aload_n C hl 0 rfl rfl dX6_copy_59 ?_
            refine g_iconst C dX6_copy_60 ?_
            refine g_callVi C hw (wr := [cA G (a 25) 4 sz, cA G (a 26) 4 ln, cA G (a 27) 240 ce, cA G (a 28) 60 hd]) (As := [.int (iI 2)]) (rest := []) (m_X6_failed l D G (h := h) (a := a) (ft := ft) (pn := pn) (ra := ra) (rm := rm) (rP := rP) (rS := rS) (rD := rD) (rQ := rQ) (al := al) (rw := rw) (rc := rc) (tr := tr) (fv := 2) ) (cwV 1 C.1.2.2.2.2 gX6_copy_X6_failed rfl rfl rfl (by decide +kernel) ⟨Nat.le_of_ble_eq_true rfl, Nat.le_of_ble_eq_true rfl⟩) [0] [1, 2, 3, 4] rfl rfl (by decide) (by decide) (by decide) 0 rfl rfl rfl hl.1 _ rfl (Nat.le_of_ble_eq_true rfl) dX6_copy_61 ⟨Nat.le_of_ble_eq_true rfl, Nat.le_of_ble_eq_true rfl⟩ ?_
            clear hw
            rintro _ _ H locs ⟨rfl, rfl⟩ hw
            have hw : gW D A s.heap [cA G (a 25) 4 sz, cA G (a 26) 4 ln, cA G (a 27) 240 ce, cA G (a 28) 60 hd, oX6 h a 2 pn ra rm rP rS rD rQ al rw rc tr] H locs := hw
            exact g_iret C hr (ws' := [oX6 h a 2 pn ra rm rP rS rD rQ al rw rc tr, cA G (a 25) 4 sz, cA G (a 26) 4 ln, cA G (a 27) 240 ce, cA G (a 28) 60 hd]) hw [4, 0, 1, 2, 3] (by decide) rfl ⟨ce, hd, (congrArg iI (by unfold R_cpy C_cpy; (repeat' split) <;> omega)), (by unfold F_cpy C_cpy; (repeat' (split <;> try (exfalso; omega))) <;> first | rfl | (exfalso; omega)), (by first | (rw [if_neg (by unfold C_cpy; (repeat' split) <;> omega)]; done) | (rw [if_pos (by unfold C_cpy; (repeat' split) <;> omega), hc1, show yy = nn by omega]; exact mvF_eq (fun j h1 h2 => hd1 j h1 (by omega))))⟩ dX6_copy_64
        · skip
          refine g_aload_n C hl 0 rfl rfl dX6_copy_38 ?_
          refine g_iconst C dX6_copy_39 ?_
          refine g_callVi C hw (wr := [cA G (a 25) 4 sz, cA G (a 26) 4 ln, cA G (a 27) 240 ce, cA G (a 28) 60 hd]) (As := [.int (iI 1)]) (rest := []) (m_X6_failed l D G (h := h) (a := a) (ft := ft) (pn := pn) (ra := ra) (rm := rm) (rP := rP) (rS := rS) (rD := rD) (rQ := rQ) (al := al) (rw := rw) (rc := rc) (tr := tr) (fv := 1) ) (cwV 1 C.1.2.2.2.2 gX6_copy_X6_failed rfl rfl rfl (by decide +kernel) ⟨Nat.le_of_ble_eq_true rfl, Nat.le_of_ble_eq_true rfl⟩) [0] [1, 2, 3, 4] rfl rfl (by decide) (by decide) (by decide) 0 rfl rfl rfl hl.1 _ rfl (Nat.le_of_ble_eq_true rfl) dX6_copy_40 ⟨Nat.le_of_ble_eq_true rfl, Nat.le_of_ble_eq_true rfl⟩ ?_
          clear hw
          rintro _ _ H locs ⟨rfl, rfl⟩ hw
          have hw : gW D A s.heap [cA G (a 25) 4 sz, cA G (a 26) 4 ln, cA G (a 27) 240 ce, cA G (a 28) 60 hd, oX6 h a 1 pn ra rm rP rS rD rQ al rw rc tr] H locs := hw
          exact g_iret C hr (ws' := [oX6 h a 1 pn ra rm rP rS rD rQ al rw rc tr, cA G (a 25) 4 sz, cA G (a 26) 4 ln, cA G (a 27) 240 ce, cA G (a 28) 60 hd]) hw [4, 0, 1, 2, 3] (by decide) rfl ⟨ce, hd, (congrArg iI (by unfold R_cpy C_cpy; (repeat' split) <;> omega)), (by unfold F_cpy C_cpy; (repeat' (split <;> try (exfalso; omega))) <;> first | rfl | (exfalso; omega)), (by first | (rw [if_neg (by unfold C_cpy; (repeat' split) <;> omega)]; done) | (rw [if_pos (by unfold C_cpy; (repeat' split) <;> omega), hc1, show yy = nn by omega]; exact mvF_eq (fun j h1 h2 => hd1 j h1 (by omega))))⟩ dX6_copy_43
    · skip
      refine g_aload_n C hl 0 rfl rfl dX6_copy_14 ?_
      refine g_iconst C dX6_copy_15 ?_
      refine g_callVi C hw (wr := [cA G (a 25) 4 sz, cA G (a 26) 4 ln, cA G (a 27) 240 ce, cA G (a 28) 60 hd]) (As := [.int (iI ((-1)))]) (rest := []) (m_X6_refused l D G (h := h) (a := a) (ft := ft) (pn := pn) (ra := ra) (rm := rm) (rP := rP) (rS := rS) (rD := rD) (rQ := rQ) (al := al) (rw := rw) (rc := rc) (tr := tr) (cd := (-1)) ) (cwV 1 C.1.2.2.2.2 gX6_copy_X6_refused rfl rfl rfl (by decide +kernel) ⟨Nat.le_of_ble_eq_true rfl, Nat.le_of_ble_eq_true rfl⟩) [0] [1, 2, 3, 4] rfl rfl (by decide) (by decide) (by decide) 0 rfl rfl rfl hl.1 _ rfl (Nat.le_of_ble_eq_true rfl) dX6_copy_16 ⟨Nat.le_of_ble_eq_true rfl, Nat.le_of_ble_eq_true rfl⟩ ?_
      clear hw
      rintro _ _ H locs ⟨rfl, rfl⟩ hw
      have hw : gW D A s.heap [cA G (a 25) 4 sz, cA G (a 26) 4 ln, cA G (a 27) 240 ce, cA G (a 28) 60 hd, oX6 h a 0 pn ra rm rP rS rD rQ al rw rc tr] H locs := hw
      exact g_iret C hr (ws' := [oX6 h a 0 pn ra rm rP rS rD rQ al rw rc tr, cA G (a 25) 4 sz, cA G (a 26) 4 ln, cA G (a 27) 240 ce, cA G (a 28) 60 hd]) hw [4, 0, 1, 2, 3] (by decide) rfl ⟨ce, hd, (congrArg iI (by unfold R_cpy C_cpy; (repeat' split) <;> omega)), (by unfold F_cpy C_cpy; (repeat' (split <;> try (exfalso; omega))) <;> first | rfl | (exfalso; omega)), (by first | (rw [if_neg (by unfold C_cpy; (repeat' split) <;> omega)]; done) | (rw [if_pos (by unfold C_cpy; (repeat' split) <;> omega), hc1, show yy = nn by omega]; exact mvF_eq (fun j h1 h2 => hd1 j h1 (by omega))))⟩ dX6_copy_19

set_option maxRecDepth 20000 in
theorem hin_X6_cellsBarred_X6 : ∀ w ∈ u_ws RX6 TX6 30, w ∈ wsX6_cellsBarred := by
  intro w h
  exact List.mem_cons_of_mem _ (List.mem_append_right _ (h))
set_option maxRecDepth 20000 in
theorem lk_X6_cellsBarred_53 : Cond.fieldLink RX6 53 (TX6 25).1 (TX6 25).2.1 (TX6 25).2.2.1 ∈ wsX6_cellsBarred := List.mem_cons_of_mem _ (List.mem_append_left _ (List.mem_of_getElem? (i := 0) rfl))
set_option maxRecDepth 20000 in
theorem lk_X6_cellsBarred_56 : Cond.fieldLink RX6 56 (TX6 26).1 (TX6 26).2.1 (TX6 26).2.2.1 ∈ wsX6_cellsBarred := List.mem_cons_of_mem _ (List.mem_append_left _ (List.mem_of_getElem? (i := 1) rfl))
set_option maxRecDepth 100000 in
set_option maxHeartbeats 8000000 in
theorem m_X6_cellsBarred (l : Launch) (D : va_G) (G : gT) (h : Nat) (a : Nat → Nat) (ft : Int) (pn : Int) (ra : Int) (rm : Int) (rP : Int) (rS : Int) (rD : Int) (rQ : Int) (al : Int) (rw : Int) (rc : Int) (tr : Int) (sz : Int → Int) (ln : Int → Int) (kk : Int) (lv : Int) (ii : Int) (nn : Int) (hk : 0 ≤ kk ∧ kk ≤ 3) (hla : -2147483648 ≤ lv ∧ lv ≤ 2147483647) (hi : -2147483648 ≤ ii ∧ ii ≤ 2147483647) (hn9 : -9000000000 ≤ nn ∧ nn ≤ 9000000000) (hsz : ∀ k, -1 ≤ sz k ∧ sz k ≤ 60) (hln : ∀ k, 0 ≤ ln k ∧ ln k ≤ 2) : gMi l yX6_cellsBarred wsX6_cellsBarred ({ frames := 1, cells := 0, slots := 0, locals := 23 }) D G [.ref h, .int (iI kk), .int (iI lv), .int (iI ii), .long (lI (nn))] [oX6 h a ft pn ra rm rP rS rD rQ al rw rc tr, cA G (a 25) 4 sz, cA G (a 26) 4 ln] 0 0 (fun (r : Int32) (w : va_W) => r = (iI (R_bar sz ln kk lv ii nn)) ∧ w = [oX6 h a (F_bar sz ln ft kk lv ii nn) pn ra rm rP rS rD rQ al rw rc tr, cA G (a 25) 4 sz, cA G (a 26) 4 ln]) := by
  refine g_start_i (cc := cX6_cellsBarred) (nL := 6) (own := RX6) (ret := some .int) (by decide +kernel) rfl rfl (Nat.le_of_ble_eq_true rfl) ?_
  intro p e s m below meth c A ls C hr hnm hw hl
  have hl : lv_has ls 6 [(0, .ref h), (1, .int (iI kk)), (2, .int (iI lv)), (3, .int (iI ii)), (4, .long (lI (nn)))] := hl
  have s0 := hsz kk
  have l0 := hln kk
  refine g_aload_n C hl 0 rfl rfl dX6_cellsBarred_0 ?_
  refine g_get C hw hin_X6_cellsBarred_X6 0 rfl rfl 25 (by decide) lk_X6_cellsBarred_53 rfl dX6_cellsBarred_1 ?_
  refine g_iload_n C hl 1 rfl rfl dX6_cellsBarred_4 ?_
  refine g_iald C hw 1 rfl (by omega) (Nat.le_of_ble_eq_true rfl) dX6_cellsBarred_5 ?_
  refine g_if_lt C 25 dX6_cellsBarred_6 (by decide) (by omega) (fun c_1 => ?_) (fun c_1 => ?_)
  · skip
    refine g_aload_n C hl 0 rfl rfl dX6_cellsBarred_25 ?_
    refine g_get C hw hin_X6_cellsBarred_X6 0 rfl rfl 25 (by decide) lk_X6_cellsBarred_53 rfl dX6_cellsBarred_26 ?_
    refine g_iload_n C hl 1 rfl rfl dX6_cellsBarred_29 ?_
    refine g_iald C hw 1 rfl (by omega) (Nat.le_of_ble_eq_true rfl) dX6_cellsBarred_30 ?_
    refine g_if_ge C 40 dX6_cellsBarred_31 (by decide) (by omega) (fun c_2 => ?_) (fun c_2 => ?_)
    · skip
      refine g_lload C hl 4 rfl dX6_cellsBarred_40 ?_
      refine g_lconst0 C dX6_cellsBarred_42 ?_
      refine g_lcmp_ge C 53 dX6_cellsBarred_43 dX6_cellsBarred_44 (by decide) (by omega) (by omega) (fun c_3 => ?_) (fun c_3 => ?_)
      · skip
        refine g_iload_n C hl 3 rfl rfl dX6_cellsBarred_53 ?_
        refine g_lload C hl 4 rfl dX6_cellsBarred_54 ?_
        refine g_aload_n C hl 0 rfl rfl dX6_cellsBarred_56 ?_
        refine g_get C hw hin_X6_cellsBarred_X6 0 rfl rfl 25 (by decide) lk_X6_cellsBarred_53 rfl dX6_cellsBarred_57 ?_
        refine g_iload_n C hl 1 rfl rfl dX6_cellsBarred_60 ?_
        refine g_iald C hw 1 rfl (by omega) (Nat.le_of_ble_eq_true rfl) dX6_cellsBarred_61 ?_
        refine g_callSi C hw (wr := [oX6 h a ft pn ra rm rP rS rD rQ al rw rc tr, cA G (a 25) 4 sz, cA G (a 26) 4 ln]) (As := [.int (iI ii), .long (lI (nn)), .int (iI (sz kk))]) (rest := []) (m_X6_isBeyond l D G (ii := ii) (nn := nn) (ss := (sz kk)) (by first | assumption | omega) (by first | assumption | omega) (by first | assumption | omega)) (va_cwS 3 C.1.2.2.2.2 gX6_cellsBarred_X6_isBeyond rfl rfl rfl (by decide +kernel) ⟨Nat.le_of_ble_eq_true rfl, Nat.le_of_ble_eq_true rfl⟩) [] [0, 1, 2] rfl rfl (by decide) (by decide) (by decide) rfl hl.1 _ rfl (Nat.le_of_ble_eq_true rfl) dX6_cellsBarred_62 ⟨Nat.le_of_ble_eq_true rfl, Nat.le_of_ble_eq_true rfl⟩ ?_
        clear hw
        rintro _ _ H locs ⟨rfl, rfl⟩ hw
        have hw : gW D A s.heap [oX6 h a ft pn ra rm rP rS rD rQ al rw rc tr, cA G (a 25) 4 sz, cA G (a 26) 4 ln] H locs := hw
        refine g_ifb_eq C 76 dX6_cellsBarred_65 (by decide) (fun c_4 => ?_) (fun c_4 => ?_)
        · skip
          refine g_iconst C dX6_cellsBarred_76 ?_
          exact g_iret C hr (ws' := [oX6 h a ft pn ra rm rP rS rD rQ al rw rc tr, cA G (a 25) 4 sz, cA G (a 26) 4 ln]) hw [0, 1, 2] (by decide) rfl ⟨(congrArg iI (by unfold R_bar barC; (repeat' split) <;> omega)), (by unfold F_bar barC; (repeat' (split <;> try (exfalso; omega))) <;> first | rfl | (exfalso; omega))⟩ dX6_cellsBarred_77
        · skip
          refine g_aload_n C hl 0 rfl rfl dX6_cellsBarred_68 ?_
          refine g_iconst C dX6_cellsBarred_69 ?_
          refine g_callVi C hw (wr := [cA G (a 25) 4 sz, cA G (a 26) 4 ln]) (As := [.int (iI 3)]) (rest := []) (m_X6_failed l D G (h := h) (a := a) (ft := ft) (pn := pn) (ra := ra) (rm := rm) (rP := rP) (rS := rS) (rD := rD) (rQ := rQ) (al := al) (rw := rw) (rc := rc) (tr := tr) (fv := 3) ) (cwV 1 C.1.2.2.2.2 gX6_cellsBarred_X6_failed rfl rfl rfl (by decide +kernel) ⟨Nat.le_of_ble_eq_true rfl, Nat.le_of_ble_eq_true rfl⟩) [0] [1, 2] rfl rfl (by decide) (by decide) (by decide) 0 rfl rfl rfl hl.1 _ rfl (Nat.le_of_ble_eq_true rfl) dX6_cellsBarred_70 ⟨Nat.le_of_ble_eq_true rfl, Nat.le_of_ble_eq_true rfl⟩ ?_
          clear hw
          rintro _ _ H locs ⟨rfl, rfl⟩ hw
          have hw : gW D A s.heap [cA G (a 25) 4 sz, cA G (a 26) 4 ln, oX6 h a 3 pn ra rm rP rS rD rQ al rw rc tr] H locs := hw
          refine g_goto C 77 dX6_cellsBarred_73 (by decide) ?_
          exact g_iret C hr (ws' := [oX6 h a 3 pn ra rm rP rS rD rQ al rw rc tr, cA G (a 25) 4 sz, cA G (a 26) 4 ln]) hw [2, 0, 1] (by decide) rfl ⟨(congrArg iI (by unfold R_bar barC; (repeat' split) <;> omega)), (by unfold F_bar barC; (repeat' (split <;> try (exfalso; omega))) <;> first | rfl | (exfalso; omega))⟩ dX6_cellsBarred_77
      · skip
        refine g_aload_n C hl 0 rfl rfl dX6_cellsBarred_47 ?_
        refine g_iconst C dX6_cellsBarred_48 ?_
        refine g_callVi C hw (wr := [cA G (a 25) 4 sz, cA G (a 26) 4 ln]) (As := [.int (iI 4)]) (rest := []) (m_X6_failed l D G (h := h) (a := a) (ft := ft) (pn := pn) (ra := ra) (rm := rm) (rP := rP) (rS := rS) (rD := rD) (rQ := rQ) (al := al) (rw := rw) (rc := rc) (tr := tr) (fv := 4) ) (cwV 1 C.1.2.2.2.2 gX6_cellsBarred_X6_failed rfl rfl rfl (by decide +kernel) ⟨Nat.le_of_ble_eq_true rfl, Nat.le_of_ble_eq_true rfl⟩) [0] [1, 2] rfl rfl (by decide) (by decide) (by decide) 0 rfl rfl rfl hl.1 _ rfl (Nat.le_of_ble_eq_true rfl) dX6_cellsBarred_49 ⟨Nat.le_of_ble_eq_true rfl, Nat.le_of_ble_eq_true rfl⟩ ?_
        clear hw
        rintro _ _ H locs ⟨rfl, rfl⟩ hw
        have hw : gW D A s.heap [cA G (a 25) 4 sz, cA G (a 26) 4 ln, oX6 h a 4 pn ra rm rP rS rD rQ al rw rc tr] H locs := hw
        exact g_iret C hr (ws' := [oX6 h a 4 pn ra rm rP rS rD rQ al rw rc tr, cA G (a 25) 4 sz, cA G (a 26) 4 ln]) hw [2, 0, 1] (by decide) rfl ⟨(congrArg iI (by unfold R_bar barC; (repeat' split) <;> omega)), (by unfold F_bar barC; (repeat' (split <;> try (exfalso; omega))) <;> first | rfl | (exfalso; omega))⟩ dX6_cellsBarred_52
    · skip
      refine g_aload_n C hl 0 rfl rfl dX6_cellsBarred_34 ?_
      refine g_iconst C dX6_cellsBarred_35 ?_
      refine g_callVi C hw (wr := [cA G (a 25) 4 sz, cA G (a 26) 4 ln]) (As := [.int (iI 1)]) (rest := []) (m_X6_failed l D G (h := h) (a := a) (ft := ft) (pn := pn) (ra := ra) (rm := rm) (rP := rP) (rS := rS) (rD := rD) (rQ := rQ) (al := al) (rw := rw) (rc := rc) (tr := tr) (fv := 1) ) (cwV 1 C.1.2.2.2.2 gX6_cellsBarred_X6_failed rfl rfl rfl (by decide +kernel) ⟨Nat.le_of_ble_eq_true rfl, Nat.le_of_ble_eq_true rfl⟩) [0] [1, 2] rfl rfl (by decide) (by decide) (by decide) 0 rfl rfl rfl hl.1 _ rfl (Nat.le_of_ble_eq_true rfl) dX6_cellsBarred_36 ⟨Nat.le_of_ble_eq_true rfl, Nat.le_of_ble_eq_true rfl⟩ ?_
      clear hw
      rintro _ _ H locs ⟨rfl, rfl⟩ hw
      have hw : gW D A s.heap [cA G (a 25) 4 sz, cA G (a 26) 4 ln, oX6 h a 1 pn ra rm rP rS rD rQ al rw rc tr] H locs := hw
      exact g_iret C hr (ws' := [oX6 h a 1 pn ra rm rP rS rD rQ al rw rc tr, cA G (a 25) 4 sz, cA G (a 26) 4 ln]) hw [2, 0, 1] (by decide) rfl ⟨(congrArg iI (by unfold R_bar barC; (repeat' split) <;> omega)), (by unfold F_bar barC; (repeat' (split <;> try (exfalso; omega))) <;> first | rfl | (exfalso; omega))⟩ dX6_cellsBarred_39
  · skip
    refine g_aload_n C hl 0 rfl rfl dX6_cellsBarred_9 ?_
    refine g_get C hw hin_X6_cellsBarred_X6 0 rfl rfl 26 (by decide) lk_X6_cellsBarred_56 rfl dX6_cellsBarred_10 ?_
    refine g_iload_n C hl 1 rfl rfl dX6_cellsBarred_13 ?_
    refine g_iald C hw 2 rfl (by omega) (Nat.le_of_ble_eq_true rfl) dX6_cellsBarred_14 ?_
    refine g_iload_n C hl 2 rfl rfl dX6_cellsBarred_15 ?_
    refine g_icmp_eq C 25 dX6_cellsBarred_16 (by decide) (by omega) (by omega) (fun c_5 => ?_) (fun c_5 => ?_)
    · skip
      refine g_aload_n C hl 0 rfl rfl dX6_cellsBarred_25 ?_
      refine g_get C hw hin_X6_cellsBarred_X6 0 rfl rfl 25 (by decide) lk_X6_cellsBarred_53 rfl dX6_cellsBarred_26 ?_
      refine g_iload_n C hl 1 rfl rfl dX6_cellsBarred_29 ?_
      refine g_iald C hw 1 rfl (by omega) (Nat.le_of_ble_eq_true rfl) dX6_cellsBarred_30 ?_
      refine g_if_ge C 40 dX6_cellsBarred_31 (by decide) (by omega) (fun c_6 => ?_) (fun c_6 => ?_)
      · skip
        refine g_lload C hl 4 rfl dX6_cellsBarred_40 ?_
        refine g_lconst0 C dX6_cellsBarred_42 ?_
        refine g_lcmp_ge C 53 dX6_cellsBarred_43 dX6_cellsBarred_44 (by decide) (by omega) (by omega) (fun c_7 => ?_) (fun c_7 => ?_)
        · skip
          refine g_iload_n C hl 3 rfl rfl dX6_cellsBarred_53 ?_
          refine g_lload C hl 4 rfl dX6_cellsBarred_54 ?_
          refine g_aload_n C hl 0 rfl rfl dX6_cellsBarred_56 ?_
          refine g_get C hw hin_X6_cellsBarred_X6 0 rfl rfl 25 (by decide) lk_X6_cellsBarred_53 rfl dX6_cellsBarred_57 ?_
          refine g_iload_n C hl 1 rfl rfl dX6_cellsBarred_60 ?_
          refine g_iald C hw 1 rfl (by omega) (Nat.le_of_ble_eq_true rfl) dX6_cellsBarred_61 ?_
          refine g_callSi C hw (wr := [oX6 h a ft pn ra rm rP rS rD rQ al rw rc tr, cA G (a 25) 4 sz, cA G (a 26) 4 ln]) (As := [.int (iI ii), .long (lI (nn)), .int (iI (sz kk))]) (rest := []) (m_X6_isBeyond l D G (ii := ii) (nn := nn) (ss := (sz kk)) (by first | assumption | omega) (by first | assumption | omega) (by first | assumption | omega)) (va_cwS 3 C.1.2.2.2.2 gX6_cellsBarred_X6_isBeyond rfl rfl rfl (by decide +kernel) ⟨Nat.le_of_ble_eq_true rfl, Nat.le_of_ble_eq_true rfl⟩) [] [0, 1, 2] rfl rfl (by decide) (by decide) (by decide) rfl hl.1 _ rfl (Nat.le_of_ble_eq_true rfl) dX6_cellsBarred_62 ⟨Nat.le_of_ble_eq_true rfl, Nat.le_of_ble_eq_true rfl⟩ ?_
          clear hw
          rintro _ _ H locs ⟨rfl, rfl⟩ hw
          have hw : gW D A s.heap [oX6 h a ft pn ra rm rP rS rD rQ al rw rc tr, cA G (a 25) 4 sz, cA G (a 26) 4 ln] H locs := hw
          refine g_ifb_eq C 76 dX6_cellsBarred_65 (by decide) (fun c_8 => ?_) (fun c_8 => ?_)
          · skip
            refine g_iconst C dX6_cellsBarred_76 ?_
            exact g_iret C hr (ws' := [oX6 h a ft pn ra rm rP rS rD rQ al rw rc tr, cA G (a 25) 4 sz, cA G (a 26) 4 ln]) hw [0, 1, 2] (by decide) rfl ⟨(congrArg iI (by unfold R_bar barC; (repeat' split) <;> omega)), (by unfold F_bar barC; (repeat' (split <;> try (exfalso; omega))) <;> first | rfl | (exfalso; omega))⟩ dX6_cellsBarred_77
          · skip
            refine g_aload_n C hl 0 rfl rfl dX6_cellsBarred_68 ?_
            refine g_iconst C dX6_cellsBarred_69 ?_
            refine g_callVi C hw (wr := [cA G (a 25) 4 sz, cA G (a 26) 4 ln]) (As := [.int (iI 3)]) (rest := []) (m_X6_failed l D G (h := h) (a := a) (ft := ft) (pn := pn) (ra := ra) (rm := rm) (rP := rP) (rS := rS) (rD := rD) (rQ := rQ) (al := al) (rw := rw) (rc := rc) (tr := tr) (fv := 3) ) (cwV 1 C.1.2.2.2.2 gX6_cellsBarred_X6_failed rfl rfl rfl (by decide +kernel) ⟨Nat.le_of_ble_eq_true rfl, Nat.le_of_ble_eq_true rfl⟩) [0] [1, 2] rfl rfl (by decide) (by decide) (by decide) 0 rfl rfl rfl hl.1 _ rfl (Nat.le_of_ble_eq_true rfl) dX6_cellsBarred_70 ⟨Nat.le_of_ble_eq_true rfl, Nat.le_of_ble_eq_true rfl⟩ ?_
            clear hw
            rintro _ _ H locs ⟨rfl, rfl⟩ hw
            have hw : gW D A s.heap [cA G (a 25) 4 sz, cA G (a 26) 4 ln, oX6 h a 3 pn ra rm rP rS rD rQ al rw rc tr] H locs := hw
            refine g_goto C 77 dX6_cellsBarred_73 (by decide) ?_
            exact g_iret C hr (ws' := [oX6 h a 3 pn ra rm rP rS rD rQ al rw rc tr, cA G (a 25) 4 sz, cA G (a 26) 4 ln]) hw [2, 0, 1] (by decide) rfl ⟨(congrArg iI (by unfold R_bar barC; (repeat' split) <;> omega)), (by unfold F_bar barC; (repeat' (split <;> try (exfalso; omega))) <;> first | rfl | (exfalso; omega))⟩ dX6_cellsBarred_77
        · skip
          refine g_aload_n C hl 0 rfl rfl dX6_cellsBarred_47 ?_
          refine g_iconst C dX6_cellsBarred_48 ?_
          refine g_callVi C hw (wr := [cA G (a 25) 4 sz, cA G (a 26) 4 ln]) (As := [.int (iI 4)]) (rest := []) (m_X6_failed l D G (h := h) (a := a) (ft := ft) (pn := pn) (ra := ra) (rm := rm) (rP := rP) (rS := rS) (rD := rD) (rQ := rQ) (al := al) (rw := rw) (rc := rc) (tr := tr) (fv := 4) ) (cwV 1 C.1.2.2.2.2 gX6_cellsBarred_X6_failed rfl rfl rfl (by decide +kernel) ⟨Nat.le_of_ble_eq_true rfl, Nat.le_of_ble_eq_true rfl⟩) [0] [1, 2] rfl rfl (by decide) (by decide) (by decide) 0 rfl rfl rfl hl.1 _ rfl (Nat.le_of_ble_eq_true rfl) dX6_cellsBarred_49 ⟨Nat.le_of_ble_eq_true rfl, Nat.le_of_ble_eq_true rfl⟩ ?_
          clear hw
          rintro _ _ H locs ⟨rfl, rfl⟩ hw
          have hw : gW D A s.heap [cA G (a 25) 4 sz, cA G (a 26) 4 ln, oX6 h a 4 pn ra rm rP rS rD rQ al rw rc tr] H locs := hw
          exact g_iret C hr (ws' := [oX6 h a 4 pn ra rm rP rS rD rQ al rw rc tr, cA G (a 25) 4 sz, cA G (a 26) 4 ln]) hw [2, 0, 1] (by decide) rfl ⟨(congrArg iI (by unfold R_bar barC; (repeat' split) <;> omega)), (by unfold F_bar barC; (repeat' (split <;> try (exfalso; omega))) <;> first | rfl | (exfalso; omega))⟩ dX6_cellsBarred_52
      · skip
        refine g_aload_n C hl 0 rfl rfl dX6_cellsBarred_34 ?_
        refine g_iconst C dX6_cellsBarred_35 ?_
        refine g_callVi C hw (wr := [cA G (a 25) 4 sz, cA G (a 26) 4 ln]) (As := [.int (iI 1)]) (rest := []) (m_X6_failed l D G (h := h) (a := a) (ft := ft) (pn := pn) (ra := ra) (rm := rm) (rP := rP) (rS := rS) (rD := rD) (rQ := rQ) (al := al) (rw := rw) (rc := rc) (tr := tr) (fv := 1) ) (cwV 1 C.1.2.2.2.2 gX6_cellsBarred_X6_failed rfl rfl rfl (by decide +kernel) ⟨Nat.le_of_ble_eq_true rfl, Nat.le_of_ble_eq_true rfl⟩) [0] [1, 2] rfl rfl (by decide) (by decide) (by decide) 0 rfl rfl rfl hl.1 _ rfl (Nat.le_of_ble_eq_true rfl) dX6_cellsBarred_36 ⟨Nat.le_of_ble_eq_true rfl, Nat.le_of_ble_eq_true rfl⟩ ?_
        clear hw
        rintro _ _ H locs ⟨rfl, rfl⟩ hw
        have hw : gW D A s.heap [cA G (a 25) 4 sz, cA G (a 26) 4 ln, oX6 h a 1 pn ra rm rP rS rD rQ al rw rc tr] H locs := hw
        exact g_iret C hr (ws' := [oX6 h a 1 pn ra rm rP rS rD rQ al rw rc tr, cA G (a 25) 4 sz, cA G (a 26) 4 ln]) hw [2, 0, 1] (by decide) rfl ⟨(congrArg iI (by unfold R_bar barC; (repeat' split) <;> omega)), (by unfold F_bar barC; (repeat' (split <;> try (exfalso; omega))) <;> first | rfl | (exfalso; omega))⟩ dX6_cellsBarred_39
    · skip
      refine g_aload_n C hl 0 rfl rfl dX6_cellsBarred_19 ?_
      refine g_iconst C dX6_cellsBarred_20 ?_
      refine g_callVi C hw (wr := [cA G (a 25) 4 sz, cA G (a 26) 4 ln]) (As := [.int (iI 2)]) (rest := []) (m_X6_failed l D G (h := h) (a := a) (ft := ft) (pn := pn) (ra := ra) (rm := rm) (rP := rP) (rS := rS) (rD := rD) (rQ := rQ) (al := al) (rw := rw) (rc := rc) (tr := tr) (fv := 2) ) (cwV 1 C.1.2.2.2.2 gX6_cellsBarred_X6_failed rfl rfl rfl (by decide +kernel) ⟨Nat.le_of_ble_eq_true rfl, Nat.le_of_ble_eq_true rfl⟩) [0] [1, 2] rfl rfl (by decide) (by decide) (by decide) 0 rfl rfl rfl hl.1 _ rfl (Nat.le_of_ble_eq_true rfl) dX6_cellsBarred_21 ⟨Nat.le_of_ble_eq_true rfl, Nat.le_of_ble_eq_true rfl⟩ ?_
      clear hw
      rintro _ _ H locs ⟨rfl, rfl⟩ hw
      have hw : gW D A s.heap [cA G (a 25) 4 sz, cA G (a 26) 4 ln, oX6 h a 2 pn ra rm rP rS rD rQ al rw rc tr] H locs := hw
      exact g_iret C hr (ws' := [oX6 h a 2 pn ra rm rP rS rD rQ al rw rc tr, cA G (a 25) 4 sz, cA G (a 26) 4 ln]) hw [2, 0, 1] (by decide) rfl ⟨(congrArg iI (by unfold R_bar barC; (repeat' split) <;> omega)), (by unfold F_bar barC; (repeat' (split <;> try (exfalso; omega))) <;> first | rfl | (exfalso; omega))⟩ dX6_cellsBarred_24
