set_option maxRecDepth 100000 in
set_option maxHeartbeats 8000000 in
theorem lw_body {p : Program} (l : Launch) {e : Env} {s : State} {m : MethodId} {args : Array Value} {below : List Frame} {meth : Method} {c : Code} (D : va_G) (G : gT) {A : Nat → Prop} {Q : State → Prop} {b L : Nat} {xs : Nat → Int32} (h hm : Nat) (a ta la tb lb ra rb ga am : Nat → Nat) (ii : Int) {cells slots : Nat} (st : Nat → Option shE) (tr : Int) (lf : Int) (cn : Int) (ul : Int) (rw : Int) (tc : Int) (xc : Int) (xu : Int) (xw : Int) (sp : Int) (co : Int) (da : Int) (dc : Int) (rc : Int) (mra : Int) (mrm : Int) (mP : Int) (mS : Int) (mD : Int) (mQ : Int) (mal : Int) (mrw : Int) (kd : Int → Int) (nu : Int → Int) (ex : Int → Int) (rt : Int → Int) (mi : Int → Int) (si : Int → Int) (un : Int → Int) (be : Int → Int) (ka : Int → Int) (br : Int → Int) (rs : Int → Int) (rf : Int → Int) (rp : Int → Int) (kt : Int → Int) (nt : Int → Int) (tex : Int → Int) (trt : Int → Int) (tmi : Int → Int) (tsi : Int → Int) (tun : Int → Int) (tbe : Int → Int) (tka : Int → Int) (tbr : Int → Int) (trs : Int → Int) (trf : Int → Int) (trp : Int → Int) (dk : Int → Int) (dn : Int → Int) (r1 : Int → Int) (r2 : Int → Int) (r3 : Int → Int) (km : Int → Int) (nm : Int → Int) (rk : Int → Int) (rn : Int → Int) (vP : Int → Int) (vS : Int → Int) (vD : Int → Int) (vQ : Int → Int) (ht : Int → Int) (wA : Int → Int) (fA : Int → Int) (sz : Int → Int) (ln : Int → Int) (ce : Int → Int) (hd : Int → Int) (C : gC D G wsL_law RL cL_law 4 p s m args meth c) (hX : va_X b L xs s s.heap) (hbl : b < s.heap.size) (hbA : ¬ A b) (hL : L ≤ 3072) (hii : 0 ≤ ii ∧ ii + 6 ≤ L) (hck : cells + 2 ≤ 600000 ∧ slots + 62 ≤ 7302250) (hinv : lwI st tr lf cn ul rw tc xc xu xw sp co da dc rc mra mrm mP mS mD mQ mal mrw kd nu ex rt mi si un be ka br rs rf rp kt nt tex trt tmi tsi tun tbe tka tbr trs trf trp dk dn r1 r2 r3 km nm rk rn vP vS vD vQ ht wA fA sz ln ce hd) {H : Heap} {locs : List Loc} {ls : Array Slot} (hw : gW D A s.heap ([oX5 h a tr lf, cQ G (a 0) 4 (qfS st), oX4 (a 1) ta cn, cA G (ta 1) 4 kd, cA G (ta 2) 12 nu, oX0 (a 2) la cn ul rw, cA G (la 1) 12 ex, cA G (la 2) 4 rt, cA G (la 3) 8 mi, cA G (la 4) 8 si, cA G (la 5) 8 un, cA G (la 6) 8 be, cA G (la 8) 8 ka, cA G (la 9) 8 br, cA G (la 11) 17 rs, cA G (la 12) 17 rf, cA G (la 13) 17 rp, oX4 (a 3) tb tc, cA G (tb 1) 4 kt, cA G (tb 2) 12 nt, oX0 (a 4) lb xc xu xw, cA G (lb 1) 12 tex, cA G (lb 2) 4 trt, cA G (lb 3) 8 tmi, cA G (lb 4) 8 tsi, cA G (lb 5) 8 tun, cA G (lb 6) 8 tbe, cA G (lb 8) 8 tka, cA G (lb 9) 8 tbr, cA G (lb 11) 17 trs, cA G (lb 12) 17 trf, cA G (lb 13) 17 trp, oX3 (a 5) ra sp co da, oX4 (ra 0) rb dc, cA G (rb 1) 4 dk, cA G (rb 2) 12 dn, oX1 (a 6) ga rc, cA G (ga 1) 8 r1, cA G (ga 2) 8 r2, cA G (ga 3) 8 r3, oX6 hm am lf cn mra mrm mP mS mD mQ mal mrw rc tr, cA G (am 2) 4 km, cA G (am 3) 12 nm, cA G (am 6) 4 rk, cA G (am 7) 12 rn, cJ G (am 13) 8 vP, cJ G (am 14) 8 vS, cJ G (am 15) 8 vD, cJ G (am 16) 8 vQ, cA G (am 17) 12 ht, cA G (am 18) 17 wA, cA G (am 19) 17 fA, cA G (am 22) 8 r1, cA G (am 23) 8 r2, cA G (am 24) 8 r3, cA G (am 25) 4 sz, cA G (am 26) 4 ln, cA G (am 27) 240 ce, cA G (am 28) 60 hd] ++ shW G st) H locs) (hl : lv_has ls 4 [(0, .ref b), (1, .ref h), (2, .ref hm), (3, .int (iI ii))]) (hback : lwB p l e s m args below meth c D G A Q b h hm a ta la tb lb ra rb ga am ii (cells + 2) (slots + 62)) : W p l e room_1 s m args below meth c H locs cells slots Q (F0 m 27 ls []) := by
  refine g_aload_n C hl 0 rfl rfl dL_law_27 ?_
  refine g_iload_n C hl 3 rfl rfl dL_law_28 ?_
  refine g_sld C hw hX hbl hbA (by omega) hL dL_law_29 ?_
  refine g_bipush C dL_law_30 (by decide) ?_
  refine g_iand C dL_law_32 ?_
  obtain ⟨z9, hz9, hz0⟩ := and31 (iI (xs ii.toNat).toInt)
  refine g_topi hz9 ?_
  rcases (by omega : z9 = 0 ∨ z9 = 1 ∨ z9 = 2 ∨ z9 = 3 ∨ z9 = 4 ∨ z9 = 5 ∨ z9 = 6 ∨ z9 = 7 ∨ z9 = 8 ∨ z9 = 9 ∨ z9 = 10 ∨ z9 = 11 ∨ z9 = 12 ∨ z9 = 13 ∨ z9 = 14 ∨ z9 = 15 ∨ z9 = 16 ∨ z9 = 17 ∨ z9 = 18 ∨ z9 = 19 ∨ z9 = 20 ∨ z9 = 21 ∨ z9 = 22 ∨ z9 = 23 ∨ z9 = 24 ∨ z9 = 25 ∨ z9 = 26 ∨ z9 = 27 ∨ z9 = 28 ∨ z9 = 29 ∨ z9 = 30 ∨ (z9 < 0 ∨ 30 < z9)) with hs_1 | hs_1 | hs_1 | hs_1 | hs_1 | hs_1 | hs_1 | hs_1 | hs_1 | hs_1 | hs_1 | hs_1 | hs_1 | hs_1 | hs_1 | hs_1 | hs_1 | hs_1 | hs_1 | hs_1 | hs_1 | hs_1 | hs_1 | hs_1 | hs_1 | hs_1 | hs_1 | hs_1 | hs_1 | hs_1 | hs_1 | hs_1
  · skip
    refine g_tabIn C 0 139 172 hs_1 (by decide) dL_law_33 (by decide) (by decide) (by decide +kernel) (by decide) ?_
    rcases Classical.em (0 ≤ (xs (ii + 1).toNat).toInt ∧ (xs (ii + 1).toNat).toInt ≤ 3) with hr | hr
    · cases hq : st ((xs (ii + 1).toNat).toInt).toNat with
      | none => exact lw_polynomials_n l D G h hm a ta la tb lb ra rb ga am ii st tr lf cn ul rw tc xc xu xw sp co da dc rc mra mrm mP mS mD mQ mal mrw kd nu ex rt mi si un be ka br rs rf rp kt nt tex trt tmi tsi tun tbe tka tbr trs trf trp dk dn r1 r2 r3 km nm rk rn vP vS vD vQ ht wA fA sz ln ce hd ((xs (ii + 1).toNat).toInt) C hX hbl hbA hL hii hck hinv rfl (fun _ _ => hq) hw hl hback
      | some x =>
        obtain ⟨sa, sb, la1, zn, gg⟩ := x
        exact lw_polynomials_s l D G h hm a ta la tb lb ra rb ga am ii st tr lf cn ul rw tc xc xu xw sp co da dc rc mra mrm mP mS mD mQ mal mrw kd nu ex rt mi si un be ka br rs rf rp kt nt tex trt tmi tsi tun tbe tka tbr trs trf trp dk dn r1 r2 r3 km nm rk rn vP vS vD vQ ht wA fA sz ln ce hd ((xs (ii + 1).toNat).toInt) sa sb la1 zn gg C hX hbl hbA hL hii hck hinv rfl hr hq (g_open hw (by omega) hq) hl hback
    · exact lw_polynomials_n l D G h hm a ta la tb lb ra rb ga am ii st tr lf cn ul rw tc xc xu xw sp co da dc rc mra mrm mP mS mD mQ mal mrw kd nu ex rt mi si un be ka br rs rf rp kt nt tex trt tmi tsi tun tbe tka tbr trs trf trp dk dn r1 r2 r3 km nm rk rn vP vS vD vQ ht wA fA sz ln ce hd ((xs (ii + 1).toNat).toInt) C hX hbl hbA hL hii hck hinv rfl (fun a1 a2 => absurd ⟨a1, a2⟩ hr) hw hl hback
  · skip
    refine g_tabIn C 1 192 225 hs_1 (by decide) dL_law_33 (by decide) (by decide) (by decide +kernel) (by decide) ?_
    exact lw_ofPolynomial l D G h hm a ta la tb lb ra rb ga am ii st tr lf cn ul rw tc xc xu xw sp co da dc rc mra mrm mP mS mD mQ mal mrw kd nu ex rt mi si un be ka br rs rf rp kt nt tex trt tmi tsi tun tbe tka tbr trs trf trp dk dn r1 r2 r3 km nm rk rn vP vS vD vQ ht wA fA sz ln ce hd  C hX hbl hbA hL hii hck hinv  hw hl hback
  · skip
    refine g_tabIn C 2 225 258 hs_1 (by decide) dL_law_33 (by decide) (by decide) (by decide +kernel) (by decide) ?_
    exact lw_value l D G h hm a ta la tb lb ra rb ga am ii st tr lf cn ul rw tc xc xu xw sp co da dc rc mra mrm mP mS mD mQ mal mrw kd nu ex rt mi si un be ka br rs rf rp kt nt tex trt tmi tsi tun tbe tka tbr trs trf trp dk dn r1 r2 r3 km nm rk rn vP vS vD vQ ht wA fA sz ln ce hd  C hX hbl hbA hL hii hck hinv  hw hl hback
  · skip
    refine g_tabIn C 3 259 292 hs_1 (by decide) dL_law_33 (by decide) (by decide) (by decide +kernel) (by decide) ?_
    exact lw_tune l D G h hm a ta la tb lb ra rb ga am ii st tr lf cn ul rw tc xc xu xw sp co da dc rc mra mrm mP mS mD mQ mal mrw kd nu ex rt mi si un be ka br rs rf rp kt nt tex trt tmi tsi tun tbe tka tbr trs trf trp dk dn r1 r2 r3 km nm rk rn vP vS vD vQ ht wA fA sz ln ce hd  C hX hbl hbA hL hii hck hinv  hw hl hback
  · skip
    refine g_tabIn C 4 302 335 hs_1 (by decide) dL_law_33 (by decide) (by decide) (by decide +kernel) (by decide) ?_
    rcases Classical.em (0 ≤ (xs (ii + 1).toNat).toInt ∧ (xs (ii + 1).toNat).toInt ≤ 3) with hr | hr
    · cases hq : st ((xs (ii + 1).toNat).toInt).toNat with
      | none => exact lw_day_n l D G h hm a ta la tb lb ra rb ga am ii st tr lf cn ul rw tc xc xu xw sp co da dc rc mra mrm mP mS mD mQ mal mrw kd nu ex rt mi si un be ka br rs rf rp kt nt tex trt tmi tsi tun tbe tka tbr trs trf trp dk dn r1 r2 r3 km nm rk rn vP vS vD vQ ht wA fA sz ln ce hd ((xs (ii + 1).toNat).toInt) C hX hbl hbA hL hii hck hinv rfl (fun _ _ => hq) hw hl hback
      | some x =>
        obtain ⟨sa, sb, la1, zn, gg⟩ := x
        exact lw_day_s l D G h hm a ta la tb lb ra rb ga am ii st tr lf cn ul rw tc xc xu xw sp co da dc rc mra mrm mP mS mD mQ mal mrw kd nu ex rt mi si un be ka br rs rf rp kt nt tex trt tmi tsi tun tbe tka tbr trs trf trp dk dn r1 r2 r3 km nm rk rn vP vS vD vQ ht wA fA sz ln ce hd ((xs (ii + 1).toNat).toInt) sa sb la1 zn gg C hX hbl hbA hL hii hck hinv rfl hr hq (g_open hw (by omega) hq) hl hback
    · exact lw_day_n l D G h hm a ta la tb lb ra rb ga am ii st tr lf cn ul rw tc xc xu xw sp co da dc rc mra mrm mP mS mD mQ mal mrw kd nu ex rt mi si un be ka br rs rf rp kt nt tex trt tmi tsi tun tbe tka tbr trs trf trp dk dn r1 r2 r3 km nm rk rn vP vS vD vQ ht wA fA sz ln ce hd ((xs (ii + 1).toNat).toInt) C hX hbl hbA hL hii hck hinv rfl (fun a1 a2 => absurd ⟨a1, a2⟩ hr) hw hl hback
  · skip
    refine g_tabIn C 5 365 398 hs_1 (by decide) dL_law_33 (by decide) (by decide) (by decide +kernel) (by decide) ?_
    exact lw_called l D G h hm a ta la tb lb ra rb ga am ii st tr lf cn ul rw tc xc xu xw sp co da dc rc mra mrm mP mS mD mQ mal mrw kd nu ex rt mi si un be ka br rs rf rp kt nt tex trt tmi tsi tun tbe tka tbr trs trf trp dk dn r1 r2 r3 km nm rk rn vP vS vD vQ ht wA fA sz ln ce hd  C hX hbl hbA hL hii hck hinv  hw hl hback
  · skip
    refine g_tabIn C 6 398 431 hs_1 (by decide) dL_law_33 (by decide) (by decide) (by decide +kernel) (by decide) ?_
    exact lw_byName l D G h hm a ta la tb lb ra rb ga am ii st tr lf cn ul rw tc xc xu xw sp co da dc rc mra mrm mP mS mD mQ mal mrw kd nu ex rt mi si un be ka br rs rf rp kt nt tex trt tmi tsi tun tbe tka tbr trs trf trp dk dn r1 r2 r3 km nm rk rn vP vS vD vQ ht wA fA sz ln ce hd  C hX hbl hbA hL hii hck hinv  hw hl hback
  · skip
    refine g_tabIn C 7 431 464 hs_1 (by decide) dL_law_33 (by decide) (by decide) (by decide +kernel) (by decide) ?_
    exact lw_signAt l D G h hm a ta la tb lb ra rb ga am ii st tr lf cn ul rw tc xc xu xw sp co da dc rc mra mrm mP mS mD mQ mal mrw kd nu ex rt mi si un be ka br rs rf rp kt nt tex trt tmi tsi tun tbe tka tbr trs trf trp dk dn r1 r2 r3 km nm rk rn vP vS vD vQ ht wA fA sz ln ce hd  C hX hbl hbA hL hii hck hinv  hw hl hback
  · skip
    refine g_tabIn C 8 474 507 hs_1 (by decide) dL_law_33 (by decide) (by decide) (by decide +kernel) (by decide) ?_
    exact lw_more l D G h hm a ta la tb lb ra rb ga am ii st tr lf cn ul rw tc xc xu xw sp co da dc rc mra mrm mP mS mD mQ mal mrw kd nu ex rt mi si un be ka br rs rf rp kt nt tex trt tmi tsi tun tbe tka tbr trs trf trp dk dn r1 r2 r3 km nm rk rn vP vS vD vQ ht wA fA sz ln ce hd  C hX hbl hbA hL hii hck hinv  hw hl hback
  · skip
    refine g_tabIn C 9 507 540 hs_1 (by decide) dL_law_33 (by decide) (by decide) (by decide +kernel) (by decide) ?_
    exact lw_place l D G h hm a ta la tb lb ra rb ga am ii st tr lf cn ul rw tc xc xu xw sp co da dc rc mra mrm mP mS mD mQ mal mrw kd nu ex rt mi si un be ka br rs rf rp kt nt tex trt tmi tsi tun tbe tka tbr trs trf trp dk dn r1 r2 r3 km nm rk rn vP vS vD vQ ht wA fA sz ln ce hd  C hX hbl hbA hL hii hck hinv  hw hl hback
  · skip
    refine g_tabIn C 10 540 573 hs_1 (by decide) dL_law_33 (by decide) (by decide) (by decide +kernel) (by decide) ?_
    exact lw_sharers l D G h hm a ta la tb lb ra rb ga am ii st tr lf cn ul rw tc xc xu xw sp co da dc rc mra mrm mP mS mD mQ mal mrw kd nu ex rt mi si un be ka br rs rf rp kt nt tex trt tmi tsi tun tbe tka tbr trs trf trp dk dn r1 r2 r3 km nm rk rn vP vS vD vQ ht wA fA sz ln ce hd  C hX hbl hbA hL hii hck hinv  hw hl hback
  · skip
    refine g_tabIn C 11 563 596 hs_1 (by decide) dL_law_33 (by decide) (by decide) (by decide +kernel) (by decide) ?_
    exact lw_line l D G h hm a ta la tb lb ra rb ga am ii st tr lf cn ul rw tc xc xu xw sp co da dc rc mra mrm mP mS mD mQ mal mrw kd nu ex rt mi si un be ka br rs rf rp kt nt tex trt tmi tsi tun tbe tka tbr trs trf trp dk dn r1 r2 r3 km nm rk rn vP vS vD vQ ht wA fA sz ln ce hd  C hX hbl hbA hL hii hck hinv  hw hl hback
  · skip
    refine g_tabIn C 12 586 619 hs_1 (by decide) dL_law_33 (by decide) (by decide) (by decide +kernel) (by decide) ?_
    exact lw_signIn l D G h hm a ta la tb lb ra rb ga am ii st tr lf cn ul rw tc xc xu xw sp co da dc rc mra mrm mP mS mD mQ mal mrw kd nu ex rt mi si un be ka br rs rf rp kt nt tex trt tmi tsi tun tbe tka tbr trs trf trp dk dn r1 r2 r3 km nm rk rn vP vS vD vQ ht wA fA sz ln ce hd  C hX hbl hbA hL hii hck hinv  hw hl hback
  · skip
    refine g_tabIn C 13 619 652 hs_1 (by decide) dL_law_33 (by decide) (by decide) (by decide +kernel) (by decide) ?_
    exact lw_ofRow l D G h hm a ta la tb lb ra rb ga am ii st tr lf cn ul rw tc xc xu xw sp co da dc rc mra mrm mP mS mD mQ mal mrw kd nu ex rt mi si un be ka br rs rf rp kt nt tex trt tmi tsi tun tbe tka tbr trs trf trp dk dn r1 r2 r3 km nm rk rn vP vS vD vQ ht wA fA sz ln ce hd  C hX hbl hbA hL hii hck hinv  hw hl hback
  · skip
    refine g_tabIn C 14 652 685 hs_1 (by decide) dL_law_33 (by decide) (by decide) (by decide +kernel) (by decide) ?_
    rcases Classical.em (0 ≤ (xs (ii + 1).toNat).toInt ∧ (xs (ii + 1).toNat).toInt ≤ 3) with hr | hr
    · cases hq : st ((xs (ii + 1).toNat).toInt).toNat with
      | none => exact lw_wish_n l D G h hm a ta la tb lb ra rb ga am ii st tr lf cn ul rw tc xc xu xw sp co da dc rc mra mrm mP mS mD mQ mal mrw kd nu ex rt mi si un be ka br rs rf rp kt nt tex trt tmi tsi tun tbe tka tbr trs trf trp dk dn r1 r2 r3 km nm rk rn vP vS vD vQ ht wA fA sz ln ce hd ((xs (ii + 1).toNat).toInt) C hX hbl hbA hL hii hck hinv rfl (fun _ _ => hq) hw hl hback
      | some x =>
        obtain ⟨sa, sb, la1, zn, gg⟩ := x
        exact lw_wish_s l D G h hm a ta la tb lb ra rb ga am ii st tr lf cn ul rw tc xc xu xw sp co da dc rc mra mrm mP mS mD mQ mal mrw kd nu ex rt mi si un be ka br rs rf rp kt nt tex trt tmi tsi tun tbe tka tbr trs trf trp dk dn r1 r2 r3 km nm rk rn vP vS vD vQ ht wA fA sz ln ce hd ((xs (ii + 1).toNat).toInt) sa sb la1 zn gg C hX hbl hbA hL hii hck hinv rfl hr hq (g_open hw (by omega) hq) hl hback
    · exact lw_wish_n l D G h hm a ta la tb lb ra rb ga am ii st tr lf cn ul rw tc xc xu xw sp co da dc rc mra mrm mP mS mD mQ mal mrw kd nu ex rt mi si un be ka br rs rf rp kt nt tex trt tmi tsi tun tbe tka tbr trs trf trp dk dn r1 r2 r3 km nm rk rn vP vS vD vQ ht wA fA sz ln ce hd ((xs (ii + 1).toNat).toInt) C hX hbl hbA hL hii hck hinv rfl (fun a1 a2 => absurd ⟨a1, a2⟩ hr) hw hl hback
  · skip
    refine g_tabIn C 15 695 728 hs_1 (by decide) dL_law_33 (by decide) (by decide) (by decide +kernel) (by decide) ?_
    exact lw_reading l D G h hm a ta la tb lb ra rb ga am ii st tr lf cn ul rw tc xc xu xw sp co da dc rc mra mrm mP mS mD mQ mal mrw kd nu ex rt mi si un be ka br rs rf rp kt nt tex trt tmi tsi tun tbe tka tbr trs trf trp dk dn r1 r2 r3 km nm rk rn vP vS vD vQ ht wA fA sz ln ce hd  C hX hbl hbA hL hii hck hinv  hw hl hback
  · skip
    refine g_tabIn C 16 738 771 hs_1 (by decide) dL_law_33 (by decide) (by decide) (by decide +kernel) (by decide) ?_
    exact lw_back l D G h hm a ta la tb lb ra rb ga am ii st tr lf cn ul rw tc xc xu xw sp co da dc rc mra mrm mP mS mD mQ mal mrw kd nu ex rt mi si un be ka br rs rf rp kt nt tex trt tmi tsi tun tbe tka tbr trs trf trp dk dn r1 r2 r3 km nm rk rn vP vS vD vQ ht wA fA sz ln ce hd  C hX hbl hbA hL hii hck hinv  hw hl hback
  · skip
    refine g_tabIn C 17 761 794 hs_1 (by decide) dL_law_33 (by decide) (by decide) (by decide +kernel) (by decide) ?_
    exact lw_kinds l D G h hm a ta la tb lb ra rb ga am ii st tr lf cn ul rw tc xc xu xw sp co da dc rc mra mrm mP mS mD mQ mal mrw kd nu ex rt mi si un be ka br rs rf rp kt nt tex trt tmi tsi tun tbe tka tbr trs trf trp dk dn r1 r2 r3 km nm rk rn vP vS vD vQ ht wA fA sz ln ce hd  C hX hbl hbA hL hii hck hinv  hw hl hback
  · skip
    refine g_tabIn C 18 784 817 hs_1 (by decide) dL_law_33 (by decide) (by decide) (by decide +kernel) (by decide) ?_
    exact lw_lows l D G h hm a ta la tb lb ra rb ga am ii st tr lf cn ul rw tc xc xu xw sp co da dc rc mra mrm mP mS mD mQ mal mrw kd nu ex rt mi si un be ka br rs rf rp kt nt tex trt tmi tsi tun tbe tka tbr trs trf trp dk dn r1 r2 r3 km nm rk rn vP vS vD vQ ht wA fA sz ln ce hd  C hX hbl hbA hL hii hck hinv  hw hl hback
  · skip
    refine g_tabIn C 19 807 840 hs_1 (by decide) dL_law_33 (by decide) (by decide) (by decide +kernel) (by decide) ?_
    exact lw_odds l D G h hm a ta la tb lb ra rb ga am ii st tr lf cn ul rw tc xc xu xw sp co da dc rc mra mrm mP mS mD mQ mal mrw kd nu ex rt mi si un be ka br rs rf rp kt nt tex trt tmi tsi tun tbe tka tbr trs trf trp dk dn r1 r2 r3 km nm rk rn vP vS vD vQ ht wA fA sz ln ce hd  C hX hbl hbA hL hii hck hinv  hw hl hback
  · skip
    refine g_tabIn C 20 851 884 hs_1 (by decide) dL_law_33 (by decide) (by decide) (by decide +kernel) (by decide) ?_
    rcases Classical.em ((0 ≤ (xs (ii + 1).toNat).toInt ∧ (xs (ii + 1).toNat).toInt ≤ 3) ∧ (0 ≤ (xs (ii + 2).toNat).toInt ∧ (xs (ii + 2).toNat).toInt ≤ 2) ∧ 0 ≤ (xs (ii + 3).toNat).toInt ∧ (xs (ii + 3).toNat).toInt ≤ 60) with hr | hr
    · exact lw_sheet_t l D G h hm a ta la tb lb ra rb ga am ii st tr lf cn ul rw tc xc xu xw sp co da dc rc mra mrm mP mS mD mQ mal mrw kd nu ex rt mi si un be ka br rs rf rp kt nt tex trt tmi tsi tun tbe tka tbr trs trf trp dk dn r1 r2 r3 km nm rk rn vP vS vD vQ ht wA fA sz ln ce hd  C hX hbl hbA hL hii hck hinv hr hw hl hback
    · exact lw_sheet_f l D G h hm a ta la tb lb ra rb ga am ii st tr lf cn ul rw tc xc xu xw sp co da dc rc mra mrm mP mS mD mQ mal mrw kd nu ex rt mi si un be ka br rs rf rp kt nt tex trt tmi tsi tun tbe tka tbr trs trf trp dk dn r1 r2 r3 km nm rk rn vP vS vD vQ ht wA fA sz ln ce hd  C hX hbl hbA hL hii hck hinv hr hw hl hback
  · skip
    refine g_tabIn C 21 894 927 hs_1 (by decide) dL_law_33 (by decide) (by decide) (by decide +kernel) (by decide) ?_
    rcases Classical.em (0 ≤ (xs (ii + 1).toNat).toInt ∧ (xs (ii + 1).toNat).toInt ≤ 3) with hr | hr
    · cases hq : st ((xs (ii + 1).toNat).toInt).toNat with
      | none => exact lw_lose_n l D G h hm a ta la tb lb ra rb ga am ii st tr lf cn ul rw tc xc xu xw sp co da dc rc mra mrm mP mS mD mQ mal mrw kd nu ex rt mi si un be ka br rs rf rp kt nt tex trt tmi tsi tun tbe tka tbr trs trf trp dk dn r1 r2 r3 km nm rk rn vP vS vD vQ ht wA fA sz ln ce hd ((xs (ii + 1).toNat).toInt) C hX hbl hbA hL hii hck hinv rfl (fun _ _ => hq) hw hl hback
      | some x =>
        obtain ⟨sa, sb, la1, zn, gg⟩ := x
        exact lw_lose_s l D G h hm a ta la tb lb ra rb ga am ii st tr lf cn ul rw tc xc xu xw sp co da dc rc mra mrm mP mS mD mQ mal mrw kd nu ex rt mi si un be ka br rs rf rp kt nt tex trt tmi tsi tun tbe tka tbr trs trf trp dk dn r1 r2 r3 km nm rk rn vP vS vD vQ ht wA fA sz ln ce hd ((xs (ii + 1).toNat).toInt) sa sb la1 zn gg C hX hbl hbA hL hii hck hinv rfl hr hq hw hl hback
    · exact lw_lose_n l D G h hm a ta la tb lb ra rb ga am ii st tr lf cn ul rw tc xc xu xw sp co da dc rc mra mrm mP mS mD mQ mal mrw kd nu ex rt mi si un be ka br rs rf rp kt nt tex trt tmi tsi tun tbe tka tbr trs trf trp dk dn r1 r2 r3 km nm rk rn vP vS vD vQ ht wA fA sz ln ce hd ((xs (ii + 1).toNat).toInt) C hX hbl hbA hL hii hck hinv rfl (fun a1 a2 => absurd ⟨a1, a2⟩ hr) hw hl hback
  · skip
    refine g_tabIn C 22 917 950 hs_1 (by decide) dL_law_33 (by decide) (by decide) (by decide +kernel) (by decide) ?_
    rcases Classical.em (0 ≤ (xs (ii + 1).toNat).toInt ∧ (xs (ii + 1).toNat).toInt ≤ 3) with hr | hr
    · cases hq : st ((xs (ii + 1).toNat).toInt).toNat with
      | none => exact lw_put_n l D G h hm a ta la tb lb ra rb ga am ii st tr lf cn ul rw tc xc xu xw sp co da dc rc mra mrm mP mS mD mQ mal mrw kd nu ex rt mi si un be ka br rs rf rp kt nt tex trt tmi tsi tun tbe tka tbr trs trf trp dk dn r1 r2 r3 km nm rk rn vP vS vD vQ ht wA fA sz ln ce hd ((xs (ii + 1).toNat).toInt) C hX hbl hbA hL hii hck hinv rfl (fun _ _ => hq) hw hl hback
      | some x =>
        obtain ⟨sa, sb, la1, zn, gg⟩ := x
        exact lw_put_s l D G h hm a ta la tb lb ra rb ga am ii st tr lf cn ul rw tc xc xu xw sp co da dc rc mra mrm mP mS mD mQ mal mrw kd nu ex rt mi si un be ka br rs rf rp kt nt tex trt tmi tsi tun tbe tka tbr trs trf trp dk dn r1 r2 r3 km nm rk rn vP vS vD vQ ht wA fA sz ln ce hd ((xs (ii + 1).toNat).toInt) sa sb la1 zn gg C hX hbl hbA hL hii hck hinv rfl hr hq (g_open hw (by omega) hq) hl hback
    · exact lw_put_n l D G h hm a ta la tb lb ra rb ga am ii st tr lf cn ul rw tc xc xu xw sp co da dc rc mra mrm mP mS mD mQ mal mrw kd nu ex rt mi si un be ka br rs rf rp kt nt tex trt tmi tsi tun tbe tka tbr trs trf trp dk dn r1 r2 r3 km nm rk rn vP vS vD vQ ht wA fA sz ln ce hd ((xs (ii + 1).toNat).toInt) C hX hbl hbA hL hii hck hinv rfl (fun a1 a2 => absurd ⟨a1, a2⟩ hr) hw hl hback
  · skip
    refine g_tabIn C 23 960 993 hs_1 (by decide) dL_law_33 (by decide) (by decide) (by decide +kernel) (by decide) ?_
    rcases Classical.em (0 ≤ (xs (ii + 1).toNat).toInt ∧ (xs (ii + 1).toNat).toInt ≤ 3) with hr | hr
    · cases hq : st ((xs (ii + 1).toNat).toInt).toNat with
      | none => exact lw_cell_n l D G h hm a ta la tb lb ra rb ga am ii st tr lf cn ul rw tc xc xu xw sp co da dc rc mra mrm mP mS mD mQ mal mrw kd nu ex rt mi si un be ka br rs rf rp kt nt tex trt tmi tsi tun tbe tka tbr trs trf trp dk dn r1 r2 r3 km nm rk rn vP vS vD vQ ht wA fA sz ln ce hd ((xs (ii + 1).toNat).toInt) C hX hbl hbA hL hii hck hinv rfl (fun _ _ => hq) hw hl hback
      | some x =>
        obtain ⟨sa, sb, la1, zn, gg⟩ := x
        exact lw_cell_s l D G h hm a ta la tb lb ra rb ga am ii st tr lf cn ul rw tc xc xu xw sp co da dc rc mra mrm mP mS mD mQ mal mrw kd nu ex rt mi si un be ka br rs rf rp kt nt tex trt tmi tsi tun tbe tka tbr trs trf trp dk dn r1 r2 r3 km nm rk rn vP vS vD vQ ht wA fA sz ln ce hd ((xs (ii + 1).toNat).toInt) sa sb la1 zn gg C hX hbl hbA hL hii hck hinv rfl hr hq (g_open hw (by omega) hq) hl hback
    · exact lw_cell_n l D G h hm a ta la tb lb ra rb ga am ii st tr lf cn ul rw tc xc xu xw sp co da dc rc mra mrm mP mS mD mQ mal mrw kd nu ex rt mi si un be ka br rs rf rp kt nt tex trt tmi tsi tun tbe tka tbr trs trf trp dk dn r1 r2 r3 km nm rk rn vP vS vD vQ ht wA fA sz ln ce hd ((xs (ii + 1).toNat).toInt) C hX hbl hbA hL hii hck hinv rfl (fun a1 a2 => absurd ⟨a1, a2⟩ hr) hw hl hback
  · skip
    refine g_tabIn C 24 1004 1037 hs_1 (by decide) dL_law_33 (by decide) (by decide) (by decide +kernel) (by decide) ?_
    rcases Classical.em ((0 ≤ (xs (ii + 1).toNat).toInt ∧ (xs (ii + 1).toNat).toInt ≤ 3) ∧ 0 ≤ (xs (ii + 3).toNat).toInt ∧ (xs (ii + 3).toNat).toInt ≤ 3) with hr | hr
    · cases hq : st ((xs (ii + 1).toNat).toInt).toNat with
      | none =>
        cases hq3 : st ((xs (ii + 3).toNat).toInt).toNat with
        | none => exact lw_copy_nn l D G h hm a ta la tb lb ra rb ga am ii st tr lf cn ul rw tc xc xu xw sp co da dc rc mra mrm mP mS mD mQ mal mrw kd nu ex rt mi si un be ka br rs rf rp kt nt tex trt tmi tsi tun tbe tka tbr trs trf trp dk dn r1 r2 r3 km nm rk rn vP vS vD vQ ht wA fA sz ln ce hd ((xs (ii + 1).toNat).toInt) ((xs (ii + 3).toNat).toInt) C hX hbl hbA hL hii hck hinv rfl rfl (fun _ _ _ _ => ⟨hq, hq3⟩) hw hl hback
        | some x => exact lw_copy_ns l D G h hm a ta la tb lb ra rb ga am ii st tr lf cn ul rw tc xc xu xw sp co da dc rc mra mrm mP mS mD mQ mal mrw kd nu ex rt mi si un be ka br rs rf rp kt nt tex trt tmi tsi tun tbe tka tbr trs trf trp dk dn r1 r2 r3 km nm rk rn vP vS vD vQ ht wA fA sz ln ce hd ((xs (ii + 1).toNat).toInt) ((xs (ii + 3).toNat).toInt) x C hX hbl hbA hL hii hck hinv rfl rfl hr hq hq3 hw hl hback
      | some x =>
        cases hq3 : st ((xs (ii + 3).toNat).toInt).toNat with
        | none => exact lw_copy_sn l D G h hm a ta la tb lb ra rb ga am ii st tr lf cn ul rw tc xc xu xw sp co da dc rc mra mrm mP mS mD mQ mal mrw kd nu ex rt mi si un be ka br rs rf rp kt nt tex trt tmi tsi tun tbe tka tbr trs trf trp dk dn r1 r2 r3 km nm rk rn vP vS vD vQ ht wA fA sz ln ce hd ((xs (ii + 1).toNat).toInt) ((xs (ii + 3).toNat).toInt) x C hX hbl hbA hL hii hck hinv rfl rfl hr hq3 hq hw hl hback
        | some z =>
          obtain ⟨sa, sb, la1, zn, gg⟩ := x
          rcases Classical.em (((xs (ii + 1).toNat).toInt).toNat = ((xs (ii + 3).toNat).toInt).toNat) with he | he
          · exact lw_copy_same l D G h hm a ta la tb lb ra rb ga am ii st tr lf cn ul rw tc xc xu xw sp co da dc rc mra mrm mP mS mD mQ mal mrw kd nu ex rt mi si un be ka br rs rf rp kt nt tex trt tmi tsi tun tbe tka tbr trs trf trp dk dn r1 r2 r3 km nm rk rn vP vS vD vQ ht wA fA sz ln ce hd ((xs (ii + 1).toNat).toInt) ((xs (ii + 3).toNat).toInt) sa sb la1 zn gg C hX hbl hbA hL hii hck hinv rfl rfl hr.1 hq (by omega) (g_open hw (by omega) hq) hl hback
          · obtain ⟨sc, sd, la2, zm, gh⟩ := z
            exact lw_copy_ss l D G h hm a ta la tb lb ra rb ga am ii st tr lf cn ul rw tc xc xu xw sp co da dc rc mra mrm mP mS mD mQ mal mrw kd nu ex rt mi si un be ka br rs rf rp kt nt tex trt tmi tsi tun tbe tka tbr trs trf trp dk dn r1 r2 r3 km nm rk rn vP vS vD vQ ht wA fA sz ln ce hd ((xs (ii + 1).toNat).toInt) ((xs (ii + 3).toNat).toInt) sa sb la1 zn gg sc sd la2 zm gh C hX hbl hbA hL hii hck hinv rfl rfl hr.1 hq hr.2 hq3 he (g_open (g_open hw (by omega) hq) (by omega) (show upS st ((xs (ii + 1).toNat).toInt).toNat none ((xs (ii + 3).toNat).toInt).toNat = some (sc, sd, la2, zm, gh) from (if_neg (fun q => he q.symm)).trans hq3)) hl hback
    · exact lw_copy_nn l D G h hm a ta la tb lb ra rb ga am ii st tr lf cn ul rw tc xc xu xw sp co da dc rc mra mrm mP mS mD mQ mal mrw kd nu ex rt mi si un be ka br rs rf rp kt nt tex trt tmi tsi tun tbe tka tbr trs trf trp dk dn r1 r2 r3 km nm rk rn vP vS vD vQ ht wA fA sz ln ce hd ((xs (ii + 1).toNat).toInt) ((xs (ii + 3).toNat).toInt) C hX hbl hbA hL hii hck hinv rfl rfl (fun a1 a2 a3 a4 => absurd ⟨⟨a1, a2⟩, a3, a4⟩ hr) hw hl hback
  · skip
    refine g_tabIn C 25 1067 1100 hs_1 (by decide) dL_law_33 (by decide) (by decide) (by decide +kernel) (by decide) ?_
    exact lw_tell l D G h hm a ta la tb lb ra rb ga am ii st tr lf cn ul rw tc xc xu xw sp co da dc rc mra mrm mP mS mD mQ mal mrw kd nu ex rt mi si un be ka br rs rf rp kt nt tex trt tmi tsi tun tbe tka tbr trs trf trp dk dn r1 r2 r3 km nm rk rn vP vS vD vQ ht wA fA sz ln ce hd  C hX hbl hbA hL hii hck hinv  hw hl hback
  · skip
    refine g_tabIn C 26 1090 1123 hs_1 (by decide) dL_law_33 (by decide) (by decide) (by decide +kernel) (by decide) ?_
    exact lw_call l D G h hm a ta la tb lb ra rb ga am ii st tr lf cn ul rw tc xc xu xw sp co da dc rc mra mrm mP mS mD mQ mal mrw kd nu ex rt mi si un be ka br rs rf rp kt nt tex trt tmi tsi tun tbe tka tbr trs trf trp dk dn r1 r2 r3 km nm rk rn vP vS vD vQ ht wA fA sz ln ce hd  C hX hbl hbA hL hii hck hinv  hw hl hback
  · skip
    refine g_tabIn C 27 1113 1146 hs_1 (by decide) dL_law_33 (by decide) (by decide) (by decide +kernel) (by decide) ?_
    exact lw_as l D G h hm a ta la tb lb ra rb ga am ii st tr lf cn ul rw tc xc xu xw sp co da dc rc mra mrm mP mS mD mQ mal mrw kd nu ex rt mi si un be ka br rs rf rp kt nt tex trt tmi tsi tun tbe tka tbr trs trf trp dk dn r1 r2 r3 km nm rk rn vP vS vD vQ ht wA fA sz ln ce hd  C hX hbl hbA hL hii hck hinv  hw hl hback
  · skip
    refine g_tabIn C 28 1146 1179 hs_1 (by decide) dL_law_33 (by decide) (by decide) (by decide +kernel) (by decide) ?_
    exact lw_trace l D G h hm a ta la tb lb ra rb ga am ii st tr lf cn ul rw tc xc xu xw sp co da dc rc mra mrm mP mS mD mQ mal mrw kd nu ex rt mi si un be ka br rs rf rp kt nt tex trt tmi tsi tun tbe tka tbr trs trf trp dk dn r1 r2 r3 km nm rk rn vP vS vD vQ ht wA fA sz ln ce hd  C hX hbl hbA hL hii hck hinv  hw hl hback
  · skip
    refine g_tabIn C 29 1159 1192 hs_1 (by decide) dL_law_33 (by decide) (by decide) (by decide +kernel) (by decide) ?_
    exact lw_fault l D G h hm a ta la tb lb ra rb ga am ii st tr lf cn ul rw tc xc xu xw sp co da dc rc mra mrm mP mS mD mQ mal mrw kd nu ex rt mi si un be ka br rs rf rp kt nt tex trt tmi tsi tun tbe tka tbr trs trf trp dk dn r1 r2 r3 km nm rk rn vP vS vD vQ ht wA fA sz ln ce hd  C hX hbl hbA hL hii hck hinv  hw hl hback
  · skip
    refine g_tabIn C 30 1172 1205 hs_1 (by decide) dL_law_33 (by decide) (by decide) (by decide +kernel) (by decide) ?_
    exact lw_many l D G h hm a ta la tb lb ra rb ga am ii st tr lf cn ul rw tc xc xu xw sp co da dc rc mra mrm mP mS mD mQ mal mrw kd nu ex rt mi si un be ka br rs rf rp kt nt tex trt tmi tsi tun tbe tka tbr trs trf trp dk dn r1 r2 r3 km nm rk rn vP vS vD vQ ht wA fA sz ln ce hd  C hX hbl hbA hL hii hck hinv  hw hl hback
  · skip
    refine g_tabOut C 1228 (by omega) dL_law_33 (by omega) (by decide) ?_
    refine W.widen (k := cells + 2) (n := slots + 62) (by omega) (by omega) ?_
    exact hback st tr lf cn ul rw tc xc xu xw sp co da dc rc mra mrm mP mS mD mQ mal mrw kd nu ex rt mi si un be ka br rs rf rp kt nt tex trt tmi tsi tun tbe tka tbr trs trf trp dk dn r1 r2 r3 km nm rk rn vP vS vD vQ ht wA fA sz ln ce hd hinv H locs ls hw hl
