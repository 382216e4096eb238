set_option maxRecDepth 100000 in
set_option maxHeartbeats 8000000 in
theorem lw_loop {p : Program} (l : Launch) {e : Env} {s : State} {m : MethodId} {args : Array Value} {below : List Frame} {meth : Method} {c : Code} (D : va_G) (G : gT) {Q : State → Prop} {b L : Nat} {xs : Nat → Int32} (h hm : Nat) (a ta la tb lb ra rb ga am : Nat → Nat) (C : gC D G wsL_law RL cL_law 4 p s m args meth c) (hX : va_X b L xs s s.heap) (hbl : b < s.heap.size) (hL : L ≤ 3072) (hexit : ∀ (H : Heap) (ls : Array Slot), W p l e room_1 s m args below meth c H [] 600000 7302250 Q (F0 m 1235 ls [.int 1])) : ∀ (n k : Nat) (st : Nat → Option shE) (tr : Int) (lf : Int) (cn : Int) (ul : Int) (rw : Int) (tc : Int) (xc : Int) (xu : Int) (xw : Int) (sp : Int) (co : Int) (da : Int) (dc : Int) (rc : Int) (mra : Int) (mrm : Int) (mP : Int) (mS : Int) (mD : Int) (mQ : Int) (mal : Int) (mrw : Int) (kd : Int → Int) (nu : Int → Int) (ex : Int → Int) (rt : Int → Int) (mi : Int → Int) (si : Int → Int) (un : Int → Int) (be : Int → Int) (ka : Int → Int) (br : Int → Int) (rs : Int → Int) (rf : Int → Int) (rp : Int → Int) (kt : Int → Int) (nt : Int → Int) (tex : Int → Int) (trt : Int → Int) (tmi : Int → Int) (tsi : Int → Int) (tun : Int → Int) (tbe : Int → Int) (tka : Int → Int) (tbr : Int → Int) (trs : Int → Int) (trf : Int → Int) (trp : Int → Int) (dk : Int → Int) (dn : Int → Int) (r1 : Int → Int) (r2 : Int → Int) (r3 : Int → Int) (km : Int → Int) (nm : Int → Int) (rk : Int → Int) (rn : Int → Int) (vP : Int → Int) (vS : Int → Int) (vD : Int → Int) (vQ : Int → Int) (ht : Int → Int) (wA : Int → Int) (fA : Int → Int) (sz : Int → Int) (ln : Int → Int) (ce : Int → Int) (hd : Int → Int), (L : Int) < 6 * (k : Int) + 6 * (n : Int) → k ≤ 600 → lwI st tr lf cn ul rw tc xc xu xw sp co da dc rc mra mrm mP mS mD mQ mal mrw kd nu ex rt mi si un be ka br rs rf rp kt nt tex trt tmi tsi tun tbe tka tbr trs trf trp dk dn r1 r2 r3 km nm rk rn vP vS vD vQ ht wA fA sz ln ce hd → ∀ (H : Heap) (locs : List Loc) (ls : Array Slot), gW D (fun q => s.heap.size ≤ q) s.heap ([oX5 h a tr lf, cQ G (a 0) 4 (qfS st), oX4 (a 1) ta cn, cA G (ta 1) 4 kd, cA G (ta 2) 12 nu, oX0 (a 2) la cn ul rw, cA G (la 1) 12 ex, cA G (la 2) 4 rt, cA G (la 3) 8 mi, cA G (la 4) 8 si, cA G (la 5) 8 un, cA G (la 6) 8 be, cA G (la 8) 8 ka, cA G (la 9) 8 br, cA G (la 11) 17 rs, cA G (la 12) 17 rf, cA G (la 13) 17 rp, oX4 (a 3) tb tc, cA G (tb 1) 4 kt, cA G (tb 2) 12 nt, oX0 (a 4) lb xc xu xw, cA G (lb 1) 12 tex, cA G (lb 2) 4 trt, cA G (lb 3) 8 tmi, cA G (lb 4) 8 tsi, cA G (lb 5) 8 tun, cA G (lb 6) 8 tbe, cA G (lb 8) 8 tka, cA G (lb 9) 8 tbr, cA G (lb 11) 17 trs, cA G (lb 12) 17 trf, cA G (lb 13) 17 trp, oX3 (a 5) ra sp co da, oX4 (ra 0) rb dc, cA G (rb 1) 4 dk, cA G (rb 2) 12 dn, oX1 (a 6) ga rc, cA G (ga 1) 8 r1, cA G (ga 2) 8 r2, cA G (ga 3) 8 r3, oX6 hm am lf cn mra mrm mP mS mD mQ mal mrw rc tr, cA G (am 2) 4 km, cA G (am 3) 12 nm, cA G (am 6) 4 rk, cA G (am 7) 12 rn, cJ G (am 13) 8 vP, cJ G (am 14) 8 vS, cJ G (am 15) 8 vD, cJ G (am 16) 8 vQ, cA G (am 17) 12 ht, cA G (am 18) 17 wA, cA G (am 19) 17 fA, cA G (am 22) 8 r1, cA G (am 23) 8 r2, cA G (am 24) 8 r3, cA G (am 25) 4 sz, cA G (am 26) 4 ln, cA G (am 27) 240 ce, cA G (am 28) 60 hd] ++ shW G st) H locs → lv_has ls 4 [(0, .ref b), (1, .ref h), (2, .ref hm), (3, .int (iI (6 * (k : Int))))] → W p l e room_1 s m args below meth c H locs (1000 + 2 * k) (2000 + 62 * k) Q (F0 m 18 ls []) := by
  have hbA : ¬ s.heap.size ≤ b := by omega
  intro n
  induction n with
  | zero =>
    intro k st tr lf cn ul rw tc xc xu xw sp co da dc rc mra mrm mP mS mD mQ mal mrw kd nu ex rt mi si un be ka br rs rf rp kt nt tex trt tmi tsi tun tbe tka tbr trs trf trp dk dn r1 r2 r3 km nm rk rn vP vS vD vQ ht wA fA sz ln ce hd hn hk hinv H locs ls hw hl
    refine g_iload_n C hl 3 rfl rfl dL_law_18 ?_
    refine g_aload_n C hl 0 rfl rfl dL_law_19 ?_
    refine g_slen C hw hX hbl hbA dL_law_20 ?_
    refine g_bipush C dL_law_21 (by decide) ?_
    refine g_isub C dL_law_23 ?_
    refine g_icmp_gt C 1234 dL_law_24 (by decide) (by omega) (by omega) (fun c_1 => ?_) (fun c_1 => ?_)
    · skip
      refine g_iconst C dL_law_1234 ?_
      refine g_topi (show iI 1 = 1 by decide +kernel) ?_
      refine va_forget (fun q hq => hw.2.2.1.2.2 q hq) ?_
      refine W.widen (k := 600000) (n := 7302250) (by omega) (by omega) ?_
      exact hexit H ls
    · skip
      exact False.elim (by omega)
  | succ n ih =>
    intro k st tr lf cn ul rw tc xc xu xw sp co da dc rc mra mrm mP mS mD mQ mal mrw kd nu ex rt mi si un be ka br rs rf rp kt nt tex trt tmi tsi tun tbe tka tbr trs trf trp dk dn r1 r2 r3 km nm rk rn vP vS vD vQ ht wA fA sz ln ce hd hn hk hinv H locs ls hw hl
    refine g_iload_n C hl 3 rfl rfl dL_law_18 ?_
    refine g_aload_n C hl 0 rfl rfl dL_law_19 ?_
    refine g_slen C hw hX hbl hbA dL_law_20 ?_
    refine g_bipush C dL_law_21 (by decide) ?_
    refine g_isub C dL_law_23 ?_
    refine g_icmp_gt C 1234 dL_law_24 (by decide) (by omega) (by omega) (fun c_2 => ?_) (fun c_2 => ?_)
    · skip
      refine g_iconst C dL_law_1234 ?_
      refine g_topi (show iI 1 = 1 by decide +kernel) ?_
      refine va_forget (fun q hq => hw.2.2.1.2.2 q hq) ?_
      refine W.widen (k := 600000) (n := 7302250) (by omega) (by omega) ?_
      exact hexit H ls
    · skip
      refine lw_body l D G h hm a ta la tb lb ra rb ga am (6 * (k : Int)) st tr lf cn ul rw tc xc xu xw sp co da dc rc mra mrm mP mS mD mQ mal mrw kd nu ex rt mi si un be ka br rs rf rp kt nt tex trt tmi tsi tun tbe tka tbr trs trf trp dk dn r1 r2 r3 km nm rk rn vP vS vD vQ ht wA fA sz ln ce hd C hX hbl hbA hL (by omega) (by omega) hinv hw hl ?_
      intro st tr lf cn ul rw tc xc xu xw sp co da dc rc mra mrm mP mS mD mQ mal mrw kd nu ex rt mi si un be ka br rs rf rp kt nt tex trt tmi tsi tun tbe tka tbr trs trf trp dk dn r1 r2 r3 km nm rk rn vP vS vD vQ ht wA fA sz ln ce hd hinv H locs ls hw hl
      refine g_iinc C [(3, .int (iI ((6 * (k : Int)) + 6))), (0, .ref b), (1, .ref h), (2, .ref hm)] 3 dL_law_1228 hl rfl (by decide) rfl ?_
      clear hl
      intro ls hl
      refine g_goto C 18 dL_law_1231 (by decide) ?_
      exact ih (k + 1) st tr lf cn ul rw tc xc xu xw sp co da dc rc mra mrm mP mS mD mQ mal mrw kd nu ex rt mi si un be ka br rs rf rp kt nt tex trt tmi tsi tun tbe tka tbr trs trf trp dk dn r1 r2 r3 km nm rk rn vP vS vD vQ ht wA fA sz ln ce hd (by omega) (by omega) hinv H locs ls hw (by have h9 := lv_sub hl [1, 2, 3, 0] rfl; exact h9)
