set_option maxRecDepth 100000 in
set_option maxHeartbeats 8000000 in
theorem lw_polynomials_n {p : Program} (l : Launch) {e : Env} {s : State} {m : MethodId} {args : Array Value} {below : List Frame} {meth : Method} {c : Code} (D : va_G) (G : gT) {A : Nat → Prop} {Q : State → Prop} {b L : Nat} {xs : Nat → Int32} (h hm : Nat) (a ta la tb lb ra rb ga am : Nat → Nat) (ii : Int) {cells slots : Nat} (st : Nat → Option shE) (tr : Int) (lf : Int) (cn : Int) (ul : Int) (rw : Int) (tc : Int) (xc : Int) (xu : Int) (xw : Int) (sp : Int) (co : Int) (da : Int) (dc : Int) (rc : Int) (mra : Int) (mrm : Int) (mP : Int) (mS : Int) (mD : Int) (mQ : Int) (mal : Int) (mrw : Int) (kd : Int → Int) (nu : Int → Int) (ex : Int → Int) (rt : Int → Int) (mi : Int → Int) (si : Int → Int) (un : Int → Int) (be : Int → Int) (ka : Int → Int) (br : Int → Int) (rs : Int → Int) (rf : Int → Int) (rp : Int → Int) (kt : Int → Int) (nt : Int → Int) (tex : Int → Int) (trt : Int → Int) (tmi : Int → Int) (tsi : Int → Int) (tun : Int → Int) (tbe : Int → Int) (tka : Int → Int) (tbr : Int → Int) (trs : Int → Int) (trf : Int → Int) (trp : Int → Int) (dk : Int → Int) (dn : Int → Int) (r1 : Int → Int) (r2 : Int → Int) (r3 : Int → Int) (km : Int → Int) (nm : Int → Int) (rk : Int → Int) (rn : Int → Int) (vP : Int → Int) (vS : Int → Int) (vD : Int → Int) (vQ : Int → Int) (ht : Int → Int) (wA : Int → Int) (fA : Int → Int) (sz : Int → Int) (ln : Int → Int) (ce : Int → Int) (hd : Int → Int) (y1 : Int) (C : gC D G wsL_law RL cL_law 4 p s m args meth c) (hX : va_X b L xs s s.heap) (hbl : b < s.heap.size) (hbA : ¬ A b) (hL : L ≤ 3072) (hii : 0 ≤ ii ∧ ii + 6 ≤ L) (hck : cells + 2 ≤ 600000 ∧ slots + 62 ≤ 7302250) (hinv : lwI st tr lf cn ul rw tc xc xu xw sp co da dc rc mra mrm mP mS mD mQ mal mrw kd nu ex rt mi si un be ka br rs rf rp kt nt tex trt tmi tsi tun tbe tka tbr trs trf trp dk dn r1 r2 r3 km nm rk rn vP vS vD vQ ht wA fA sz ln ce hd) (hy1 : y1 = (xs (ii + 1).toNat).toInt) (hqn : 0 ≤ y1 → y1 ≤ 3 → st y1.toNat = none) {H : Heap} {locs : List Loc} {ls : Array Slot} (hw : gW D A s.heap ([oX5 h a tr lf, cQ G (a 0) 4 (qfS st), oX4 (a 1) ta cn, cA G (ta 1) 4 kd, cA G (ta 2) 12 nu, oX0 (a 2) la cn ul rw, cA G (la 1) 12 ex, cA G (la 2) 4 rt, cA G (la 3) 8 mi, cA G (la 4) 8 si, cA G (la 5) 8 un, cA G (la 6) 8 be, cA G (la 8) 8 ka, cA G (la 9) 8 br, cA G (la 11) 17 rs, cA G (la 12) 17 rf, cA G (la 13) 17 rp, oX4 (a 3) tb tc, cA G (tb 1) 4 kt, cA G (tb 2) 12 nt, oX0 (a 4) lb xc xu xw, cA G (lb 1) 12 tex, cA G (lb 2) 4 trt, cA G (lb 3) 8 tmi, cA G (lb 4) 8 tsi, cA G (lb 5) 8 tun, cA G (lb 6) 8 tbe, cA G (lb 8) 8 tka, cA G (lb 9) 8 tbr, cA G (lb 11) 17 trs, cA G (lb 12) 17 trf, cA G (lb 13) 17 trp, oX3 (a 5) ra sp co da, oX4 (ra 0) rb dc, cA G (rb 1) 4 dk, cA G (rb 2) 12 dn, oX1 (a 6) ga rc, cA G (ga 1) 8 r1, cA G (ga 2) 8 r2, cA G (ga 3) 8 r3, oX6 hm am lf cn mra mrm mP mS mD mQ mal mrw rc tr, cA G (am 2) 4 km, cA G (am 3) 12 nm, cA G (am 6) 4 rk, cA G (am 7) 12 rn, cJ G (am 13) 8 vP, cJ G (am 14) 8 vS, cJ G (am 15) 8 vD, cJ G (am 16) 8 vQ, cA G (am 17) 12 ht, cA G (am 18) 17 wA, cA G (am 19) 17 fA, cA G (am 22) 8 r1, cA G (am 23) 8 r2, cA G (am 24) 8 r3, cA G (am 25) 4 sz, cA G (am 26) 4 ln, cA G (am 27) 240 ce, cA G (am 28) 60 hd] ++ shW G st) H locs) (hl : lv_has ls 4 [(0, .ref b), (1, .ref h), (2, .ref hm), (3, .int (iI ii))]) (hback : lwB p l e s m args below meth c D G A Q b h hm a ta la tb lb ra rb ga am ii (cells + 2) (slots + 62)) : W p l e room_1 s m args below meth c H locs cells slots Q (F0 m 172 ls []) := by
  obtain ⟨hcn, hkd, hnu, hXx, hT, hZ, hB, hub, hkt, hnt, hdk, hdn, hrd, hkm, hnm, hek, hen, hrk, hrn, hsh, hsr⟩ := hinv
  obtain ⟨y2, hy2⟩ : ∃ y : Int, y = (xs (ii + 2).toNat).toInt := ⟨_, rfl⟩
  obtain ⟨y3, hy3⟩ : ∃ y : Int, y = (xs (ii + 3).toNat).toInt := ⟨_, rfl⟩
  obtain ⟨y4, hy4⟩ : ∃ y : Int, y = (xs (ii + 4).toNat).toInt := ⟨_, rfl⟩
  obtain ⟨y5, hy5⟩ : ∃ y : Int, y = (xs (ii + 5).toNat).toInt := ⟨_, rfl⟩
  have hr1 : -2147483648 ≤ y1 ∧ y1 ≤ 2147483647 := by rw [hy1]; exact iI_rg _
  have hr2 : -2147483648 ≤ y2 ∧ y2 ≤ 2147483647 := by rw [hy2]; exact iI_rg _
  have hr3 : -2147483648 ≤ y3 ∧ y3 ≤ 2147483647 := by rw [hy3]; exact iI_rg _
  have hr4 : -2147483648 ≤ y4 ∧ y4 ≤ 2147483647 := by rw [hy4]; exact iI_rg _
  have hr5 : -2147483648 ≤ y5 ∧ y5 ≤ 2147483647 := by rw [hy5]; exact iI_rg _
  have hE : EB (exT cn kd nu) := exT_B cn kd hnu
  have hEM : exT cn km nm = (exT cn kd nu) := exT_cg hek hen
  have hKA := hasB_L hB
  have hul : ul = ((ALn (exT cn kd nu) cn.toNat).length : Int) := by rw [hub, ALb_len]
  have hrc9 : 0 ≤ rc ∧ rc ≤ 8 := hrd.1
  have hsk : 0 ≤ y1 → y1 ≤ 3 → sz y1 = -1 := fun a1 a2 => by have q := (hsr y1.toNat (by omega)).1 (hqn a1 a2); rw [show ((y1.toNat : Nat) : Int) = y1 by omega] at q; exact q
  have hqf : 0 ≤ y1 → y1 ≤ 3 → qfS st y1.toNat = none := fun a1 a2 => by unfold qfS; rw [hqn a1 a2]; rfl
  obtain ⟨hsz, hln, hcr⟩ := id hsh
  refine g_aload_n C hl 1 rfl rfl dL_law_172 ?_
  refine g_aload_n C hl 0 rfl rfl dL_law_173 ?_
  refine g_iload_n C hl 3 rfl rfl dL_law_174 ?_
  refine g_iconst C dL_law_175 ?_
  refine g_iadd C dL_law_176 ?_
  refine g_sld C hw hX hbl hbA (by omega) hL dL_law_177 ?_
  refine g_nI (show ((xs (ii + 1).toNat).toInt : Int) = y1 by exact hy1.symm) ?_
  refine g_aload_n C hl 0 rfl rfl dL_law_178 ?_
  refine g_iload_n C hl 3 rfl rfl dL_law_179 ?_
  refine g_iconst C dL_law_180 ?_
  refine g_iadd C dL_law_181 ?_
  refine g_sld C hw hX hbl hbA (by omega) hL dL_law_182 ?_
  refine g_nI (show ((xs (ii + 2).toNat).toInt : Int) = y2 by exact hy2.symm) ?_
  refine g_aload_n C hl 0 rfl rfl dL_law_183 ?_
  refine g_iload_n C hl 3 rfl rfl dL_law_184 ?_
  refine g_iconst C dL_law_185 ?_
  refine g_iadd C dL_law_186 ?_
  refine g_sld C hw hX hbl hbA (by omega) hL dL_law_187 ?_
  refine g_nI (show ((xs (ii + 3).toNat).toInt : Int) = y3 by exact hy3.symm) ?_
  refine g_aload_n C hl 0 rfl rfl dL_law_188 ?_
  refine g_iload_n C hl 3 rfl rfl dL_law_189 ?_
  refine g_iconst C dL_law_190 ?_
  refine g_iadd C dL_law_191 ?_
  refine g_sld C hw hX hbl hbA (by omega) hL dL_law_192 ?_
  refine g_nI (show ((xs (ii + 4).toNat).toInt : Int) = y4 by exact hy4.symm) ?_
  refine g_callVTi C hw (wr := [oX4 (a 1) ta cn, cA G (ta 1) 4 kd, cA G (ta 2) 12 nu, oX0 (a 2) la cn ul rw, cA G (la 1) 12 ex, cA G (la 2) 4 rt, cA G (la 3) 8 mi, cA G (la 4) 8 si, cA G (la 5) 8 un, cA G (la 6) 8 be, cA G (la 8) 8 ka, cA G (la 9) 8 br, cA G (la 11) 17 rs, cA G (la 12) 17 rf, cA G (la 13) 17 rp, oX4 (a 3) tb tc, cA G (tb 1) 4 kt, cA G (tb 2) 12 nt, oX0 (a 4) lb xc xu xw, cA G (lb 1) 12 tex, cA G (lb 2) 4 trt, cA G (lb 3) 8 tmi, cA G (lb 4) 8 tsi, cA G (lb 5) 8 tun, cA G (lb 6) 8 tbe, cA G (lb 8) 8 tka, cA G (lb 9) 8 tbr, cA G (lb 11) 17 trs, cA G (lb 12) 17 trf, cA G (lb 13) 17 trp, oX3 (a 5) ra sp co da, oX4 (ra 0) rb dc, cA G (rb 1) 4 dk, cA G (rb 2) 12 dn, oX1 (a 6) ga rc, cA G (ga 1) 8 r1, cA G (ga 2) 8 r2, cA G (ga 3) 8 r3, oX6 hm am lf cn mra mrm mP mS mD mQ mal mrw rc tr, cA G (am 2) 4 km, cA G (am 3) 12 nm, cA G (am 6) 4 rk, cA G (am 7) 12 rn, cJ G (am 13) 8 vP, cJ G (am 14) 8 vS, cJ G (am 15) 8 vD, cJ G (am 16) 8 vQ, cA G (am 17) 12 ht, cA G (am 18) 17 wA, cA G (am 19) 17 fA, cA G (am 22) 8 r1, cA G (am 23) 8 r2, cA G (am 24) 8 r3, cA G (am 25) 4 sz, cA G (am 26) 4 ln, cA G (am 27) 240 ce, cA G (am 28) 60 hd]) (As := [.int (iI y1), .int (iI y2), .int (iI y3), .int (iI y4)]) (rest := []) (m_X5_polynomials_n l D G (h := h) (a := a) (tr := tr) (lf := lf) (qf := (qfS st)) (sz := sz) (ln := ln) (ce := ce) (kk := y1) (lv := y2) (ii := y3) (nn := y4) (by first | assumption | omega) (by first | assumption | omega) (by first | assumption | omega) (by first | assumption | omega) (by first | assumption | omega) (by first | assumption | omega)) (cwV 4 C.1.2.2.2.2 gL_law_X5_polynomials rfl rfl rfl (by decide +kernel) ⟨Nat.le_of_ble_eq_true rfl, Nat.le_of_ble_eq_true rfl⟩) [0, 1] [2, 3, 4, 5, 6, 7, 8, 9, 10, 11, 12, 13, 14, 15, 16, 17, 18, 19, 20, 21, 22, 23, 24, 25, 26, 27, 28, 29, 30, 31, 32, 33, 34, 35, 36, 37, 38, 39, 40, 41, 42, 43, 44, 45, 46, 47, 48, 49, 50, 51, 52, 53, 54, 55, 56, 57, 58] rfl rfl (by decide) (by decide) (by decide) 0 rfl rfl rfl hl.1 _ rfl (Nat.le_of_ble_eq_true rfl) dL_law_193 ⟨by show _ ≤ 600000; omega, by show _ ≤ 7302250; omega⟩ ?_
  clear hw
  rintro _ _ H locs ⟨rfl, rfl, hp_1⟩ hw
  have hw : gW D A s.heap ([oX4 (a 1) ta cn, cA G (ta 1) 4 kd, cA G (ta 2) 12 nu, oX0 (a 2) la cn ul rw, cA G (la 1) 12 ex, cA G (la 2) 4 rt, cA G (la 3) 8 mi, cA G (la 4) 8 si, cA G (la 5) 8 un, cA G (la 6) 8 be, cA G (la 8) 8 ka, cA G (la 9) 8 br, cA G (la 11) 17 rs, cA G (la 12) 17 rf, cA G (la 13) 17 rp, oX4 (a 3) tb tc, cA G (tb 1) 4 kt, cA G (tb 2) 12 nt, oX0 (a 4) lb xc xu xw, cA G (lb 1) 12 tex, cA G (lb 2) 4 trt, cA G (lb 3) 8 tmi, cA G (lb 4) 8 tsi, cA G (lb 5) 8 tun, cA G (lb 6) 8 tbe, cA G (lb 8) 8 tka, cA G (lb 9) 8 tbr, cA G (lb 11) 17 trs, cA G (lb 12) 17 trf, cA G (lb 13) 17 trp, oX3 (a 5) ra sp co da, oX4 (ra 0) rb dc, cA G (rb 1) 4 dk, cA G (rb 2) 12 dn, oX1 (a 6) ga rc, cA G (ga 1) 8 r1, cA G (ga 2) 8 r2, cA G (ga 3) 8 r3, oX6 hm am lf cn mra mrm mP mS mD mQ mal mrw rc tr, cA G (am 2) 4 km, cA G (am 3) 12 nm, cA G (am 6) 4 rk, cA G (am 7) 12 rn, cJ G (am 13) 8 vP, cJ G (am 14) 8 vS, cJ G (am 15) 8 vD, cJ G (am 16) 8 vQ, cA G (am 17) 12 ht, cA G (am 18) 17 wA, cA G (am 19) 17 fA, cA G (am 22) 8 r1, cA G (am 23) 8 r2, cA G (am 24) 8 r3, cA G (am 25) 4 sz, cA G (am 26) 4 ln, cA G (am 27) 240 ce, cA G (am 28) 60 hd, oX5 h a tr (F_pol sz ln y1 y2 y3 y4), cQ G (a 0) 4 (qfS st)] ++ shW G st) H locs := hw
  have hp_1 : ¬ okP sz ln ce y1 y2 y3 y4 := hp_1
  have hq1 := hp_1
  refine g_aload_n C hl 2 rfl rfl dL_law_196 ?_
  refine g_aload_n C hl 0 rfl rfl dL_law_197 ?_
  refine g_iload_n C hl 3 rfl rfl dL_law_198 ?_
  refine g_iconst C dL_law_199 ?_
  refine g_iadd C dL_law_200 ?_
  refine g_sld C hw hX hbl hbA (by omega) hL dL_law_201 ?_
  refine g_nI (show ((xs (ii + 1).toNat).toInt : Int) = y1 by exact hy1.symm) ?_
  refine g_aload_n C hl 0 rfl rfl dL_law_202 ?_
  refine g_iload_n C hl 3 rfl rfl dL_law_203 ?_
  refine g_iconst C dL_law_204 ?_
  refine g_iadd C dL_law_205 ?_
  refine g_sld C hw hX hbl hbA (by omega) hL dL_law_206 ?_
  refine g_nI (show ((xs (ii + 2).toNat).toInt : Int) = y2 by exact hy2.symm) ?_
  refine g_aload_n C hl 0 rfl rfl dL_law_207 ?_
  refine g_iload_n C hl 3 rfl rfl dL_law_208 ?_
  refine g_iconst C dL_law_209 ?_
  refine g_iadd C dL_law_210 ?_
  refine g_sld C hw hX hbl hbA (by omega) hL dL_law_211 ?_
  refine g_nI (show ((xs (ii + 3).toNat).toInt : Int) = y3 by exact hy3.symm) ?_
  refine g_aload_n C hl 0 rfl rfl dL_law_212 ?_
  refine g_iload_n C hl 3 rfl rfl dL_law_213 ?_
  refine g_iconst C dL_law_214 ?_
  refine g_iadd C dL_law_215 ?_
  refine g_sld C hw hX hbl hbA (by omega) hL dL_law_216 ?_
  refine g_nI (show ((xs (ii + 4).toNat).toInt : Int) = y4 by exact hy4.symm) ?_
  refine g_callVTi C hw (wr := [oX4 (a 1) ta cn, cA G (ta 1) 4 kd, cA G (ta 2) 12 nu, oX0 (a 2) la cn ul rw, cA G (la 1) 12 ex, cA G (la 2) 4 rt, cA G (la 3) 8 mi, cA G (la 4) 8 si, cA G (la 5) 8 un, cA G (la 6) 8 be, cA G (la 8) 8 ka, cA G (la 9) 8 br, cA G (la 11) 17 rs, cA G (la 12) 17 rf, cA G (la 13) 17 rp, oX4 (a 3) tb tc, cA G (tb 1) 4 kt, cA G (tb 2) 12 nt, oX0 (a 4) lb xc xu xw, cA G (lb 1) 12 tex, cA G (lb 2) 4 trt, cA G (lb 3) 8 tmi, cA G (lb 4) 8 tsi, cA G (lb 5) 8 tun, cA G (lb 6) 8 tbe, cA G (lb 8) 8 tka, cA G (lb 9) 8 tbr, cA G (lb 11) 17 trs, cA G (lb 12) 17 trf, cA G (lb 13) 17 trp, oX3 (a 5) ra sp co da, oX4 (ra 0) rb dc, cA G (rb 1) 4 dk, cA G (rb 2) 12 dn, oX1 (a 6) ga rc, cA G (ga 1) 8 r1, cA G (ga 2) 8 r2, cA G (ga 3) 8 r3, cJ G (am 13) 8 vP, cJ G (am 14) 8 vS, cJ G (am 15) 8 vD, cJ G (am 16) 8 vQ, cA G (am 17) 12 ht, cA G (am 18) 17 wA, cA G (am 19) 17 fA, cA G (am 22) 8 r1, cA G (am 23) 8 r2, cA G (am 24) 8 r3, cA G (am 28) 60 hd, oX5 h a tr (F_pol sz ln y1 y2 y3 y4), cQ G (a 0) 4 (qfS st)]) (As := [.int (iI y1), .int (iI y2), .int (iI y3), .int (iI y4)]) (rest := [.int (iI ((R_pol sz ln ce y1 y2 y3 y4)))]) (m_X6_polynomials l D G (h := hm) (a := am) (ft := lf) (pn := cn) (ra := mra) (rm := mrm) (rP := mP) (rS := mS) (rD := mD) (rQ := mQ) (al := mal) (rw := mrw) (rc := rc) (tr := tr) (kd := km) (nu := nm) (rk := rk) (rt := rn) (sz := sz) (ln := ln) (ce := ce) (kk := y1) (lv := y2) (ii := y3) (nn := y4) (by first | assumption | omega) (by first | assumption | omega) (by first | assumption | omega) (by first | assumption | omega) (by first | assumption | omega) (by first | assumption | omega) (by first | assumption | omega) (by first | assumption | omega) (by first | assumption | omega) (by first | assumption | omega)) (cwV 4 C.1.2.2.2.2 gL_law_X6_polynomials rfl rfl rfl (by decide +kernel) ⟨Nat.le_of_ble_eq_true rfl, Nat.le_of_ble_eq_true rfl⟩) [38, 39, 40, 41, 42, 53, 54, 55] [0, 1, 2, 3, 4, 5, 6, 7, 8, 9, 10, 11, 12, 13, 14, 15, 16, 17, 18, 19, 20, 21, 22, 23, 24, 25, 26, 27, 28, 29, 30, 31, 32, 33, 34, 35, 36, 37, 43, 44, 45, 46, 47, 48, 49, 50, 51, 52, 56, 57, 58] rfl rfl (by decide) (by decide) (by decide) 0 rfl rfl rfl hl.1 _ rfl (Nat.le_of_ble_eq_true rfl) dL_law_217 ⟨by show _ ≤ 600000; omega, by show _ ≤ 7302250; omega⟩ ?_
  clear hw
  rintro _ _ H locs ⟨pnM, ra2__2, rm2__3, rcM, kdM, nuM, rk2__4, rt2__5, rfl, rfl, hp_6, hp_7⟩ hw
  have hw : gW D A s.heap ([oX4 (a 1) ta cn, cA G (ta 1) 4 kd, cA G (ta 2) 12 nu, oX0 (a 2) la cn ul rw, cA G (la 1) 12 ex, cA G (la 2) 4 rt, cA G (la 3) 8 mi, cA G (la 4) 8 si, cA G (la 5) 8 un, cA G (la 6) 8 be, cA G (la 8) 8 ka, cA G (la 9) 8 br, cA G (la 11) 17 rs, cA G (la 12) 17 rf, cA G (la 13) 17 rp, oX4 (a 3) tb tc, cA G (tb 1) 4 kt, cA G (tb 2) 12 nt, oX0 (a 4) lb xc xu xw, cA G (lb 1) 12 tex, cA G (lb 2) 4 trt, cA G (lb 3) 8 tmi, cA G (lb 4) 8 tsi, cA G (lb 5) 8 tun, cA G (lb 6) 8 tbe, cA G (lb 8) 8 tka, cA G (lb 9) 8 tbr, cA G (lb 11) 17 trs, cA G (lb 12) 17 trf, cA G (lb 13) 17 trp, oX3 (a 5) ra sp co da, oX4 (ra 0) rb dc, cA G (rb 1) 4 dk, cA G (rb 2) 12 dn, oX1 (a 6) ga rc, cA G (ga 1) 8 r1, cA G (ga 2) 8 r2, cA G (ga 3) 8 r3, cJ G (am 13) 8 vP, cJ G (am 14) 8 vS, cJ G (am 15) 8 vD, cJ G (am 16) 8 vQ, cA G (am 17) 12 ht, cA G (am 18) 17 wA, cA G (am 19) 17 fA, cA G (am 22) 8 r1, cA G (am 23) 8 r2, cA G (am 24) 8 r3, cA G (am 28) 60 hd, oX5 h a tr (F_pol sz ln y1 y2 y3 y4), cQ G (a 0) 4 (qfS st), oX6 hm am (F_pol sz ln y1 y2 y3 y4) pnM ra2__2 rm2__3 mP mS mD mQ mal mrw rcM tr, cA G (am 2) 4 kdM, cA G (am 3) 12 nuM, cA G (am 6) 4 rk2__4, cA G (am 7) 12 rt2__5, cA G (am 25) 4 sz, cA G (am 26) 4 ln, cA G (am 27) 240 ce] ++ shW G st) H locs := hw
  have hp_6 : (okP sz ln ce y1 y2 y3 y4 → pnM = ((PRS ce (60 * y1 + y3) y4).2.length : Int) ∧ (1 ≤ pnM ∧ pnM ≤ 4) ∧ hasP kdM nuM (PRS ce (60 * y1 + y3) y4).2 ∧ rcM = 0) ∧ (¬ okP sz ln ce y1 y2 y3 y4 → pnM = cn ∧ kdM = km ∧ nuM = nm ∧ rcM = rc) := hp_6
  have hp_7 : kdOK kdM ∧ nuOK nuM ∧ kdOK rk2__4 ∧ nuOK rt2__5 := hp_7
  have hq2 := hp_6
  have hq3 := hp_7
  refine g_icmpS C (show ((iI ((R_pol sz ln ce y1 y2 y3 y4))) : Int32) = (iI ((R_pol sz ln ce y1 y2 y3 y4))) by rfl) 1228 dL_law_220 (by decide) ?_
  have hw : gW D A s.heap ([oX5 h a tr (F_pol sz ln y1 y2 y3 y4), cQ G (a 0) 4 (qfS st), oX4 (a 1) ta cn, cA G (ta 1) 4 kd, cA G (ta 2) 12 nu, oX0 (a 2) la cn ul rw, cA G (la 1) 12 ex, cA G (la 2) 4 rt, cA G (la 3) 8 mi, cA G (la 4) 8 si, cA G (la 5) 8 un, cA G (la 6) 8 be, cA G (la 8) 8 ka, cA G (la 9) 8 br, cA G (la 11) 17 rs, cA G (la 12) 17 rf, cA G (la 13) 17 rp, oX4 (a 3) tb tc, cA G (tb 1) 4 kt, cA G (tb 2) 12 nt, oX0 (a 4) lb xc xu xw, cA G (lb 1) 12 tex, cA G (lb 2) 4 trt, cA G (lb 3) 8 tmi, cA G (lb 4) 8 tsi, cA G (lb 5) 8 tun, cA G (lb 6) 8 tbe, cA G (lb 8) 8 tka, cA G (lb 9) 8 tbr, cA G (lb 11) 17 trs, cA G (lb 12) 17 trf, cA G (lb 13) 17 trp, oX3 (a 5) ra sp co da, oX4 (ra 0) rb dc, cA G (rb 1) 4 dk, cA G (rb 2) 12 dn, oX1 (a 6) ga rc, cA G (ga 1) 8 r1, cA G (ga 2) 8 r2, cA G (ga 3) 8 r3, oX6 hm am (F_pol sz ln y1 y2 y3 y4) pnM ra2__2 rm2__3 mP mS mD mQ mal mrw rcM tr, cA G (am 2) 4 kdM, cA G (am 3) 12 nuM, cA G (am 6) 4 rk2__4, cA G (am 7) 12 rt2__5, cJ G (am 13) 8 vP, cJ G (am 14) 8 vS, cJ G (am 15) 8 vD, cJ G (am 16) 8 vQ, cA G (am 17) 12 ht, cA G (am 18) 17 wA, cA G (am 19) 17 fA, cA G (am 22) 8 r1, cA G (am 23) 8 r2, cA G (am 24) 8 r3, cA G (am 25) 4 sz, cA G (am 26) 4 ln, cA G (am 27) 240 ce, cA G (am 28) 60 hd] ++ shW G st) H locs := g_permT hw [49, 50, 0, 1, 2, 3, 4, 5, 6, 7, 8, 9, 10, 11, 12, 13, 14, 15, 16, 17, 18, 19, 20, 21, 22, 23, 24, 25, 26, 27, 28, 29, 30, 31, 32, 33, 34, 35, 36, 37, 51, 52, 53, 54, 55, 38, 39, 40, 41, 42, 43, 44, 45, 46, 47, 56, 57, 58, 48] (by decide) rfl
  obtain ⟨e1, e2, e3, e4⟩ := hq2.2 hq1
  rw [e1, e2, e3, e4] at hw
  refine W.widen (k := cells + 2) (n := slots + 62) (by omega) (by omega) ?_
  refine hback st tr (F_pol sz ln y1 y2 y3 y4) cn ul rw tc xc xu xw sp co da dc rc ra2__2 rm2__3 mP mS mD mQ mal mrw kd nu ex rt mi si un be ka br rs rf rp kt nt tex trt tmi tsi tun tbe tka tbr trs trf trp dk dn r1 r2 r3 km nm rk2__4 rt2__5 vP vS vD vQ ht wA fA sz ln ce hd ⟨by first | assumption | (simp only [*]; done), by first | assumption | (simp only [*]; done), by first | assumption | (simp only [*]; done), by first | assumption | (simp only [*]; done), by first | assumption | (simp only [*]; done), by first | assumption | (simp only [*]; done), by first | assumption | (simp only [*]; done), by first | assumption | (simp only [*]; done), by first | assumption | (simp only [*]; done), by first | assumption | (simp only [*]; done), by first | assumption | (simp only [*]; done), by first | assumption | (simp only [*]; done), by first | assumption | (simp only [*]; done), by first | assumption | (simp only [*]; done), by first | assumption | (simp only [*]; done), by first | assumption | (simp only [*]; done), by first | assumption | (simp only [*]; done), by exact hq3.2.2.1, by exact hq3.2.2.2, by first | assumption | (simp only [*]; done), by first | assumption | (simp only [*]; done)⟩ H locs ls ?_ (lv_sub hl [0, 1, 2, 3] rfl)
  exact hw

set_option maxRecDepth 100000 in
set_option maxHeartbeats 8000000 in
theorem lw_polynomials_s {p : Program} (l : Launch) {e : Env} {s : State} {m : MethodId} {args : Array Value} {below : List Frame} {meth : Method} {c : Code} (D : va_G) (G : gT) {A : Nat → Prop} {Q : State → Prop} {b L : Nat} {xs : Nat → Int32} (h hm : Nat) (a ta la tb lb ra rb ga am : Nat → Nat) (ii : Int) {cells slots : Nat} (st : Nat → Option shE) (tr : Int) (lf : Int) (cn : Int) (ul : Int) (rw : Int) (tc : Int) (xc : Int) (xu : Int) (xw : Int) (sp : Int) (co : Int) (da : Int) (dc : Int) (rc : Int) (mra : Int) (mrm : Int) (mP : Int) (mS : Int) (mD : Int) (mQ : Int) (mal : Int) (mrw : Int) (kd : Int → Int) (nu : Int → Int) (ex : Int → Int) (rt : Int → Int) (mi : Int → Int) (si : Int → Int) (un : Int → Int) (be : Int → Int) (ka : Int → Int) (br : Int → Int) (rs : Int → Int) (rf : Int → Int) (rp : Int → Int) (kt : Int → Int) (nt : Int → Int) (tex : Int → Int) (trt : Int → Int) (tmi : Int → Int) (tsi : Int → Int) (tun : Int → Int) (tbe : Int → Int) (tka : Int → Int) (tbr : Int → Int) (trs : Int → Int) (trf : Int → Int) (trp : Int → Int) (dk : Int → Int) (dn : Int → Int) (r1 : Int → Int) (r2 : Int → Int) (r3 : Int → Int) (km : Int → Int) (nm : Int → Int) (rk : Int → Int) (rn : Int → Int) (vP : Int → Int) (vS : Int → Int) (vD : Int → Int) (vQ : Int → Int) (ht : Int → Int) (wA : Int → Int) (fA : Int → Int) (sz : Int → Int) (ln : Int → Int) (ce : Int → Int) (hd : Int → Int) (y1 : Int) (sa : Nat) (sb : Nat → Nat) (la1 : Int) (zn : Nat) (gg : Int → Int) (C : gC D G wsL_law RL cL_law 4 p s m args meth c) (hX : va_X b L xs s s.heap) (hbl : b < s.heap.size) (hbA : ¬ A b) (hL : L ≤ 3072) (hii : 0 ≤ ii ∧ ii + 6 ≤ L) (hck : cells + 2 ≤ 600000 ∧ slots + 62 ≤ 7302250) (hinv : lwI st tr lf cn ul rw tc xc xu xw sp co da dc rc mra mrm mP mS mD mQ mal mrw kd nu ex rt mi si un be ka br rs rf rp kt nt tex trt tmi tsi tun tbe tka tbr trs trf trp dk dn r1 r2 r3 km nm rk rn vP vS vD vQ ht wA fA sz ln ce hd) (hy1 : y1 = (xs (ii + 1).toNat).toInt) (hk3 : 0 ≤ y1 ∧ y1 ≤ 3) (hx : st y1.toNat = some (sa, sb, la1, zn, gg)) {H : Heap} {locs : List Loc} {ls : Array Slot} (hw : gW D A s.heap ([oX5 h a tr lf, cQ G (a 0) 4 (qfS st), oX4 (a 1) ta cn, cA G (ta 1) 4 kd, cA G (ta 2) 12 nu, oX0 (a 2) la cn ul rw, cA G (la 1) 12 ex, cA G (la 2) 4 rt, cA G (la 3) 8 mi, cA G (la 4) 8 si, cA G (la 5) 8 un, cA G (la 6) 8 be, cA G (la 8) 8 ka, cA G (la 9) 8 br, cA G (la 11) 17 rs, cA G (la 12) 17 rf, cA G (la 13) 17 rp, oX4 (a 3) tb tc, cA G (tb 1) 4 kt, cA G (tb 2) 12 nt, oX0 (a 4) lb xc xu xw, cA G (lb 1) 12 tex, cA G (lb 2) 4 trt, cA G (lb 3) 8 tmi, cA G (lb 4) 8 tsi, cA G (lb 5) 8 tun, cA G (lb 6) 8 tbe, cA G (lb 8) 8 tka, cA G (lb 9) 8 tbr, cA G (lb 11) 17 trs, cA G (lb 12) 17 trf, cA G (lb 13) 17 trp, oX3 (a 5) ra sp co da, oX4 (ra 0) rb dc, cA G (rb 1) 4 dk, cA G (rb 2) 12 dn, oX1 (a 6) ga rc, cA G (ga 1) 8 r1, cA G (ga 2) 8 r2, cA G (ga 3) 8 r3, oX6 hm am lf cn mra mrm mP mS mD mQ mal mrw rc tr, cA G (am 2) 4 km, cA G (am 3) 12 nm, cA G (am 6) 4 rk, cA G (am 7) 12 rn, cJ G (am 13) 8 vP, cJ G (am 14) 8 vS, cJ G (am 15) 8 vD, cJ G (am 16) 8 vQ, cA G (am 17) 12 ht, cA G (am 18) 17 wA, cA G (am 19) 17 fA, cA G (am 22) 8 r1, cA G (am 23) 8 r2, cA G (am 24) 8 r3, cA G (am 25) 4 sz, cA G (am 26) 4 ln, cA G (am 27) 240 ce, cA G (am 28) 60 hd, oX2 sa sb la1, cA G (sb 1) zn gg] ++ shW G (upS st y1.toNat none)) H locs) (hl : lv_has ls 4 [(0, .ref b), (1, .ref h), (2, .ref hm), (3, .int (iI ii))]) (hback : lwB p l e s m args below meth c D G A Q b h hm a ta la tb lb ra rb ga am ii (cells + 2) (slots + 62)) : W p l e room_1 s m args below meth c H locs cells slots Q (F0 m 172 ls []) := by
  obtain ⟨hcn, hkd, hnu, hXx, hT, hZ, hB, hub, hkt, hnt, hdk, hdn, hrd, hkm, hnm, hek, hen, hrk, hrn, hsh, hsr⟩ := hinv
  obtain ⟨y2, hy2⟩ : ∃ y : Int, y = (xs (ii + 2).toNat).toInt := ⟨_, rfl⟩
  obtain ⟨y3, hy3⟩ : ∃ y : Int, y = (xs (ii + 3).toNat).toInt := ⟨_, rfl⟩
  obtain ⟨y4, hy4⟩ : ∃ y : Int, y = (xs (ii + 4).toNat).toInt := ⟨_, rfl⟩
  obtain ⟨y5, hy5⟩ : ∃ y : Int, y = (xs (ii + 5).toNat).toInt := ⟨_, rfl⟩
  have hr1 : -2147483648 ≤ y1 ∧ y1 ≤ 2147483647 := by rw [hy1]; exact iI_rg _
  have hr2 : -2147483648 ≤ y2 ∧ y2 ≤ 2147483647 := by rw [hy2]; exact iI_rg _
  have hr3 : -2147483648 ≤ y3 ∧ y3 ≤ 2147483647 := by rw [hy3]; exact iI_rg _
  have hr4 : -2147483648 ≤ y4 ∧ y4 ≤ 2147483647 := by rw [hy4]; exact iI_rg _
  have hr5 : -2147483648 ≤ y5 ∧ y5 ≤ 2147483647 := by rw [hy5]; exact iI_rg _
  have hE : EB (exT cn kd nu) := exT_B cn kd hnu
  have hEM : exT cn km nm = (exT cn kd nu) := exT_cg hek hen
  have hKA := hasB_L hB
  have hul : ul = ((ALn (exT cn kd nu) cn.toNat).length : Int) := by rw [hub, ALb_len]
  have hrc9 : 0 ≤ rc ∧ rc ≤ 8 := hrd.1
  obtain ⟨⟨hs1, hs2⟩, ⟨hs3, hs4⟩, hs5⟩ := (hsr y1.toNat (by omega)).2 _ hx
  have hcast : ((y1.toNat : Nat) : Int) = y1 := by omega
  rw [hcast] at hs1 hs2 hs5
  replace hs1 : sz y1 = zn := hs1
  replace hs2 : ln y1 = la1 := hs2
  replace hs3 : 0 ≤ la1 ∧ la1 ≤ 2 := hs3
  replace hs4 : zn ≤ 60 := hs4
  replace hs5 : ∀ j, 0 ≤ j → j < (zn : Int) → gg j = ce (60 * y1 + j) ∧ -2147483648 ≤ gg j ∧ gg j ≤ 2147483647 := hs5
  have hqs : qfS st y1.toNat = some sa := by unfold qfS; rw [hx]; rfl
  obtain ⟨hsz, hln, hcr⟩ := id hsh
  refine g_aload_n C hl 1 rfl rfl dL_law_172 ?_
  refine g_aload_n C hl 0 rfl rfl dL_law_173 ?_
  refine g_iload_n C hl 3 rfl rfl dL_law_174 ?_
  refine g_iconst C dL_law_175 ?_
  refine g_iadd C dL_law_176 ?_
  refine g_sld C hw hX hbl hbA (by omega) hL dL_law_177 ?_
  refine g_nI (show ((xs (ii + 1).toNat).toInt : Int) = y1 by exact hy1.symm) ?_
  refine g_aload_n C hl 0 rfl rfl dL_law_178 ?_
  refine g_iload_n C hl 3 rfl rfl dL_law_179 ?_
  refine g_iconst C dL_law_180 ?_
  refine g_iadd C dL_law_181 ?_
  refine g_sld C hw hX hbl hbA (by omega) hL dL_law_182 ?_
  refine g_nI (show ((xs (ii + 2).toNat).toInt : Int) = y2 by exact hy2.symm) ?_
  refine g_aload_n C hl 0 rfl rfl dL_law_183 ?_
  refine g_iload_n C hl 3 rfl rfl dL_law_184 ?_
  refine g_iconst C dL_law_185 ?_
  refine g_iadd C dL_law_186 ?_
  refine g_sld C hw hX hbl hbA (by omega) hL dL_law_187 ?_
  refine g_nI (show ((xs (ii + 3).toNat).toInt : Int) = y3 by exact hy3.symm) ?_
  refine g_aload_n C hl 0 rfl rfl dL_law_188 ?_
  refine g_iload_n C hl 3 rfl rfl dL_law_189 ?_
  refine g_iconst C dL_law_190 ?_
  refine g_iadd C dL_law_191 ?_
  refine g_sld C hw hX hbl hbA (by omega) hL dL_law_192 ?_
  refine g_nI (show ((xs (ii + 4).toNat).toInt : Int) = y4 by exact hy4.symm) ?_
  refine g_callVTi C hw (wr := [cA G (la 11) 17 rs, cA G (la 12) 17 rf, cA G (la 13) 17 rp, oX4 (a 3) tb tc, cA G (tb 1) 4 kt, cA G (tb 2) 12 nt, oX0 (a 4) lb xc xu xw, cA G (lb 1) 12 tex, cA G (lb 2) 4 trt, cA G (lb 3) 8 tmi, cA G (lb 4) 8 tsi, cA G (lb 5) 8 tun, cA G (lb 6) 8 tbe, cA G (lb 8) 8 tka, cA G (lb 9) 8 tbr, cA G (lb 11) 17 trs, cA G (lb 12) 17 trf, cA G (lb 13) 17 trp, cA G (ga 1) 8 r1, cA G (ga 2) 8 r2, cA G (ga 3) 8 r3, oX6 hm am lf cn mra mrm mP mS mD mQ mal mrw rc tr, cA G (am 2) 4 km, cA G (am 3) 12 nm, cA G (am 6) 4 rk, cA G (am 7) 12 rn, cJ G (am 13) 8 vP, cJ G (am 14) 8 vS, cJ G (am 15) 8 vD, cJ G (am 16) 8 vQ, cA G (am 17) 12 ht, cA G (am 18) 17 wA, cA G (am 19) 17 fA, cA G (am 22) 8 r1, cA G (am 23) 8 r2, cA G (am 24) 8 r3, cA G (am 25) 4 sz, cA G (am 26) 4 ln, cA G (am 27) 240 ce, cA G (am 28) 60 hd]) (As := [.int (iI y1), .int (iI y2), .int (iI y3), .int (iI y4)]) (rest := []) (m_X5_polynomials_s l D G (h := h) (a := a) (tr := tr) (lf := lf) (ta := ta) (cn := cn) (kd := kd) (nu := nu) (qf := (qfS st)) (sa := sa) (sb := sb) (la1 := la1) (zn := zn) (gg := gg) (la := la) (ul := ul) (rw := rw) (ex := ex) (rt := rt) (mi := mi) (si := si) (un := un) (be := be) (ka := ka) (br := br) (ra := ra) (sp := sp) (co := co) (da := da) (rb := rb) (dc := dc) (dk := dk) (dn := dn) (ga := ga) (rc := rc) (sz := sz) (ln := ln) (ce := ce) (kk := y1) (lv := y2) (ii := y3) (nn := y4) (by first | assumption | omega) (by first | assumption | omega) (by first | assumption | omega) (by first | assumption | omega) (by first | assumption | omega) (by first | assumption | omega) (by first | assumption | omega) (by first | assumption | omega) (by first | assumption | omega) (by first | assumption | omega) (by first | assumption | omega) (by first | assumption | omega) (by first | assumption | omega) (by first | assumption | omega) (by first | assumption | omega) (by first | assumption | omega) (by first | assumption | omega) (by first | assumption | omega) (by first | assumption | omega) (by first | assumption | omega) (by first | assumption | omega) (by first | assumption | omega)) (cwV 4 C.1.2.2.2.2 gL_law_X5_polynomials rfl rfl rfl (by decide +kernel) ⟨Nat.le_of_ble_eq_true rfl, Nat.le_of_ble_eq_true rfl⟩) [0, 2, 3, 4, 1, 59, 60, 5, 6, 7, 8, 9, 10, 11, 12, 13, 32, 33, 34, 35, 36] [14, 15, 16, 17, 18, 19, 20, 21, 22, 23, 24, 25, 26, 27, 28, 29, 30, 31, 37, 38, 39, 40, 41, 42, 43, 44, 45, 46, 47, 48, 49, 50, 51, 52, 53, 54, 55, 56, 57, 58] rfl rfl (by decide) (by decide) (by decide) 0 rfl rfl rfl hl.1 _ rfl (Nat.le_of_ble_eq_true rfl) dL_law_193 ⟨by show _ ≤ 600000; omega, by show _ ≤ 7302250; omega⟩ ?_
  clear hw
  rintro _ _ H locs ⟨cnC, kdC, nuC, lcC, ul2__1, ex2__2, rt2__3, mi2__4, si2__5, un2__6, be2__7, ka2__8, br2__9, sp2__10, co2__11, da2__12, dc2__13, dk2__14, dn2__15, rcC, rfl, rfl, hp_16, hp_17, hp_18, hp_19⟩ hw
  have hw : gW D A s.heap ([cA G (la 11) 17 rs, cA G (la 12) 17 rf, cA G (la 13) 17 rp, oX4 (a 3) tb tc, cA G (tb 1) 4 kt, cA G (tb 2) 12 nt, oX0 (a 4) lb xc xu xw, cA G (lb 1) 12 tex, cA G (lb 2) 4 trt, cA G (lb 3) 8 tmi, cA G (lb 4) 8 tsi, cA G (lb 5) 8 tun, cA G (lb 6) 8 tbe, cA G (lb 8) 8 tka, cA G (lb 9) 8 tbr, cA G (lb 11) 17 trs, cA G (lb 12) 17 trf, cA G (lb 13) 17 trp, cA G (ga 1) 8 r1, cA G (ga 2) 8 r2, cA G (ga 3) 8 r3, oX6 hm am lf cn mra mrm mP mS mD mQ mal mrw rc tr, cA G (am 2) 4 km, cA G (am 3) 12 nm, cA G (am 6) 4 rk, cA G (am 7) 12 rn, cJ G (am 13) 8 vP, cJ G (am 14) 8 vS, cJ G (am 15) 8 vD, cJ G (am 16) 8 vQ, cA G (am 17) 12 ht, cA G (am 18) 17 wA, cA G (am 19) 17 fA, cA G (am 22) 8 r1, cA G (am 23) 8 r2, cA G (am 24) 8 r3, cA G (am 25) 4 sz, cA G (am 26) 4 ln, cA G (am 27) 240 ce, cA G (am 28) 60 hd, oX5 h a tr (F_pol sz ln y1 y2 y3 y4), oX4 (a 1) ta cnC, cA G (ta 1) 4 kdC, cA G (ta 2) 12 nuC, cQ G (a 0) 4 (qfS st), oX2 sa sb la1, cA G (sb 1) zn gg, oX0 (a 2) la lcC ul2__1 rw, cA G (la 1) 12 ex2__2, cA G (la 2) 4 rt2__3, cA G (la 3) 8 mi2__4, cA G (la 4) 8 si2__5, cA G (la 5) 8 un2__6, cA G (la 6) 8 be2__7, cA G (la 8) 8 ka2__8, cA G (la 9) 8 br2__9, oX3 (a 5) ra sp2__10 co2__11 da2__12, oX4 (ra 0) rb dc2__13, cA G (rb 1) 4 dk2__14, cA G (rb 2) 12 dn2__15, oX1 (a 6) ga rcC] ++ shW G (upS st y1.toNat none)) H locs := hw
  have hp_16 : (okP sz ln ce y1 y2 y3 y4 → cnC = ((PRS ce (60 * y1 + y3) y4).2.length : Int) ∧ hasP kdC nuC (PRS ce (60 * y1 + y3) y4).2 ∧ rcC = 0) ∧ (¬ okP sz ln ce y1 y2 y3 y4 → cnC = cn ∧ kdC = kd ∧ nuC = nu ∧ rcC = rc) := hp_16
  have hp_17 : kdOK kdC ∧ nuOK nuC ∧ kdOK dk2__14 ∧ nuOK dn2__15 := hp_17
  have hp_18 : (0 ≤ cnC ∧ cnC ≤ 4) ∧ lcC = cnC := hp_18
  have hp_19 : LnX (exT cnC kdC nuC) cnC ex2__2 ∧ LnT (exT cnC kdC nuC) cnC rt2__3 ∧ LnZ (exT cnC kdC nuC) cnC mi2__4 si2__5 un2__6 be2__7 ∧ hasB ka2__8 br2__9 (ALb (exT cnC kdC nuC) cnC.toNat) ∧ ul2__1 = ((ALb (exT cnC kdC nuC) cnC.toNat).length : Int) := hp_19
  have hq1 := hp_16
  have hq3 := hp_17
  have hq4 := hp_18
  have hq5 := hp_19
  refine g_aload_n C hl 2 rfl rfl dL_law_196 ?_
  refine g_aload_n C hl 0 rfl rfl dL_law_197 ?_
  refine g_iload_n C hl 3 rfl rfl dL_law_198 ?_
  refine g_iconst C dL_law_199 ?_
  refine g_iadd C dL_law_200 ?_
  refine g_sld C hw hX hbl hbA (by omega) hL dL_law_201 ?_
  refine g_nI (show ((xs (ii + 1).toNat).toInt : Int) = y1 by exact hy1.symm) ?_
  refine g_aload_n C hl 0 rfl rfl dL_law_202 ?_
  refine g_iload_n C hl 3 rfl rfl dL_law_203 ?_
  refine g_iconst C dL_law_204 ?_
  refine g_iadd C dL_law_205 ?_
  refine g_sld C hw hX hbl hbA (by omega) hL dL_law_206 ?_
  refine g_nI (show ((xs (ii + 2).toNat).toInt : Int) = y2 by exact hy2.symm) ?_
  refine g_aload_n C hl 0 rfl rfl dL_law_207 ?_
  refine g_iload_n C hl 3 rfl rfl dL_law_208 ?_
  refine g_iconst C dL_law_209 ?_
  refine g_iadd C dL_law_210 ?_
  refine g_sld C hw hX hbl hbA (by omega) hL dL_law_211 ?_
  refine g_nI (show ((xs (ii + 3).toNat).toInt : Int) = y3 by exact hy3.symm) ?_
  refine g_aload_n C hl 0 rfl rfl dL_law_212 ?_
  refine g_iload_n C hl 3 rfl rfl dL_law_213 ?_
  refine g_iconst C dL_law_214 ?_
  refine g_iadd C dL_law_215 ?_
  refine g_sld C hw hX hbl hbA (by omega) hL dL_law_216 ?_
  refine g_nI (show ((xs (ii + 4).toNat).toInt : Int) = y4 by exact hy4.symm) ?_
  refine g_callVTi C hw (wr := [cA G (la 11) 17 rs, cA G (la 12) 17 rf, cA G (la 13) 17 rp, oX4 (a 3) tb tc, cA G (tb 1) 4 kt, cA G (tb 2) 12 nt, oX0 (a 4) lb xc xu xw, cA G (lb 1) 12 tex, cA G (lb 2) 4 trt, cA G (lb 3) 8 tmi, cA G (lb 4) 8 tsi, cA G (lb 5) 8 tun, cA G (lb 6) 8 tbe, cA G (lb 8) 8 tka, cA G (lb 9) 8 tbr, cA G (lb 11) 17 trs, cA G (lb 12) 17 trf, cA G (lb 13) 17 trp, cA G (ga 1) 8 r1, cA G (ga 2) 8 r2, cA G (ga 3) 8 r3, cJ G (am 13) 8 vP, cJ G (am 14) 8 vS, cJ G (am 15) 8 vD, cJ G (am 16) 8 vQ, cA G (am 17) 12 ht, cA G (am 18) 17 wA, cA G (am 19) 17 fA, cA G (am 22) 8 r1, cA G (am 23) 8 r2, cA G (am 24) 8 r3, cA G (am 28) 60 hd, oX5 h a tr (F_pol sz ln y1 y2 y3 y4), oX4 (a 1) ta cnC, cA G (ta 1) 4 kdC, cA G (ta 2) 12 nuC, cQ G (a 0) 4 (qfS st), oX2 sa sb la1, cA G (sb 1) zn gg, oX0 (a 2) la lcC ul2__1 rw, cA G (la 1) 12 ex2__2, cA G (la 2) 4 rt2__3, cA G (la 3) 8 mi2__4, cA G (la 4) 8 si2__5, cA G (la 5) 8 un2__6, cA G (la 6) 8 be2__7, cA G (la 8) 8 ka2__8, cA G (la 9) 8 br2__9, oX3 (a 5) ra sp2__10 co2__11 da2__12, oX4 (ra 0) rb dc2__13, cA G (rb 1) 4 dk2__14, cA G (rb 2) 12 dn2__15, oX1 (a 6) ga rcC]) (As := [.int (iI y1), .int (iI y2), .int (iI y3), .int (iI y4)]) (rest := [.int (iI ((R_pol sz ln ce y1 y2 y3 y4)))]) (m_X6_polynomials l D G (h := hm) (a := am) (ft := lf) (pn := cn) (ra := mra) (rm := mrm) (rP := mP) (rS := mS) (rD := mD) (rQ := mQ) (al := mal) (rw := mrw) (rc := rc) (tr := tr) (kd := km) (nu := nm) (rk := rk) (rt := rn) (sz := sz) (ln := ln) (ce := ce) (kk := y1) (lv := y2) (ii := y3) (nn := y4) (by first | assumption | omega) (by first | assumption | omega) (by first | assumption | omega) (by first | assumption | omega) (by first | assumption | omega) (by first | assumption | omega) (by first | assumption | omega) (by first | assumption | omega) (by first | assumption | omega) (by first | assumption | omega)) (cwV 4 C.1.2.2.2.2 gL_law_X6_polynomials rfl rfl rfl (by decide +kernel) ⟨Nat.le_of_ble_eq_true rfl, Nat.le_of_ble_eq_true rfl⟩) [21, 22, 23, 24, 25, 36, 37, 38] [0, 1, 2, 3, 4, 5, 6, 7, 8, 9, 10, 11, 12, 13, 14, 15, 16, 17, 18, 19, 20, 26, 27, 28, 29, 30, 31, 32, 33, 34, 35, 39, 40, 41, 42, 43, 44, 45, 46, 47, 48, 49, 50, 51, 52, 53, 54, 55, 56, 57, 58, 59, 60] rfl rfl (by decide) (by decide) (by decide) 0 rfl rfl rfl hl.1 _ rfl (Nat.le_of_ble_eq_true rfl) dL_law_217 ⟨by show _ ≤ 600000; omega, by show _ ≤ 7302250; omega⟩ ?_
  clear hw
  rintro _ _ H locs ⟨pnM, ra2__20, rm2__21, rcM, kdM, nuM, rk2__22, rt2__23, rfl, rfl, hp_24, hp_25⟩ hw
  have hw : gW D A s.heap ([cA G (la 11) 17 rs, cA G (la 12) 17 rf, cA G (la 13) 17 rp, oX4 (a 3) tb tc, cA G (tb 1) 4 kt, cA G (tb 2) 12 nt, oX0 (a 4) lb xc xu xw, cA G (lb 1) 12 tex, cA G (lb 2) 4 trt, cA G (lb 3) 8 tmi, cA G (lb 4) 8 tsi, cA G (lb 5) 8 tun, cA G (lb 6) 8 tbe, cA G (lb 8) 8 tka, cA G (lb 9) 8 tbr, cA G (lb 11) 17 trs, cA G (lb 12) 17 trf, cA G (lb 13) 17 trp, cA G (ga 1) 8 r1, cA G (ga 2) 8 r2, cA G (ga 3) 8 r3, cJ G (am 13) 8 vP, cJ G (am 14) 8 vS, cJ G (am 15) 8 vD, cJ G (am 16) 8 vQ, cA G (am 17) 12 ht, cA G (am 18) 17 wA, cA G (am 19) 17 fA, cA G (am 22) 8 r1, cA G (am 23) 8 r2, cA G (am 24) 8 r3, cA G (am 28) 60 hd, oX5 h a tr (F_pol sz ln y1 y2 y3 y4), oX4 (a 1) ta cnC, cA G (ta 1) 4 kdC, cA G (ta 2) 12 nuC, cQ G (a 0) 4 (qfS st), oX2 sa sb la1, cA G (sb 1) zn gg, oX0 (a 2) la lcC ul2__1 rw, cA G (la 1) 12 ex2__2, cA G (la 2) 4 rt2__3, cA G (la 3) 8 mi2__4, cA G (la 4) 8 si2__5, cA G (la 5) 8 un2__6, cA G (la 6) 8 be2__7, cA G (la 8) 8 ka2__8, cA G (la 9) 8 br2__9, oX3 (a 5) ra sp2__10 co2__11 da2__12, oX4 (ra 0) rb dc2__13, cA G (rb 1) 4 dk2__14, cA G (rb 2) 12 dn2__15, oX1 (a 6) ga rcC, oX6 hm am (F_pol sz ln y1 y2 y3 y4) pnM ra2__20 rm2__21 mP mS mD mQ mal mrw rcM tr, cA G (am 2) 4 kdM, cA G (am 3) 12 nuM, cA G (am 6) 4 rk2__22, cA G (am 7) 12 rt2__23, cA G (am 25) 4 sz, cA G (am 26) 4 ln, cA G (am 27) 240 ce] ++ shW G (upS st y1.toNat none)) H locs := hw
  have hp_24 : (okP sz ln ce y1 y2 y3 y4 → pnM = ((PRS ce (60 * y1 + y3) y4).2.length : Int) ∧ (1 ≤ pnM ∧ pnM ≤ 4) ∧ hasP kdM nuM (PRS ce (60 * y1 + y3) y4).2 ∧ rcM = 0) ∧ (¬ okP sz ln ce y1 y2 y3 y4 → pnM = cn ∧ kdM = km ∧ nuM = nm ∧ rcM = rc) := hp_24
  have hp_25 : kdOK kdM ∧ nuOK nuM ∧ kdOK rk2__22 ∧ nuOK rt2__23 := hp_25
  have hq2 := hp_24
  have hmm9 := hp_25
  refine g_icmpS C (show ((iI ((R_pol sz ln ce y1 y2 y3 y4))) : Int32) = (iI ((R_pol sz ln ce y1 y2 y3 y4))) by rfl) 1228 dL_law_220 (by decide) ?_
  have hw : gW D A s.heap ([oX5 h a tr (F_pol sz ln y1 y2 y3 y4), cQ G (a 0) 4 (qfS st), oX4 (a 1) ta cnC, cA G (ta 1) 4 kdC, cA G (ta 2) 12 nuC, oX0 (a 2) la lcC ul2__1 rw, cA G (la 1) 12 ex2__2, cA G (la 2) 4 rt2__3, cA G (la 3) 8 mi2__4, cA G (la 4) 8 si2__5, cA G (la 5) 8 un2__6, cA G (la 6) 8 be2__7, cA G (la 8) 8 ka2__8, cA G (la 9) 8 br2__9, cA G (la 11) 17 rs, cA G (la 12) 17 rf, cA G (la 13) 17 rp, oX4 (a 3) tb tc, cA G (tb 1) 4 kt, cA G (tb 2) 12 nt, oX0 (a 4) lb xc xu xw, cA G (lb 1) 12 tex, cA G (lb 2) 4 trt, cA G (lb 3) 8 tmi, cA G (lb 4) 8 tsi, cA G (lb 5) 8 tun, cA G (lb 6) 8 tbe, cA G (lb 8) 8 tka, cA G (lb 9) 8 tbr, cA G (lb 11) 17 trs, cA G (lb 12) 17 trf, cA G (lb 13) 17 trp, oX3 (a 5) ra sp2__10 co2__11 da2__12, oX4 (ra 0) rb dc2__13, cA G (rb 1) 4 dk2__14, cA G (rb 2) 12 dn2__15, oX1 (a 6) ga rcC, cA G (ga 1) 8 r1, cA G (ga 2) 8 r2, cA G (ga 3) 8 r3, oX6 hm am (F_pol sz ln y1 y2 y3 y4) pnM ra2__20 rm2__21 mP mS mD mQ mal mrw rcM tr, cA G (am 2) 4 kdM, cA G (am 3) 12 nuM, cA G (am 6) 4 rk2__22, cA G (am 7) 12 rt2__23, cJ G (am 13) 8 vP, cJ G (am 14) 8 vS, cJ G (am 15) 8 vD, cJ G (am 16) 8 vQ, cA G (am 17) 12 ht, cA G (am 18) 17 wA, cA G (am 19) 17 fA, cA G (am 22) 8 r1, cA G (am 23) 8 r2, cA G (am 24) 8 r3, cA G (am 25) 4 sz, cA G (am 26) 4 ln, cA G (am 27) 240 ce, cA G (am 28) 60 hd, oX2 sa sb la1, cA G (sb 1) zn gg] ++ shW G (upS st y1.toNat none)) H locs := g_permT hw [32, 36, 33, 34, 35, 39, 40, 41, 42, 43, 44, 45, 46, 47, 0, 1, 2, 3, 4, 5, 6, 7, 8, 9, 10, 11, 12, 13, 14, 15, 16, 17, 48, 49, 50, 51, 52, 18, 19, 20, 53, 54, 55, 56, 57, 21, 22, 23, 24, 25, 26, 27, 28, 29, 30, 58, 59, 60, 31, 37, 38] (by decide) rfl
  have hee : pnM = cnC ∧ rcM = rcC ∧ (∀ q, 0 ≤ q → q < cnC → kdM q = kdC q) ∧ (∀ j, 0 ≤ j → j < 3 * cnC → nuM j = nuC j) ∧ rdOK cnC rcC r1 r2 r3 := by
    by_cases q : okP sz ln ce y1 y2 y3 y4
    · obtain ⟨a1, a2, a3⟩ := hq1.1 q
      obtain ⟨b1, b2, b3, b4⟩ := hq2.1 q
      obtain ⟨g1, g2⟩ := hasP_ag b3 a2
      refine ⟨by rw [a1, b1], by rw [a3, b4], by rw [a1]; exact g1, by rw [a1]; exact g2, ?_⟩
      rw [a3]
      exact ⟨by omega, fun x h1 h2 => absurd h2 (by omega)⟩
    · obtain ⟨a1, a2, a3, a4⟩ := hq1.2 q
      obtain ⟨b1, b2, b3, b4⟩ := hq2.2 q
      rw [a1, a2, a3, a4, b1, b2, b3, b4]
      exact ⟨rfl, rfl, hek, hen, hrd⟩
  obtain ⟨e1, e2, hek2, hen2, hrd2⟩ := hee
  rw [e1, e2, hq4.2] at hw
  have hw : gW D A s.heap ([oX5 h a tr (F_pol sz ln y1 y2 y3 y4), cQ G (a 0) 4 (qfS st), oX4 (a 1) ta cnC, cA G (ta 1) 4 kdC, cA G (ta 2) 12 nuC, oX0 (a 2) la cnC ul2__1 rw, cA G (la 1) 12 ex2__2, cA G (la 2) 4 rt2__3, cA G (la 3) 8 mi2__4, cA G (la 4) 8 si2__5, cA G (la 5) 8 un2__6, cA G (la 6) 8 be2__7, cA G (la 8) 8 ka2__8, cA G (la 9) 8 br2__9, cA G (la 11) 17 rs, cA G (la 12) 17 rf, cA G (la 13) 17 rp, oX4 (a 3) tb tc, cA G (tb 1) 4 kt, cA G (tb 2) 12 nt, oX0 (a 4) lb xc xu xw, cA G (lb 1) 12 tex, cA G (lb 2) 4 trt, cA G (lb 3) 8 tmi, cA G (lb 4) 8 tsi, cA G (lb 5) 8 tun, cA G (lb 6) 8 tbe, cA G (lb 8) 8 tka, cA G (lb 9) 8 tbr, cA G (lb 11) 17 trs, cA G (lb 12) 17 trf, cA G (lb 13) 17 trp, oX3 (a 5) ra sp2__10 co2__11 da2__12, oX4 (ra 0) rb dc2__13, cA G (rb 1) 4 dk2__14, cA G (rb 2) 12 dn2__15, oX1 (a 6) ga rcC, cA G (ga 1) 8 r1, cA G (ga 2) 8 r2, cA G (ga 3) 8 r3, oX6 hm am (F_pol sz ln y1 y2 y3 y4) cnC ra2__20 rm2__21 mP mS mD mQ mal mrw rcC tr, cA G (am 2) 4 kdM, cA G (am 3) 12 nuM, cA G (am 6) 4 rk2__22, cA G (am 7) 12 rt2__23, cJ G (am 13) 8 vP, cJ G (am 14) 8 vS, cJ G (am 15) 8 vD, cJ G (am 16) 8 vQ, cA G (am 17) 12 ht, cA G (am 18) 17 wA, cA G (am 19) 17 fA, cA G (am 22) 8 r1, cA G (am 23) 8 r2, cA G (am 24) 8 r3, cA G (am 25) 4 sz, cA G (am 26) 4 ln, cA G (am 27) 240 ce, cA G (am 28) 60 hd] ++ shW G (upS st y1.toNat (some (sa, sb, la1, zn, gg)))) H locs := g_fold (sa, sb, la1, zn, gg) hw (by omega)
  rw [show upS st y1.toNat (some (sa, sb, la1, zn, gg)) = st by rw [← hx]; exact upS_id st y1.toNat] at hw
  refine W.widen (k := cells + 2) (n := slots + 62) (by omega) (by omega) ?_
  refine hback st tr (F_pol sz ln y1 y2 y3 y4) cnC ul2__1 rw tc xc xu xw sp2__10 co2__11 da2__12 dc2__13 rcC ra2__20 rm2__21 mP mS mD mQ mal mrw kdC nuC ex2__2 rt2__3 mi2__4 si2__5 un2__6 be2__7 ka2__8 br2__9 rs rf rp kt nt tex trt tmi tsi tun tbe tka tbr trs trf trp dk2__14 dn2__15 r1 r2 r3 kdM nuM rk2__22 rt2__23 vP vS vD vQ ht wA fA sz ln ce hd ⟨by exact hq4.1, by exact hq3.1, by exact hq3.2.1, by exact hq5.1, by exact hq5.2.1, by exact hq5.2.2.1, by exact hq5.2.2.2.1, by exact hq5.2.2.2.2, by first | assumption | (simp only [*]; done), by first | assumption | (simp only [*]; done), by exact hq3.2.2.1, by exact hq3.2.2.2, by exact hrd2, by exact hmm9.1, by exact hmm9.2.1, by exact hek2, by exact hen2, by exact hmm9.2.2.1, by exact hmm9.2.2.2, by first | assumption | (simp only [*]; done), by first | assumption | (simp only [*]; done)⟩ H locs ls ?_ (lv_sub hl [0, 1, 2, 3] rfl)
  exact hw

set_option maxRecDepth 100000 in
set_option maxHeartbeats 8000000 in
theorem lw_copy_nn {p : Program} (l : Launch) {e : Env} {s : State} {m : MethodId} {args : Array Value} {below : List Frame} {meth : Method} {c : Code} (D : va_G) (G : gT) {A : Nat → Prop} {Q : State → Prop} {b L : Nat} {xs : Nat → Int32} (h hm : Nat) (a ta la tb lb ra rb ga am : Nat → Nat) (ii : Int) {cells slots : Nat} (st : Nat → Option shE) (tr : Int) (lf : Int) (cn : Int) (ul : Int) (rw : Int) (tc : Int) (xc : Int) (xu : Int) (xw : Int) (sp : Int) (co : Int) (da : Int) (dc : Int) (rc : Int) (mra : Int) (mrm : Int) (mP : Int) (mS : Int) (mD : Int) (mQ : Int) (mal : Int) (mrw : Int) (kd : Int → Int) (nu : Int → Int) (ex : Int → Int) (rt : Int → Int) (mi : Int → Int) (si : Int → Int) (un : Int → Int) (be : Int → Int) (ka : Int → Int) (br : Int → Int) (rs : Int → Int) (rf : Int → Int) (rp : Int → Int) (kt : Int → Int) (nt : Int → Int) (tex : Int → Int) (trt : Int → Int) (tmi : Int → Int) (tsi : Int → Int) (tun : Int → Int) (tbe : Int → Int) (tka : Int → Int) (tbr : Int → Int) (trs : Int → Int) (trf : Int → Int) (trp : Int → Int) (dk : Int → Int) (dn : Int → Int) (r1 : Int → Int) (r2 : Int → Int) (r3 : Int → Int) (km : Int → Int) (nm : Int → Int) (rk : Int → Int) (rn : Int → Int) (vP : Int → Int) (vS : Int → Int) (vD : Int → Int) (vQ : Int → Int) (ht : Int → Int) (wA : Int → Int) (fA : Int → Int) (sz : Int → Int) (ln : Int → Int) (ce : Int → Int) (hd : Int → Int) (y1 : Int) (y3 : Int) (C : gC D G wsL_law RL cL_law 4 p s m args meth c) (hX : va_X b L xs s s.heap) (hbl : b < s.heap.size) (hbA : ¬ A b) (hL : L ≤ 3072) (hii : 0 ≤ ii ∧ ii + 6 ≤ L) (hck : cells + 2 ≤ 600000 ∧ slots + 62 ≤ 7302250) (hinv : lwI st tr lf cn ul rw tc xc xu xw sp co da dc rc mra mrm mP mS mD mQ mal mrw kd nu ex rt mi si un be ka br rs rf rp kt nt tex trt tmi tsi tun tbe tka tbr trs trf trp dk dn r1 r2 r3 km nm rk rn vP vS vD vQ ht wA fA sz ln ce hd) (hy1 : y1 = (xs (ii + 1).toNat).toInt) (hy3 : y3 = (xs (ii + 3).toNat).toInt) (hqn : 0 ≤ y1 → y1 ≤ 3 → 0 ≤ y3 → y3 ≤ 3 → st y1.toNat = none ∧ st y3.toNat = none) {H : Heap} {locs : List Loc} {ls : Array Slot} (hw : gW D A s.heap ([oX5 h a tr lf, cQ G (a 0) 4 (qfS st), oX4 (a 1) ta cn, cA G (ta 1) 4 kd, cA G (ta 2) 12 nu, oX0 (a 2) la cn ul rw, cA G (la 1) 12 ex, cA G (la 2) 4 rt, cA G (la 3) 8 mi, cA G (la 4) 8 si, cA G (la 5) 8 un, cA G (la 6) 8 be, cA G (la 8) 8 ka, cA G (la 9) 8 br, cA G (la 11) 17 rs, cA G (la 12) 17 rf, cA G (la 13) 17 rp, oX4 (a 3) tb tc, cA G (tb 1) 4 kt, cA G (tb 2) 12 nt, oX0 (a 4) lb xc xu xw, cA G (lb 1) 12 tex, cA G (lb 2) 4 trt, cA G (lb 3) 8 tmi, cA G (lb 4) 8 tsi, cA G (lb 5) 8 tun, cA G (lb 6) 8 tbe, cA G (lb 8) 8 tka, cA G (lb 9) 8 tbr, cA G (lb 11) 17 trs, cA G (lb 12) 17 trf, cA G (lb 13) 17 trp, oX3 (a 5) ra sp co da, oX4 (ra 0) rb dc, cA G (rb 1) 4 dk, cA G (rb 2) 12 dn, oX1 (a 6) ga rc, cA G (ga 1) 8 r1, cA G (ga 2) 8 r2, cA G (ga 3) 8 r3, oX6 hm am lf cn mra mrm mP mS mD mQ mal mrw rc tr, cA G (am 2) 4 km, cA G (am 3) 12 nm, cA G (am 6) 4 rk, cA G (am 7) 12 rn, cJ G (am 13) 8 vP, cJ G (am 14) 8 vS, cJ G (am 15) 8 vD, cJ G (am 16) 8 vQ, cA G (am 17) 12 ht, cA G (am 18) 17 wA, cA G (am 19) 17 fA, cA G (am 22) 8 r1, cA G (am 23) 8 r2, cA G (am 24) 8 r3, cA G (am 25) 4 sz, cA G (am 26) 4 ln, cA G (am 27) 240 ce, cA G (am 28) 60 hd] ++ shW G st) H locs) (hl : lv_has ls 4 [(0, .ref b), (1, .ref h), (2, .ref hm), (3, .int (iI ii))]) (hback : lwB p l e s m args below meth c D G A Q b h hm a ta la tb lb ra rb ga am ii (cells + 2) (slots + 62)) : W p l e room_1 s m args below meth c H locs cells slots Q (F0 m 1037 ls []) := by
  obtain ⟨hcn, hkd, hnu, hXx, hT, hZ, hB, hub, hkt, hnt, hdk, hdn, hrd, hkm, hnm, hek, hen, hrk, hrn, hsh, hsr⟩ := hinv
  obtain ⟨y2, hy2⟩ : ∃ y : Int, y = (xs (ii + 2).toNat).toInt := ⟨_, rfl⟩
  obtain ⟨y4, hy4⟩ : ∃ y : Int, y = (xs (ii + 4).toNat).toInt := ⟨_, rfl⟩
  obtain ⟨y5, hy5⟩ : ∃ y : Int, y = (xs (ii + 5).toNat).toInt := ⟨_, rfl⟩
  have hr1 : -2147483648 ≤ y1 ∧ y1 ≤ 2147483647 := by rw [hy1]; exact iI_rg _
  have hr2 : -2147483648 ≤ y2 ∧ y2 ≤ 2147483647 := by rw [hy2]; exact iI_rg _
  have hr3 : -2147483648 ≤ y3 ∧ y3 ≤ 2147483647 := by rw [hy3]; exact iI_rg _
  have hr4 : -2147483648 ≤ y4 ∧ y4 ≤ 2147483647 := by rw [hy4]; exact iI_rg _
  have hr5 : -2147483648 ≤ y5 ∧ y5 ≤ 2147483647 := by rw [hy5]; exact iI_rg _
  have hE : EB (exT cn kd nu) := exT_B cn kd hnu
  have hEM : exT cn km nm = (exT cn kd nu) := exT_cg hek hen
  have hKA := hasB_L hB
  have hul : ul = ((ALn (exT cn kd nu) cn.toNat).length : Int) := by rw [hub, ALb_len]
  have hrc9 : 0 ≤ rc ∧ rc ≤ 8 := hrd.1
  have hsk : 0 ≤ y1 → y1 ≤ 3 → 0 ≤ y3 → y3 ≤ 3 → sz y1 = -1 ∧ sz y3 = -1 := fun a1 a2 a3 a4 => by
    have q := (hsr y1.toNat (by omega)).1 (hqn a1 a2 a3 a4).1
    have q2 := (hsr y3.toNat (by omega)).1 (hqn a1 a2 a3 a4).2
    rw [show ((y1.toNat : Nat) : Int) = y1 by omega] at q
    rw [show ((y3.toNat : Nat) : Int) = y3 by omega] at q2
    exact ⟨q, q2⟩
  have hqf : 0 ≤ y1 → y1 ≤ 3 → 0 ≤ y3 → y3 ≤ 3 → qfS st y1.toNat = none := fun a1 a2 a3 a4 => by unfold qfS; rw [(hqn a1 a2 a3 a4).1]; rfl
  have hqg : 0 ≤ y1 → y1 ≤ 3 → 0 ≤ y3 → y3 ≤ 3 → qfS st y3.toNat = none := fun a1 a2 a3 a4 => by unfold qfS; rw [(hqn a1 a2 a3 a4).2]; rfl
  obtain ⟨hsz, hln, hcr⟩ := id hsh
  refine g_aload_n C hl 1 rfl rfl dL_law_1037 ?_
  refine g_aload_n C hl 0 rfl rfl dL_law_1038 ?_
  refine g_iload_n C hl 3 rfl rfl dL_law_1039 ?_
  refine g_iconst C dL_law_1040 ?_
  refine g_iadd C dL_law_1041 ?_
  refine g_sld C hw hX hbl hbA (by omega) hL dL_law_1042 ?_
  refine g_nI (show ((xs (ii + 1).toNat).toInt : Int) = y1 by exact hy1.symm) ?_
  refine g_aload_n C hl 0 rfl rfl dL_law_1043 ?_
  refine g_iload_n C hl 3 rfl rfl dL_law_1044 ?_
  refine g_iconst C dL_law_1045 ?_
  refine g_iadd C dL_law_1046 ?_
  refine g_sld C hw hX hbl hbA (by omega) hL dL_law_1047 ?_
  refine g_nI (show ((xs (ii + 2).toNat).toInt : Int) = y2 by exact hy2.symm) ?_
  refine g_aload_n C hl 0 rfl rfl dL_law_1048 ?_
  refine g_iload_n C hl 3 rfl rfl dL_law_1049 ?_
  refine g_iconst C dL_law_1050 ?_
  refine g_iadd C dL_law_1051 ?_
  refine g_sld C hw hX hbl hbA (by omega) hL dL_law_1052 ?_
  refine g_nI (show ((xs (ii + 3).toNat).toInt : Int) = y3 by exact hy3.symm) ?_
  refine g_aload_n C hl 0 rfl rfl dL_law_1053 ?_
  refine g_iload_n C hl 3 rfl rfl dL_law_1054 ?_
  refine g_iconst C dL_law_1055 ?_
  refine g_iadd C dL_law_1056 ?_
  refine g_sld C hw hX hbl hbA (by omega) hL dL_law_1057 ?_
  refine g_nI (show ((xs (ii + 4).toNat).toInt : Int) = y4 by exact hy4.symm) ?_
  refine g_aload_n C hl 0 rfl rfl dL_law_1058 ?_
  refine g_iload_n C hl 3 rfl rfl dL_law_1059 ?_
  refine g_iconst C dL_law_1060 ?_
  refine g_iadd C dL_law_1061 ?_
  refine g_sld C hw hX hbl hbA (by omega) hL dL_law_1062 ?_
  refine g_nI (show ((xs (ii + 5).toNat).toInt : Int) = y5 by exact hy5.symm) ?_
  refine g_callVTi C hw (wr := [oX4 (a 1) ta cn, cA G (ta 1) 4 kd, cA G (ta 2) 12 nu, oX0 (a 2) la cn ul rw, cA G (la 1) 12 ex, cA G (la 2) 4 rt, cA G (la 3) 8 mi, cA G (la 4) 8 si, cA G (la 5) 8 un, cA G (la 6) 8 be, cA G (la 8) 8 ka, cA G (la 9) 8 br, cA G (la 11) 17 rs, cA G (la 12) 17 rf, cA G (la 13) 17 rp, oX4 (a 3) tb tc, cA G (tb 1) 4 kt, cA G (tb 2) 12 nt, oX0 (a 4) lb xc xu xw, cA G (lb 1) 12 tex, cA G (lb 2) 4 trt, cA G (lb 3) 8 tmi, cA G (lb 4) 8 tsi, cA G (lb 5) 8 tun, cA G (lb 6) 8 tbe, cA G (lb 8) 8 tka, cA G (lb 9) 8 tbr, cA G (lb 11) 17 trs, cA G (lb 12) 17 trf, cA G (lb 13) 17 trp, oX3 (a 5) ra sp co da, oX4 (ra 0) rb dc, cA G (rb 1) 4 dk, cA G (rb 2) 12 dn, oX1 (a 6) ga rc, cA G (ga 1) 8 r1, cA G (ga 2) 8 r2, cA G (ga 3) 8 r3, oX6 hm am lf cn mra mrm mP mS mD mQ mal mrw rc tr, cA G (am 2) 4 km, cA G (am 3) 12 nm, cA G (am 6) 4 rk, cA G (am 7) 12 rn, cJ G (am 13) 8 vP, cJ G (am 14) 8 vS, cJ G (am 15) 8 vD, cJ G (am 16) 8 vQ, cA G (am 17) 12 ht, cA G (am 18) 17 wA, cA G (am 19) 17 fA, cA G (am 22) 8 r1, cA G (am 23) 8 r2, cA G (am 24) 8 r3, cA G (am 25) 4 sz, cA G (am 26) 4 ln, cA G (am 27) 240 ce, cA G (am 28) 60 hd]) (As := [.int (iI y1), .int (iI y2), .int (iI y3), .int (iI y4), .int (iI y5)]) (rest := []) (m_X5_copy_nn l D G (h := h) (a := a) (tr := tr) (lf := lf) (qf := (qfS st)) (sz := sz) (ln := ln) (kk := y1) (ii := y2) (oo := y3) (jj := y4) (nn := y5) (by first | assumption | omega) (by first | assumption | omega) (by first | assumption | omega) (by first | assumption | omega) (by first | assumption | omega) (by first | assumption | omega) (by first | assumption | omega) (by first | assumption | omega)) (cwV 5 C.1.2.2.2.2 gL_law_X5_copy rfl rfl rfl (by decide +kernel) ⟨Nat.le_of_ble_eq_true rfl, Nat.le_of_ble_eq_true rfl⟩) [0, 1] [2, 3, 4, 5, 6, 7, 8, 9, 10, 11, 12, 13, 14, 15, 16, 17, 18, 19, 20, 21, 22, 23, 24, 25, 26, 27, 28, 29, 30, 31, 32, 33, 34, 35, 36, 37, 38, 39, 40, 41, 42, 43, 44, 45, 46, 47, 48, 49, 50, 51, 52, 53, 54, 55, 56, 57, 58] rfl rfl (by decide) (by decide) (by decide) 0 rfl rfl rfl hl.1 _ rfl (Nat.le_of_ble_eq_true rfl) dL_law_1063 ⟨by show _ ≤ 600000; omega, by show _ ≤ 7302250; omega⟩ ?_
  clear hw
  rintro _ _ H locs ⟨rfl, rfl⟩ hw
  have hw : gW D A s.heap ([oX4 (a 1) ta cn, cA G (ta 1) 4 kd, cA G (ta 2) 12 nu, oX0 (a 2) la cn ul rw, cA G (la 1) 12 ex, cA G (la 2) 4 rt, cA G (la 3) 8 mi, cA G (la 4) 8 si, cA G (la 5) 8 un, cA G (la 6) 8 be, cA G (la 8) 8 ka, cA G (la 9) 8 br, cA G (la 11) 17 rs, cA G (la 12) 17 rf, cA G (la 13) 17 rp, oX4 (a 3) tb tc, cA G (tb 1) 4 kt, cA G (tb 2) 12 nt, oX0 (a 4) lb xc xu xw, cA G (lb 1) 12 tex, cA G (lb 2) 4 trt, cA G (lb 3) 8 tmi, cA G (lb 4) 8 tsi, cA G (lb 5) 8 tun, cA G (lb 6) 8 tbe, cA G (lb 8) 8 tka, cA G (lb 9) 8 tbr, cA G (lb 11) 17 trs, cA G (lb 12) 17 trf, cA G (lb 13) 17 trp, oX3 (a 5) ra sp co da, oX4 (ra 0) rb dc, cA G (rb 1) 4 dk, cA G (rb 2) 12 dn, oX1 (a 6) ga rc, cA G (ga 1) 8 r1, cA G (ga 2) 8 r2, cA G (ga 3) 8 r3, oX6 hm am lf cn mra mrm mP mS mD mQ mal mrw rc tr, cA G (am 2) 4 km, cA G (am 3) 12 nm, cA G (am 6) 4 rk, cA G (am 7) 12 rn, cJ G (am 13) 8 vP, cJ G (am 14) 8 vS, cJ G (am 15) 8 vD, cJ G (am 16) 8 vQ, cA G (am 17) 12 ht, cA G (am 18) 17 wA, cA G (am 19) 17 fA, cA G (am 22) 8 r1, cA G (am 23) 8 r2, cA G (am 24) 8 r3, cA G (am 25) 4 sz, cA G (am 26) 4 ln, cA G (am 27) 240 ce, cA G (am 28) 60 hd, oX5 h a tr (F_cpy sz ln y1 y2 y3 y4 y5), cQ G (a 0) 4 (qfS st)] ++ shW G st) H locs := hw
  refine g_aload_n C hl 2 rfl rfl dL_law_1066 ?_
  refine g_aload_n C hl 0 rfl rfl dL_law_1067 ?_
  refine g_iload_n C hl 3 rfl rfl dL_law_1068 ?_
  refine g_iconst C dL_law_1069 ?_
  refine g_iadd C dL_law_1070 ?_
  refine g_sld C hw hX hbl hbA (by omega) hL dL_law_1071 ?_
  refine g_nI (show ((xs (ii + 1).toNat).toInt : Int) = y1 by exact hy1.symm) ?_
  refine g_aload_n C hl 0 rfl rfl dL_law_1072 ?_
  refine g_iload_n C hl 3 rfl rfl dL_law_1073 ?_
  refine g_iconst C dL_law_1074 ?_
  refine g_iadd C dL_law_1075 ?_
  refine g_sld C hw hX hbl hbA (by omega) hL dL_law_1076 ?_
  refine g_nI (show ((xs (ii + 2).toNat).toInt : Int) = y2 by exact hy2.symm) ?_
  refine g_aload_n C hl 0 rfl rfl dL_law_1077 ?_
  refine g_iload_n C hl 3 rfl rfl dL_law_1078 ?_
  refine g_iconst C dL_law_1079 ?_
  refine g_iadd C dL_law_1080 ?_
  refine g_sld C hw hX hbl hbA (by omega) hL dL_law_1081 ?_
  refine g_nI (show ((xs (ii + 3).toNat).toInt : Int) = y3 by exact hy3.symm) ?_
  refine g_aload_n C hl 0 rfl rfl dL_law_1082 ?_
  refine g_iload_n C hl 3 rfl rfl dL_law_1083 ?_
  refine g_iconst C dL_law_1084 ?_
  refine g_iadd C dL_law_1085 ?_
  refine g_sld C hw hX hbl hbA (by omega) hL dL_law_1086 ?_
  refine g_nI (show ((xs (ii + 4).toNat).toInt : Int) = y4 by exact hy4.symm) ?_
  refine g_aload_n C hl 0 rfl rfl dL_law_1087 ?_
  refine g_iload_n C hl 3 rfl rfl dL_law_1088 ?_
  refine g_iconst C dL_law_1089 ?_
  refine g_iadd C dL_law_1090 ?_
  refine g_sld C hw hX hbl hbA (by omega) hL dL_law_1091 ?_
  refine g_nI (show ((xs (ii + 5).toNat).toInt : Int) = y5 by exact hy5.symm) ?_
  refine g_callVTi C hw (wr := [oX4 (a 1) ta cn, cA G (ta 1) 4 kd, cA G (ta 2) 12 nu, oX0 (a 2) la cn ul rw, cA G (la 1) 12 ex, cA G (la 2) 4 rt, cA G (la 3) 8 mi, cA G (la 4) 8 si, cA G (la 5) 8 un, cA G (la 6) 8 be, cA G (la 8) 8 ka, cA G (la 9) 8 br, cA G (la 11) 17 rs, cA G (la 12) 17 rf, cA G (la 13) 17 rp, oX4 (a 3) tb tc, cA G (tb 1) 4 kt, cA G (tb 2) 12 nt, oX0 (a 4) lb xc xu xw, cA G (lb 1) 12 tex, cA G (lb 2) 4 trt, cA G (lb 3) 8 tmi, cA G (lb 4) 8 tsi, cA G (lb 5) 8 tun, cA G (lb 6) 8 tbe, cA G (lb 8) 8 tka, cA G (lb 9) 8 tbr, cA G (lb 11) 17 trs, cA G (lb 12) 17 trf, cA G (lb 13) 17 trp, oX3 (a 5) ra sp co da, oX4 (ra 0) rb dc, cA G (rb 1) 4 dk, cA G (rb 2) 12 dn, oX1 (a 6) ga rc, cA G (ga 1) 8 r1, cA G (ga 2) 8 r2, cA G (ga 3) 8 r3, cA G (am 2) 4 km, cA G (am 3) 12 nm, cA G (am 6) 4 rk, cA G (am 7) 12 rn, cJ G (am 13) 8 vP, cJ G (am 14) 8 vS, cJ G (am 15) 8 vD, cJ G (am 16) 8 vQ, cA G (am 17) 12 ht, cA G (am 18) 17 wA, cA G (am 19) 17 fA, cA G (am 22) 8 r1, cA G (am 23) 8 r2, cA G (am 24) 8 r3, oX5 h a tr (F_cpy sz ln y1 y2 y3 y4 y5), cQ G (a 0) 4 (qfS st)]) (As := [.int (iI y1), .int (iI y2), .int (iI y3), .int (iI y4), .int (iI y5)]) (rest := [.int (iI ((R_cpy sz ln y1 y2 y3 y4 y5)))]) (m_X6_copy l D G (h := hm) (a := am) (ft := lf) (pn := cn) (ra := mra) (rm := mrm) (rP := mP) (rS := mS) (rD := mD) (rQ := mQ) (al := mal) (rw := mrw) (rc := rc) (tr := tr) (sz := sz) (ln := ln) (ce := ce) (hd := hd) (kk := y1) (ii := y2) (oo := y3) (jj := y4) (nn := y5) (by first | assumption | omega) (by first | assumption | omega) (by first | assumption | omega) (by first | assumption | omega) (by first | assumption | omega) (by first | assumption | omega)) (cwV 5 C.1.2.2.2.2 gL_law_X6_copy rfl rfl rfl (by decide +kernel) ⟨Nat.le_of_ble_eq_true rfl, Nat.le_of_ble_eq_true rfl⟩) [38, 53, 54, 55, 56] [0, 1, 2, 3, 4, 5, 6, 7, 8, 9, 10, 11, 12, 13, 14, 15, 16, 17, 18, 19, 20, 21, 22, 23, 24, 25, 26, 27, 28, 29, 30, 31, 32, 33, 34, 35, 36, 37, 39, 40, 41, 42, 43, 44, 45, 46, 47, 48, 49, 50, 51, 52, 57, 58] rfl rfl (by decide) (by decide) (by decide) 0 rfl rfl rfl hl.1 _ rfl (Nat.le_of_ble_eq_true rfl) dL_law_1092 ⟨by show _ ≤ 600000; omega, by show _ ≤ 7302250; omega⟩ ?_
  clear hw
  rintro _ _ H locs ⟨ceM, hd2__1, rfl, rfl, hp_2⟩ hw
  have hw : gW D A s.heap ([oX4 (a 1) ta cn, cA G (ta 1) 4 kd, cA G (ta 2) 12 nu, oX0 (a 2) la cn ul rw, cA G (la 1) 12 ex, cA G (la 2) 4 rt, cA G (la 3) 8 mi, cA G (la 4) 8 si, cA G (la 5) 8 un, cA G (la 6) 8 be, cA G (la 8) 8 ka, cA G (la 9) 8 br, cA G (la 11) 17 rs, cA G (la 12) 17 rf, cA G (la 13) 17 rp, oX4 (a 3) tb tc, cA G (tb 1) 4 kt, cA G (tb 2) 12 nt, oX0 (a 4) lb xc xu xw, cA G (lb 1) 12 tex, cA G (lb 2) 4 trt, cA G (lb 3) 8 tmi, cA G (lb 4) 8 tsi, cA G (lb 5) 8 tun, cA G (lb 6) 8 tbe, cA G (lb 8) 8 tka, cA G (lb 9) 8 tbr, cA G (lb 11) 17 trs, cA G (lb 12) 17 trf, cA G (lb 13) 17 trp, oX3 (a 5) ra sp co da, oX4 (ra 0) rb dc, cA G (rb 1) 4 dk, cA G (rb 2) 12 dn, oX1 (a 6) ga rc, cA G (ga 1) 8 r1, cA G (ga 2) 8 r2, cA G (ga 3) 8 r3, cA G (am 2) 4 km, cA G (am 3) 12 nm, cA G (am 6) 4 rk, cA G (am 7) 12 rn, cJ G (am 13) 8 vP, cJ G (am 14) 8 vS, cJ G (am 15) 8 vD, cJ G (am 16) 8 vQ, cA G (am 17) 12 ht, cA G (am 18) 17 wA, cA G (am 19) 17 fA, cA G (am 22) 8 r1, cA G (am 23) 8 r2, cA G (am 24) 8 r3, oX5 h a tr (F_cpy sz ln y1 y2 y3 y4 y5), cQ G (a 0) 4 (qfS st), oX6 hm am (F_cpy sz ln y1 y2 y3 y4 y5) cn mra mrm mP mS mD mQ mal mrw rc tr, cA G (am 25) 4 sz, cA G (am 26) 4 ln, cA G (am 27) 240 ceM, cA G (am 28) 60 hd2__1] ++ shW G st) H locs := hw
  have hp_2 : ceM = if ((0 ≤ y1 ∧ y1 ≤ 3) ∧ (0 ≤ y3 ∧ y3 ≤ 3)) ∧ C_cpy sz ln y1 y2 y3 y4 y5 = 0 then mvF (fun x => ce (60 * y1 + y2 + x)) ce (60 * y3 + y4) y5 else ce := hp_2
  have hq2 := hp_2
  refine g_icmpS C (show ((iI ((R_cpy sz ln y1 y2 y3 y4 y5))) : Int32) = (iI ((R_cpy sz ln y1 y2 y3 y4 y5))) by rfl) 1228 dL_law_1095 (by decide) ?_
  have hw : gW D A s.heap ([oX5 h a tr (F_cpy sz ln y1 y2 y3 y4 y5), cQ G (a 0) 4 (qfS st), oX4 (a 1) ta cn, cA G (ta 1) 4 kd, cA G (ta 2) 12 nu, oX0 (a 2) la cn ul rw, cA G (la 1) 12 ex, cA G (la 2) 4 rt, cA G (la 3) 8 mi, cA G (la 4) 8 si, cA G (la 5) 8 un, cA G (la 6) 8 be, cA G (la 8) 8 ka, cA G (la 9) 8 br, cA G (la 11) 17 rs, cA G (la 12) 17 rf, cA G (la 13) 17 rp, oX4 (a 3) tb tc, cA G (tb 1) 4 kt, cA G (tb 2) 12 nt, oX0 (a 4) lb xc xu xw, cA G (lb 1) 12 tex, cA G (lb 2) 4 trt, cA G (lb 3) 8 tmi, cA G (lb 4) 8 tsi, cA G (lb 5) 8 tun, cA G (lb 6) 8 tbe, cA G (lb 8) 8 tka, cA G (lb 9) 8 tbr, cA G (lb 11) 17 trs, cA G (lb 12) 17 trf, cA G (lb 13) 17 trp, oX3 (a 5) ra sp co da, oX4 (ra 0) rb dc, cA G (rb 1) 4 dk, cA G (rb 2) 12 dn, oX1 (a 6) ga rc, cA G (ga 1) 8 r1, cA G (ga 2) 8 r2, cA G (ga 3) 8 r3, oX6 hm am (F_cpy sz ln y1 y2 y3 y4 y5) cn mra mrm mP mS mD mQ mal mrw rc tr, cA G (am 2) 4 km, cA G (am 3) 12 nm, cA G (am 6) 4 rk, cA G (am 7) 12 rn, cJ G (am 13) 8 vP, cJ G (am 14) 8 vS, cJ G (am 15) 8 vD, cJ G (am 16) 8 vQ, cA G (am 17) 12 ht, cA G (am 18) 17 wA, cA G (am 19) 17 fA, cA G (am 22) 8 r1, cA G (am 23) 8 r2, cA G (am 24) 8 r3, cA G (am 25) 4 sz, cA G (am 26) 4 ln, cA G (am 27) 240 ceM, cA G (am 28) 60 hd2__1] ++ shW G st) H locs := g_permT hw [52, 53, 0, 1, 2, 3, 4, 5, 6, 7, 8, 9, 10, 11, 12, 13, 14, 15, 16, 17, 18, 19, 20, 21, 22, 23, 24, 25, 26, 27, 28, 29, 30, 31, 32, 33, 34, 35, 36, 37, 54, 38, 39, 40, 41, 42, 43, 44, 45, 46, 47, 48, 49, 50, 51, 55, 56, 57, 58] (by decide) rfl
  have hne : ¬ (((0 ≤ y1 ∧ y1 ≤ 3) ∧ (0 ≤ y3 ∧ y3 ≤ 3)) ∧ C_cpy sz ln y1 y2 y3 y4 y5 = 0) := by
    intro q
    have q2 := q.2
    unfold C_cpy at q2
    rw [if_pos (by have := hsk q.1.1.1 q.1.1.2 q.1.2.1 q.1.2.2; omega)] at q2
    omega
  rw [if_neg hne] at hq2
  rw [hq2] at hw
  refine W.widen (k := cells + 2) (n := slots + 62) (by omega) (by omega) ?_
  refine hback st tr (F_cpy sz ln y1 y2 y3 y4 y5) cn ul rw tc xc xu xw sp co da dc rc mra mrm mP mS mD mQ mal mrw kd nu ex rt mi si un be ka br rs rf rp kt nt tex trt tmi tsi tun tbe tka tbr trs trf trp dk dn r1 r2 r3 km nm rk rn vP vS vD vQ ht wA fA sz ln ce hd2__1 ⟨by first | assumption | (simp only [*]; done), by first | assumption | (simp only [*]; done), by first | assumption | (simp only [*]; done), by first | assumption | (simp only [*]; done), by first | assumption | (simp only [*]; done), by first | assumption | (simp only [*]; done), by first | assumption | (simp only [*]; done), by first | assumption | (simp only [*]; done), by first | assumption | (simp only [*]; done), by first | assumption | (simp only [*]; done), by first | assumption | (simp only [*]; done), by first | assumption | (simp only [*]; done), by first | assumption | (simp only [*]; done), by first | assumption | (simp only [*]; done), by first | assumption | (simp only [*]; done), by first | assumption | (simp only [*]; done), by first | assumption | (simp only [*]; done), by first | assumption | (simp only [*]; done), by first | assumption | (simp only [*]; done), by first | assumption | (simp only [*]; done), by first | assumption | (simp only [*]; done)⟩ H locs ls ?_ (lv_sub hl [0, 1, 2, 3] rfl)
  exact hw

set_option maxRecDepth 100000 in
set_option maxHeartbeats 8000000 in
theorem lw_copy_ns {p : Program} (l : Launch) {e : Env} {s : State} {m : MethodId} {args : Array Value} {below : List Frame} {meth : Method} {c : Code} (D : va_G) (G : gT) {A : Nat → Prop} {Q : State → Prop} {b L : Nat} {xs : Nat → Int32} (h hm : Nat) (a ta la tb lb ra rb ga am : Nat → Nat) (ii : Int) {cells slots : Nat} (st : Nat → Option shE) (tr : Int) (lf : Int) (cn : Int) (ul : Int) (rw : Int) (tc : Int) (xc : Int) (xu : Int) (xw : Int) (sp : Int) (co : Int) (da : Int) (dc : Int) (rc : Int) (mra : Int) (mrm : Int) (mP : Int) (mS : Int) (mD : Int) (mQ : Int) (mal : Int) (mrw : Int) (kd : Int → Int) (nu : Int → Int) (ex : Int → Int) (rt : Int → Int) (mi : Int → Int) (si : Int → Int) (un : Int → Int) (be : Int → Int) (ka : Int → Int) (br : Int → Int) (rs : Int → Int) (rf : Int → Int) (rp : Int → Int) (kt : Int → Int) (nt : Int → Int) (tex : Int → Int) (trt : Int → Int) (tmi : Int → Int) (tsi : Int → Int) (tun : Int → Int) (tbe : Int → Int) (tka : Int → Int) (tbr : Int → Int) (trs : Int → Int) (trf : Int → Int) (trp : Int → Int) (dk : Int → Int) (dn : Int → Int) (r1 : Int → Int) (r2 : Int → Int) (r3 : Int → Int) (km : Int → Int) (nm : Int → Int) (rk : Int → Int) (rn : Int → Int) (vP : Int → Int) (vS : Int → Int) (vD : Int → Int) (vQ : Int → Int) (ht : Int → Int) (wA : Int → Int) (fA : Int → Int) (sz : Int → Int) (ln : Int → Int) (ce : Int → Int) (hd : Int → Int) (y1 : Int) (y3 : Int) (x : shE) (C : gC D G wsL_law RL cL_law 4 p s m args meth c) (hX : va_X b L xs s s.heap) (hbl : b < s.heap.size) (hbA : ¬ A b) (hL : L ≤ 3072) (hii : 0 ≤ ii ∧ ii + 6 ≤ L) (hck : cells + 2 ≤ 600000 ∧ slots + 62 ≤ 7302250) (hinv : lwI st tr lf cn ul rw tc xc xu xw sp co da dc rc mra mrm mP mS mD mQ mal mrw kd nu ex rt mi si un be ka br rs rf rp kt nt tex trt tmi tsi tun tbe tka tbr trs trf trp dk dn r1 r2 r3 km nm rk rn vP vS vD vQ ht wA fA sz ln ce hd) (hy1 : y1 = (xs (ii + 1).toNat).toInt) (hy3 : y3 = (xs (ii + 3).toNat).toInt) (hk33 : (0 ≤ y1 ∧ y1 ≤ 3) ∧ 0 ≤ y3 ∧ y3 ≤ 3) (hn0 : st y1.toNat = none) (hx0 : st y3.toNat = some x) {H : Heap} {locs : List Loc} {ls : Array Slot} (hw : gW D A s.heap ([oX5 h a tr lf, cQ G (a 0) 4 (qfS st), oX4 (a 1) ta cn, cA G (ta 1) 4 kd, cA G (ta 2) 12 nu, oX0 (a 2) la cn ul rw, cA G (la 1) 12 ex, cA G (la 2) 4 rt, cA G (la 3) 8 mi, cA G (la 4) 8 si, cA G (la 5) 8 un, cA G (la 6) 8 be, cA G (la 8) 8 ka, cA G (la 9) 8 br, cA G (la 11) 17 rs, cA G (la 12) 17 rf, cA G (la 13) 17 rp, oX4 (a 3) tb tc, cA G (tb 1) 4 kt, cA G (tb 2) 12 nt, oX0 (a 4) lb xc xu xw, cA G (lb 1) 12 tex, cA G (lb 2) 4 trt, cA G (lb 3) 8 tmi, cA G (lb 4) 8 tsi, cA G (lb 5) 8 tun, cA G (lb 6) 8 tbe, cA G (lb 8) 8 tka, cA G (lb 9) 8 tbr, cA G (lb 11) 17 trs, cA G (lb 12) 17 trf, cA G (lb 13) 17 trp, oX3 (a 5) ra sp co da, oX4 (ra 0) rb dc, cA G (rb 1) 4 dk, cA G (rb 2) 12 dn, oX1 (a 6) ga rc, cA G (ga 1) 8 r1, cA G (ga 2) 8 r2, cA G (ga 3) 8 r3, oX6 hm am lf cn mra mrm mP mS mD mQ mal mrw rc tr, cA G (am 2) 4 km, cA G (am 3) 12 nm, cA G (am 6) 4 rk, cA G (am 7) 12 rn, cJ G (am 13) 8 vP, cJ G (am 14) 8 vS, cJ G (am 15) 8 vD, cJ G (am 16) 8 vQ, cA G (am 17) 12 ht, cA G (am 18) 17 wA, cA G (am 19) 17 fA, cA G (am 22) 8 r1, cA G (am 23) 8 r2, cA G (am 24) 8 r3, cA G (am 25) 4 sz, cA G (am 26) 4 ln, cA G (am 27) 240 ce, cA G (am 28) 60 hd] ++ shW G st) H locs) (hl : lv_has ls 4 [(0, .ref b), (1, .ref h), (2, .ref hm), (3, .int (iI ii))]) (hback : lwB p l e s m args below meth c D G A Q b h hm a ta la tb lb ra rb ga am ii (cells + 2) (slots + 62)) : W p l e room_1 s m args below meth c H locs cells slots Q (F0 m 1037 ls []) := by
  obtain ⟨hcn, hkd, hnu, hXx, hT, hZ, hB, hub, hkt, hnt, hdk, hdn, hrd, hkm, hnm, hek, hen, hrk, hrn, hsh, hsr⟩ := hinv
  obtain ⟨y2, hy2⟩ : ∃ y : Int, y = (xs (ii + 2).toNat).toInt := ⟨_, rfl⟩
  obtain ⟨y4, hy4⟩ : ∃ y : Int, y = (xs (ii + 4).toNat).toInt := ⟨_, rfl⟩
  obtain ⟨y5, hy5⟩ : ∃ y : Int, y = (xs (ii + 5).toNat).toInt := ⟨_, rfl⟩
  have hr1 : -2147483648 ≤ y1 ∧ y1 ≤ 2147483647 := by rw [hy1]; exact iI_rg _
  have hr2 : -2147483648 ≤ y2 ∧ y2 ≤ 2147483647 := by rw [hy2]; exact iI_rg _
  have hr3 : -2147483648 ≤ y3 ∧ y3 ≤ 2147483647 := by rw [hy3]; exact iI_rg _
  have hr4 : -2147483648 ≤ y4 ∧ y4 ≤ 2147483647 := by rw [hy4]; exact iI_rg _
  have hr5 : -2147483648 ≤ y5 ∧ y5 ≤ 2147483647 := by rw [hy5]; exact iI_rg _
  have hE : EB (exT cn kd nu) := exT_B cn kd hnu
  have hEM : exT cn km nm = (exT cn kd nu) := exT_cg hek hen
  have hKA := hasB_L hB
  have hul : ul = ((ALn (exT cn kd nu) cn.toNat).length : Int) := by rw [hub, ALb_len]
  have hrc9 : 0 ≤ rc ∧ rc ≤ 8 := hrd.1
  have hsk : sz y1 = -1 := by
    have q := (hsr y1.toNat (by omega)).1 hn0
    rw [show ((y1.toNat : Nat) : Int) = y1 by omega] at q
    exact q
  have hqf : qfS st y1.toNat = none := by unfold qfS; rw [hn0]; rfl
  have hqg : qfS st y3.toNat = some x.1 := by unfold qfS; rw [hx0]; rfl
  obtain ⟨hsz, hln, hcr⟩ := id hsh
  refine g_aload_n C hl 1 rfl rfl dL_law_1037 ?_
  refine g_aload_n C hl 0 rfl rfl dL_law_1038 ?_
  refine g_iload_n C hl 3 rfl rfl dL_law_1039 ?_
  refine g_iconst C dL_law_1040 ?_
  refine g_iadd C dL_law_1041 ?_
  refine g_sld C hw hX hbl hbA (by omega) hL dL_law_1042 ?_
  refine g_nI (show ((xs (ii + 1).toNat).toInt : Int) = y1 by exact hy1.symm) ?_
  refine g_aload_n C hl 0 rfl rfl dL_law_1043 ?_
  refine g_iload_n C hl 3 rfl rfl dL_law_1044 ?_
  refine g_iconst C dL_law_1045 ?_
  refine g_iadd C dL_law_1046 ?_
  refine g_sld C hw hX hbl hbA (by omega) hL dL_law_1047 ?_
  refine g_nI (show ((xs (ii + 2).toNat).toInt : Int) = y2 by exact hy2.symm) ?_
  refine g_aload_n C hl 0 rfl rfl dL_law_1048 ?_
  refine g_iload_n C hl 3 rfl rfl dL_law_1049 ?_
  refine g_iconst C dL_law_1050 ?_
  refine g_iadd C dL_law_1051 ?_
  refine g_sld C hw hX hbl hbA (by omega) hL dL_law_1052 ?_
  refine g_nI (show ((xs (ii + 3).toNat).toInt : Int) = y3 by exact hy3.symm) ?_
  refine g_aload_n C hl 0 rfl rfl dL_law_1053 ?_
  refine g_iload_n C hl 3 rfl rfl dL_law_1054 ?_
  refine g_iconst C dL_law_1055 ?_
  refine g_iadd C dL_law_1056 ?_
  refine g_sld C hw hX hbl hbA (by omega) hL dL_law_1057 ?_
  refine g_nI (show ((xs (ii + 4).toNat).toInt : Int) = y4 by exact hy4.symm) ?_
  refine g_aload_n C hl 0 rfl rfl dL_law_1058 ?_
  refine g_iload_n C hl 3 rfl rfl dL_law_1059 ?_
  refine g_iconst C dL_law_1060 ?_
  refine g_iadd C dL_law_1061 ?_
  refine g_sld C hw hX hbl hbA (by omega) hL dL_law_1062 ?_
  refine g_nI (show ((xs (ii + 5).toNat).toInt : Int) = y5 by exact hy5.symm) ?_
  refine g_callVTi C hw (wr := [oX4 (a 1) ta cn, cA G (ta 1) 4 kd, cA G (ta 2) 12 nu, oX0 (a 2) la cn ul rw, cA G (la 1) 12 ex, cA G (la 2) 4 rt, cA G (la 3) 8 mi, cA G (la 4) 8 si, cA G (la 5) 8 un, cA G (la 6) 8 be, cA G (la 8) 8 ka, cA G (la 9) 8 br, cA G (la 11) 17 rs, cA G (la 12) 17 rf, cA G (la 13) 17 rp, oX4 (a 3) tb tc, cA G (tb 1) 4 kt, cA G (tb 2) 12 nt, oX0 (a 4) lb xc xu xw, cA G (lb 1) 12 tex, cA G (lb 2) 4 trt, cA G (lb 3) 8 tmi, cA G (lb 4) 8 tsi, cA G (lb 5) 8 tun, cA G (lb 6) 8 tbe, cA G (lb 8) 8 tka, cA G (lb 9) 8 tbr, cA G (lb 11) 17 trs, cA G (lb 12) 17 trf, cA G (lb 13) 17 trp, oX3 (a 5) ra sp co da, oX4 (ra 0) rb dc, cA G (rb 1) 4 dk, cA G (rb 2) 12 dn, oX1 (a 6) ga rc, cA G (ga 1) 8 r1, cA G (ga 2) 8 r2, cA G (ga 3) 8 r3, oX6 hm am lf cn mra mrm mP mS mD mQ mal mrw rc tr, cA G (am 2) 4 km, cA G (am 3) 12 nm, cA G (am 6) 4 rk, cA G (am 7) 12 rn, cJ G (am 13) 8 vP, cJ G (am 14) 8 vS, cJ G (am 15) 8 vD, cJ G (am 16) 8 vQ, cA G (am 17) 12 ht, cA G (am 18) 17 wA, cA G (am 19) 17 fA, cA G (am 22) 8 r1, cA G (am 23) 8 r2, cA G (am 24) 8 r3, cA G (am 25) 4 sz, cA G (am 26) 4 ln, cA G (am 27) 240 ce, cA G (am 28) 60 hd]) (As := [.int (iI y1), .int (iI y2), .int (iI y3), .int (iI y4), .int (iI y5)]) (rest := []) (m_X5_copy_ns l D G (h := h) (a := a) (tr := tr) (lf := lf) (qf := (qfS st)) (sa := x.1) (sz := sz) (ln := ln) (kk := y1) (ii := y2) (oo := y3) (jj := y4) (nn := y5) (by first | assumption | omega) (by first | assumption | omega) (by first | assumption | omega) (by first | assumption | omega) (by first | assumption | omega) (by first | assumption | omega) (by first | assumption | omega) (by first | assumption | omega) (by first | assumption | omega)) (cwV 5 C.1.2.2.2.2 gL_law_X5_copy rfl rfl rfl (by decide +kernel) ⟨Nat.le_of_ble_eq_true rfl, Nat.le_of_ble_eq_true rfl⟩) [0, 1] [2, 3, 4, 5, 6, 7, 8, 9, 10, 11, 12, 13, 14, 15, 16, 17, 18, 19, 20, 21, 22, 23, 24, 25, 26, 27, 28, 29, 30, 31, 32, 33, 34, 35, 36, 37, 38, 39, 40, 41, 42, 43, 44, 45, 46, 47, 48, 49, 50, 51, 52, 53, 54, 55, 56, 57, 58] rfl rfl (by decide) (by decide) (by decide) 0 rfl rfl rfl hl.1 _ rfl (Nat.le_of_ble_eq_true rfl) dL_law_1063 ⟨by show _ ≤ 600000; omega, by show _ ≤ 7302250; omega⟩ ?_
  clear hw
  rintro _ _ H locs ⟨rfl, rfl⟩ hw
  have hw : gW D A s.heap ([oX4 (a 1) ta cn, cA G (ta 1) 4 kd, cA G (ta 2) 12 nu, oX0 (a 2) la cn ul rw, cA G (la 1) 12 ex, cA G (la 2) 4 rt, cA G (la 3) 8 mi, cA G (la 4) 8 si, cA G (la 5) 8 un, cA G (la 6) 8 be, cA G (la 8) 8 ka, cA G (la 9) 8 br, cA G (la 11) 17 rs, cA G (la 12) 17 rf, cA G (la 13) 17 rp, oX4 (a 3) tb tc, cA G (tb 1) 4 kt, cA G (tb 2) 12 nt, oX0 (a 4) lb xc xu xw, cA G (lb 1) 12 tex, cA G (lb 2) 4 trt, cA G (lb 3) 8 tmi, cA G (lb 4) 8 tsi, cA G (lb 5) 8 tun, cA G (lb 6) 8 tbe, cA G (lb 8) 8 tka, cA G (lb 9) 8 tbr, cA G (lb 11) 17 trs, cA G (lb 12) 17 trf, cA G (lb 13) 17 trp, oX3 (a 5) ra sp co da, oX4 (ra 0) rb dc, cA G (rb 1) 4 dk, cA G (rb 2) 12 dn, oX1 (a 6) ga rc, cA G (ga 1) 8 r1, cA G (ga 2) 8 r2, cA G (ga 3) 8 r3, oX6 hm am lf cn mra mrm mP mS mD mQ mal mrw rc tr, cA G (am 2) 4 km, cA G (am 3) 12 nm, cA G (am 6) 4 rk, cA G (am 7) 12 rn, cJ G (am 13) 8 vP, cJ G (am 14) 8 vS, cJ G (am 15) 8 vD, cJ G (am 16) 8 vQ, cA G (am 17) 12 ht, cA G (am 18) 17 wA, cA G (am 19) 17 fA, cA G (am 22) 8 r1, cA G (am 23) 8 r2, cA G (am 24) 8 r3, cA G (am 25) 4 sz, cA G (am 26) 4 ln, cA G (am 27) 240 ce, cA G (am 28) 60 hd, oX5 h a tr (F_cpy sz ln y1 y2 y3 y4 y5), cQ G (a 0) 4 (qfS st)] ++ shW G st) H locs := hw
  refine g_aload_n C hl 2 rfl rfl dL_law_1066 ?_
  refine g_aload_n C hl 0 rfl rfl dL_law_1067 ?_
  refine g_iload_n C hl 3 rfl rfl dL_law_1068 ?_
  refine g_iconst C dL_law_1069 ?_
  refine g_iadd C dL_law_1070 ?_
  refine g_sld C hw hX hbl hbA (by omega) hL dL_law_1071 ?_
  refine g_nI (show ((xs (ii + 1).toNat).toInt : Int) = y1 by exact hy1.symm) ?_
  refine g_aload_n C hl 0 rfl rfl dL_law_1072 ?_
  refine g_iload_n C hl 3 rfl rfl dL_law_1073 ?_
  refine g_iconst C dL_law_1074 ?_
  refine g_iadd C dL_law_1075 ?_
  refine g_sld C hw hX hbl hbA (by omega) hL dL_law_1076 ?_
  refine g_nI (show ((xs (ii + 2).toNat).toInt : Int) = y2 by exact hy2.symm) ?_
  refine g_aload_n C hl 0 rfl rfl dL_law_1077 ?_
  refine g_iload_n C hl 3 rfl rfl dL_law_1078 ?_
  refine g_iconst C dL_law_1079 ?_
  refine g_iadd C dL_law_1080 ?_
  refine g_sld C hw hX hbl hbA (by omega) hL dL_law_1081 ?_
  refine g_nI (show ((xs (ii + 3).toNat).toInt : Int) = y3 by exact hy3.symm) ?_
  refine g_aload_n C hl 0 rfl rfl dL_law_1082 ?_
  refine g_iload_n C hl 3 rfl rfl dL_law_1083 ?_
  refine g_iconst C dL_law_1084 ?_
  refine g_iadd C dL_law_1085 ?_
  refine g_sld C hw hX hbl hbA (by omega) hL dL_law_1086 ?_
  refine g_nI (show ((xs (ii + 4).toNat).toInt : Int) = y4 by exact hy4.symm) ?_
  refine g_aload_n C hl 0 rfl rfl dL_law_1087 ?_
  refine g_iload_n C hl 3 rfl rfl dL_law_1088 ?_
  refine g_iconst C dL_law_1089 ?_
  refine g_iadd C dL_law_1090 ?_
  refine g_sld C hw hX hbl hbA (by omega) hL dL_law_1091 ?_
  refine g_nI (show ((xs (ii + 5).toNat).toInt : Int) = y5 by exact hy5.symm) ?_
  refine g_callVTi C hw (wr := [oX4 (a 1) ta cn, cA G (ta 1) 4 kd, cA G (ta 2) 12 nu, oX0 (a 2) la cn ul rw, cA G (la 1) 12 ex, cA G (la 2) 4 rt, cA G (la 3) 8 mi, cA G (la 4) 8 si, cA G (la 5) 8 un, cA G (la 6) 8 be, cA G (la 8) 8 ka, cA G (la 9) 8 br, cA G (la 11) 17 rs, cA G (la 12) 17 rf, cA G (la 13) 17 rp, oX4 (a 3) tb tc, cA G (tb 1) 4 kt, cA G (tb 2) 12 nt, oX0 (a 4) lb xc xu xw, cA G (lb 1) 12 tex, cA G (lb 2) 4 trt, cA G (lb 3) 8 tmi, cA G (lb 4) 8 tsi, cA G (lb 5) 8 tun, cA G (lb 6) 8 tbe, cA G (lb 8) 8 tka, cA G (lb 9) 8 tbr, cA G (lb 11) 17 trs, cA G (lb 12) 17 trf, cA G (lb 13) 17 trp, oX3 (a 5) ra sp co da, oX4 (ra 0) rb dc, cA G (rb 1) 4 dk, cA G (rb 2) 12 dn, oX1 (a 6) ga rc, cA G (ga 1) 8 r1, cA G (ga 2) 8 r2, cA G (ga 3) 8 r3, cA G (am 2) 4 km, cA G (am 3) 12 nm, cA G (am 6) 4 rk, cA G (am 7) 12 rn, cJ G (am 13) 8 vP, cJ G (am 14) 8 vS, cJ G (am 15) 8 vD, cJ G (am 16) 8 vQ, cA G (am 17) 12 ht, cA G (am 18) 17 wA, cA G (am 19) 17 fA, cA G (am 22) 8 r1, cA G (am 23) 8 r2, cA G (am 24) 8 r3, oX5 h a tr (F_cpy sz ln y1 y2 y3 y4 y5), cQ G (a 0) 4 (qfS st)]) (As := [.int (iI y1), .int (iI y2), .int (iI y3), .int (iI y4), .int (iI y5)]) (rest := [.int (iI ((R_cpy sz ln y1 y2 y3 y4 y5)))]) (m_X6_copy l D G (h := hm) (a := am) (ft := lf) (pn := cn) (ra := mra) (rm := mrm) (rP := mP) (rS := mS) (rD := mD) (rQ := mQ) (al := mal) (rw := mrw) (rc := rc) (tr := tr) (sz := sz) (ln := ln) (ce := ce) (hd := hd) (kk := y1) (ii := y2) (oo := y3) (jj := y4) (nn := y5) (by first | assumption | omega) (by first | assumption | omega) (by first | assumption | omega) (by first | assumption | omega) (by first | assumption | omega) (by first | assumption | omega)) (cwV 5 C.1.2.2.2.2 gL_law_X6_copy rfl rfl rfl (by decide +kernel) ⟨Nat.le_of_ble_eq_true rfl, Nat.le_of_ble_eq_true rfl⟩) [38, 53, 54, 55, 56] [0, 1, 2, 3, 4, 5, 6, 7, 8, 9, 10, 11, 12, 13, 14, 15, 16, 17, 18, 19, 20, 21, 22, 23, 24, 25, 26, 27, 28, 29, 30, 31, 32, 33, 34, 35, 36, 37, 39, 40, 41, 42, 43, 44, 45, 46, 47, 48, 49, 50, 51, 52, 57, 58] rfl rfl (by decide) (by decide) (by decide) 0 rfl rfl rfl hl.1 _ rfl (Nat.le_of_ble_eq_true rfl) dL_law_1092 ⟨by show _ ≤ 600000; omega, by show _ ≤ 7302250; omega⟩ ?_
  clear hw
  rintro _ _ H locs ⟨ceM, hd2__1, rfl, rfl, hp_2⟩ hw
  have hw : gW D A s.heap ([oX4 (a 1) ta cn, cA G (ta 1) 4 kd, cA G (ta 2) 12 nu, oX0 (a 2) la cn ul rw, cA G (la 1) 12 ex, cA G (la 2) 4 rt, cA G (la 3) 8 mi, cA G (la 4) 8 si, cA G (la 5) 8 un, cA G (la 6) 8 be, cA G (la 8) 8 ka, cA G (la 9) 8 br, cA G (la 11) 17 rs, cA G (la 12) 17 rf, cA G (la 13) 17 rp, oX4 (a 3) tb tc, cA G (tb 1) 4 kt, cA G (tb 2) 12 nt, oX0 (a 4) lb xc xu xw, cA G (lb 1) 12 tex, cA G (lb 2) 4 trt, cA G (lb 3) 8 tmi, cA G (lb 4) 8 tsi, cA G (lb 5) 8 tun, cA G (lb 6) 8 tbe, cA G (lb 8) 8 tka, cA G (lb 9) 8 tbr, cA G (lb 11) 17 trs, cA G (lb 12) 17 trf, cA G (lb 13) 17 trp, oX3 (a 5) ra sp co da, oX4 (ra 0) rb dc, cA G (rb 1) 4 dk, cA G (rb 2) 12 dn, oX1 (a 6) ga rc, cA G (ga 1) 8 r1, cA G (ga 2) 8 r2, cA G (ga 3) 8 r3, cA G (am 2) 4 km, cA G (am 3) 12 nm, cA G (am 6) 4 rk, cA G (am 7) 12 rn, cJ G (am 13) 8 vP, cJ G (am 14) 8 vS, cJ G (am 15) 8 vD, cJ G (am 16) 8 vQ, cA G (am 17) 12 ht, cA G (am 18) 17 wA, cA G (am 19) 17 fA, cA G (am 22) 8 r1, cA G (am 23) 8 r2, cA G (am 24) 8 r3, oX5 h a tr (F_cpy sz ln y1 y2 y3 y4 y5), cQ G (a 0) 4 (qfS st), oX6 hm am (F_cpy sz ln y1 y2 y3 y4 y5) cn mra mrm mP mS mD mQ mal mrw rc tr, cA G (am 25) 4 sz, cA G (am 26) 4 ln, cA G (am 27) 240 ceM, cA G (am 28) 60 hd2__1] ++ shW G st) H locs := hw
  have hp_2 : ceM = if ((0 ≤ y1 ∧ y1 ≤ 3) ∧ (0 ≤ y3 ∧ y3 ≤ 3)) ∧ C_cpy sz ln y1 y2 y3 y4 y5 = 0 then mvF (fun x => ce (60 * y1 + y2 + x)) ce (60 * y3 + y4) y5 else ce := hp_2
  have hq2 := hp_2
  refine g_icmpS C (show ((iI ((R_cpy sz ln y1 y2 y3 y4 y5))) : Int32) = (iI ((R_cpy sz ln y1 y2 y3 y4 y5))) by rfl) 1228 dL_law_1095 (by decide) ?_
  have hw : gW D A s.heap ([oX5 h a tr (F_cpy sz ln y1 y2 y3 y4 y5), cQ G (a 0) 4 (qfS st), oX4 (a 1) ta cn, cA G (ta 1) 4 kd, cA G (ta 2) 12 nu, oX0 (a 2) la cn ul rw, cA G (la 1) 12 ex, cA G (la 2) 4 rt, cA G (la 3) 8 mi, cA G (la 4) 8 si, cA G (la 5) 8 un, cA G (la 6) 8 be, cA G (la 8) 8 ka, cA G (la 9) 8 br, cA G (la 11) 17 rs, cA G (la 12) 17 rf, cA G (la 13) 17 rp, oX4 (a 3) tb tc, cA G (tb 1) 4 kt, cA G (tb 2) 12 nt, oX0 (a 4) lb xc xu xw, cA G (lb 1) 12 tex, cA G (lb 2) 4 trt, cA G (lb 3) 8 tmi, cA G (lb 4) 8 tsi, cA G (lb 5) 8 tun, cA G (lb 6) 8 tbe, cA G (lb 8) 8 tka, cA G (lb 9) 8 tbr, cA G (lb 11) 17 trs, cA G (lb 12) 17 trf, cA G (lb 13) 17 trp, oX3 (a 5) ra sp co da, oX4 (ra 0) rb dc, cA G (rb 1) 4 dk, cA G (rb 2) 12 dn, oX1 (a 6) ga rc, cA G (ga 1) 8 r1, cA G (ga 2) 8 r2, cA G (ga 3) 8 r3, oX6 hm am (F_cpy sz ln y1 y2 y3 y4 y5) cn mra mrm mP mS mD mQ mal mrw rc tr, cA G (am 2) 4 km, cA G (am 3) 12 nm, cA G (am 6) 4 rk, cA G (am 7) 12 rn, cJ G (am 13) 8 vP, cJ G (am 14) 8 vS, cJ G (am 15) 8 vD, cJ G (am 16) 8 vQ, cA G (am 17) 12 ht, cA G (am 18) 17 wA, cA G (am 19) 17 fA, cA G (am 22) 8 r1, cA G (am 23) 8 r2, cA G (am 24) 8 r3, cA G (am 25) 4 sz, cA G (am 26) 4 ln, cA G (am 27) 240 ceM, cA G (am 28) 60 hd2__1] ++ shW G st) H locs := g_permT hw [52, 53, 0, 1, 2, 3, 4, 5, 6, 7, 8, 9, 10, 11, 12, 13, 14, 15, 16, 17, 18, 19, 20, 21, 22, 23, 24, 25, 26, 27, 28, 29, 30, 31, 32, 33, 34, 35, 36, 37, 54, 38, 39, 40, 41, 42, 43, 44, 45, 46, 47, 48, 49, 50, 51, 55, 56, 57, 58] (by decide) rfl
  have hne : ¬ (((0 ≤ y1 ∧ y1 ≤ 3) ∧ (0 ≤ y3 ∧ y3 ≤ 3)) ∧ C_cpy sz ln y1 y2 y3 y4 y5 = 0) := by
    intro q
    have q2 := q.2
    unfold C_cpy at q2
    rw [if_pos (by omega)] at q2
    omega
  rw [if_neg hne] at hq2
  rw [hq2] at hw
  refine W.widen (k := cells + 2) (n := slots + 62) (by omega) (by omega) ?_
  refine hback st tr (F_cpy sz ln y1 y2 y3 y4 y5) cn ul rw tc xc xu xw sp co da dc rc mra mrm mP mS mD mQ mal mrw kd nu ex rt mi si un be ka br rs rf rp kt nt tex trt tmi tsi tun tbe tka tbr trs trf trp dk dn r1 r2 r3 km nm rk rn vP vS vD vQ ht wA fA sz ln ce hd2__1 ⟨by first | assumption | (simp only [*]; done), by first | assumption | (simp only [*]; done), by first | assumption | (simp only [*]; done), by first | assumption | (simp only [*]; done), by first | assumption | (simp only [*]; done), by first | assumption | (simp only [*]; done), by first | assumption | (simp only [*]; done), by first | assumption | (simp only [*]; done), by first | assumption | (simp only [*]; done), by first | assumption | (simp only [*]; done), by first | assumption | (simp only [*]; done), by first | assumption | (simp only [*]; done), by first | assumption | (simp only [*]; done), by first | assumption | (simp only [*]; done), by first | assumption | (simp only [*]; done), by first | assumption | (simp only [*]; done), by first | assumption | (simp only [*]; done), by first | assumption | (simp only [*]; done), by first | assumption | (simp only [*]; done), by first | assumption | (simp only [*]; done), by first | assumption | (simp only [*]; done)⟩ H locs ls ?_ (lv_sub hl [0, 1, 2, 3] rfl)
  exact hw

set_option maxRecDepth 100000 in
set_option maxHeartbeats 8000000 in
theorem lw_copy_sn {p : Program} (l : Launch) {e : Env} {s : State} {m : MethodId} {args : Array Value} {below : List Frame} {meth : Method} {c : Code} (D : va_G) (G : gT) {A : Nat → Prop} {Q : State → Prop} {b L : Nat} {xs : Nat → Int32} (h hm : Nat) (a ta la tb lb ra rb ga am : Nat → Nat) (ii : Int) {cells slots : Nat} (st : Nat → Option shE) (tr : Int) (lf : Int) (cn : Int) (ul : Int) (rw : Int) (tc : Int) (xc : Int) (xu : Int) (xw : Int) (sp : Int) (co : Int) (da : Int) (dc : Int) (rc : Int) (mra : Int) (mrm : Int) (mP : Int) (mS : Int) (mD : Int) (mQ : Int) (mal : Int) (mrw : Int) (kd : Int → Int) (nu : Int → Int) (ex : Int → Int) (rt : Int → Int) (mi : Int → Int) (si : Int → Int) (un : Int → Int) (be : Int → Int) (ka : Int → Int) (br : Int → Int) (rs : Int → Int) (rf : Int → Int) (rp : Int → Int) (kt : Int → Int) (nt : Int → Int) (tex : Int → Int) (trt : Int → Int) (tmi : Int → Int) (tsi : Int → Int) (tun : Int → Int) (tbe : Int → Int) (tka : Int → Int) (tbr : Int → Int) (trs : Int → Int) (trf : Int → Int) (trp : Int → Int) (dk : Int → Int) (dn : Int → Int) (r1 : Int → Int) (r2 : Int → Int) (r3 : Int → Int) (km : Int → Int) (nm : Int → Int) (rk : Int → Int) (rn : Int → Int) (vP : Int → Int) (vS : Int → Int) (vD : Int → Int) (vQ : Int → Int) (ht : Int → Int) (wA : Int → Int) (fA : Int → Int) (sz : Int → Int) (ln : Int → Int) (ce : Int → Int) (hd : Int → Int) (y1 : Int) (y3 : Int) (x : shE) (C : gC D G wsL_law RL cL_law 4 p s m args meth c) (hX : va_X b L xs s s.heap) (hbl : b < s.heap.size) (hbA : ¬ A b) (hL : L ≤ 3072) (hii : 0 ≤ ii ∧ ii + 6 ≤ L) (hck : cells + 2 ≤ 600000 ∧ slots + 62 ≤ 7302250) (hinv : lwI st tr lf cn ul rw tc xc xu xw sp co da dc rc mra mrm mP mS mD mQ mal mrw kd nu ex rt mi si un be ka br rs rf rp kt nt tex trt tmi tsi tun tbe tka tbr trs trf trp dk dn r1 r2 r3 km nm rk rn vP vS vD vQ ht wA fA sz ln ce hd) (hy1 : y1 = (xs (ii + 1).toNat).toInt) (hy3 : y3 = (xs (ii + 3).toNat).toInt) (hk33 : (0 ≤ y1 ∧ y1 ≤ 3) ∧ 0 ≤ y3 ∧ y3 ≤ 3) (hn0 : st y3.toNat = none) (hx0 : st y1.toNat = some x) {H : Heap} {locs : List Loc} {ls : Array Slot} (hw : gW D A s.heap ([oX5 h a tr lf, cQ G (a 0) 4 (qfS st), oX4 (a 1) ta cn, cA G (ta 1) 4 kd, cA G (ta 2) 12 nu, oX0 (a 2) la cn ul rw, cA G (la 1) 12 ex, cA G (la 2) 4 rt, cA G (la 3) 8 mi, cA G (la 4) 8 si, cA G (la 5) 8 un, cA G (la 6) 8 be, cA G (la 8) 8 ka, cA G (la 9) 8 br, cA G (la 11) 17 rs, cA G (la 12) 17 rf, cA G (la 13) 17 rp, oX4 (a 3) tb tc, cA G (tb 1) 4 kt, cA G (tb 2) 12 nt, oX0 (a 4) lb xc xu xw, cA G (lb 1) 12 tex, cA G (lb 2) 4 trt, cA G (lb 3) 8 tmi, cA G (lb 4) 8 tsi, cA G (lb 5) 8 tun, cA G (lb 6) 8 tbe, cA G (lb 8) 8 tka, cA G (lb 9) 8 tbr, cA G (lb 11) 17 trs, cA G (lb 12) 17 trf, cA G (lb 13) 17 trp, oX3 (a 5) ra sp co da, oX4 (ra 0) rb dc, cA G (rb 1) 4 dk, cA G (rb 2) 12 dn, oX1 (a 6) ga rc, cA G (ga 1) 8 r1, cA G (ga 2) 8 r2, cA G (ga 3) 8 r3, oX6 hm am lf cn mra mrm mP mS mD mQ mal mrw rc tr, cA G (am 2) 4 km, cA G (am 3) 12 nm, cA G (am 6) 4 rk, cA G (am 7) 12 rn, cJ G (am 13) 8 vP, cJ G (am 14) 8 vS, cJ G (am 15) 8 vD, cJ G (am 16) 8 vQ, cA G (am 17) 12 ht, cA G (am 18) 17 wA, cA G (am 19) 17 fA, cA G (am 22) 8 r1, cA G (am 23) 8 r2, cA G (am 24) 8 r3, cA G (am 25) 4 sz, cA G (am 26) 4 ln, cA G (am 27) 240 ce, cA G (am 28) 60 hd] ++ shW G st) H locs) (hl : lv_has ls 4 [(0, .ref b), (1, .ref h), (2, .ref hm), (3, .int (iI ii))]) (hback : lwB p l e s m args below meth c D G A Q b h hm a ta la tb lb ra rb ga am ii (cells + 2) (slots + 62)) : W p l e room_1 s m args below meth c H locs cells slots Q (F0 m 1037 ls []) := by
  obtain ⟨hcn, hkd, hnu, hXx, hT, hZ, hB, hub, hkt, hnt, hdk, hdn, hrd, hkm, hnm, hek, hen, hrk, hrn, hsh, hsr⟩ := hinv
  obtain ⟨y2, hy2⟩ : ∃ y : Int, y = (xs (ii + 2).toNat).toInt := ⟨_, rfl⟩
  obtain ⟨y4, hy4⟩ : ∃ y : Int, y = (xs (ii + 4).toNat).toInt := ⟨_, rfl⟩
  obtain ⟨y5, hy5⟩ : ∃ y : Int, y = (xs (ii + 5).toNat).toInt := ⟨_, rfl⟩
  have hr1 : -2147483648 ≤ y1 ∧ y1 ≤ 2147483647 := by rw [hy1]; exact iI_rg _
  have hr2 : -2147483648 ≤ y2 ∧ y2 ≤ 2147483647 := by rw [hy2]; exact iI_rg _
  have hr3 : -2147483648 ≤ y3 ∧ y3 ≤ 2147483647 := by rw [hy3]; exact iI_rg _
  have hr4 : -2147483648 ≤ y4 ∧ y4 ≤ 2147483647 := by rw [hy4]; exact iI_rg _
  have hr5 : -2147483648 ≤ y5 ∧ y5 ≤ 2147483647 := by rw [hy5]; exact iI_rg _
  have hE : EB (exT cn kd nu) := exT_B cn kd hnu
  have hEM : exT cn km nm = (exT cn kd nu) := exT_cg hek hen
  have hKA := hasB_L hB
  have hul : ul = ((ALn (exT cn kd nu) cn.toNat).length : Int) := by rw [hub, ALb_len]
  have hrc9 : 0 ≤ rc ∧ rc ≤ 8 := hrd.1
  have hsk : sz y3 = -1 := by
    have q := (hsr y3.toNat (by omega)).1 hn0
    rw [show ((y3.toNat : Nat) : Int) = y3 by omega] at q
    exact q
  have hqf : qfS st y3.toNat = none := by unfold qfS; rw [hn0]; rfl
  have hqg : qfS st y1.toNat = some x.1 := by unfold qfS; rw [hx0]; rfl
  obtain ⟨hsz, hln, hcr⟩ := id hsh
  refine g_aload_n C hl 1 rfl rfl dL_law_1037 ?_
  refine g_aload_n C hl 0 rfl rfl dL_law_1038 ?_
  refine g_iload_n C hl 3 rfl rfl dL_law_1039 ?_
  refine g_iconst C dL_law_1040 ?_
  refine g_iadd C dL_law_1041 ?_
  refine g_sld C hw hX hbl hbA (by omega) hL dL_law_1042 ?_
  refine g_nI (show ((xs (ii + 1).toNat).toInt : Int) = y1 by exact hy1.symm) ?_
  refine g_aload_n C hl 0 rfl rfl dL_law_1043 ?_
  refine g_iload_n C hl 3 rfl rfl dL_law_1044 ?_
  refine g_iconst C dL_law_1045 ?_
  refine g_iadd C dL_law_1046 ?_
  refine g_sld C hw hX hbl hbA (by omega) hL dL_law_1047 ?_
  refine g_nI (show ((xs (ii + 2).toNat).toInt : Int) = y2 by exact hy2.symm) ?_
  refine g_aload_n C hl 0 rfl rfl dL_law_1048 ?_
  refine g_iload_n C hl 3 rfl rfl dL_law_1049 ?_
  refine g_iconst C dL_law_1050 ?_
  refine g_iadd C dL_law_1051 ?_
  refine g_sld C hw hX hbl hbA (by omega) hL dL_law_1052 ?_
  refine g_nI (show ((xs (ii + 3).toNat).toInt : Int) = y3 by exact hy3.symm) ?_
  refine g_aload_n C hl 0 rfl rfl dL_law_1053 ?_
  refine g_iload_n C hl 3 rfl rfl dL_law_1054 ?_
  refine g_iconst C dL_law_1055 ?_
  refine g_iadd C dL_law_1056 ?_
  refine g_sld C hw hX hbl hbA (by omega) hL dL_law_1057 ?_
  refine g_nI (show ((xs (ii + 4).toNat).toInt : Int) = y4 by exact hy4.symm) ?_
  refine g_aload_n C hl 0 rfl rfl dL_law_1058 ?_
  refine g_iload_n C hl 3 rfl rfl dL_law_1059 ?_
  refine g_iconst C dL_law_1060 ?_
  refine g_iadd C dL_law_1061 ?_
  refine g_sld C hw hX hbl hbA (by omega) hL dL_law_1062 ?_
  refine g_nI (show ((xs (ii + 5).toNat).toInt : Int) = y5 by exact hy5.symm) ?_
  refine g_callVTi C hw (wr := [oX4 (a 1) ta cn, cA G (ta 1) 4 kd, cA G (ta 2) 12 nu, oX0 (a 2) la cn ul rw, cA G (la 1) 12 ex, cA G (la 2) 4 rt, cA G (la 3) 8 mi, cA G (la 4) 8 si, cA G (la 5) 8 un, cA G (la 6) 8 be, cA G (la 8) 8 ka, cA G (la 9) 8 br, cA G (la 11) 17 rs, cA G (la 12) 17 rf, cA G (la 13) 17 rp, oX4 (a 3) tb tc, cA G (tb 1) 4 kt, cA G (tb 2) 12 nt, oX0 (a 4) lb xc xu xw, cA G (lb 1) 12 tex, cA G (lb 2) 4 trt, cA G (lb 3) 8 tmi, cA G (lb 4) 8 tsi, cA G (lb 5) 8 tun, cA G (lb 6) 8 tbe, cA G (lb 8) 8 tka, cA G (lb 9) 8 tbr, cA G (lb 11) 17 trs, cA G (lb 12) 17 trf, cA G (lb 13) 17 trp, oX3 (a 5) ra sp co da, oX4 (ra 0) rb dc, cA G (rb 1) 4 dk, cA G (rb 2) 12 dn, oX1 (a 6) ga rc, cA G (ga 1) 8 r1, cA G (ga 2) 8 r2, cA G (ga 3) 8 r3, oX6 hm am lf cn mra mrm mP mS mD mQ mal mrw rc tr, cA G (am 2) 4 km, cA G (am 3) 12 nm, cA G (am 6) 4 rk, cA G (am 7) 12 rn, cJ G (am 13) 8 vP, cJ G (am 14) 8 vS, cJ G (am 15) 8 vD, cJ G (am 16) 8 vQ, cA G (am 17) 12 ht, cA G (am 18) 17 wA, cA G (am 19) 17 fA, cA G (am 22) 8 r1, cA G (am 23) 8 r2, cA G (am 24) 8 r3, cA G (am 25) 4 sz, cA G (am 26) 4 ln, cA G (am 27) 240 ce, cA G (am 28) 60 hd]) (As := [.int (iI y1), .int (iI y2), .int (iI y3), .int (iI y4), .int (iI y5)]) (rest := []) (m_X5_copy_sn l D G (h := h) (a := a) (tr := tr) (lf := lf) (qf := (qfS st)) (sa := x.1) (sz := sz) (ln := ln) (kk := y1) (ii := y2) (oo := y3) (jj := y4) (nn := y5) (by first | assumption | omega) (by first | assumption | omega) (by first | assumption | omega) (by first | assumption | omega) (by first | assumption | omega) (by first | assumption | omega) (by first | assumption | omega) (by first | assumption | omega) (by first | assumption | omega)) (cwV 5 C.1.2.2.2.2 gL_law_X5_copy rfl rfl rfl (by decide +kernel) ⟨Nat.le_of_ble_eq_true rfl, Nat.le_of_ble_eq_true rfl⟩) [0, 1] [2, 3, 4, 5, 6, 7, 8, 9, 10, 11, 12, 13, 14, 15, 16, 17, 18, 19, 20, 21, 22, 23, 24, 25, 26, 27, 28, 29, 30, 31, 32, 33, 34, 35, 36, 37, 38, 39, 40, 41, 42, 43, 44, 45, 46, 47, 48, 49, 50, 51, 52, 53, 54, 55, 56, 57, 58] rfl rfl (by decide) (by decide) (by decide) 0 rfl rfl rfl hl.1 _ rfl (Nat.le_of_ble_eq_true rfl) dL_law_1063 ⟨by show _ ≤ 600000; omega, by show _ ≤ 7302250; omega⟩ ?_
  clear hw
  rintro _ _ H locs ⟨rfl, rfl⟩ hw
  have hw : gW D A s.heap ([oX4 (a 1) ta cn, cA G (ta 1) 4 kd, cA G (ta 2) 12 nu, oX0 (a 2) la cn ul rw, cA G (la 1) 12 ex, cA G (la 2) 4 rt, cA G (la 3) 8 mi, cA G (la 4) 8 si, cA G (la 5) 8 un, cA G (la 6) 8 be, cA G (la 8) 8 ka, cA G (la 9) 8 br, cA G (la 11) 17 rs, cA G (la 12) 17 rf, cA G (la 13) 17 rp, oX4 (a 3) tb tc, cA G (tb 1) 4 kt, cA G (tb 2) 12 nt, oX0 (a 4) lb xc xu xw, cA G (lb 1) 12 tex, cA G (lb 2) 4 trt, cA G (lb 3) 8 tmi, cA G (lb 4) 8 tsi, cA G (lb 5) 8 tun, cA G (lb 6) 8 tbe, cA G (lb 8) 8 tka, cA G (lb 9) 8 tbr, cA G (lb 11) 17 trs, cA G (lb 12) 17 trf, cA G (lb 13) 17 trp, oX3 (a 5) ra sp co da, oX4 (ra 0) rb dc, cA G (rb 1) 4 dk, cA G (rb 2) 12 dn, oX1 (a 6) ga rc, cA G (ga 1) 8 r1, cA G (ga 2) 8 r2, cA G (ga 3) 8 r3, oX6 hm am lf cn mra mrm mP mS mD mQ mal mrw rc tr, cA G (am 2) 4 km, cA G (am 3) 12 nm, cA G (am 6) 4 rk, cA G (am 7) 12 rn, cJ G (am 13) 8 vP, cJ G (am 14) 8 vS, cJ G (am 15) 8 vD, cJ G (am 16) 8 vQ, cA G (am 17) 12 ht, cA G (am 18) 17 wA, cA G (am 19) 17 fA, cA G (am 22) 8 r1, cA G (am 23) 8 r2, cA G (am 24) 8 r3, cA G (am 25) 4 sz, cA G (am 26) 4 ln, cA G (am 27) 240 ce, cA G (am 28) 60 hd, oX5 h a tr (F_cpy sz ln y1 y2 y3 y4 y5), cQ G (a 0) 4 (qfS st)] ++ shW G st) H locs := hw
  refine g_aload_n C hl 2 rfl rfl dL_law_1066 ?_
  refine g_aload_n C hl 0 rfl rfl dL_law_1067 ?_
  refine g_iload_n C hl 3 rfl rfl dL_law_1068 ?_
  refine g_iconst C dL_law_1069 ?_
  refine g_iadd C dL_law_1070 ?_
  refine g_sld C hw hX hbl hbA (by omega) hL dL_law_1071 ?_
  refine g_nI (show ((xs (ii + 1).toNat).toInt : Int) = y1 by exact hy1.symm) ?_
  refine g_aload_n C hl 0 rfl rfl dL_law_1072 ?_
  refine g_iload_n C hl 3 rfl rfl dL_law_1073 ?_
  refine g_iconst C dL_law_1074 ?_
  refine g_iadd C dL_law_1075 ?_
  refine g_sld C hw hX hbl hbA (by omega) hL dL_law_1076 ?_
  refine g_nI (show ((xs (ii + 2).toNat).toInt : Int) = y2 by exact hy2.symm) ?_
  refine g_aload_n C hl 0 rfl rfl dL_law_1077 ?_
  refine g_iload_n C hl 3 rfl rfl dL_law_1078 ?_
  refine g_iconst C dL_law_1079 ?_
  refine g_iadd C dL_law_1080 ?_
  refine g_sld C hw hX hbl hbA (by omega) hL dL_law_1081 ?_
  refine g_nI (show ((xs (ii + 3).toNat).toInt : Int) = y3 by exact hy3.symm) ?_
  refine g_aload_n C hl 0 rfl rfl dL_law_1082 ?_
  refine g_iload_n C hl 3 rfl rfl dL_law_1083 ?_
  refine g_iconst C dL_law_1084 ?_
  refine g_iadd C dL_law_1085 ?_
  refine g_sld C hw hX hbl hbA (by omega) hL dL_law_1086 ?_
  refine g_nI (show ((xs (ii + 4).toNat).toInt : Int) = y4 by exact hy4.symm) ?_
  refine g_aload_n C hl 0 rfl rfl dL_law_1087 ?_
  refine g_iload_n C hl 3 rfl rfl dL_law_1088 ?_
  refine g_iconst C dL_law_1089 ?_
  refine g_iadd C dL_law_1090 ?_
  refine g_sld C hw hX hbl hbA (by omega) hL dL_law_1091 ?_
  refine g_nI (show ((xs (ii + 5).toNat).toInt : Int) = y5 by exact hy5.symm) ?_
  refine g_callVTi C hw (wr := [oX4 (a 1) ta cn, cA G (ta 1) 4 kd, cA G (ta 2) 12 nu, oX0 (a 2) la cn ul rw, cA G (la 1) 12 ex, cA G (la 2) 4 rt, cA G (la 3) 8 mi, cA G (la 4) 8 si, cA G (la 5) 8 un, cA G (la 6) 8 be, cA G (la 8) 8 ka, cA G (la 9) 8 br, cA G (la 11) 17 rs, cA G (la 12) 17 rf, cA G (la 13) 17 rp, oX4 (a 3) tb tc, cA G (tb 1) 4 kt, cA G (tb 2) 12 nt, oX0 (a 4) lb xc xu xw, cA G (lb 1) 12 tex, cA G (lb 2) 4 trt, cA G (lb 3) 8 tmi, cA G (lb 4) 8 tsi, cA G (lb 5) 8 tun, cA G (lb 6) 8 tbe, cA G (lb 8) 8 tka, cA G (lb 9) 8 tbr, cA G (lb 11) 17 trs, cA G (lb 12) 17 trf, cA G (lb 13) 17 trp, oX3 (a 5) ra sp co da, oX4 (ra 0) rb dc, cA G (rb 1) 4 dk, cA G (rb 2) 12 dn, oX1 (a 6) ga rc, cA G (ga 1) 8 r1, cA G (ga 2) 8 r2, cA G (ga 3) 8 r3, cA G (am 2) 4 km, cA G (am 3) 12 nm, cA G (am 6) 4 rk, cA G (am 7) 12 rn, cJ G (am 13) 8 vP, cJ G (am 14) 8 vS, cJ G (am 15) 8 vD, cJ G (am 16) 8 vQ, cA G (am 17) 12 ht, cA G (am 18) 17 wA, cA G (am 19) 17 fA, cA G (am 22) 8 r1, cA G (am 23) 8 r2, cA G (am 24) 8 r3, oX5 h a tr (F_cpy sz ln y1 y2 y3 y4 y5), cQ G (a 0) 4 (qfS st)]) (As := [.int (iI y1), .int (iI y2), .int (iI y3), .int (iI y4), .int (iI y5)]) (rest := [.int (iI ((R_cpy sz ln y1 y2 y3 y4 y5)))]) (m_X6_copy l D G (h := hm) (a := am) (ft := lf) (pn := cn) (ra := mra) (rm := mrm) (rP := mP) (rS := mS) (rD := mD) (rQ := mQ) (al := mal) (rw := mrw) (rc := rc) (tr := tr) (sz := sz) (ln := ln) (ce := ce) (hd := hd) (kk := y1) (ii := y2) (oo := y3) (jj := y4) (nn := y5) (by first | assumption | omega) (by first | assumption | omega) (by first | assumption | omega) (by first | assumption | omega) (by first | assumption | omega) (by first | assumption | omega)) (cwV 5 C.1.2.2.2.2 gL_law_X6_copy rfl rfl rfl (by decide +kernel) ⟨Nat.le_of_ble_eq_true rfl, Nat.le_of_ble_eq_true rfl⟩) [38, 53, 54, 55, 56] [0, 1, 2, 3, 4, 5, 6, 7, 8, 9, 10, 11, 12, 13, 14, 15, 16, 17, 18, 19, 20, 21, 22, 23, 24, 25, 26, 27, 28, 29, 30, 31, 32, 33, 34, 35, 36, 37, 39, 40, 41, 42, 43, 44, 45, 46, 47, 48, 49, 50, 51, 52, 57, 58] rfl rfl (by decide) (by decide) (by decide) 0 rfl rfl rfl hl.1 _ rfl (Nat.le_of_ble_eq_true rfl) dL_law_1092 ⟨by show _ ≤ 600000; omega, by show _ ≤ 7302250; omega⟩ ?_
  clear hw
  rintro _ _ H locs ⟨ceM, hd2__1, rfl, rfl, hp_2⟩ hw
  have hw : gW D A s.heap ([oX4 (a 1) ta cn, cA G (ta 1) 4 kd, cA G (ta 2) 12 nu, oX0 (a 2) la cn ul rw, cA G (la 1) 12 ex, cA G (la 2) 4 rt, cA G (la 3) 8 mi, cA G (la 4) 8 si, cA G (la 5) 8 un, cA G (la 6) 8 be, cA G (la 8) 8 ka, cA G (la 9) 8 br, cA G (la 11) 17 rs, cA G (la 12) 17 rf, cA G (la 13) 17 rp, oX4 (a 3) tb tc, cA G (tb 1) 4 kt, cA G (tb 2) 12 nt, oX0 (a 4) lb xc xu xw, cA G (lb 1) 12 tex, cA G (lb 2) 4 trt, cA G (lb 3) 8 tmi, cA G (lb 4) 8 tsi, cA G (lb 5) 8 tun, cA G (lb 6) 8 tbe, cA G (lb 8) 8 tka, cA G (lb 9) 8 tbr, cA G (lb 11) 17 trs, cA G (lb 12) 17 trf, cA G (lb 13) 17 trp, oX3 (a 5) ra sp co da, oX4 (ra 0) rb dc, cA G (rb 1) 4 dk, cA G (rb 2) 12 dn, oX1 (a 6) ga rc, cA G (ga 1) 8 r1, cA G (ga 2) 8 r2, cA G (ga 3) 8 r3, cA G (am 2) 4 km, cA G (am 3) 12 nm, cA G (am 6) 4 rk, cA G (am 7) 12 rn, cJ G (am 13) 8 vP, cJ G (am 14) 8 vS, cJ G (am 15) 8 vD, cJ G (am 16) 8 vQ, cA G (am 17) 12 ht, cA G (am 18) 17 wA, cA G (am 19) 17 fA, cA G (am 22) 8 r1, cA G (am 23) 8 r2, cA G (am 24) 8 r3, oX5 h a tr (F_cpy sz ln y1 y2 y3 y4 y5), cQ G (a 0) 4 (qfS st), oX6 hm am (F_cpy sz ln y1 y2 y3 y4 y5) cn mra mrm mP mS mD mQ mal mrw rc tr, cA G (am 25) 4 sz, cA G (am 26) 4 ln, cA G (am 27) 240 ceM, cA G (am 28) 60 hd2__1] ++ shW G st) H locs := hw
  have hp_2 : ceM = if ((0 ≤ y1 ∧ y1 ≤ 3) ∧ (0 ≤ y3 ∧ y3 ≤ 3)) ∧ C_cpy sz ln y1 y2 y3 y4 y5 = 0 then mvF (fun x => ce (60 * y1 + y2 + x)) ce (60 * y3 + y4) y5 else ce := hp_2
  have hq2 := hp_2
  refine g_icmpS C (show ((iI ((R_cpy sz ln y1 y2 y3 y4 y5))) : Int32) = (iI ((R_cpy sz ln y1 y2 y3 y4 y5))) by rfl) 1228 dL_law_1095 (by decide) ?_
  have hw : gW D A s.heap ([oX5 h a tr (F_cpy sz ln y1 y2 y3 y4 y5), cQ G (a 0) 4 (qfS st), oX4 (a 1) ta cn, cA G (ta 1) 4 kd, cA G (ta 2) 12 nu, oX0 (a 2) la cn ul rw, cA G (la 1) 12 ex, cA G (la 2) 4 rt, cA G (la 3) 8 mi, cA G (la 4) 8 si, cA G (la 5) 8 un, cA G (la 6) 8 be, cA G (la 8) 8 ka, cA G (la 9) 8 br, cA G (la 11) 17 rs, cA G (la 12) 17 rf, cA G (la 13) 17 rp, oX4 (a 3) tb tc, cA G (tb 1) 4 kt, cA G (tb 2) 12 nt, oX0 (a 4) lb xc xu xw, cA G (lb 1) 12 tex, cA G (lb 2) 4 trt, cA G (lb 3) 8 tmi, cA G (lb 4) 8 tsi, cA G (lb 5) 8 tun, cA G (lb 6) 8 tbe, cA G (lb 8) 8 tka, cA G (lb 9) 8 tbr, cA G (lb 11) 17 trs, cA G (lb 12) 17 trf, cA G (lb 13) 17 trp, oX3 (a 5) ra sp co da, oX4 (ra 0) rb dc, cA G (rb 1) 4 dk, cA G (rb 2) 12 dn, oX1 (a 6) ga rc, cA G (ga 1) 8 r1, cA G (ga 2) 8 r2, cA G (ga 3) 8 r3, oX6 hm am (F_cpy sz ln y1 y2 y3 y4 y5) cn mra mrm mP mS mD mQ mal mrw rc tr, cA G (am 2) 4 km, cA G (am 3) 12 nm, cA G (am 6) 4 rk, cA G (am 7) 12 rn, cJ G (am 13) 8 vP, cJ G (am 14) 8 vS, cJ G (am 15) 8 vD, cJ G (am 16) 8 vQ, cA G (am 17) 12 ht, cA G (am 18) 17 wA, cA G (am 19) 17 fA, cA G (am 22) 8 r1, cA G (am 23) 8 r2, cA G (am 24) 8 r3, cA G (am 25) 4 sz, cA G (am 26) 4 ln, cA G (am 27) 240 ceM, cA G (am 28) 60 hd2__1] ++ shW G st) H locs := g_permT hw [52, 53, 0, 1, 2, 3, 4, 5, 6, 7, 8, 9, 10, 11, 12, 13, 14, 15, 16, 17, 18, 19, 20, 21, 22, 23, 24, 25, 26, 27, 28, 29, 30, 31, 32, 33, 34, 35, 36, 37, 54, 38, 39, 40, 41, 42, 43, 44, 45, 46, 47, 48, 49, 50, 51, 55, 56, 57, 58] (by decide) rfl
  have hne : ¬ (((0 ≤ y1 ∧ y1 ≤ 3) ∧ (0 ≤ y3 ∧ y3 ≤ 3)) ∧ C_cpy sz ln y1 y2 y3 y4 y5 = 0) := by
    intro q
    have q2 := q.2
    unfold C_cpy at q2
    rw [if_pos (by omega)] at q2
    omega
  rw [if_neg hne] at hq2
  rw [hq2] at hw
  refine W.widen (k := cells + 2) (n := slots + 62) (by omega) (by omega) ?_
  refine hback st tr (F_cpy sz ln y1 y2 y3 y4 y5) cn ul rw tc xc xu xw sp co da dc rc mra mrm mP mS mD mQ mal mrw kd nu ex rt mi si un be ka br rs rf rp kt nt tex trt tmi tsi tun tbe tka tbr trs trf trp dk dn r1 r2 r3 km nm rk rn vP vS vD vQ ht wA fA sz ln ce hd2__1 ⟨by first | assumption | (simp only [*]; done), by first | assumption | (simp only [*]; done), by first | assumption | (simp only [*]; done), by first | assumption | (simp only [*]; done), by first | assumption | (simp only [*]; done), by first | assumption | (simp only [*]; done), by first | assumption | (simp only [*]; done), by first | assumption | (simp only [*]; done), by first | assumption | (simp only [*]; done), by first | assumption | (simp only [*]; done), by first | assumption | (simp only [*]; done), by first | assumption | (simp only [*]; done), by first | assumption | (simp only [*]; done), by first | assumption | (simp only [*]; done), by first | assumption | (simp only [*]; done), by first | assumption | (simp only [*]; done), by first | assumption | (simp only [*]; done), by first | assumption | (simp only [*]; done), by first | assumption | (simp only [*]; done), by first | assumption | (simp only [*]; done), by first | assumption | (simp only [*]; done)⟩ H locs ls ?_ (lv_sub hl [0, 1, 2, 3] rfl)
  exact hw

set_option maxRecDepth 100000 in
set_option maxHeartbeats 8000000 in
theorem lw_copy_ss {p : Program} (l : Launch) {e : Env} {s : State} {m : MethodId} {args : Array Value} {below : List Frame} {meth : Method} {c : Code} (D : va_G) (G : gT) {A : Nat → Prop} {Q : State → Prop} {b L : Nat} {xs : Nat → Int32} (h hm : Nat) (a ta la tb lb ra rb ga am : Nat → Nat) (ii : Int) {cells slots : Nat} (st : Nat → Option shE) (tr : Int) (lf : Int) (cn : Int) (ul : Int) (rw : Int) (tc : Int) (xc : Int) (xu : Int) (xw : Int) (sp : Int) (co : Int) (da : Int) (dc : Int) (rc : Int) (mra : Int) (mrm : Int) (mP : Int) (mS : Int) (mD : Int) (mQ : Int) (mal : Int) (mrw : Int) (kd : Int → Int) (nu : Int → Int) (ex : Int → Int) (rt : Int → Int) (mi : Int → Int) (si : Int → Int) (un : Int → Int) (be : Int → Int) (ka : Int → Int) (br : Int → Int) (rs : Int → Int) (rf : Int → Int) (rp : Int → Int) (kt : Int → Int) (nt : Int → Int) (tex : Int → Int) (trt : Int → Int) (tmi : Int → Int) (tsi : Int → Int) (tun : Int → Int) (tbe : Int → Int) (tka : Int → Int) (tbr : Int → Int) (trs : Int → Int) (trf : Int → Int) (trp : Int → Int) (dk : Int → Int) (dn : Int → Int) (r1 : Int → Int) (r2 : Int → Int) (r3 : Int → Int) (km : Int → Int) (nm : Int → Int) (rk : Int → Int) (rn : Int → Int) (vP : Int → Int) (vS : Int → Int) (vD : Int → Int) (vQ : Int → Int) (ht : Int → Int) (wA : Int → Int) (fA : Int → Int) (sz : Int → Int) (ln : Int → Int) (ce : Int → Int) (hd : Int → Int) (y1 : Int) (y3 : Int) (sa : Nat) (sb : Nat → Nat) (la1 : Int) (zn : Nat) (gg : Int → Int) (sc : Nat) (sd : Nat → Nat) (la2 : Int) (zm : Nat) (gh : Int → Int) (C : gC D G wsL_law RL cL_law 4 p s m args meth c) (hX : va_X b L xs s s.heap) (hbl : b < s.heap.size) (hbA : ¬ A b) (hL : L ≤ 3072) (hii : 0 ≤ ii ∧ ii + 6 ≤ L) (hck : cells + 2 ≤ 600000 ∧ slots + 62 ≤ 7302250) (hinv : lwI st tr lf cn ul rw tc xc xu xw sp co da dc rc mra mrm mP mS mD mQ mal mrw kd nu ex rt mi si un be ka br rs rf rp kt nt tex trt tmi tsi tun tbe tka tbr trs trf trp dk dn r1 r2 r3 km nm rk rn vP vS vD vQ ht wA fA sz ln ce hd) (hy1 : y1 = (xs (ii + 1).toNat).toInt) (hy3 : y3 = (xs (ii + 3).toNat).toInt) (hk3 : 0 ≤ y1 ∧ y1 ≤ 3) (hx : st y1.toNat = some (sa, sb, la1, zn, gg)) (hk4 : 0 ≤ y3 ∧ y3 ≤ 3) (hz0 : st y3.toNat = some (sc, sd, la2, zm, gh)) (hne13 : ¬ y1.toNat = y3.toNat) {H : Heap} {locs : List Loc} {ls : Array Slot} (hw : gW D A s.heap ([oX5 h a tr lf, cQ G (a 0) 4 (qfS st), oX4 (a 1) ta cn, cA G (ta 1) 4 kd, cA G (ta 2) 12 nu, oX0 (a 2) la cn ul rw, cA G (la 1) 12 ex, cA G (la 2) 4 rt, cA G (la 3) 8 mi, cA G (la 4) 8 si, cA G (la 5) 8 un, cA G (la 6) 8 be, cA G (la 8) 8 ka, cA G (la 9) 8 br, cA G (la 11) 17 rs, cA G (la 12) 17 rf, cA G (la 13) 17 rp, oX4 (a 3) tb tc, cA G (tb 1) 4 kt, cA G (tb 2) 12 nt, oX0 (a 4) lb xc xu xw, cA G (lb 1) 12 tex, cA G (lb 2) 4 trt, cA G (lb 3) 8 tmi, cA G (lb 4) 8 tsi, cA G (lb 5) 8 tun, cA G (lb 6) 8 tbe, cA G (lb 8) 8 tka, cA G (lb 9) 8 tbr, cA G (lb 11) 17 trs, cA G (lb 12) 17 trf, cA G (lb 13) 17 trp, oX3 (a 5) ra sp co da, oX4 (ra 0) rb dc, cA G (rb 1) 4 dk, cA G (rb 2) 12 dn, oX1 (a 6) ga rc, cA G (ga 1) 8 r1, cA G (ga 2) 8 r2, cA G (ga 3) 8 r3, oX6 hm am lf cn mra mrm mP mS mD mQ mal mrw rc tr, cA G (am 2) 4 km, cA G (am 3) 12 nm, cA G (am 6) 4 rk, cA G (am 7) 12 rn, cJ G (am 13) 8 vP, cJ G (am 14) 8 vS, cJ G (am 15) 8 vD, cJ G (am 16) 8 vQ, cA G (am 17) 12 ht, cA G (am 18) 17 wA, cA G (am 19) 17 fA, cA G (am 22) 8 r1, cA G (am 23) 8 r2, cA G (am 24) 8 r3, cA G (am 25) 4 sz, cA G (am 26) 4 ln, cA G (am 27) 240 ce, cA G (am 28) 60 hd, oX2 sa sb la1, cA G (sb 1) zn gg, oX2 sc sd la2, cA G (sd 1) zm gh] ++ shW G (upS (upS st y1.toNat none) y3.toNat none)) H locs) (hl : lv_has ls 4 [(0, .ref b), (1, .ref h), (2, .ref hm), (3, .int (iI ii))]) (hback : lwB p l e s m args below meth c D G A Q b h hm a ta la tb lb ra rb ga am ii (cells + 2) (slots + 62)) : W p l e room_1 s m args below meth c H locs cells slots Q (F0 m 1037 ls []) := by
  obtain ⟨hcn, hkd, hnu, hXx, hT, hZ, hB, hub, hkt, hnt, hdk, hdn, hrd, hkm, hnm, hek, hen, hrk, hrn, hsh, hsr⟩ := hinv
  obtain ⟨y2, hy2⟩ : ∃ y : Int, y = (xs (ii + 2).toNat).toInt := ⟨_, rfl⟩
  obtain ⟨y4, hy4⟩ : ∃ y : Int, y = (xs (ii + 4).toNat).toInt := ⟨_, rfl⟩
  obtain ⟨y5, hy5⟩ : ∃ y : Int, y = (xs (ii + 5).toNat).toInt := ⟨_, rfl⟩
  have hr1 : -2147483648 ≤ y1 ∧ y1 ≤ 2147483647 := by rw [hy1]; exact iI_rg _
  have hr2 : -2147483648 ≤ y2 ∧ y2 ≤ 2147483647 := by rw [hy2]; exact iI_rg _
  have hr3 : -2147483648 ≤ y3 ∧ y3 ≤ 2147483647 := by rw [hy3]; exact iI_rg _
  have hr4 : -2147483648 ≤ y4 ∧ y4 ≤ 2147483647 := by rw [hy4]; exact iI_rg _
  have hr5 : -2147483648 ≤ y5 ∧ y5 ≤ 2147483647 := by rw [hy5]; exact iI_rg _
  have hE : EB (exT cn kd nu) := exT_B cn kd hnu
  have hEM : exT cn km nm = (exT cn kd nu) := exT_cg hek hen
  have hKA := hasB_L hB
  have hul : ul = ((ALn (exT cn kd nu) cn.toNat).length : Int) := by rw [hub, ALb_len]
  have hrc9 : 0 ≤ rc ∧ rc ≤ 8 := hrd.1
  obtain ⟨⟨hs1, hs2⟩, ⟨hs3, hs4⟩, hs5⟩ := (hsr y1.toNat (by omega)).2 _ hx
  have hcast : ((y1.toNat : Nat) : Int) = y1 := by omega
  rw [hcast] at hs1 hs2 hs5
  replace hs1 : sz y1 = zn := hs1
  replace hs2 : ln y1 = la1 := hs2
  replace hs3 : 0 ≤ la1 ∧ la1 ≤ 2 := hs3
  replace hs4 : zn ≤ 60 := hs4
  replace hs5 : ∀ j, 0 ≤ j → j < (zn : Int) → gg j = ce (60 * y1 + j) ∧ -2147483648 ≤ gg j ∧ gg j ≤ 2147483647 := hs5
  have hqs : qfS st y1.toNat = some sa := by unfold qfS; rw [hx]; rfl
  obtain ⟨hsz, hln, hcr⟩ := id hsh
  obtain ⟨⟨ht1, ht2⟩, ⟨ht3, ht4⟩, ht5⟩ := (hsr y3.toNat (by omega)).2 _ hz0
  have hcast3 : ((y3.toNat : Nat) : Int) = y3 := by omega
  rw [hcast3] at ht1 ht2 ht5
  replace ht1 : sz y3 = zm := ht1
  replace ht2 : ln y3 = la2 := ht2
  replace ht3 : 0 ≤ la2 ∧ la2 ≤ 2 := ht3
  replace ht4 : zm ≤ 60 := ht4
  have hqt : qfS st y3.toNat = some sc := by unfold qfS; rw [hz0]; rfl
  have hk33 : (0 ≤ y1 ∧ y1 ≤ 3) ∧ 0 ≤ y3 ∧ y3 ≤ 3 := ⟨hk3, hk4⟩
  refine g_aload_n C hl 1 rfl rfl dL_law_1037 ?_
  refine g_aload_n C hl 0 rfl rfl dL_law_1038 ?_
  refine g_iload_n C hl 3 rfl rfl dL_law_1039 ?_
  refine g_iconst C dL_law_1040 ?_
  refine g_iadd C dL_law_1041 ?_
  refine g_sld C hw hX hbl hbA (by omega) hL dL_law_1042 ?_
  refine g_nI (show ((xs (ii + 1).toNat).toInt : Int) = y1 by exact hy1.symm) ?_
  refine g_aload_n C hl 0 rfl rfl dL_law_1043 ?_
  refine g_iload_n C hl 3 rfl rfl dL_law_1044 ?_
  refine g_iconst C dL_law_1045 ?_
  refine g_iadd C dL_law_1046 ?_
  refine g_sld C hw hX hbl hbA (by omega) hL dL_law_1047 ?_
  refine g_nI (show ((xs (ii + 2).toNat).toInt : Int) = y2 by exact hy2.symm) ?_
  refine g_aload_n C hl 0 rfl rfl dL_law_1048 ?_
  refine g_iload_n C hl 3 rfl rfl dL_law_1049 ?_
  refine g_iconst C dL_law_1050 ?_
  refine g_iadd C dL_law_1051 ?_
  refine g_sld C hw hX hbl hbA (by omega) hL dL_law_1052 ?_
  refine g_nI (show ((xs (ii + 3).toNat).toInt : Int) = y3 by exact hy3.symm) ?_
  refine g_aload_n C hl 0 rfl rfl dL_law_1053 ?_
  refine g_iload_n C hl 3 rfl rfl dL_law_1054 ?_
  refine g_iconst C dL_law_1055 ?_
  refine g_iadd C dL_law_1056 ?_
  refine g_sld C hw hX hbl hbA (by omega) hL dL_law_1057 ?_
  refine g_nI (show ((xs (ii + 4).toNat).toInt : Int) = y4 by exact hy4.symm) ?_
  refine g_aload_n C hl 0 rfl rfl dL_law_1058 ?_
  refine g_iload_n C hl 3 rfl rfl dL_law_1059 ?_
  refine g_iconst C dL_law_1060 ?_
  refine g_iadd C dL_law_1061 ?_
  refine g_sld C hw hX hbl hbA (by omega) hL dL_law_1062 ?_
  refine g_nI (show ((xs (ii + 5).toNat).toInt : Int) = y5 by exact hy5.symm) ?_
  refine g_callVTi C hw (wr := [oX4 (a 1) ta cn, cA G (ta 1) 4 kd, cA G (ta 2) 12 nu, oX0 (a 2) la cn ul rw, cA G (la 1) 12 ex, cA G (la 2) 4 rt, cA G (la 3) 8 mi, cA G (la 4) 8 si, cA G (la 5) 8 un, cA G (la 6) 8 be, cA G (la 8) 8 ka, cA G (la 9) 8 br, cA G (la 11) 17 rs, cA G (la 12) 17 rf, cA G (la 13) 17 rp, oX4 (a 3) tb tc, cA G (tb 1) 4 kt, cA G (tb 2) 12 nt, oX0 (a 4) lb xc xu xw, cA G (lb 1) 12 tex, cA G (lb 2) 4 trt, cA G (lb 3) 8 tmi, cA G (lb 4) 8 tsi, cA G (lb 5) 8 tun, cA G (lb 6) 8 tbe, cA G (lb 8) 8 tka, cA G (lb 9) 8 tbr, cA G (lb 11) 17 trs, cA G (lb 12) 17 trf, cA G (lb 13) 17 trp, oX3 (a 5) ra sp co da, oX4 (ra 0) rb dc, cA G (rb 1) 4 dk, cA G (rb 2) 12 dn, oX1 (a 6) ga rc, cA G (ga 1) 8 r1, cA G (ga 2) 8 r2, cA G (ga 3) 8 r3, oX6 hm am lf cn mra mrm mP mS mD mQ mal mrw rc tr, cA G (am 2) 4 km, cA G (am 3) 12 nm, cA G (am 6) 4 rk, cA G (am 7) 12 rn, cJ G (am 13) 8 vP, cJ G (am 14) 8 vS, cJ G (am 15) 8 vD, cJ G (am 16) 8 vQ, cA G (am 17) 12 ht, cA G (am 18) 17 wA, cA G (am 19) 17 fA, cA G (am 22) 8 r1, cA G (am 23) 8 r2, cA G (am 24) 8 r3, cA G (am 25) 4 sz, cA G (am 26) 4 ln, cA G (am 27) 240 ce, cA G (am 28) 60 hd]) (As := [.int (iI y1), .int (iI y2), .int (iI y3), .int (iI y4), .int (iI y5)]) (rest := []) (m_X5_copy_ss l D G (h := h) (a := a) (tr := tr) (lf := lf) (qf := (qfS st)) (sa := sa) (sb := sb) (la1 := la1) (zn := zn) (gg := gg) (sc := sc) (sd := sd) (la2 := la2) (zm := zm) (gh := gh) (sz := sz) (ln := ln) (kk := y1) (ii := y2) (oo := y3) (jj := y4) (nn := y5) (by first | assumption | omega) (by first | assumption | omega) (by first | assumption | omega) (by first | assumption | omega) (by first | assumption | omega) (by first | assumption | omega) (by first | assumption | omega) (by first | assumption | omega) (by first | assumption | omega) (by first | assumption | omega) (by first | assumption | omega) (by first | assumption | omega) (by first | assumption | omega) (by first | assumption | omega) (by first | assumption | omega) (by first | assumption | omega)) (cwV 5 C.1.2.2.2.2 gL_law_X5_copy rfl rfl rfl (by decide +kernel) ⟨Nat.le_of_ble_eq_true rfl, Nat.le_of_ble_eq_true rfl⟩) [0, 1, 59, 60, 61, 62] [2, 3, 4, 5, 6, 7, 8, 9, 10, 11, 12, 13, 14, 15, 16, 17, 18, 19, 20, 21, 22, 23, 24, 25, 26, 27, 28, 29, 30, 31, 32, 33, 34, 35, 36, 37, 38, 39, 40, 41, 42, 43, 44, 45, 46, 47, 48, 49, 50, 51, 52, 53, 54, 55, 56, 57, 58] rfl rfl (by decide) (by decide) (by decide) 0 rfl rfl rfl hl.1 _ rfl (Nat.le_of_ble_eq_true rfl) dL_law_1063 ⟨by show _ ≤ 600000; omega, by show _ ≤ 7302250; omega⟩ ?_
  clear hw
  rintro _ _ H locs ⟨ghC, rfl, rfl, hp_1⟩ hw
  have hw : gW D A s.heap ([oX4 (a 1) ta cn, cA G (ta 1) 4 kd, cA G (ta 2) 12 nu, oX0 (a 2) la cn ul rw, cA G (la 1) 12 ex, cA G (la 2) 4 rt, cA G (la 3) 8 mi, cA G (la 4) 8 si, cA G (la 5) 8 un, cA G (la 6) 8 be, cA G (la 8) 8 ka, cA G (la 9) 8 br, cA G (la 11) 17 rs, cA G (la 12) 17 rf, cA G (la 13) 17 rp, oX4 (a 3) tb tc, cA G (tb 1) 4 kt, cA G (tb 2) 12 nt, oX0 (a 4) lb xc xu xw, cA G (lb 1) 12 tex, cA G (lb 2) 4 trt, cA G (lb 3) 8 tmi, cA G (lb 4) 8 tsi, cA G (lb 5) 8 tun, cA G (lb 6) 8 tbe, cA G (lb 8) 8 tka, cA G (lb 9) 8 tbr, cA G (lb 11) 17 trs, cA G (lb 12) 17 trf, cA G (lb 13) 17 trp, oX3 (a 5) ra sp co da, oX4 (ra 0) rb dc, cA G (rb 1) 4 dk, cA G (rb 2) 12 dn, oX1 (a 6) ga rc, cA G (ga 1) 8 r1, cA G (ga 2) 8 r2, cA G (ga 3) 8 r3, oX6 hm am lf cn mra mrm mP mS mD mQ mal mrw rc tr, cA G (am 2) 4 km, cA G (am 3) 12 nm, cA G (am 6) 4 rk, cA G (am 7) 12 rn, cJ G (am 13) 8 vP, cJ G (am 14) 8 vS, cJ G (am 15) 8 vD, cJ G (am 16) 8 vQ, cA G (am 17) 12 ht, cA G (am 18) 17 wA, cA G (am 19) 17 fA, cA G (am 22) 8 r1, cA G (am 23) 8 r2, cA G (am 24) 8 r3, cA G (am 25) 4 sz, cA G (am 26) 4 ln, cA G (am 27) 240 ce, cA G (am 28) 60 hd, oX5 h a tr (F_cpy sz ln y1 y2 y3 y4 y5), cQ G (a 0) 4 (qfS st), oX2 sa sb la1, cA G (sb 1) zn gg, oX2 sc sd la2, cA G (sd 1) zm ghC] ++ shW G (upS (upS st y1.toNat none) y3.toNat none)) H locs := hw
  have hp_1 : ghC = if C_cpy sz ln y1 y2 y3 y4 y5 = 0 then cpI gg gh y2 y4 y5 else gh := hp_1
  have hq1 := hp_1
  refine g_aload_n C hl 2 rfl rfl dL_law_1066 ?_
  refine g_aload_n C hl 0 rfl rfl dL_law_1067 ?_
  refine g_iload_n C hl 3 rfl rfl dL_law_1068 ?_
  refine g_iconst C dL_law_1069 ?_
  refine g_iadd C dL_law_1070 ?_
  refine g_sld C hw hX hbl hbA (by omega) hL dL_law_1071 ?_
  refine g_nI (show ((xs (ii + 1).toNat).toInt : Int) = y1 by exact hy1.symm) ?_
  refine g_aload_n C hl 0 rfl rfl dL_law_1072 ?_
  refine g_iload_n C hl 3 rfl rfl dL_law_1073 ?_
  refine g_iconst C dL_law_1074 ?_
  refine g_iadd C dL_law_1075 ?_
  refine g_sld C hw hX hbl hbA (by omega) hL dL_law_1076 ?_
  refine g_nI (show ((xs (ii + 2).toNat).toInt : Int) = y2 by exact hy2.symm) ?_
  refine g_aload_n C hl 0 rfl rfl dL_law_1077 ?_
  refine g_iload_n C hl 3 rfl rfl dL_law_1078 ?_
  refine g_iconst C dL_law_1079 ?_
  refine g_iadd C dL_law_1080 ?_
  refine g_sld C hw hX hbl hbA (by omega) hL dL_law_1081 ?_
  refine g_nI (show ((xs (ii + 3).toNat).toInt : Int) = y3 by exact hy3.symm) ?_
  refine g_aload_n C hl 0 rfl rfl dL_law_1082 ?_
  refine g_iload_n C hl 3 rfl rfl dL_law_1083 ?_
  refine g_iconst C dL_law_1084 ?_
  refine g_iadd C dL_law_1085 ?_
  refine g_sld C hw hX hbl hbA (by omega) hL dL_law_1086 ?_
  refine g_nI (show ((xs (ii + 4).toNat).toInt : Int) = y4 by exact hy4.symm) ?_
  refine g_aload_n C hl 0 rfl rfl dL_law_1087 ?_
  refine g_iload_n C hl 3 rfl rfl dL_law_1088 ?_
  refine g_iconst C dL_law_1089 ?_
  refine g_iadd C dL_law_1090 ?_
  refine g_sld C hw hX hbl hbA (by omega) hL dL_law_1091 ?_
  refine g_nI (show ((xs (ii + 5).toNat).toInt : Int) = y5 by exact hy5.symm) ?_
  refine g_callVTi C hw (wr := [oX4 (a 1) ta cn, cA G (ta 1) 4 kd, cA G (ta 2) 12 nu, oX0 (a 2) la cn ul rw, cA G (la 1) 12 ex, cA G (la 2) 4 rt, cA G (la 3) 8 mi, cA G (la 4) 8 si, cA G (la 5) 8 un, cA G (la 6) 8 be, cA G (la 8) 8 ka, cA G (la 9) 8 br, cA G (la 11) 17 rs, cA G (la 12) 17 rf, cA G (la 13) 17 rp, oX4 (a 3) tb tc, cA G (tb 1) 4 kt, cA G (tb 2) 12 nt, oX0 (a 4) lb xc xu xw, cA G (lb 1) 12 tex, cA G (lb 2) 4 trt, cA G (lb 3) 8 tmi, cA G (lb 4) 8 tsi, cA G (lb 5) 8 tun, cA G (lb 6) 8 tbe, cA G (lb 8) 8 tka, cA G (lb 9) 8 tbr, cA G (lb 11) 17 trs, cA G (lb 12) 17 trf, cA G (lb 13) 17 trp, oX3 (a 5) ra sp co da, oX4 (ra 0) rb dc, cA G (rb 1) 4 dk, cA G (rb 2) 12 dn, oX1 (a 6) ga rc, cA G (ga 1) 8 r1, cA G (ga 2) 8 r2, cA G (ga 3) 8 r3, cA G (am 2) 4 km, cA G (am 3) 12 nm, cA G (am 6) 4 rk, cA G (am 7) 12 rn, cJ G (am 13) 8 vP, cJ G (am 14) 8 vS, cJ G (am 15) 8 vD, cJ G (am 16) 8 vQ, cA G (am 17) 12 ht, cA G (am 18) 17 wA, cA G (am 19) 17 fA, cA G (am 22) 8 r1, cA G (am 23) 8 r2, cA G (am 24) 8 r3, oX5 h a tr (F_cpy sz ln y1 y2 y3 y4 y5), cQ G (a 0) 4 (qfS st), oX2 sa sb la1, cA G (sb 1) zn gg, oX2 sc sd la2, cA G (sd 1) zm ghC]) (As := [.int (iI y1), .int (iI y2), .int (iI y3), .int (iI y4), .int (iI y5)]) (rest := [.int (iI ((R_cpy sz ln y1 y2 y3 y4 y5)))]) (m_X6_copy l D G (h := hm) (a := am) (ft := lf) (pn := cn) (ra := mra) (rm := mrm) (rP := mP) (rS := mS) (rD := mD) (rQ := mQ) (al := mal) (rw := mrw) (rc := rc) (tr := tr) (sz := sz) (ln := ln) (ce := ce) (hd := hd) (kk := y1) (ii := y2) (oo := y3) (jj := y4) (nn := y5) (by first | assumption | omega) (by first | assumption | omega) (by first | assumption | omega) (by first | assumption | omega) (by first | assumption | omega) (by first | assumption | omega)) (cwV 5 C.1.2.2.2.2 gL_law_X6_copy rfl rfl rfl (by decide +kernel) ⟨Nat.le_of_ble_eq_true rfl, Nat.le_of_ble_eq_true rfl⟩) [38, 53, 54, 55, 56] [0, 1, 2, 3, 4, 5, 6, 7, 8, 9, 10, 11, 12, 13, 14, 15, 16, 17, 18, 19, 20, 21, 22, 23, 24, 25, 26, 27, 28, 29, 30, 31, 32, 33, 34, 35, 36, 37, 39, 40, 41, 42, 43, 44, 45, 46, 47, 48, 49, 50, 51, 52, 57, 58, 59, 60, 61, 62] rfl rfl (by decide) (by decide) (by decide) 0 rfl rfl rfl hl.1 _ rfl (Nat.le_of_ble_eq_true rfl) dL_law_1092 ⟨by show _ ≤ 600000; omega, by show _ ≤ 7302250; omega⟩ ?_
  clear hw
  rintro _ _ H locs ⟨ceM, hd2__2, rfl, rfl, hp_3⟩ hw
  have hw : gW D A s.heap ([oX4 (a 1) ta cn, cA G (ta 1) 4 kd, cA G (ta 2) 12 nu, oX0 (a 2) la cn ul rw, cA G (la 1) 12 ex, cA G (la 2) 4 rt, cA G (la 3) 8 mi, cA G (la 4) 8 si, cA G (la 5) 8 un, cA G (la 6) 8 be, cA G (la 8) 8 ka, cA G (la 9) 8 br, cA G (la 11) 17 rs, cA G (la 12) 17 rf, cA G (la 13) 17 rp, oX4 (a 3) tb tc, cA G (tb 1) 4 kt, cA G (tb 2) 12 nt, oX0 (a 4) lb xc xu xw, cA G (lb 1) 12 tex, cA G (lb 2) 4 trt, cA G (lb 3) 8 tmi, cA G (lb 4) 8 tsi, cA G (lb 5) 8 tun, cA G (lb 6) 8 tbe, cA G (lb 8) 8 tka, cA G (lb 9) 8 tbr, cA G (lb 11) 17 trs, cA G (lb 12) 17 trf, cA G (lb 13) 17 trp, oX3 (a 5) ra sp co da, oX4 (ra 0) rb dc, cA G (rb 1) 4 dk, cA G (rb 2) 12 dn, oX1 (a 6) ga rc, cA G (ga 1) 8 r1, cA G (ga 2) 8 r2, cA G (ga 3) 8 r3, cA G (am 2) 4 km, cA G (am 3) 12 nm, cA G (am 6) 4 rk, cA G (am 7) 12 rn, cJ G (am 13) 8 vP, cJ G (am 14) 8 vS, cJ G (am 15) 8 vD, cJ G (am 16) 8 vQ, cA G (am 17) 12 ht, cA G (am 18) 17 wA, cA G (am 19) 17 fA, cA G (am 22) 8 r1, cA G (am 23) 8 r2, cA G (am 24) 8 r3, oX5 h a tr (F_cpy sz ln y1 y2 y3 y4 y5), cQ G (a 0) 4 (qfS st), oX2 sa sb la1, cA G (sb 1) zn gg, oX2 sc sd la2, cA G (sd 1) zm ghC, oX6 hm am (F_cpy sz ln y1 y2 y3 y4 y5) cn mra mrm mP mS mD mQ mal mrw rc tr, cA G (am 25) 4 sz, cA G (am 26) 4 ln, cA G (am 27) 240 ceM, cA G (am 28) 60 hd2__2] ++ shW G (upS (upS st y1.toNat none) y3.toNat none)) H locs := hw
  have hp_3 : ceM = if ((0 ≤ y1 ∧ y1 ≤ 3) ∧ (0 ≤ y3 ∧ y3 ≤ 3)) ∧ C_cpy sz ln y1 y2 y3 y4 y5 = 0 then mvF (fun x => ce (60 * y1 + y2 + x)) ce (60 * y3 + y4) y5 else ce := hp_3
  have hq2 := hp_3
  refine g_icmpS C (show ((iI ((R_cpy sz ln y1 y2 y3 y4 y5))) : Int32) = (iI ((R_cpy sz ln y1 y2 y3 y4 y5))) by rfl) 1228 dL_law_1095 (by decide) ?_
  have hw : gW D A s.heap ([oX5 h a tr (F_cpy sz ln y1 y2 y3 y4 y5), cQ G (a 0) 4 (qfS st), oX4 (a 1) ta cn, cA G (ta 1) 4 kd, cA G (ta 2) 12 nu, oX0 (a 2) la cn ul rw, cA G (la 1) 12 ex, cA G (la 2) 4 rt, cA G (la 3) 8 mi, cA G (la 4) 8 si, cA G (la 5) 8 un, cA G (la 6) 8 be, cA G (la 8) 8 ka, cA G (la 9) 8 br, cA G (la 11) 17 rs, cA G (la 12) 17 rf, cA G (la 13) 17 rp, oX4 (a 3) tb tc, cA G (tb 1) 4 kt, cA G (tb 2) 12 nt, oX0 (a 4) lb xc xu xw, cA G (lb 1) 12 tex, cA G (lb 2) 4 trt, cA G (lb 3) 8 tmi, cA G (lb 4) 8 tsi, cA G (lb 5) 8 tun, cA G (lb 6) 8 tbe, cA G (lb 8) 8 tka, cA G (lb 9) 8 tbr, cA G (lb 11) 17 trs, cA G (lb 12) 17 trf, cA G (lb 13) 17 trp, oX3 (a 5) ra sp co da, oX4 (ra 0) rb dc, cA G (rb 1) 4 dk, cA G (rb 2) 12 dn, oX1 (a 6) ga rc, cA G (ga 1) 8 r1, cA G (ga 2) 8 r2, cA G (ga 3) 8 r3, oX6 hm am (F_cpy sz ln y1 y2 y3 y4 y5) cn mra mrm mP mS mD mQ mal mrw rc tr, cA G (am 2) 4 km, cA G (am 3) 12 nm, cA G (am 6) 4 rk, cA G (am 7) 12 rn, cJ G (am 13) 8 vP, cJ G (am 14) 8 vS, cJ G (am 15) 8 vD, cJ G (am 16) 8 vQ, cA G (am 17) 12 ht, cA G (am 18) 17 wA, cA G (am 19) 17 fA, cA G (am 22) 8 r1, cA G (am 23) 8 r2, cA G (am 24) 8 r3, cA G (am 25) 4 sz, cA G (am 26) 4 ln, cA G (am 27) 240 ceM, cA G (am 28) 60 hd2__2, oX2 sa sb la1, cA G (sb 1) zn gg, oX2 sc sd la2, cA G (sd 1) zm ghC] ++ shW G (upS (upS st y1.toNat none) y3.toNat none)) H locs := g_permT hw [52, 53, 0, 1, 2, 3, 4, 5, 6, 7, 8, 9, 10, 11, 12, 13, 14, 15, 16, 17, 18, 19, 20, 21, 22, 23, 24, 25, 26, 27, 28, 29, 30, 31, 32, 33, 34, 35, 36, 37, 58, 38, 39, 40, 41, 42, 43, 44, 45, 46, 47, 48, 49, 50, 51, 59, 60, 61, 62, 54, 55, 56, 57] (by decide) rfl
  have hw : gW D A s.heap ([oX5 h a tr (F_cpy sz ln y1 y2 y3 y4 y5), cQ G (a 0) 4 (qfS st), oX4 (a 1) ta cn, cA G (ta 1) 4 kd, cA G (ta 2) 12 nu, oX0 (a 2) la cn ul rw, cA G (la 1) 12 ex, cA G (la 2) 4 rt, cA G (la 3) 8 mi, cA G (la 4) 8 si, cA G (la 5) 8 un, cA G (la 6) 8 be, cA G (la 8) 8 ka, cA G (la 9) 8 br, cA G (la 11) 17 rs, cA G (la 12) 17 rf, cA G (la 13) 17 rp, oX4 (a 3) tb tc, cA G (tb 1) 4 kt, cA G (tb 2) 12 nt, oX0 (a 4) lb xc xu xw, cA G (lb 1) 12 tex, cA G (lb 2) 4 trt, cA G (lb 3) 8 tmi, cA G (lb 4) 8 tsi, cA G (lb 5) 8 tun, cA G (lb 6) 8 tbe, cA G (lb 8) 8 tka, cA G (lb 9) 8 tbr, cA G (lb 11) 17 trs, cA G (lb 12) 17 trf, cA G (lb 13) 17 trp, oX3 (a 5) ra sp co da, oX4 (ra 0) rb dc, cA G (rb 1) 4 dk, cA G (rb 2) 12 dn, oX1 (a 6) ga rc, cA G (ga 1) 8 r1, cA G (ga 2) 8 r2, cA G (ga 3) 8 r3, oX6 hm am (F_cpy sz ln y1 y2 y3 y4 y5) cn mra mrm mP mS mD mQ mal mrw rc tr, cA G (am 2) 4 km, cA G (am 3) 12 nm, cA G (am 6) 4 rk, cA G (am 7) 12 rn, cJ G (am 13) 8 vP, cJ G (am 14) 8 vS, cJ G (am 15) 8 vD, cJ G (am 16) 8 vQ, cA G (am 17) 12 ht, cA G (am 18) 17 wA, cA G (am 19) 17 fA, cA G (am 22) 8 r1, cA G (am 23) 8 r2, cA G (am 24) 8 r3, cA G (am 25) 4 sz, cA G (am 26) 4 ln, cA G (am 27) 240 ceM, cA G (am 28) 60 hd2__2, oX2 sa sb la1, cA G (sb 1) zn gg] ++ shW G (upS (upS st y1.toNat none) y3.toNat (some (sc, sd, la2, zm, ghC)))) H locs := g_fold (sc, sd, la2, zm, ghC) hw (by omega)
  rw [upS_comm hne13] at hw
  have hw : gW D A s.heap ([oX5 h a tr (F_cpy sz ln y1 y2 y3 y4 y5), cQ G (a 0) 4 (qfS st), oX4 (a 1) ta cn, cA G (ta 1) 4 kd, cA G (ta 2) 12 nu, oX0 (a 2) la cn ul rw, cA G (la 1) 12 ex, cA G (la 2) 4 rt, cA G (la 3) 8 mi, cA G (la 4) 8 si, cA G (la 5) 8 un, cA G (la 6) 8 be, cA G (la 8) 8 ka, cA G (la 9) 8 br, cA G (la 11) 17 rs, cA G (la 12) 17 rf, cA G (la 13) 17 rp, oX4 (a 3) tb tc, cA G (tb 1) 4 kt, cA G (tb 2) 12 nt, oX0 (a 4) lb xc xu xw, cA G (lb 1) 12 tex, cA G (lb 2) 4 trt, cA G (lb 3) 8 tmi, cA G (lb 4) 8 tsi, cA G (lb 5) 8 tun, cA G (lb 6) 8 tbe, cA G (lb 8) 8 tka, cA G (lb 9) 8 tbr, cA G (lb 11) 17 trs, cA G (lb 12) 17 trf, cA G (lb 13) 17 trp, oX3 (a 5) ra sp co da, oX4 (ra 0) rb dc, cA G (rb 1) 4 dk, cA G (rb 2) 12 dn, oX1 (a 6) ga rc, cA G (ga 1) 8 r1, cA G (ga 2) 8 r2, cA G (ga 3) 8 r3, oX6 hm am (F_cpy sz ln y1 y2 y3 y4 y5) cn mra mrm mP mS mD mQ mal mrw rc tr, cA G (am 2) 4 km, cA G (am 3) 12 nm, cA G (am 6) 4 rk, cA G (am 7) 12 rn, cJ G (am 13) 8 vP, cJ G (am 14) 8 vS, cJ G (am 15) 8 vD, cJ G (am 16) 8 vQ, cA G (am 17) 12 ht, cA G (am 18) 17 wA, cA G (am 19) 17 fA, cA G (am 22) 8 r1, cA G (am 23) 8 r2, cA G (am 24) 8 r3, cA G (am 25) 4 sz, cA G (am 26) 4 ln, cA G (am 27) 240 ceM, cA G (am 28) 60 hd2__2] ++ shW G (upS (upS st y3.toNat (some (sc, sd, la2, zm, ghC))) y1.toNat (some (sa, sb, la1, zn, gg)))) H locs := g_fold (sa, sb, la1, zn, gg) hw (by omega)
  rw [show upS (upS st y3.toNat (some (sc, sd, la2, zm, ghC))) y1.toNat (some (sa, sb, la1, zn, gg)) = upS st y3.toNat (some (sc, sd, la2, zm, ghC)) by rw [← hx, show st y1.toNat = upS st y3.toNat (some (sc, sd, la2, zm, ghC)) y1.toNat from (if_neg hne13).symm]; exact upS_id _ _] at hw
  rw [qfS_same (y := (sc, sd, la2, zm, ghC)) hz0 rfl] at hw
  have hboth : shR (upS st y3.toNat (some (sc, sd, la2, zm, ghC))) sz ln ceM ∧ shOK sz ln ceM := by
    by_cases q : C_cpy sz ln y1 y2 y3 y4 y5 = 0
    · rw [if_pos q] at hq1
      rw [if_pos ⟨hk33, q⟩] at hq2
      have hi : 0 ≤ y2 ∧ 0 ≤ y5 ∧ y2 + y5 ≤ (zn : Int) ∧ 0 ≤ y4 ∧ y4 + y5 ≤ (zm : Int) := by
        have q2 := q
        unfold C_cpy at q2
        (repeat' split at q2) <;> omega
      rw [hq1, hq2]
      exact ⟨shR_cpy hsr hk3 hk4 hx hz0 hi ht4, shOK_mv hsh (fun j => hcr _) _ _⟩
    · rw [if_neg q] at hq1
      rw [if_neg (fun r => q r.2)] at hq2
      rw [hq1, hq2, show upS st y3.toNat (some (sc, sd, la2, zm, gh)) = st by rw [← hz0]; exact upS_id st y3.toNat]
      exact ⟨hsr, hsh⟩
  refine W.widen (k := cells + 2) (n := slots + 62) (by omega) (by omega) ?_
  refine hback (upS st y3.toNat (some (sc, sd, la2, zm, ghC))) tr (F_cpy sz ln y1 y2 y3 y4 y5) cn ul rw tc xc xu xw sp co da dc rc mra mrm mP mS mD mQ mal mrw kd nu ex rt mi si un be ka br rs rf rp kt nt tex trt tmi tsi tun tbe tka tbr trs trf trp dk dn r1 r2 r3 km nm rk rn vP vS vD vQ ht wA fA sz ln ceM hd2__2 ⟨by first | assumption | (simp only [*]; done), by first | assumption | (simp only [*]; done), by first | assumption | (simp only [*]; done), by first | assumption | (simp only [*]; done), by first | assumption | (simp only [*]; done), by first | assumption | (simp only [*]; done), by first | assumption | (simp only [*]; done), by first | assumption | (simp only [*]; done), by first | assumption | (simp only [*]; done), by first | assumption | (simp only [*]; done), by first | assumption | (simp only [*]; done), by first | assumption | (simp only [*]; done), by first | assumption | (simp only [*]; done), by first | assumption | (simp only [*]; done), by first | assumption | (simp only [*]; done), by first | assumption | (simp only [*]; done), by first | assumption | (simp only [*]; done), by first | assumption | (simp only [*]; done), by first | assumption | (simp only [*]; done), by exact hboth.2, by exact hboth.1⟩ H locs ls ?_ (lv_sub hl [0, 1, 2, 3] rfl)
  exact hw

set_option maxRecDepth 100000 in
set_option maxHeartbeats 8000000 in
theorem lw_copy_same {p : Program} (l : Launch) {e : Env} {s : State} {m : MethodId} {args : Array Value} {below : List Frame} {meth : Method} {c : Code} (D : va_G) (G : gT) {A : Nat → Prop} {Q : State → Prop} {b L : Nat} {xs : Nat → Int32} (h hm : Nat) (a ta la tb lb ra rb ga am : Nat → Nat) (ii : Int) {cells slots : Nat} (st : Nat → Option shE) (tr : Int) (lf : Int) (cn : Int) (ul : Int) (rw : Int) (tc : Int) (xc : Int) (xu : Int) (xw : Int) (sp : Int) (co : Int) (da : Int) (dc : Int) (rc : Int) (mra : Int) (mrm : Int) (mP : Int) (mS : Int) (mD : Int) (mQ : Int) (mal : Int) (mrw : Int) (kd : Int → Int) (nu : Int → Int) (ex : Int → Int) (rt : Int → Int) (mi : Int → Int) (si : Int → Int) (un : Int → Int) (be : Int → Int) (ka : Int → Int) (br : Int → Int) (rs : Int → Int) (rf : Int → Int) (rp : Int → Int) (kt : Int → Int) (nt : Int → Int) (tex : Int → Int) (trt : Int → Int) (tmi : Int → Int) (tsi : Int → Int) (tun : Int → Int) (tbe : Int → Int) (tka : Int → Int) (tbr : Int → Int) (trs : Int → Int) (trf : Int → Int) (trp : Int → Int) (dk : Int → Int) (dn : Int → Int) (r1 : Int → Int) (r2 : Int → Int) (r3 : Int → Int) (km : Int → Int) (nm : Int → Int) (rk : Int → Int) (rn : Int → Int) (vP : Int → Int) (vS : Int → Int) (vD : Int → Int) (vQ : Int → Int) (ht : Int → Int) (wA : Int → Int) (fA : Int → Int) (sz : Int → Int) (ln : Int → Int) (ce : Int → Int) (hd : Int → Int) (y1 : Int) (y3 : Int) (sa : Nat) (sb : Nat → Nat) (la1 : Int) (zn : Nat) (gg : Int → Int) (C : gC D G wsL_law RL cL_law 4 p s m args meth c) (hX : va_X b L xs s s.heap) (hbl : b < s.heap.size) (hbA : ¬ A b) (hL : L ≤ 3072) (hii : 0 ≤ ii ∧ ii + 6 ≤ L) (hck : cells + 2 ≤ 600000 ∧ slots + 62 ≤ 7302250) (hinv : lwI st tr lf cn ul rw tc xc xu xw sp co da dc rc mra mrm mP mS mD mQ mal mrw kd nu ex rt mi si un be ka br rs rf rp kt nt tex trt tmi tsi tun tbe tka tbr trs trf trp dk dn r1 r2 r3 km nm rk rn vP vS vD vQ ht wA fA sz ln ce hd) (hy1 : y1 = (xs (ii + 1).toNat).toInt) (hy3 : y3 = (xs (ii + 3).toNat).toInt) (hk3 : 0 ≤ y1 ∧ y1 ≤ 3) (hx : st y1.toNat = some (sa, sb, la1, zn, gg)) (hko : y1 = y3) {H : Heap} {locs : List Loc} {ls : Array Slot} (hw : gW D A s.heap ([oX5 h a tr lf, cQ G (a 0) 4 (qfS st), oX4 (a 1) ta cn, cA G (ta 1) 4 kd, cA G (ta 2) 12 nu, oX0 (a 2) la cn ul rw, cA G (la 1) 12 ex, cA G (la 2) 4 rt, cA G (la 3) 8 mi, cA G (la 4) 8 si, cA G (la 5) 8 un, cA G (la 6) 8 be, cA G (la 8) 8 ka, cA G (la 9) 8 br, cA G (la 11) 17 rs, cA G (la 12) 17 rf, cA G (la 13) 17 rp, oX4 (a 3) tb tc, cA G (tb 1) 4 kt, cA G (tb 2) 12 nt, oX0 (a 4) lb xc xu xw, cA G (lb 1) 12 tex, cA G (lb 2) 4 trt, cA G (lb 3) 8 tmi, cA G (lb 4) 8 tsi, cA G (lb 5) 8 tun, cA G (lb 6) 8 tbe, cA G (lb 8) 8 tka, cA G (lb 9) 8 tbr, cA G (lb 11) 17 trs, cA G (lb 12) 17 trf, cA G (lb 13) 17 trp, oX3 (a 5) ra sp co da, oX4 (ra 0) rb dc, cA G (rb 1) 4 dk, cA G (rb 2) 12 dn, oX1 (a 6) ga rc, cA G (ga 1) 8 r1, cA G (ga 2) 8 r2, cA G (ga 3) 8 r3, oX6 hm am lf cn mra mrm mP mS mD mQ mal mrw rc tr, cA G (am 2) 4 km, cA G (am 3) 12 nm, cA G (am 6) 4 rk, cA G (am 7) 12 rn, cJ G (am 13) 8 vP, cJ G (am 14) 8 vS, cJ G (am 15) 8 vD, cJ G (am 16) 8 vQ, cA G (am 17) 12 ht, cA G (am 18) 17 wA, cA G (am 19) 17 fA, cA G (am 22) 8 r1, cA G (am 23) 8 r2, cA G (am 24) 8 r3, cA G (am 25) 4 sz, cA G (am 26) 4 ln, cA G (am 27) 240 ce, cA G (am 28) 60 hd, oX2 sa sb la1, cA G (sb 1) zn gg] ++ shW G (upS st y1.toNat none)) H locs) (hl : lv_has ls 4 [(0, .ref b), (1, .ref h), (2, .ref hm), (3, .int (iI ii))]) (hback : lwB p l e s m args below meth c D G A Q b h hm a ta la tb lb ra rb ga am ii (cells + 2) (slots + 62)) : W p l e room_1 s m args below meth c H locs cells slots Q (F0 m 1037 ls []) := by
  obtain ⟨hcn, hkd, hnu, hXx, hT, hZ, hB, hub, hkt, hnt, hdk, hdn, hrd, hkm, hnm, hek, hen, hrk, hrn, hsh, hsr⟩ := hinv
  obtain ⟨y2, hy2⟩ : ∃ y : Int, y = (xs (ii + 2).toNat).toInt := ⟨_, rfl⟩
  obtain ⟨y4, hy4⟩ : ∃ y : Int, y = (xs (ii + 4).toNat).toInt := ⟨_, rfl⟩
  obtain ⟨y5, hy5⟩ : ∃ y : Int, y = (xs (ii + 5).toNat).toInt := ⟨_, rfl⟩
  have hr1 : -2147483648 ≤ y1 ∧ y1 ≤ 2147483647 := by rw [hy1]; exact iI_rg _
  have hr2 : -2147483648 ≤ y2 ∧ y2 ≤ 2147483647 := by rw [hy2]; exact iI_rg _
  have hr3 : -2147483648 ≤ y3 ∧ y3 ≤ 2147483647 := by rw [hy3]; exact iI_rg _
  have hr4 : -2147483648 ≤ y4 ∧ y4 ≤ 2147483647 := by rw [hy4]; exact iI_rg _
  have hr5 : -2147483648 ≤ y5 ∧ y5 ≤ 2147483647 := by rw [hy5]; exact iI_rg _
  have hE : EB (exT cn kd nu) := exT_B cn kd hnu
  have hEM : exT cn km nm = (exT cn kd nu) := exT_cg hek hen
  have hKA := hasB_L hB
  have hul : ul = ((ALn (exT cn kd nu) cn.toNat).length : Int) := by rw [hub, ALb_len]
  have hrc9 : 0 ≤ rc ∧ rc ≤ 8 := hrd.1
  obtain ⟨⟨hs1, hs2⟩, ⟨hs3, hs4⟩, hs5⟩ := (hsr y1.toNat (by omega)).2 _ hx
  have hcast : ((y1.toNat : Nat) : Int) = y1 := by omega
  rw [hcast] at hs1 hs2 hs5
  replace hs1 : sz y1 = zn := hs1
  replace hs2 : ln y1 = la1 := hs2
  replace hs3 : 0 ≤ la1 ∧ la1 ≤ 2 := hs3
  replace hs4 : zn ≤ 60 := hs4
  replace hs5 : ∀ j, 0 ≤ j → j < (zn : Int) → gg j = ce (60 * y1 + j) ∧ -2147483648 ≤ gg j ∧ gg j ≤ 2147483647 := hs5
  have hqs : qfS st y1.toNat = some sa := by unfold qfS; rw [hx]; rfl
  obtain ⟨hsz, hln, hcr⟩ := id hsh
  have hqt : qfS st y3.toNat = some sa := by rw [← hko]; exact hqs
  have hk33 : (0 ≤ y1 ∧ y1 ≤ 3) ∧ 0 ≤ y3 ∧ y3 ≤ 3 := ⟨hk3, by omega⟩
  refine g_aload_n C hl 1 rfl rfl dL_law_1037 ?_
  refine g_aload_n C hl 0 rfl rfl dL_law_1038 ?_
  refine g_iload_n C hl 3 rfl rfl dL_law_1039 ?_
  refine g_iconst C dL_law_1040 ?_
  refine g_iadd C dL_law_1041 ?_
  refine g_sld C hw hX hbl hbA (by omega) hL dL_law_1042 ?_
  refine g_nI (show ((xs (ii + 1).toNat).toInt : Int) = y1 by exact hy1.symm) ?_
  refine g_aload_n C hl 0 rfl rfl dL_law_1043 ?_
  refine g_iload_n C hl 3 rfl rfl dL_law_1044 ?_
  refine g_iconst C dL_law_1045 ?_
  refine g_iadd C dL_law_1046 ?_
  refine g_sld C hw hX hbl hbA (by omega) hL dL_law_1047 ?_
  refine g_nI (show ((xs (ii + 2).toNat).toInt : Int) = y2 by exact hy2.symm) ?_
  refine g_aload_n C hl 0 rfl rfl dL_law_1048 ?_
  refine g_iload_n C hl 3 rfl rfl dL_law_1049 ?_
  refine g_iconst C dL_law_1050 ?_
  refine g_iadd C dL_law_1051 ?_
  refine g_sld C hw hX hbl hbA (by omega) hL dL_law_1052 ?_
  refine g_nI (show ((xs (ii + 3).toNat).toInt : Int) = y3 by exact hy3.symm) ?_
  refine g_aload_n C hl 0 rfl rfl dL_law_1053 ?_
  refine g_iload_n C hl 3 rfl rfl dL_law_1054 ?_
  refine g_iconst C dL_law_1055 ?_
  refine g_iadd C dL_law_1056 ?_
  refine g_sld C hw hX hbl hbA (by omega) hL dL_law_1057 ?_
  refine g_nI (show ((xs (ii + 4).toNat).toInt : Int) = y4 by exact hy4.symm) ?_
  refine g_aload_n C hl 0 rfl rfl dL_law_1058 ?_
  refine g_iload_n C hl 3 rfl rfl dL_law_1059 ?_
  refine g_iconst C dL_law_1060 ?_
  refine g_iadd C dL_law_1061 ?_
  refine g_sld C hw hX hbl hbA (by omega) hL dL_law_1062 ?_
  refine g_nI (show ((xs (ii + 5).toNat).toInt : Int) = y5 by exact hy5.symm) ?_
  refine g_callVTi C hw (wr := [oX4 (a 1) ta cn, cA G (ta 1) 4 kd, cA G (ta 2) 12 nu, oX0 (a 2) la cn ul rw, cA G (la 1) 12 ex, cA G (la 2) 4 rt, cA G (la 3) 8 mi, cA G (la 4) 8 si, cA G (la 5) 8 un, cA G (la 6) 8 be, cA G (la 8) 8 ka, cA G (la 9) 8 br, cA G (la 11) 17 rs, cA G (la 12) 17 rf, cA G (la 13) 17 rp, oX4 (a 3) tb tc, cA G (tb 1) 4 kt, cA G (tb 2) 12 nt, oX0 (a 4) lb xc xu xw, cA G (lb 1) 12 tex, cA G (lb 2) 4 trt, cA G (lb 3) 8 tmi, cA G (lb 4) 8 tsi, cA G (lb 5) 8 tun, cA G (lb 6) 8 tbe, cA G (lb 8) 8 tka, cA G (lb 9) 8 tbr, cA G (lb 11) 17 trs, cA G (lb 12) 17 trf, cA G (lb 13) 17 trp, oX3 (a 5) ra sp co da, oX4 (ra 0) rb dc, cA G (rb 1) 4 dk, cA G (rb 2) 12 dn, oX1 (a 6) ga rc, cA G (ga 1) 8 r1, cA G (ga 2) 8 r2, cA G (ga 3) 8 r3, oX6 hm am lf cn mra mrm mP mS mD mQ mal mrw rc tr, cA G (am 2) 4 km, cA G (am 3) 12 nm, cA G (am 6) 4 rk, cA G (am 7) 12 rn, cJ G (am 13) 8 vP, cJ G (am 14) 8 vS, cJ G (am 15) 8 vD, cJ G (am 16) 8 vQ, cA G (am 17) 12 ht, cA G (am 18) 17 wA, cA G (am 19) 17 fA, cA G (am 22) 8 r1, cA G (am 23) 8 r2, cA G (am 24) 8 r3, cA G (am 25) 4 sz, cA G (am 26) 4 ln, cA G (am 27) 240 ce, cA G (am 28) 60 hd]) (As := [.int (iI y1), .int (iI y2), .int (iI y3), .int (iI y4), .int (iI y5)]) (rest := []) (m_X5_copy_same l D G (h := h) (a := a) (tr := tr) (lf := lf) (qf := (qfS st)) (sa := sa) (sb := sb) (la1 := la1) (zn := zn) (gg := gg) (sz := sz) (ln := ln) (kk := y1) (ii := y2) (oo := y3) (jj := y4) (nn := y5) (by first | assumption | omega) (by first | assumption | omega) (by first | assumption | omega) (by first | assumption | omega) (by first | assumption | omega) (by first | assumption | omega) (by first | assumption | omega) (by first | assumption | omega) (by first | assumption | omega) (by first | assumption | omega) (by first | assumption | omega) (by first | assumption | omega) (by first | assumption | omega)) (cwV 5 C.1.2.2.2.2 gL_law_X5_copy rfl rfl rfl (by decide +kernel) ⟨Nat.le_of_ble_eq_true rfl, Nat.le_of_ble_eq_true rfl⟩) [0, 1, 59, 60] [2, 3, 4, 5, 6, 7, 8, 9, 10, 11, 12, 13, 14, 15, 16, 17, 18, 19, 20, 21, 22, 23, 24, 25, 26, 27, 28, 29, 30, 31, 32, 33, 34, 35, 36, 37, 38, 39, 40, 41, 42, 43, 44, 45, 46, 47, 48, 49, 50, 51, 52, 53, 54, 55, 56, 57, 58] rfl rfl (by decide) (by decide) (by decide) 0 rfl rfl rfl hl.1 _ rfl (Nat.le_of_ble_eq_true rfl) dL_law_1063 ⟨by show _ ≤ 600000; omega, by show _ ≤ 7302250; omega⟩ ?_
  clear hw
  rintro _ _ H locs ⟨ggC, rfl, rfl, hp_1⟩ hw
  have hw : gW D A s.heap ([oX4 (a 1) ta cn, cA G (ta 1) 4 kd, cA G (ta 2) 12 nu, oX0 (a 2) la cn ul rw, cA G (la 1) 12 ex, cA G (la 2) 4 rt, cA G (la 3) 8 mi, cA G (la 4) 8 si, cA G (la 5) 8 un, cA G (la 6) 8 be, cA G (la 8) 8 ka, cA G (la 9) 8 br, cA G (la 11) 17 rs, cA G (la 12) 17 rf, cA G (la 13) 17 rp, oX4 (a 3) tb tc, cA G (tb 1) 4 kt, cA G (tb 2) 12 nt, oX0 (a 4) lb xc xu xw, cA G (lb 1) 12 tex, cA G (lb 2) 4 trt, cA G (lb 3) 8 tmi, cA G (lb 4) 8 tsi, cA G (lb 5) 8 tun, cA G (lb 6) 8 tbe, cA G (lb 8) 8 tka, cA G (lb 9) 8 tbr, cA G (lb 11) 17 trs, cA G (lb 12) 17 trf, cA G (lb 13) 17 trp, oX3 (a 5) ra sp co da, oX4 (ra 0) rb dc, cA G (rb 1) 4 dk, cA G (rb 2) 12 dn, oX1 (a 6) ga rc, cA G (ga 1) 8 r1, cA G (ga 2) 8 r2, cA G (ga 3) 8 r3, oX6 hm am lf cn mra mrm mP mS mD mQ mal mrw rc tr, cA G (am 2) 4 km, cA G (am 3) 12 nm, cA G (am 6) 4 rk, cA G (am 7) 12 rn, cJ G (am 13) 8 vP, cJ G (am 14) 8 vS, cJ G (am 15) 8 vD, cJ G (am 16) 8 vQ, cA G (am 17) 12 ht, cA G (am 18) 17 wA, cA G (am 19) 17 fA, cA G (am 22) 8 r1, cA G (am 23) 8 r2, cA G (am 24) 8 r3, cA G (am 25) 4 sz, cA G (am 26) 4 ln, cA G (am 27) 240 ce, cA G (am 28) 60 hd, oX5 h a tr (F_cpy sz ln y1 y2 y3 y4 y5), cQ G (a 0) 4 (qfS st), oX2 sa sb la1, cA G (sb 1) zn ggC] ++ shW G (upS st y1.toNat none)) H locs := hw
  have hp_1 : ggC = if C_cpy sz ln y1 y2 y3 y4 y5 = 0 then cpI gg gg y2 y4 y5 else gg := hp_1
  have hq1 := hp_1
  refine g_aload_n C hl 2 rfl rfl dL_law_1066 ?_
  refine g_aload_n C hl 0 rfl rfl dL_law_1067 ?_
  refine g_iload_n C hl 3 rfl rfl dL_law_1068 ?_
  refine g_iconst C dL_law_1069 ?_
  refine g_iadd C dL_law_1070 ?_
  refine g_sld C hw hX hbl hbA (by omega) hL dL_law_1071 ?_
  refine g_nI (show ((xs (ii + 1).toNat).toInt : Int) = y1 by exact hy1.symm) ?_
  refine g_aload_n C hl 0 rfl rfl dL_law_1072 ?_
  refine g_iload_n C hl 3 rfl rfl dL_law_1073 ?_
  refine g_iconst C dL_law_1074 ?_
  refine g_iadd C dL_law_1075 ?_
  refine g_sld C hw hX hbl hbA (by omega) hL dL_law_1076 ?_
  refine g_nI (show ((xs (ii + 2).toNat).toInt : Int) = y2 by exact hy2.symm) ?_
  refine g_aload_n C hl 0 rfl rfl dL_law_1077 ?_
  refine g_iload_n C hl 3 rfl rfl dL_law_1078 ?_
  refine g_iconst C dL_law_1079 ?_
  refine g_iadd C dL_law_1080 ?_
  refine g_sld C hw hX hbl hbA (by omega) hL dL_law_1081 ?_
  refine g_nI (show ((xs (ii + 3).toNat).toInt : Int) = y3 by exact hy3.symm) ?_
  refine g_aload_n C hl 0 rfl rfl dL_law_1082 ?_
  refine g_iload_n C hl 3 rfl rfl dL_law_1083 ?_
  refine g_iconst C dL_law_1084 ?_
  refine g_iadd C dL_law_1085 ?_
  refine g_sld C hw hX hbl hbA (by omega) hL dL_law_1086 ?_
  refine g_nI (show ((xs (ii + 4).toNat).toInt : Int) = y4 by exact hy4.symm) ?_
  refine g_aload_n C hl 0 rfl rfl dL_law_1087 ?_
  refine g_iload_n C hl 3 rfl rfl dL_law_1088 ?_
  refine g_iconst C dL_law_1089 ?_
  refine g_iadd C dL_law_1090 ?_
  refine g_sld C hw hX hbl hbA (by omega) hL dL_law_1091 ?_
  refine g_nI (show ((xs (ii + 5).toNat).toInt : Int) = y5 by exact hy5.symm) ?_
  refine g_callVTi C hw (wr := [oX4 (a 1) ta cn, cA G (ta 1) 4 kd, cA G (ta 2) 12 nu, oX0 (a 2) la cn ul rw, cA G (la 1) 12 ex, cA G (la 2) 4 rt, cA G (la 3) 8 mi, cA G (la 4) 8 si, cA G (la 5) 8 un, cA G (la 6) 8 be, cA G (la 8) 8 ka, cA G (la 9) 8 br, cA G (la 11) 17 rs, cA G (la 12) 17 rf, cA G (la 13) 17 rp, oX4 (a 3) tb tc, cA G (tb 1) 4 kt, cA G (tb 2) 12 nt, oX0 (a 4) lb xc xu xw, cA G (lb 1) 12 tex, cA G (lb 2) 4 trt, cA G (lb 3) 8 tmi, cA G (lb 4) 8 tsi, cA G (lb 5) 8 tun, cA G (lb 6) 8 tbe, cA G (lb 8) 8 tka, cA G (lb 9) 8 tbr, cA G (lb 11) 17 trs, cA G (lb 12) 17 trf, cA G (lb 13) 17 trp, oX3 (a 5) ra sp co da, oX4 (ra 0) rb dc, cA G (rb 1) 4 dk, cA G (rb 2) 12 dn, oX1 (a 6) ga rc, cA G (ga 1) 8 r1, cA G (ga 2) 8 r2, cA G (ga 3) 8 r3, cA G (am 2) 4 km, cA G (am 3) 12 nm, cA G (am 6) 4 rk, cA G (am 7) 12 rn, cJ G (am 13) 8 vP, cJ G (am 14) 8 vS, cJ G (am 15) 8 vD, cJ G (am 16) 8 vQ, cA G (am 17) 12 ht, cA G (am 18) 17 wA, cA G (am 19) 17 fA, cA G (am 22) 8 r1, cA G (am 23) 8 r2, cA G (am 24) 8 r3, oX5 h a tr (F_cpy sz ln y1 y2 y3 y4 y5), cQ G (a 0) 4 (qfS st), oX2 sa sb la1, cA G (sb 1) zn ggC]) (As := [.int (iI y1), .int (iI y2), .int (iI y3), .int (iI y4), .int (iI y5)]) (rest := [.int (iI ((R_cpy sz ln y1 y2 y3 y4 y5)))]) (m_X6_copy l D G (h := hm) (a := am) (ft := lf) (pn := cn) (ra := mra) (rm := mrm) (rP := mP) (rS := mS) (rD := mD) (rQ := mQ) (al := mal) (rw := mrw) (rc := rc) (tr := tr) (sz := sz) (ln := ln) (ce := ce) (hd := hd) (kk := y1) (ii := y2) (oo := y3) (jj := y4) (nn := y5) (by first | assumption | omega) (by first | assumption | omega) (by first | assumption | omega) (by first | assumption | omega) (by first | assumption | omega) (by first | assumption | omega)) (cwV 5 C.1.2.2.2.2 gL_law_X6_copy rfl rfl rfl (by decide +kernel) ⟨Nat.le_of_ble_eq_true rfl, Nat.le_of_ble_eq_true rfl⟩) [38, 53, 54, 55, 56] [0, 1, 2, 3, 4, 5, 6, 7, 8, 9, 10, 11, 12, 13, 14, 15, 16, 17, 18, 19, 20, 21, 22, 23, 24, 25, 26, 27, 28, 29, 30, 31, 32, 33, 34, 35, 36, 37, 39, 40, 41, 42, 43, 44, 45, 46, 47, 48, 49, 50, 51, 52, 57, 58, 59, 60] rfl rfl (by decide) (by decide) (by decide) 0 rfl rfl rfl hl.1 _ rfl (Nat.le_of_ble_eq_true rfl) dL_law_1092 ⟨by show _ ≤ 600000; omega, by show _ ≤ 7302250; omega⟩ ?_
  clear hw
  rintro _ _ H locs ⟨ceM, hd2__2, rfl, rfl, hp_3⟩ hw
  have hw : gW D A s.heap ([oX4 (a 1) ta cn, cA G (ta 1) 4 kd, cA G (ta 2) 12 nu, oX0 (a 2) la cn ul rw, cA G (la 1) 12 ex, cA G (la 2) 4 rt, cA G (la 3) 8 mi, cA G (la 4) 8 si, cA G (la 5) 8 un, cA G (la 6) 8 be, cA G (la 8) 8 ka, cA G (la 9) 8 br, cA G (la 11) 17 rs, cA G (la 12) 17 rf, cA G (la 13) 17 rp, oX4 (a 3) tb tc, cA G (tb 1) 4 kt, cA G (tb 2) 12 nt, oX0 (a 4) lb xc xu xw, cA G (lb 1) 12 tex, cA G (lb 2) 4 trt, cA G (lb 3) 8 tmi, cA G (lb 4) 8 tsi, cA G (lb 5) 8 tun, cA G (lb 6) 8 tbe, cA G (lb 8) 8 tka, cA G (lb 9) 8 tbr, cA G (lb 11) 17 trs, cA G (lb 12) 17 trf, cA G (lb 13) 17 trp, oX3 (a 5) ra sp co da, oX4 (ra 0) rb dc, cA G (rb 1) 4 dk, cA G (rb 2) 12 dn, oX1 (a 6) ga rc, cA G (ga 1) 8 r1, cA G (ga 2) 8 r2, cA G (ga 3) 8 r3, cA G (am 2) 4 km, cA G (am 3) 12 nm, cA G (am 6) 4 rk, cA G (am 7) 12 rn, cJ G (am 13) 8 vP, cJ G (am 14) 8 vS, cJ G (am 15) 8 vD, cJ G (am 16) 8 vQ, cA G (am 17) 12 ht, cA G (am 18) 17 wA, cA G (am 19) 17 fA, cA G (am 22) 8 r1, cA G (am 23) 8 r2, cA G (am 24) 8 r3, oX5 h a tr (F_cpy sz ln y1 y2 y3 y4 y5), cQ G (a 0) 4 (qfS st), oX2 sa sb la1, cA G (sb 1) zn ggC, oX6 hm am (F_cpy sz ln y1 y2 y3 y4 y5) cn mra mrm mP mS mD mQ mal mrw rc tr, cA G (am 25) 4 sz, cA G (am 26) 4 ln, cA G (am 27) 240 ceM, cA G (am 28) 60 hd2__2] ++ shW G (upS st y1.toNat none)) H locs := hw
  have hp_3 : ceM = if ((0 ≤ y1 ∧ y1 ≤ 3) ∧ (0 ≤ y3 ∧ y3 ≤ 3)) ∧ C_cpy sz ln y1 y2 y3 y4 y5 = 0 then mvF (fun x => ce (60 * y1 + y2 + x)) ce (60 * y3 + y4) y5 else ce := hp_3
  have hq2 := hp_3
  refine g_icmpS C (show ((iI ((R_cpy sz ln y1 y2 y3 y4 y5))) : Int32) = (iI ((R_cpy sz ln y1 y2 y3 y4 y5))) by rfl) 1228 dL_law_1095 (by decide) ?_
  have hw : gW D A s.heap ([oX5 h a tr (F_cpy sz ln y1 y2 y3 y4 y5), cQ G (a 0) 4 (qfS st), oX4 (a 1) ta cn, cA G (ta 1) 4 kd, cA G (ta 2) 12 nu, oX0 (a 2) la cn ul rw, cA G (la 1) 12 ex, cA G (la 2) 4 rt, cA G (la 3) 8 mi, cA G (la 4) 8 si, cA G (la 5) 8 un, cA G (la 6) 8 be, cA G (la 8) 8 ka, cA G (la 9) 8 br, cA G (la 11) 17 rs, cA G (la 12) 17 rf, cA G (la 13) 17 rp, oX4 (a 3) tb tc, cA G (tb 1) 4 kt, cA G (tb 2) 12 nt, oX0 (a 4) lb xc xu xw, cA G (lb 1) 12 tex, cA G (lb 2) 4 trt, cA G (lb 3) 8 tmi, cA G (lb 4) 8 tsi, cA G (lb 5) 8 tun, cA G (lb 6) 8 tbe, cA G (lb 8) 8 tka, cA G (lb 9) 8 tbr, cA G (lb 11) 17 trs, cA G (lb 12) 17 trf, cA G (lb 13) 17 trp, oX3 (a 5) ra sp co da, oX4 (ra 0) rb dc, cA G (rb 1) 4 dk, cA G (rb 2) 12 dn, oX1 (a 6) ga rc, cA G (ga 1) 8 r1, cA G (ga 2) 8 r2, cA G (ga 3) 8 r3, oX6 hm am (F_cpy sz ln y1 y2 y3 y4 y5) cn mra mrm mP mS mD mQ mal mrw rc tr, cA G (am 2) 4 km, cA G (am 3) 12 nm, cA G (am 6) 4 rk, cA G (am 7) 12 rn, cJ G (am 13) 8 vP, cJ G (am 14) 8 vS, cJ G (am 15) 8 vD, cJ G (am 16) 8 vQ, cA G (am 17) 12 ht, cA G (am 18) 17 wA, cA G (am 19) 17 fA, cA G (am 22) 8 r1, cA G (am 23) 8 r2, cA G (am 24) 8 r3, cA G (am 25) 4 sz, cA G (am 26) 4 ln, cA G (am 27) 240 ceM, cA G (am 28) 60 hd2__2, oX2 sa sb la1, cA G (sb 1) zn ggC] ++ shW G (upS st y1.toNat none)) H locs := g_permT hw [52, 53, 0, 1, 2, 3, 4, 5, 6, 7, 8, 9, 10, 11, 12, 13, 14, 15, 16, 17, 18, 19, 20, 21, 22, 23, 24, 25, 26, 27, 28, 29, 30, 31, 32, 33, 34, 35, 36, 37, 56, 38, 39, 40, 41, 42, 43, 44, 45, 46, 47, 48, 49, 50, 51, 57, 58, 59, 60, 54, 55] (by decide) rfl
  have hw : gW D A s.heap ([oX5 h a tr (F_cpy sz ln y1 y2 y3 y4 y5), cQ G (a 0) 4 (qfS st), oX4 (a 1) ta cn, cA G (ta 1) 4 kd, cA G (ta 2) 12 nu, oX0 (a 2) la cn ul rw, cA G (la 1) 12 ex, cA G (la 2) 4 rt, cA G (la 3) 8 mi, cA G (la 4) 8 si, cA G (la 5) 8 un, cA G (la 6) 8 be, cA G (la 8) 8 ka, cA G (la 9) 8 br, cA G (la 11) 17 rs, cA G (la 12) 17 rf, cA G (la 13) 17 rp, oX4 (a 3) tb tc, cA G (tb 1) 4 kt, cA G (tb 2) 12 nt, oX0 (a 4) lb xc xu xw, cA G (lb 1) 12 tex, cA G (lb 2) 4 trt, cA G (lb 3) 8 tmi, cA G (lb 4) 8 tsi, cA G (lb 5) 8 tun, cA G (lb 6) 8 tbe, cA G (lb 8) 8 tka, cA G (lb 9) 8 tbr, cA G (lb 11) 17 trs, cA G (lb 12) 17 trf, cA G (lb 13) 17 trp, oX3 (a 5) ra sp co da, oX4 (ra 0) rb dc, cA G (rb 1) 4 dk, cA G (rb 2) 12 dn, oX1 (a 6) ga rc, cA G (ga 1) 8 r1, cA G (ga 2) 8 r2, cA G (ga 3) 8 r3, oX6 hm am (F_cpy sz ln y1 y2 y3 y4 y5) cn mra mrm mP mS mD mQ mal mrw rc tr, cA G (am 2) 4 km, cA G (am 3) 12 nm, cA G (am 6) 4 rk, cA G (am 7) 12 rn, cJ G (am 13) 8 vP, cJ G (am 14) 8 vS, cJ G (am 15) 8 vD, cJ G (am 16) 8 vQ, cA G (am 17) 12 ht, cA G (am 18) 17 wA, cA G (am 19) 17 fA, cA G (am 22) 8 r1, cA G (am 23) 8 r2, cA G (am 24) 8 r3, cA G (am 25) 4 sz, cA G (am 26) 4 ln, cA G (am 27) 240 ceM, cA G (am 28) 60 hd2__2] ++ shW G (upS st y1.toNat (some (sa, sb, la1, zn, ggC)))) H locs := g_fold (sa, sb, la1, zn, ggC) hw (by omega)
  rw [qfS_same (y := (sa, sb, la1, zn, ggC)) hx rfl] at hw
  have hz0 : st y3.toNat = some (sa, sb, la1, zn, gg) := by rw [← hko]; exact hx
  have hs3z : sz y3 = zn := by rw [← hko]; exact hs1
  have hboth : shR (upS st y1.toNat (some (sa, sb, la1, zn, ggC))) sz ln ceM ∧ shOK sz ln ceM := by
    by_cases q : C_cpy sz ln y1 y2 y3 y4 y5 = 0
    · rw [if_pos q] at hq1
      rw [if_pos ⟨hk33, q⟩] at hq2
      have hi : 0 ≤ y2 ∧ 0 ≤ y5 ∧ y2 + y5 ≤ (zn : Int) ∧ 0 ≤ y4 ∧ y4 + y5 ≤ (zn : Int) := by
        have q2 := q
        unfold C_cpy at q2
        (repeat' split at q2) <;> omega
      rw [hq1, hq2]
      have hcp := shR_cpy hsr hk3 hk33.2 hx hz0 hi hs4
      rw [← hko] at hcp ⊢
      exact ⟨hcp, shOK_mv hsh (fun j => hcr _) _ _⟩
    · rw [if_neg q] at hq1
      rw [if_neg (fun r => q r.2)] at hq2
      rw [hq1, hq2, show upS st y1.toNat (some (sa, sb, la1, zn, gg)) = st by rw [← hx]; exact upS_id st y1.toNat]
      exact ⟨hsr, hsh⟩
  refine W.widen (k := cells + 2) (n := slots + 62) (by omega) (by omega) ?_
  refine hback (upS st y1.toNat (some (sa, sb, la1, zn, ggC))) tr (F_cpy sz ln y1 y2 y3 y4 y5) cn ul rw tc xc xu xw sp co da dc rc mra mrm mP mS mD mQ mal mrw kd nu ex rt mi si un be ka br rs rf rp kt nt tex trt tmi tsi tun tbe tka tbr trs trf trp dk dn r1 r2 r3 km nm rk rn vP vS vD vQ ht wA fA sz ln ceM hd2__2 ⟨by first | assumption | (simp only [*]; done), by first | assumption | (simp only [*]; done), by first | assumption | (simp only [*]; done), by first | assumption | (simp only [*]; done), by first | assumption | (simp only [*]; done), by first | assumption | (simp only [*]; done), by first | assumption | (simp only [*]; done), by first | assumption | (simp only [*]; done), by first | assumption | (simp only [*]; done), by first | assumption | (simp only [*]; done), by first | assumption | (simp only [*]; done), by first | assumption | (simp only [*]; done), by first | assumption | (simp only [*]; done), by first | assumption | (simp only [*]; done), by first | assumption | (simp only [*]; done), by first | assumption | (simp only [*]; done), by first | assumption | (simp only [*]; done), by first | assumption | (simp only [*]; done), by first | assumption | (simp only [*]; done), by exact hboth.2, by exact hboth.1⟩ H locs ls ?_ (lv_sub hl [0, 1, 2, 3] rfl)
  exact hw

