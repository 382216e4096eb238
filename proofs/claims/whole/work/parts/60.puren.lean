/-! roots in order, who has them -/
noncomputable def fF (E : Int → Int → Int) (t : Int) : Int := qP E t * 1000000000000000000000000 + qS E t * rr (qD E t)
def rtE (E : Int → Int → Int) (t : Int) : Prop := rtOK (qP E t) (qS E t) (qD E t) (qQ E t)
theorem cm_ap {E : Int → Int → Int} {x y : Int} (hx : rtE E x) (hy : rtE E y) : nrQ (cmE E x y) (qQ E y * fF E x - qQ E x * fF E y) := by
  have h := nrC hx hy
  have e : (qP E x * qQ E y - qP E y * qQ E x) * 1000000000000000000000000 + qS E x * qQ E y * rr (qD E x) - qS E y * qQ E x * rr (qD E y) = qQ E y * fF E x - qQ E x * fF E y := by
    unfold fF
    grind
  rw [e] at h
  exact h
theorem cm_as {E : Int → Int → Int} {x y : Int} (hx : rtE E x) (hy : rtE E y) : cmE E y x = -(cmE E x y) := by
  have h1 := cm_ap hx hy
  have h2 := cm_ap hy hx
  have e : qQ E x * fF E y - qQ E y * fF E x = -(qQ E y * fF E x - qQ E x * fF E y) := by omega
  rw [e] at h2
  rcases h1 with ⟨a1, a2⟩ | ⟨a1, a2⟩ | ⟨a1, a2, a3⟩ <;> rcases h2 with ⟨b1, b2⟩ | ⟨b1, b2⟩ | ⟨b1, b2, b3⟩ <;> omega
theorem q_hi {q a T : Int} (hq : 1 ≤ q ∧ q ≤ 27) (hT : 0 ≤ T) (h : a ≤ T) : q * a ≤ 27 * T := by
  rcases (by omega : 0 ≤ a ∨ a < 0) with z | z
  · exact Int.mul_le_mul hq.2 h z (by omega)
  · have := Int.mul_neg_of_pos_of_neg (by omega : 0 < q) z; omega
theorem q_lo {q a T : Int} (hq : 1 ≤ q ∧ q ≤ 27) (hT : 0 ≤ T) (h : -T ≤ a) : -(27 * T) ≤ q * a := by
  have := q_hi (a := -a) hq hT (by omega)
  have e : q * -a = -(q * a) := by grind
  omega
theorem q_ng {q a X : Int} (hq : 1 ≤ q) (hX : 0 ≤ X) (h : a ≤ -X) : q * a ≤ -X := by
  have := Int.mul_le_mul_of_nonneg_right hq (by omega : 0 ≤ -a)
  have e : q * -a = -(q * a) := by grind
  omega
theorem cm_tr {E : Int → Int → Int} {x y z : Int} (hx : rtE E x) (hy : rtE E y) (hz : rtE E z) (h1 : cmE E x y ≤ 0) (h2 : cmE E y z ≤ 0) : cmE E x z ≤ 0 ∧ (cmE E x y < 0 ∨ cmE E y z < 0 → cmE E x z < 0) := by
  have a1 := cm_ap hx hy
  have a2 := cm_ap hy hz
  have a3 := cm_ap hx hz
  have qx : 1 ≤ qQ E x ∧ qQ E x ≤ 27 := hx.2.2.2.1
  have qy : 1 ≤ qQ E y ∧ qQ E y ≤ 27 := hy.2.2.2.1
  have qz : 1 ≤ qQ E z ∧ qQ E z ≤ 27 := hz.2.2.2.1
  have e : qQ E z * (qQ E y * fF E x - qQ E x * fF E y) + qQ E x * (qQ E z * fF E y - qQ E y * fF E z) = qQ E y * (qQ E z * fF E x - qQ E x * fF E z) := by grind
  generalize qQ E y * fF E x - qQ E x * fF E y = A1 at *
  generalize qQ E z * fF E y - qQ E y * fF E z = A2 at *
  generalize qQ E z * fF E x - qQ E x * fF E z = A3 at *
  have u1 : A1 ≤ 200000 := by rcases a1 with ⟨p1, p2⟩ | ⟨p1, p2⟩ | ⟨p1, p2, p3⟩ <;> omega
  have u2 : A2 ≤ 200000 := by rcases a2 with ⟨p1, p2⟩ | ⟨p1, p2⟩ | ⟨p1, p2, p3⟩ <;> omega
  have v1 := q_hi qz (by omega) u1
  have v2 := q_hi qx (by omega) u2
  have w0 : cmE E x z ≤ 0 := by
    rcases a3 with ⟨p1, p2⟩ | ⟨p1, p2⟩ | ⟨p1, p2, p3⟩
    · have := q_ng (q := qQ E y) (a := -A3) (X := 1000000000000) qy.1 (by omega) (by omega)
      have e2 : qQ E y * -A3 = -(qQ E y * A3) := by grind
      omega
    · omega
    · omega
  refine ⟨w0, fun hs => ?_⟩
  rcases a3 with ⟨p1, p2⟩ | ⟨p1, p2⟩ | ⟨p1, p2, p3⟩
  · omega
  · omega
  · exfalso
    have l3 := q_lo qy (by omega) p2
    rcases hs with hs | hs
    · rcases a1 with ⟨r1, r2⟩ | ⟨r1, r2⟩ | ⟨r1, r2, r3⟩
      · omega
      · have := q_ng (q := qQ E z) (a := A1) (X := 1000000000000) qz.1 (by omega) (by omega)
        omega
      · omega
    · rcases a2 with ⟨r1, r2⟩ | ⟨r1, r2⟩ | ⟨r1, r2, r3⟩
      · omega
      · have := q_ng (q := qQ E x) (a := A2) (X := 1000000000000) qx.1 (by omega) (by omega)
        omega
      · omega
theorem cm_rf {E : Int → Int → Int} {x : Int} (hx : rtE E x) : cmE E x x = 0 := by
  have := cm_as hx hx
  omega
theorem cm_eqv {E : Int → Int → Int} {x y z : Int} (hx : rtE E x) (hy : rtE E y) (hz : rtE E z) (h1 : cmE E x y = 0) (h2 : cmE E x z = 0) : cmE E y z = 0 := by
  have e1 := cm_as hx hy
  have e2 := cm_as hx hz
  have t1 := (cm_tr hy hx hz (by omega) (by omega)).1
  have t2 := (cm_tr hz hx hy (by omega) (by omega)).1
  have e3 := cm_as hy hz
  omega
/-! 0 of a polynomial, and its roots -/
theorem sl_lin {P S D Q b : Int} (hQ : 0 < Q) : sAt b (2 * 0) 0 P S D Q = sg b := by
  have hQQ : 0 < Q * Q := Int.mul_pos hQ hQ
  unfold sAt
  rw [show b * Q * Q + 2 * 0 * Q * P + 0 * (P * P + D) = (Q * Q) * b by grind, show S * (2 * 0 * Q + 2 * 0 * P) = 0 by grind, sg2_v0, mul_pos_sg hQQ]
theorem ow_con {P S D Q a : Int} (hQ : 0 < Q) : sAt a 0 0 P S D Q = sg a := by
  have hQQ : 0 < Q * Q := Int.mul_pos hQ hQ
  unfold sAt
  rw [show a * Q * Q + 0 * Q * P + 0 * (P * P + D) = (Q * Q) * a by grind, show S * (0 * Q + 2 * 0 * P) = 0 by grind, sg2_v0, mul_pos_sg hQQ]
theorem z_sq {u v d k : Int} (hu : -1458 ≤ u ∧ u ≤ 1458) (hv : -27 ≤ v ∧ v ≤ 27) (hd : 0 ≤ d ∧ d ≤ 1701) (hk : -2000000 ≤ k ∧ k ≤ 2000000) (h : sg2 (u * u + v * v * d - k) (2 * u * v) d = 0) : 0 ≤ k ∧ (k = 0 ↔ sg2 u v d = 0) := by
  have m1 := mul_rg (x := u) (y := u) (A := 1458) (B := 1458) hu hu
  have m2 := mul_rg (x := v) (y := v) (A := 27) (B := 27) hv hv
  have m3 := mul_rg (x := v * v) (y := d) (A := 729) (B := 1701) (by omega) (by omega)
  have m4 := mul_rg (x := 2 * u) (y := v) (A := 2916) (B := 27) (by omega) (by omega)
  have a1 := nrA (u := u * u + v * v * d - k) (v := 2 * u * v) (d := d) (by omega) (by omega) hd
  have a2 := nrA (u := u) (v := v) (d := d) (by omega) (by omega) hd
  have g := er_b (v := v) (d := d) hv hd
  have e : (u * 1000000000000000000000000 + v * rr d) * (u * 1000000000000000000000000 + v * rr d) = 1000000000000000000000000 * ((u * u + v * v * d - k) * 1000000000000000000000000 + 2 * u * v * rr d) + k * 1000000000000000000000000000000000000000000000000 - v * v * (d * 1000000000000000000000000000000000000000000000000 - rr d * rr d) := by grind
  have b1 : -100000 ≤ (u * u + v * v * d - k) * 1000000000000000000000000 + 2 * u * v * rr d ∧ (u * u + v * v * d - k) * 1000000000000000000000000 + 2 * u * v * rr d ≤ 100000 := by
    rcases a1 with ⟨p1, p2⟩ | ⟨p1, p2⟩ | ⟨p1, p2, p3⟩
    · omega
    · omega
    · exact ⟨p2, p3⟩
  generalize (u * u + v * v * d - k) * 1000000000000000000000000 + 2 * u * v * rr d = B at *
  generalize v * v * (d * 1000000000000000000000000000000000000000000000000 - rr d * rr d) = er at *
  generalize u * 1000000000000000000000000 + v * rr d = a at *
  have h0 : 0 ≤ a * a := by
    rcases (by omega : 0 ≤ a ∨ a ≤ 0) with q | q
    · exact Int.mul_nonneg q q
    · exact Int.mul_nonneg_of_nonpos_of_nonpos q q
  have hk0 : 0 ≤ k := by omega
  refine ⟨hk0, fun hz => ?_, fun hz => ?_⟩
  · subst hz
    rcases a2 with ⟨p1, p2⟩ | ⟨p1, p2⟩ | ⟨p1, p2, p3⟩
    · have := sq_le (by omega : (0 : Int) ≤ 1000000000000000) (by omega : 1000000000000000 ≤ a)
      omega
    · have := sq_le (by omega : (0 : Int) ≤ 1000000000000000) (by omega : 1000000000000000 ≤ -a)
      rw [Int.neg_mul_neg] at this
      omega
    · exact p1
  · rcases a2 with ⟨p1, p2⟩ | ⟨p1, p2⟩ | ⟨p1, p2, p3⟩
    · omega
    · omega
    · have := mul_rg (x := a) (y := a) (A := 100000) (B := 100000) ⟨p2, p3⟩ ⟨p2, p3⟩
      omega
theorem dsc_bb {E : Int → Int → Int} (hE : EB E) (q : Int) : -2000 ≤ dsc E q ∧ dsc E q ≤ 1701 := by
  obtain ⟨e0, e1, e2⟩ := hE q
  have m1 := mul_rg (x := E q 1) (y := E q 1) (A := 27) (B := 27) e1 e1
  have m2 := mul_rg (x := 4 * E q 2) (y := E q 0) (A := 36) (B := 27) (by omega) e0
  have m3 : 0 ≤ E q 1 * E q 1 := by
    rcases (by omega : 0 ≤ E q 1 ∨ E q 1 ≤ 0) with w | w
    · exact Int.mul_nonneg w w
    · exact Int.mul_nonneg_of_nonpos_of_nonpos w w
  unfold dsc
  omega
theorem cmE_cmC {E : Int → Int → Int} {x q i : Int} (hx : rtE E x) (hi : 0 ≤ i ∧ i < nR E q) (hE : EB E) : cmE E x (2 * q + i) = cmC (sg (E q 2)) (sRt E x q) (sAt (E q 1) (2 * E q 2) 0 (qP E x) (qS E x) (qD E x) (qQ E x)) (zS E q i) := by
  have hn := nR_r E q
  obtain ⟨g0, g1, g2, g3⟩ := qP_of (E := E) (pp := q) (ii := i) (by omega)
  have h := cmC_eq hx hi hE
  unfold cmE
  rw [g0, g1, g2, g3, ← h]
  rfl
theorem lead {E : Int → Int → Int} {q : Int} (hc : ¬ E q 2 = 0) : (0 < E q 2 ∧ zP E q = -(E q 1) ∧ zQ E q = 2 * E q 2) ∨ (E q 2 < 0 ∧ zP E q = E q 1 ∧ zQ E q = (-2) * E q 2) := by
  unfold zP zQ
  rw [if_neg hc, if_neg hc]
  by_cases h : 0 < E q 2
  · rw [if_pos h, if_pos h]; omega
  · rw [if_neg h, if_neg h]; omega
theorem zero_rt {E : Int → Int → Int} {x q : Int} (hx : rtE E x) (hE : EB E) (hn : ¬ noB E q = true) (h : sRt E x q = 0) : ∃ i, (0 ≤ i ∧ i < nR E q) ∧ cmE E x (2 * q + i) = 0 := by
  obtain ⟨hP, hS, hD, hQ, hz⟩ := id hx
  by_cases hc : E q 2 = 0
  · have hb : ¬ E q 1 = 0 := by
      intro hb
      unfold sRt at h
      rw [hc, hb, ow_con (by omega)] at h
      exact hn (decide_eq_true ⟨sg_0i h, hb, hc⟩)
    have hi : (0 : Int) ≤ 0 ∧ 0 < nR E q := by unfold nR; rw [if_pos hc, if_neg hb]; omega
    refine ⟨0, hi, ?_⟩
    rw [cmE_cmC hx hi hE]
    unfold cmC
    rw [hc, if_pos (show sg 0 = 0 from rfl), h, Int.zero_mul]
  · have hl := lead hc
    have hsc : ¬ sg (E q 2) = 0 := fun w => hc (sg_0i w)
    have hdb := dsc_bb hE q
    obtain ⟨f0, f1, f2⟩ := hE q
    have e1 := cm_slope (P := qP E x) (S := qS E x) (D := qD E x) (Q := qQ E x) (by omega) hc hl
    have e3 := cm_own (P := qP E x) (S := qS E x) (D := qD E x) (Q := qQ E x) (a := E q 0) (S2 := 1) (D2 := dsc E q) (ssd hx) (by omega) rfl hc hl
    rw [show sAt (E q 0) (E q 1) (E q 2) (qP E x) (qS E x) (qD E x) (qQ E x) = 0 from h, Int.zero_mul] at e3
    have zq : -27 ≤ zP E q ∧ zP E q ≤ 27 ∧ 1 ≤ zQ E q ∧ zQ E q ≤ 27 := by omega
    have k1 := mul_rg (x := qP E x) (y := zQ E q) (A := 27) (B := 27) (by omega) (by omega)
    have k2 := mul_rg (x := zP E q) (y := qQ E x) (A := 27) (B := 27) (by omega) (by omega)
    have k3 := mul_rg (x := qS E x) (y := zQ E q) (A := 1) (B := 27) (by omega) (by omega)
    have k4 := mul_rg (x := qQ E x) (y := qQ E x) (A := 27) (B := 27) (by omega) (by omega)
    have k5 := mul_rg (x := qQ E x * qQ E x) (y := dsc E q) (A := 729) (B := 2000) (by omega) (by omega)
    have kp : 0 < qQ E x * qQ E x := Int.mul_pos (by omega) (by omega)
    unfold cm3 at e3
    rw [show 1 * qQ E x * (1 * qQ E x) * dsc E q = qQ E x * qQ E x * dsc E q by grind] at e3
    obtain ⟨s1, s2⟩ := z_sq (u := qP E x * zQ E q - zP E q * qQ E x) (v := qS E x * zQ E q) (d := qD E x) (k := qQ E x * qQ E x * dsc E q) (by omega) (by omega) hD (by omega) e3.symm
    have hs1 := sg2_r (qP E x * zQ E q - zP E q * qQ E x) (qS E x * zQ E q) (qD E x)
    replace hs1 : -1 ≤ cm1 (qP E x) (qS E x) (qD E x) (qQ E x) (zP E q) (zQ E q) ∧ cm1 (qP E x) (qS E x) (qD E x) (qQ E x) (zP E q) (zQ E q) ≤ 1 := hs1
    replace s2 : qQ E x * qQ E x * dsc E q = 0 ↔ cm1 (qP E x) (qS E x) (qD E x) (qQ E x) (zP E q) (zQ E q) = 0 := s2
    obtain ⟨m1, m2⟩ := mul_pos_iff (u := dsc E q) kp
    have hd0 : 0 ≤ dsc E q := by
      rcases (by omega : 0 ≤ dsc E q ∨ dsc E q < 0) with w | w
      · exact w
      · have := Int.mul_neg_of_pos_of_neg kp w; omega
    rcases (by omega : dsc E q = 0 ∨ 0 < dsc E q) with w | w
    · have hi : (0 : Int) ≤ 0 ∧ 0 < nR E q := by unfold nR; rw [if_neg hc, if_neg (by omega), if_pos w]; omega
      refine ⟨0, hi, ?_⟩
      rw [cmE_cmC hx hi hE]
      have zs : zS E q 0 = 0 := by unfold zS; rw [if_neg hc, if_pos w]
      unfold cmC
      rw [if_neg hsc, if_pos zs, e1]
      exact s2.mp (m1.mpr w)
    · have hne : ¬ cm1 (qP E x) (qS E x) (qD E x) (qQ E x) (zP E q) (zQ E q) = 0 := fun r => by
        have := m1.mp (s2.mpr r); omega
      have hn2 : nR E q = 2 := by unfold nR; rw [if_neg hc, if_pos w]
      rcases (by omega : cm1 (qP E x) (qS E x) (qD E x) (qQ E x) (zP E q) (zQ E q) < 0 ∨ 0 < cm1 (qP E x) (qS E x) (qD E x) (qQ E x) (zP E q) (zQ E q)) with r | r
      · have hi : (0 : Int) ≤ 0 ∧ 0 < nR E q := by omega
        refine ⟨0, hi, ?_⟩
        rw [cmE_cmC hx hi hE]
        have zs : zS E q 0 = -1 := by unfold zS; rw [if_neg hc, if_neg (by omega), if_pos rfl]
        unfold cmC
        rw [if_neg hsc, zs, if_neg (by omega), if_pos (by omega), e1, if_pos r, h, Int.zero_mul]
        rfl
      · have hi : (0 : Int) ≤ 1 ∧ 1 < nR E q := by omega
        refine ⟨1, hi, ?_⟩
        rw [cmE_cmC hx hi hE]
        have zs : zS E q 1 = 1 := by unfold zS; rw [if_neg hc, if_neg (by omega), if_neg (by omega)]
        unfold cmC
        rw [if_neg hsc, zs, if_neg (by omega), if_neg (by omega), e1, if_pos r, h, Int.zero_mul]
theorem rt_zero {E : Int → Int → Int} {x q i : Int} (hx : rtE E x) (hE : EB E) (hi : 0 ≤ i ∧ i < nR E q) (h : cmE E x (2 * q + i) = 0) : ¬ noB E q = true ∧ sRt E x q = 0 := by
  obtain ⟨hP, hS, hD, hQ, hz⟩ := id hx
  rw [cmE_cmC hx hi hE] at h
  have hr := sRt_r E x q
  have hsl := sAt_r (E q 1) (2 * E q 2) 0 (qP E x) (qS E x) (qD E x) (qQ E x)
  refine ⟨fun hn => ?_, ?_⟩
  · obtain ⟨-, n1, n2⟩ := of_decide_eq_true hn
    unfold nR at hi
    rw [if_pos n2, if_pos n1] at hi
    omega
  · unfold cmC at h
    by_cases hc : E q 2 = 0
    · have hb : ¬ E q 1 = 0 := by
        intro hb
        unfold nR at hi
        rw [if_pos hc, if_pos hb] at hi
        omega
      rw [hc, if_pos (show sg 0 = 0 from rfl), sl_lin (by omega)] at h
      rcases Int.mul_eq_zero.mp h with w | w
      · exact w
      · exact absurd (sg_0i w) hb
    · have hsc : ¬ sg (E q 2) = 0 := fun w => hc (sg_0i w)
      have hl := lead hc
      rw [if_neg hsc] at h
      by_cases z0 : zS E q i = 0
      · rw [if_pos z0] at h
        have w : dsc E q = 0 := by
          unfold zS at z0
          rw [if_neg hc] at z0
          by_cases w : dsc E q = 0
          · exact w
          · rw [if_neg w] at z0
            split at z0 <;> omega
        have e1 := cm_slope (P := qP E x) (S := qS E x) (D := qD E x) (Q := qQ E x) (by omega) hc hl
        have e3 := cm_own (P := qP E x) (S := qS E x) (D := qD E x) (Q := qQ E x) (a := E q 0) (S2 := 1) (D2 := dsc E q) (ssd hx) (by omega) rfl hc hl
        rw [h] at e1
        rw [cm3_0 hD.1 w e1.symm] at e3
        rcases Int.mul_eq_zero.mp e3 with r | r
        · exact r
        · exact absurd r hsc
      · rw [if_neg z0] at h
        have own0 : ∀ o : Int, o * sg (E q 2) = 0 → o = 0 := fun o ho => by
          rcases Int.mul_eq_zero.mp ho with r | r
          · exact r
          · exact absurd r hsc
        split at h
        · split at h
          · exact own0 _ (by omega)
          · omega
        · split at h
          · exact own0 _ h
          · omega
