/-! two ways of comparing roots -/
theorem mul_pos_sg {k u : Int} (hk : 0 < k) : sg (k * u) = sg u := by
  rcases (by omega : u < 0 ∨ u = 0 ∨ 0 < u) with q | q | q
  · rw [sg_n q, sg_n (Int.mul_neg_of_pos_of_neg hk q)]
  · subst q; rw [Int.mul_zero]
  · rw [sg_p q, sg_p (Int.mul_pos hk q)]
theorem neg_sg (u : Int) : sg (-u) = -(sg u) := by
  unfold sg
  (repeat' split) <;> omega
theorem mul_pos_iff {k u : Int} (hk : 0 < k) : (k * u = 0 ↔ u = 0) ∧ (0 < k * u ↔ 0 < u) := by
  rcases (by omega : u < 0 ∨ u = 0 ∨ 0 < u) with q | q | q
  · have := Int.mul_neg_of_pos_of_neg hk q; omega
  · subst q; rw [Int.mul_zero]; omega
  · have := Int.mul_pos hk q; omega
theorem sg2_scale {k u v d : Int} (hk : 0 < k) : sg2 (k * u) (k * v) d = sg2 u v d := by
  have e : k * u * (k * u) - k * v * (k * v) * d = (k * k) * (u * u - v * v * d) := by grind
  have hkk : 0 < k * k := Int.mul_pos hk hk
  obtain ⟨h1, h2⟩ := mul_pos_iff (u := u * u - v * v * d) hkk
  unfold sg2
  rw [mul_pos_sg hk, mul_pos_sg hk, e]
  simp only [h1, h2]
theorem sg2_neg {u v d : Int} : sg2 (-u) (-v) d = -(sg2 u v d) := by
  have e : -u * -u - -v * -v * d = u * u - v * v * d := by grind
  unfold sg2
  rw [neg_sg, neg_sg, e]
  (repeat' split) <;> omega
theorem sg2_z0 {d : Int} : sg2 0 0 d = 0 := by
  unfold sg2
  rw [show sg 0 = 0 from rfl]
  (repeat' split) <;> omega
theorem sg2_v0 {u d : Int} : sg2 u 0 d = sg u := by
  unfold sg2
  rw [show sg 0 = 0 from rfl]
  rw [if_pos (Or.inr (by split <;> rfl))]
theorem sg2_d0 {u v : Int} : sg2 u v 0 = sg u := by
  unfold sg2
  rw [if_pos (Or.inr (if_pos rfl))]
theorem sg_0i {u : Int} (h : sg u = 0) : u = 0 := by
  unfold sg at h
  (repeat' split at h) <;> omega
/-- what is 0 has a square that is 0 -/
theorem sq0 {x y d : Int} (hd : 0 ≤ d) (h : sg2 x y d = 0) : sg2 (x * x + y * y * d) (2 * x * y) d = 0 := by
  by_cases h0 : d = 0
  · subst h0
    rw [sg2_d0] at h ⊢
    rw [sg_0i h]
    simp [sg]
  · have hsx := sg_r x
    have hsy := sg_r y
    unfold sg2 at h
    rw [if_neg h0] at h
    by_cases q1 : sg x = sg y ∨ sg y = 0
    · rw [if_pos q1] at h
      have hx : x = 0 := sg_0i h
      have hy : y = 0 := by
        rcases q1 with q | q
        · exact sg_0i (by rw [← q]; exact h)
        · exact sg_0i q
      subst hx; subst hy
      simp [sg2_z0]
    · rw [if_neg q1] at h
      by_cases q2 : sg x = 0
      · rw [if_pos q2] at h; omega
      · rw [if_neg q2] at h
        by_cases q3 : x * x - y * y * d = 0
        · have e1 : x * x + y * y * d = 2 * (x * x) := by omega
          have e2 : (2 * (x * x)) * (2 * (x * x)) - (2 * x * y) * (2 * x * y) * d = 4 * (x * x) * (x * x - y * y * d) := by grind
          rw [e1]
          unfold sg2
          rw [if_neg h0, e2, q3, Int.mul_zero]
          have hx0 : ¬ x = 0 := fun q => q2 (by subst q; rfl)
          have hy0 : ¬ sg y = 0 := by omega
          have hxx : 0 < x * x := by
            rcases (by omega : x < 0 ∨ 0 < x) with q | q
            · have := Int.mul_pos_of_neg_of_neg q q; exact this
            · exact Int.mul_pos q q
          have hs1 : sg (2 * (x * x)) = 1 := sg_p (by omega)
          have hxy : x * y < 0 := by
            unfold sg at q1 q2 hy0
            rcases (by omega : x < 0 ∨ 0 < x) with q | q
            · have : 0 < y := by (repeat' split at q1) <;> (repeat' split at hy0) <;> omega
              exact Int.mul_neg_of_neg_of_pos q this
            · have : y < 0 := by (repeat' split at q1) <;> (repeat' split at hy0) <;> omega
              exact Int.mul_neg_of_pos_of_neg q this
          have hs2 : sg (2 * x * y) = -1 := sg_n (by rw [Int.mul_assoc]; omega)
          rw [hs1, hs2]
          simp
        · rw [if_neg q3] at h
          split at h <;> omega
/-- the class's way: the signs, at the one, of the polynomial that the other is of, and of its derivative -/
def cmC (c own slope S2 : Int) : Int := if c = 0 then own * slope else if S2 = 0 then slope * c else if S2 < 0 then (if slope * c < 0 then -(own * c) else 1) else (if 0 < slope * c then own * c else -1)
theorem cm_slope {P S D Q b c P2 Q2 : Int} (hQ : 0 < Q) (hc : ¬ c = 0) (h : (0 < c ∧ P2 = -b ∧ Q2 = 2 * c) ∨ (c < 0 ∧ P2 = b ∧ Q2 = (-2) * c)) : sAt b (2 * c) 0 P S D Q * sg c = cm1 P S D Q P2 Q2 := by
  unfold sAt cm1
  rcases h with ⟨h1, rfl, rfl⟩ | ⟨h1, rfl, rfl⟩
  · rw [show b * Q * Q + 2 * c * Q * P + 0 * (P * P + D) = Q * (P * (2 * c) - -b * Q) by grind, show S * (2 * c * Q + 2 * 0 * P) = Q * (S * (2 * c)) by grind, sg2_scale hQ, sg_p h1, Int.mul_one]
  · rw [show P2 * Q * Q + 2 * c * Q * P + 0 * (P * P + D) = -(Q * (P * (-2 * c) - P2 * Q)) by grind, show S * (2 * c * Q + 2 * 0 * P) = -(Q * (S * (-2 * c))) by grind, sg2_neg, sg2_scale hQ, sg_n h1]
    omega
theorem cm_own {P S D Q a b c P2 S2 D2 Q2 : Int} (hSD : S * S * D = D) (hS2 : S2 * S2 * D2 = D2) (hD2 : D2 = b * b - 4 * c * a) (hc : ¬ c = 0) (h : (0 < c ∧ P2 = -b ∧ Q2 = 2 * c) ∨ (c < 0 ∧ P2 = b ∧ Q2 = (-2) * c)) : sAt a b c P S D Q * sg c = cm3 P S D Q P2 S2 D2 Q2 := by
  have hz : S2 * Q * (S2 * Q) * D2 = Q * Q * D2 := by
    rw [show S2 * Q * (S2 * Q) * D2 = Q * Q * (S2 * S2 * D2) by grind, hS2]
  unfold sAt cm3
  rw [hz]
  rcases h with ⟨h1, rfl, rfl⟩ | ⟨h1, rfl, rfl⟩
  · have eU : (P * (2 * c) - -b * Q) * (P * (2 * c) - -b * Q) + S * (2 * c) * (S * (2 * c)) * D - Q * Q * D2 = (4 * c) * (a * Q * Q + b * Q * P + c * (P * P + D)) := by
      rw [show S * (2 * c) * (S * (2 * c)) * D = 4 * c * c * (S * S * D) by grind, hSD, hD2]
      grind
    have eV : 2 * (P * (2 * c) - -b * Q) * (S * (2 * c)) = (4 * c) * (S * (b * Q + 2 * c * P)) := by grind
    rw [eU, eV, sg2_scale (by omega), sg_p h1, Int.mul_one]
  · have eU : (P * (-2 * c) - P2 * Q) * (P * (-2 * c) - P2 * Q) + S * (-2 * c) * (S * (-2 * c)) * D - Q * Q * D2 = -((-4 * c) * (a * Q * Q + P2 * Q * P + c * (P * P + D))) := by
      rw [show S * (-2 * c) * (S * (-2 * c)) * D = 4 * c * c * (S * S * D) by grind, hSD, hD2]
      grind
    have eV : 2 * (P * (-2 * c) - P2 * Q) * (S * (-2 * c)) = -((-4 * c) * (S * (P2 * Q + 2 * c * P))) := by grind
    rw [eU, eV, sg2_neg, sg2_scale (by omega), sg_n h1]
    omega
theorem cm_lin {P S D Q a b P2 Q2 : Int} (hQ : 0 < Q) (h : (0 < b ∧ P2 = -a ∧ Q2 = b) ∨ (b < 0 ∧ P2 = a ∧ Q2 = -b)) : sAt a b 0 P S D Q * sAt b (2 * 0) 0 P S D Q = cm1 P S D Q P2 Q2 := by
  have hQQ : 0 < Q * Q := Int.mul_pos hQ hQ
  have e0 : sAt b (2 * 0) 0 P S D Q = sg b := by
    unfold sAt
    rw [show b * Q * Q + 2 * 0 * Q * P + 0 * (P * P + D) = (Q * Q) * b by grind, show S * (2 * 0 * Q + 2 * 0 * P) = 0 by grind, sg2_v0, mul_pos_sg hQQ]
  rw [e0]
  unfold sAt cm1
  rcases h with ⟨h1, rfl, rfl⟩ | ⟨h1, rfl, rfl⟩
  · rw [show a * Q * Q + Q2 * Q * P + 0 * (P * P + D) = Q * (P * Q2 - -a * Q) by grind, show S * (Q2 * Q + 2 * 0 * P) = Q * (S * Q2) by grind, sg2_scale hQ, sg_p h1, Int.mul_one]
  · rw [show P2 * Q * Q + b * Q * P + 0 * (P * P + D) = -(Q * (P * -b - P2 * Q)) by grind, show S * (b * Q + 2 * 0 * P) = -(Q * (S * -b)) by grind, sg2_neg, sg2_scale hQ, sg_n h1]
    omega
theorem cm3_0 {P S D Q P2 S2 D2 Q2 : Int} (hD : 0 ≤ D) (hD2 : D2 = 0) (h : cm1 P S D Q P2 Q2 = 0) : cm3 P S D Q P2 S2 D2 Q2 = 0 := by
  unfold cm1 at h
  have := sq0 hD h
  unfold cm3
  rw [hD2, Int.mul_zero, Int.sub_zero]
  exact this
theorem cmC_eq {E : Int → Int → Int} {P S D Q q i : Int} (hr : rtOK P S D Q) (hi : 0 ≤ i ∧ i < nR E q) (hE : EB E) :
    cmC (sg (E q 2)) (sAt (E q 0) (E q 1) (E q 2) P S D Q) (sAt (E q 1) (2 * E q 2) 0 P S D Q) (zS E q i) = cmF P S D Q (zP E q) (zS E q i) (zD E q) (zQ E q) := by
  have hr2 := rt_ok hE hi
  have hSD := ssd hr
  have hS2 := ssd hr2
  obtain ⟨-, -, hD, hQ, -⟩ := hr
  obtain ⟨-, hzS, hzD, hzQ, hz0⟩ := id hr2
  by_cases hc : E q 2 = 0
  · have hb : ¬ E q 1 = 0 := by
      intro h
      unfold nR at hi
      rw [if_pos hc, if_pos h] at hi
      omega
    have eS : zS E q i = 0 := by unfold zS; rw [if_pos hc]
    have eD : zD E q = 0 := by unfold zD; rw [if_pos hc]
    have hl : (0 < E q 1 ∧ zP E q = -(E q 0) ∧ zQ E q = E q 1) ∨ (E q 1 < 0 ∧ zP E q = E q 0 ∧ zQ E q = -(E q 1)) := by
      unfold zP zQ
      rw [if_pos hc, if_pos hc]
      by_cases h : 0 < E q 1
      · rw [if_pos h, if_pos h]; omega
      · rw [if_neg h, if_neg h]; omega
    have e1 := cm_lin (P := P) (S := S) (D := D) (Q := Q) (a := E q 0) (by omega) hl
    have hs1 := sg2_r (P * zQ E q - zP E q * Q) (S * zQ E q) D
    replace hs1 : -1 ≤ cm1 P S D Q (zP E q) (zQ E q) ∧ cm1 P S D Q (zP E q) (zQ E q) ≤ 1 := hs1
    unfold cmC
    rw [hc, if_pos (show sg 0 = 0 from rfl), e1]
    unfold cmF cm2
    rw [if_pos eD]
    by_cases h : cm1 P S D Q (zP E q) (zQ E q) = 0
    · rw [if_pos h, if_neg (by omega), cm3_0 (by omega) eD h, h]
    · rw [if_neg h]
      split <;> omega
  · have hl : (0 < E q 2 ∧ zP E q = -(E q 1) ∧ zQ E q = 2 * E q 2) ∨ (E q 2 < 0 ∧ zP E q = E q 1 ∧ zQ E q = (-2) * E q 2) := by
      unfold zP zQ
      rw [if_neg hc, if_neg hc]
      by_cases h : 0 < E q 2
      · rw [if_pos h, if_pos h]; omega
      · rw [if_neg h, if_neg h]; omega
    have eD : zD E q = E q 1 * E q 1 - 4 * E q 2 * E q 0 := by unfold zD; rw [if_neg hc]; rfl
    have e1 := cm_slope (P := P) (S := S) (D := D) (Q := Q) (by omega) hc hl
    have e3 := cm_own (P := P) (S := S) (D := D) (Q := Q) (a := E q 0) hSD hS2 eD hc hl
    have hsc : ¬ sg (E q 2) = 0 := fun h => hc (sg_0i h)
    have hs1 := sg2_r (P * zQ E q - zP E q * Q) (S * zQ E q) D
    replace hs1 : -1 ≤ cm1 P S D Q (zP E q) (zQ E q) ∧ cm1 P S D Q (zP E q) (zQ E q) ≤ 1 := hs1
    unfold cmC
    rw [if_neg hsc, e1, e3]
    unfold cmF cm2
    rcases (by omega : zS E q i = 0 ∨ zS E q i = -1 ∨ zS E q i = 1) with z | z | z
    · have eD0 := hz0 z
      rw [if_pos z, if_pos eD0]
      by_cases h : cm1 P S D Q (zP E q) (zQ E q) = 0
      · rw [if_pos h, if_neg (by omega), cm3_0 (by omega) eD0 h, h]
      · rw [if_neg h]
        split <;> omega
    · have eD0 : ¬ zD E q = 0 := by
        intro h
        unfold zD at h
        rw [if_neg hc] at h
        unfold zS at z
        rw [if_neg hc, if_pos h] at z
        omega
      rw [if_neg (by omega), if_pos (by omega), if_neg eD0, z, sg_n (by omega : (-1) * Q < 0)]
      (repeat' split) <;> omega
    · have eD0 : ¬ zD E q = 0 := by
        intro h
        unfold zD at h
        rw [if_neg hc] at h
        unfold zS at z
        rw [if_neg hc, if_pos h] at z
        omega
      rw [if_neg (by omega), if_neg (by omega), if_neg eD0, z, sg_p (by omega : 0 < 1 * Q)]
      (repeat' split) <;> omega
