/-! pure words: signs, polynomials, roots -/
def sg (z : Int) : Int := if z < 0 then -1 else if 0 < z then 1 else 0
def sg2 (u v d : Int) : Int := if sg u = (if d = 0 then 0 else sg v) ∨ (if d = 0 then 0 else sg v) = 0 then sg u else if sg u = 0 then (if d = 0 then 0 else sg v) else if u * u - v * v * d = 0 then 0 else if 0 < u * u - v * v * d then sg u else (if d = 0 then 0 else sg v)
theorem sg_r (z : Int) : -1 ≤ sg z ∧ sg z ≤ 1 := by unfold sg; (repeat' split) <;> omega
theorem sg_n {z : Int} (h : z < 0) : sg z = -1 := by simp [sg, h]
theorem sg_p {z : Int} (h : 0 < z) : sg z = 1 := by unfold sg; rw [if_neg (by omega), if_pos h]
theorem sg_0 {z : Int} (h : z = 0) : sg z = 0 := by subst h; decide
theorem sg2_r (u v d : Int) : -1 ≤ sg2 u v d ∧ sg2 u v d ≤ 1 := by
  have h1 := sg_r u
  have h2 := sg_r v
  unfold sg2
  (repeat' split) <;> omega
theorem mul_rg {x y A B : Int} (hx : -A ≤ x ∧ x ≤ A) (hy : -B ≤ y ∧ y ≤ B) : -(A * B) ≤ x * y ∧ x * y ≤ A * B := by
  have h1 : 0 ≤ (A - x) * (B + y) := Int.mul_nonneg (by omega) (by omega)
  have h2 : 0 ≤ (A + x) * (B - y) := Int.mul_nonneg (by omega) (by omega)
  have h3 : 0 ≤ (A - x) * (B - y) := Int.mul_nonneg (by omega) (by omega)
  have h4 : 0 ≤ (A + x) * (B + y) := Int.mul_nonneg (by omega) (by omega)
  rw [Int.sub_mul, Int.mul_add, Int.mul_add] at h1
  rw [Int.add_mul, Int.mul_sub, Int.mul_sub] at h2
  rw [Int.sub_mul, Int.mul_sub, Int.mul_sub] at h3
  rw [Int.add_mul, Int.mul_add, Int.mul_add] at h4
  omega
theorem sg2_rg {u v d : Int} (hu : -10000000 ≤ u ∧ u ≤ 10000000) (hv : -10000000 ≤ v ∧ v ≤ 10000000) (hd : 0 ≤ d ∧ d ≤ 10000) : -9000000000000000000 ≤ u * u - v * v * d ∧ u * u - v * v * d ≤ 9000000000000000000 := by
  have h1 := mul_rg (A := 10000000) (B := 10000000) (by omega) (by omega : -10000000 ≤ u ∧ u ≤ 10000000) (x := u)
  have h2 := mul_rg (A := 10000000) (B := 10000000) (by omega) (by omega : -10000000 ≤ v ∧ v ≤ 10000000) (x := v)
  have h3 := mul_rg (x := v * v) (y := d) (A := 100000000000000) (B := 10000) (by omega) (by omega)
  omega
/-! what polynomials are; their roots -/
def exF (kd nu : Int → Int) (q k : Int) : Int :=
  if k = 0 then (if kd q = 2 then nu (3 * q) + -(nu (3 * q + 1)) + nu (3 * q + 2) else nu (3 * q))
  else if k = 1 then (if kd q = 0 then nu (3 * q + 1) else if kd q = 2 then -(nu (3 * q + 1)) + 2 * nu (3 * q + 2) else -(nu (3 * q + 1)))
  else nu (3 * q + 2)
def exT (n : Int) (kd nu : Int → Int) (q k : Int) : Int := if 0 ≤ q ∧ q < n then exF kd nu q k else 0
def kdOK (kd : Int → Int) : Prop := ∀ j, 0 ≤ kd j ∧ kd j ≤ 2
def nuOK (nu : Int → Int) : Prop := ∀ j, -9 ≤ nu j ∧ nu j ≤ 9
def EB (E : Int → Int → Int) : Prop := ∀ q, (-27 ≤ E q 0 ∧ E q 0 ≤ 27) ∧ (-27 ≤ E q 1 ∧ E q 1 ≤ 27) ∧ (-9 ≤ E q 2 ∧ E q 2 ≤ 9)
theorem exT_in {n : Int} {kd nu : Int → Int} {q k : Int} (h : 0 ≤ q ∧ q < n) : exT n kd nu q k = exF kd nu q k := if_pos h
theorem exT_B (n : Int) (kd : Int → Int) {nu : Int → Int} (hn : nuOK nu) : EB (exT n kd nu) := by
  intro q
  have h0 := hn (3 * q)
  have h1 := hn (3 * q + 1)
  have h2 := hn (3 * q + 2)
  refine ⟨?_, ?_, ?_⟩
  · unfold exT exF
    (repeat' split) <;> omega
  · unfold exT exF
    (repeat' split) <;> omega
  · unfold exT exF
    (repeat' split) <;> omega
theorem exT_b {n : Int} {kd nu : Int → Int} (hn : nuOK nu) (q k : Int) : -27 ≤ exT n kd nu q k ∧ exT n kd nu q k ≤ 27 := by
  have h0 := hn (3 * q)
  have h1 := hn (3 * q + 1)
  have h2 := hn (3 * q + 2)
  unfold exT exF
  (repeat' split) <;> omega
def dsc (E : Int → Int → Int) (q : Int) : Int := E q 1 * E q 1 - 4 * E q 2 * E q 0
def nR (E : Int → Int → Int) (q : Int) : Int := if E q 2 = 0 then (if E q 1 = 0 then 0 else 1) else if 0 < dsc E q then 2 else if dsc E q = 0 then 1 else 0
def zP (E : Int → Int → Int) (q : Int) : Int := if E q 2 = 0 then (if 0 < E q 1 then -(E q 0) else E q 0) else (if 0 < E q 2 then -(E q 1) else E q 1)
def zQ (E : Int → Int → Int) (q : Int) : Int := if E q 2 = 0 then (if 0 < E q 1 then E q 1 else -(E q 1)) else (if 0 < E q 2 then 2 * E q 2 else (-2) * E q 2)
def zS (E : Int → Int → Int) (q i : Int) : Int := if E q 2 = 0 then 0 else if dsc E q = 0 then 0 else if i = 0 then -1 else 1
def zD (E : Int → Int → Int) (q : Int) : Int := if E q 2 = 0 then 0 else dsc E q
def rtOK (P S D Q : Int) : Prop := (-27 ≤ P ∧ P ≤ 27) ∧ (-1 ≤ S ∧ S ≤ 1) ∧ (0 ≤ D ∧ D ≤ 1701) ∧ (1 ≤ Q ∧ Q ≤ 27) ∧ (S = 0 → D = 0)
theorem dsc_b {E : Int → Int → Int} (h : EB E) (q : Int) : -1701 ≤ dsc E q ∧ dsc E q ≤ 1701 := by
  obtain ⟨h0, h1, h2⟩ := h q
  have a1 := mul_rg (x := E q 1) (y := E q 1) (A := 27) (B := 27) (by omega) (by omega)
  have a2 := mul_rg (x := 4 * E q 2) (y := E q 0) (A := 36) (B := 27) (by omega) (by omega)
  unfold dsc
  omega
theorem nR_r (E : Int → Int → Int) (q : Int) : 0 ≤ nR E q ∧ nR E q ≤ 2 := by
  unfold nR
  (repeat' split) <;> omega
theorem rt_ok {E : Int → Int → Int} (h : EB E) {q i : Int} (hi : 0 ≤ i ∧ i < nR E q) : rtOK (zP E q) (zS E q i) (zD E q) (zQ E q) := by
  have hd := dsc_b h q
  obtain ⟨h0, h1, h2⟩ := h q
  unfold nR at hi
  refine ⟨?_, ?_, ?_, ?_, ?_⟩
  · unfold zP
    (repeat' split) <;> omega
  · unfold zS
    (repeat' split) <;> omega
  · unfold zD
    (repeat' split at hi) <;> (split <;> omega)
  · unfold zQ
    (repeat' split at hi) <;> ((repeat' split) <;> omega)
  · unfold zS zD
    (repeat' split) <;> omega
/-- the sign at a root of c, b x, a x x together -/
def sAt (c b a P S D Q : Int) : Int := sg2 (c * Q * Q + b * Q * P + a * (P * P + D)) (S * (b * Q + 2 * a * P)) D
theorem sAt_r (c b a P S D Q : Int) : -1 ≤ sAt c b a P S D Q ∧ sAt c b a P S D Q ≤ 1 := sg2_r _ _ _
theorem sAt_rg {c b a P S D Q : Int} (hr : rtOK P S D Q) (hc : -60 ≤ c ∧ c ≤ 60) (hb : -60 ≤ b ∧ b ≤ 60) (ha : -60 ≤ a ∧ a ≤ 60) :
    (-10000000 ≤ c * Q * Q + b * Q * P + a * (P * P + D) ∧ c * Q * Q + b * Q * P + a * (P * P + D) ≤ 10000000) ∧ (-10000000 ≤ S * (b * Q + 2 * a * P) ∧ S * (b * Q + 2 * a * P) ≤ 10000000) := by
  obtain ⟨hP, hS, hD, hQ, -⟩ := hr
  have e1 := mul_rg (x := c) (y := Q) (A := 60) (B := 27) hc (by omega)
  have e2 := mul_rg (x := c * Q) (y := Q) (A := 1620) (B := 27) (by omega) (by omega)
  have e3 := mul_rg (x := b) (y := Q) (A := 60) (B := 27) hb (by omega)
  have e4 := mul_rg (x := b * Q) (y := P) (A := 1620) (B := 27) (by omega) (by omega)
  have e5 := mul_rg (x := P) (y := P) (A := 27) (B := 27) (by omega) (by omega)
  have e6 := mul_rg (x := a) (y := P * P + D) (A := 60) (B := 2430) ha (by omega)
  have e7 := mul_rg (x := 2 * a) (y := P) (A := 120) (B := 27) (by omega) (by omega)
  have e8 := mul_rg (x := S) (y := b * Q + 2 * a * P) (A := 1) (B := 4860) (by omega) (by omega)
  omega
/-- one root against another: less (-1), the same (0), greater (1) -/
def cm1 (P S D Q P2 Q2 : Int) : Int := sg2 (P * Q2 - P2 * Q) (S * Q2) D
def cm2 (Q S2 D2 : Int) : Int := if D2 = 0 then 0 else sg (S2 * Q)
def cm3 (P S D Q P2 S2 D2 Q2 : Int) : Int := sg2 ((P * Q2 - P2 * Q) * (P * Q2 - P2 * Q) + S * Q2 * (S * Q2) * D - S2 * Q * (S2 * Q) * D2) (2 * (P * Q2 - P2 * Q) * (S * Q2)) D
def cmF (P S D Q P2 S2 D2 Q2 : Int) : Int :=
  if cm1 P S D Q P2 Q2 = cm2 Q S2 D2 then (if cm1 P S D Q P2 Q2 < 0 then -(cm3 P S D Q P2 S2 D2 Q2) else cm3 P S D Q P2 S2 D2 Q2)
  else if cm1 P S D Q P2 Q2 < cm2 Q S2 D2 then -1 else 1
theorem cmF_r (P S D Q P2 S2 D2 Q2 : Int) : -1 ≤ cmF P S D Q P2 S2 D2 Q2 ∧ cmF P S D Q P2 S2 D2 Q2 ≤ 1 := by
  have h := sg2_r ((P * Q2 - P2 * Q) * (P * Q2 - P2 * Q) + S * Q2 * (S * Q2) * D - S2 * Q * (S2 * Q) * D2) (2 * (P * Q2 - P2 * Q) * (S * Q2)) D
  unfold cmF cm3
  (repeat' split) <;> omega
theorem cmF_rg {P S D Q P2 S2 D2 Q2 : Int} (h1 : rtOK P S D Q) (h2 : rtOK P2 S2 D2 Q2) :
    (-10000000 ≤ P * Q2 - P2 * Q ∧ P * Q2 - P2 * Q ≤ 10000000) ∧ (-10000000 ≤ S * Q2 ∧ S * Q2 ≤ 10000000) ∧ (-10000000 ≤ S2 * Q ∧ S2 * Q ≤ 10000000) ∧
    (-10000000 ≤ (P * Q2 - P2 * Q) * (P * Q2 - P2 * Q) + S * Q2 * (S * Q2) * D - S2 * Q * (S2 * Q) * D2 ∧ (P * Q2 - P2 * Q) * (P * Q2 - P2 * Q) + S * Q2 * (S * Q2) * D - S2 * Q * (S2 * Q) * D2 ≤ 10000000) ∧
    (-10000000 ≤ 2 * (P * Q2 - P2 * Q) * (S * Q2) ∧ 2 * (P * Q2 - P2 * Q) * (S * Q2) ≤ 10000000) := by
  obtain ⟨hP, hS, hD, hQ, -⟩ := h1
  obtain ⟨hP2, hS2, hD2, hQ2, -⟩ := h2
  have e1 := mul_rg (x := P) (y := Q2) (A := 27) (B := 27) (by omega) (by omega)
  have e2 := mul_rg (x := P2) (y := Q) (A := 27) (B := 27) (by omega) (by omega)
  have e3 := mul_rg (x := S) (y := Q2) (A := 1) (B := 27) (by omega) (by omega)
  have e4 := mul_rg (x := S2) (y := Q) (A := 1) (B := 27) (by omega) (by omega)
  have e5 := mul_rg (x := P * Q2 - P2 * Q) (y := P * Q2 - P2 * Q) (A := 1458) (B := 1458) (by omega) (by omega)
  have e6 := mul_rg (x := S * Q2) (y := S * Q2) (A := 27) (B := 27) (by omega) (by omega)
  have e7 := mul_rg (x := S * Q2 * (S * Q2)) (y := D) (A := 729) (B := 1701) (by omega) (by omega)
  have e8 := mul_rg (x := S2 * Q) (y := S2 * Q) (A := 27) (B := 27) (by omega) (by omega)
  have e9 := mul_rg (x := S2 * Q * (S2 * Q)) (y := D2) (A := 729) (B := 1701) (by omega) (by omega)
  have e10 := mul_rg (x := 2 * (P * Q2 - P2 * Q)) (y := S * Q2) (A := 2916) (B := 27) (by omega) (by omega)
  omega
