/-! roots are in an order: whole numbers near to them -/
theorem rex : ∀ M : Nat, ∃ r : Nat, r * r ≤ M ∧ M < (r + 1) * (r + 1) := by
  intro M
  induction M with
  | zero => exact ⟨0, by omega, by omega⟩
  | succ M ih =>
    obtain ⟨r, h1, h2⟩ := ih
    by_cases h : M + 1 < (r + 1) * (r + 1)
    · exact ⟨r, by omega, h⟩
    · refine ⟨r + 1, by omega, ?_⟩
      have e : (r + 1 + 1) * (r + 1 + 1) = (r + 1) * (r + 1) + 2 * (r + 1) + 1 := by grind
      omega
noncomputable def rr (d : Int) : Int := (Classical.choose (rex (d * 1000000000000000000000000000000000000000000000000).toNat) : Nat)
theorem sq_le {x y : Int} (hx : 0 ≤ x) (h : x ≤ y) : x * x ≤ y * y := Int.mul_le_mul h h hx (by omega)
theorem sq_lt {x y : Int} (hy : 0 ≤ y) (h : x * x < y * y) : x < y := by
  rcases (by omega : x < y ∨ y ≤ x) with q | q
  · exact q
  · have := sq_le hy q; omega
theorem sq_le2 {x y : Int} (hy : 0 ≤ y) (h : x * x ≤ y * y) : x ≤ y := by
  rcases (by omega : x ≤ y ∨ y + 1 ≤ x) with q | q
  · exact q
  · have := sq_le (by omega : (0 : Int) ≤ y + 1) q
    have e : (y + 1) * (y + 1) = y * y + 2 * y + 1 := by grind
    omega
theorem rr_s {d : Int} (hd : 0 ≤ d) : 0 ≤ rr d ∧ rr d * rr d ≤ d * 1000000000000000000000000000000000000000000000000 ∧ d * 1000000000000000000000000000000000000000000000000 ≤ rr d * rr d + 2 * rr d := by
  have h := Classical.choose_spec (rex (d * 1000000000000000000000000000000000000000000000000).toNat)
  have h0 : 0 ≤ d * 1000000000000000000000000000000000000000000000000 := Int.mul_nonneg hd (by decide)
  have h1 : ((Classical.choose (rex (d * 1000000000000000000000000000000000000000000000000).toNat) * Classical.choose (rex (d * 1000000000000000000000000000000000000000000000000).toNat) : Nat) : Int) ≤ ((d * 1000000000000000000000000000000000000000000000000).toNat : Int) := Int.ofNat_le.mpr h.1
  have h2 : ((d * 1000000000000000000000000000000000000000000000000).toNat : Int) < (((Classical.choose (rex (d * 1000000000000000000000000000000000000000000000000).toNat) + 1) * (Classical.choose (rex (d * 1000000000000000000000000000000000000000000000000).toNat) + 1) : Nat) : Int) := Int.ofNat_lt.mpr h.2
  rw [Int.toNat_of_nonneg h0, Int.natCast_mul] at h1 h2
  rw [Int.natCast_add] at h2
  have e : rr d = ((Classical.choose (rex (d * 1000000000000000000000000000000000000000000000000).toNat) : Nat) : Int) := rfl
  rw [← e] at h1 h2
  have e2 : (rr d + ((1 : Nat) : Int)) * (rr d + ((1 : Nat) : Int)) = rr d * rr d + 2 * rr d + 1 := by
    rw [show ((1 : Nat) : Int) = 1 from rfl]; grind
  rw [e2] at h2
  refine ⟨by rw [e]; omega, h1, by omega⟩
theorem rr_0 : rr 0 = 0 := by
  obtain ⟨h1, h2, h3⟩ := rr_s (d := 0) (by omega)
  rcases (by omega : rr 0 = 0 ∨ 1 ≤ rr 0) with q | q
  · exact q
  · have := sq_le (by omega : (0 : Int) ≤ 1) q; omega
theorem rr_b {d : Int} (hd : 1 ≤ d ∧ d ≤ 1701) : 1000000000000000000000000 ≤ rr d ∧ rr d ≤ 42 * 1000000000000000000000000 := by
  obtain ⟨h1, h2, h3⟩ := rr_s (d := d) (by omega)
  refine ⟨?_, ?_⟩
  · rcases (by omega : 1000000000000000000000000 ≤ rr d ∨ rr d ≤ 1000000000000000000000000 - 1) with q | q
    · exact q
    · have := sq_le h1 q
      omega
  · rcases (by omega : rr d ≤ 42 * 1000000000000000000000000 ∨ 42 * 1000000000000000000000000 ≤ rr d) with q | q
    · exact q
    · have := sq_le (by omega : (0 : Int) ≤ 42 * 1000000000000000000000000) q
      omega
theorem rr_hi {d : Int} (hd : 0 ≤ d ∧ d ≤ 1701) : rr d ≤ 42 * 1000000000000000000000000 := by
  rcases (by omega : d = 0 ∨ 1 ≤ d) with q | q
  · rw [q, rr_0]; decide
  · exact (rr_b ⟨q, hd.2⟩).2
/-- apart, above -/
theorem nA1 {u y : Int} (hu : 1 ≤ u) (hy : 0 ≤ y) (h : y * y ≤ (u * u - 1) * 1000000000000000000000000000000000000000000000000) : 0 < u * 1000000000000000000000000 - y ∧ 1000000000000000000000000 ≤ 2 * u * (u * 1000000000000000000000000 - y) := by
  have e1 : (u * 1000000000000000000000000) * (u * 1000000000000000000000000) = (u * u) * 1000000000000000000000000000000000000000000000000 := by grind
  have h1 : y < u * 1000000000000000000000000 := sq_lt (by omega) (by rw [e1]; omega)
  have e2 : (u * 1000000000000000000000000 - y) * (u * 1000000000000000000000000 + y) = (u * u) * 1000000000000000000000000000000000000000000000000 - y * y := by grind
  have h2 : (u * 1000000000000000000000000 - y) * (u * 1000000000000000000000000 + y) ≤ (u * 1000000000000000000000000 - y) * (2 * (u * 1000000000000000000000000)) := Int.mul_le_mul_of_nonneg_left (by omega) (by omega)
  have e3 : (u * 1000000000000000000000000 - y) * (2 * (u * 1000000000000000000000000)) = 1000000000000000000000000 * (2 * u * (u * 1000000000000000000000000 - y)) := by grind
  refine ⟨by omega, ?_⟩
  refine Int.le_of_mul_le_mul_left (a := 1000000000000000000000000) ?_ (by decide)
  rw [← e3]
  omega
theorem nA2 {u z b : Int} (hu : 0 ≤ u) (hz : 0 ≤ z) (hb : 1 ≤ b) (hzb : z ≤ 43 * (b * 1000000000000000000000000)) (h : (u * u + 1) * 1000000000000000000000000000000000000000000000000 ≤ z * z) : 0 < z - u * 1000000000000000000000000 ∧ 1000000000000000000000000 ≤ 86 * b * (z - u * 1000000000000000000000000) := by
  have e1 : (u * 1000000000000000000000000) * (u * 1000000000000000000000000) = (u * u) * 1000000000000000000000000000000000000000000000000 := by grind
  have h1 : u * 1000000000000000000000000 < z := sq_lt hz (by rw [e1]; omega)
  have e2 : (z - u * 1000000000000000000000000) * (z + u * 1000000000000000000000000) = z * z - (u * u) * 1000000000000000000000000000000000000000000000000 := by grind
  have h2 : (z - u * 1000000000000000000000000) * (z + u * 1000000000000000000000000) ≤ (z - u * 1000000000000000000000000) * (86 * (b * 1000000000000000000000000)) := Int.mul_le_mul_of_nonneg_left (by omega) (by omega)
  have e3 : (z - u * 1000000000000000000000000) * (86 * (b * 1000000000000000000000000)) = 1000000000000000000000000 * (86 * b * (z - u * 1000000000000000000000000)) := by grind
  refine ⟨by omega, ?_⟩
  refine Int.le_of_mul_le_mul_left (a := 1000000000000000000000000) ?_ (by decide)
  rw [← e3]
  omega
theorem mul_up {a b x : Int} (hx : 0 ≤ x) (h : a ≤ b) : a * x ≤ b * x := Int.mul_le_mul_of_nonneg_right h hx
def nrP (s a t : Int) : Prop := (s = 1 ∧ 1000000000000000000000000 ≤ 20000000 * a) ∨ (s = -1 ∧ 20000000 * a ≤ -1000000000000000000000000) ∨ (s = 0 ∧ -t ≤ a ∧ a ≤ t)
theorem nrP_neg {s a t : Int} (h : nrP s a t) : nrP (-s) (-a) t := by
  rcases h with ⟨h1, h2⟩ | ⟨h1, h2⟩ | ⟨h1, h2, h3⟩
  · exact Or.inr (Or.inl ⟨by omega, by omega⟩)
  · exact Or.inl ⟨by omega, by omega⟩
  · exact Or.inr (Or.inr ⟨by omega, by omega, by omega⟩)
theorem nrA_p {u v d : Int} (hu : 0 < u ∧ u ≤ 10000000) (hv : -100000 ≤ v ∧ v ≤ 100000) (hd : 0 ≤ d ∧ d ≤ 1701) : nrP (sg2 u v d) (u * 1000000000000000000000000 + v * rr d) 100000 := by
  rcases (by omega : d = 0 ∨ 1 ≤ d) with q | q
  · subst q
    rw [sg2_d0, rr_0, Int.mul_zero, sg_p hu.1]
    exact Or.inl ⟨rfl, by omega⟩
  · obtain ⟨r1, r2⟩ := rr_b ⟨q, hd.2⟩
    obtain ⟨s1, s2, s3⟩ := rr_s (d := d) (by omega)
    rcases (by omega : 0 ≤ v ∨ v < 0) with w | w
    · have hm : 0 ≤ v * rr d := Int.mul_nonneg w s1
      have hs : sg2 u v d = 1 := by
        unfold sg2
        rw [if_neg (by omega : ¬ d = 0), sg_p hu.1]
        rcases (by omega : v = 0 ∨ 0 < v) with z | z
        · rw [if_pos (Or.inr (by rw [z]; rfl))]
        · rw [if_pos (Or.inl (sg_p z).symm)]
      exact Or.inl ⟨hs, by omega⟩
    · obtain ⟨b, hb⟩ : ∃ b, b = -v := ⟨_, rfl⟩
      have hvb : v = -b := by omega
      subst hvb
      have hb1 : 1 ≤ b := by omega
      have e0 : -b * -b * d = b * b * d := by grind
      have hs : sg2 u (-b) d = if u * u - b * b * d = 0 then 0 else if 0 < u * u - b * b * d then 1 else -1 := by
        unfold sg2
        rw [if_neg (by omega : ¬ d = 0), sg_p hu.1, sg_n w, e0, if_neg (by omega), if_neg (by omega)]
      have ha : u * 1000000000000000000000000 + -b * rr d = u * 1000000000000000000000000 - b * rr d := by grind
      have hy : 0 ≤ b * rr d := Int.mul_nonneg (by omega) s1
      have hbb : 0 ≤ b * b := Int.mul_nonneg (by omega) (by omega)
      have y1 : (b * rr d) * (b * rr d) ≤ (b * b * d) * 1000000000000000000000000000000000000000000000000 := by
        have := Int.mul_le_mul_of_nonneg_left s2 hbb
        have e1 : b * b * (rr d * rr d) = (b * rr d) * (b * rr d) := by grind
        have e2 : b * b * (d * 1000000000000000000000000000000000000000000000000) = (b * b * d) * 1000000000000000000000000000000000000000000000000 := by grind
        omega
      have y2 : (b * b * d) * 1000000000000000000000000000000000000000000000000 + b * b ≤ (b * rr d + b) * (b * rr d + b) := by
        have := Int.mul_le_mul_of_nonneg_left s3 hbb
        have e1 : b * b * (rr d * rr d + 2 * rr d) = (b * rr d + b) * (b * rr d + b) - b * b := by grind
        have e2 : b * b * (d * 1000000000000000000000000000000000000000000000000) = (b * b * d) * 1000000000000000000000000000000000000000000000000 := by grind
        omega
      have hb2 : 1 ≤ b * b := by have := sq_le (by omega : (0 : Int) ≤ 1) hb1; omega
      rw [hs, ha]
      rcases (by omega : u * u - b * b * d = 0 ∨ 1 ≤ u * u - b * b * d ∨ u * u - b * b * d ≤ -1) with z | z | z
      · rw [if_pos z]
        have e1 : (u * 1000000000000000000000000) * (u * 1000000000000000000000000) = (u * u) * 1000000000000000000000000000000000000000000000000 := by grind
        have h1 : b * rr d ≤ u * 1000000000000000000000000 := sq_le2 (by omega) (by rw [e1]; omega)
        have h2 : u * 1000000000000000000000000 < b * rr d + b := sq_lt (by omega) (by rw [e1]; omega)
        exact Or.inr (Or.inr ⟨rfl, by omega, by omega⟩)
      · rw [if_neg (by omega), if_pos (by omega)]
        obtain ⟨h1, h2⟩ := nA1 (u := u) (y := b * rr d) (by omega) hy (by omega)
        have h3 := mul_up (a := 2 * u) (b := 20000000) (x := u * 1000000000000000000000000 - b * rr d) (by omega) (by omega)
        exact Or.inl ⟨rfl, by omega⟩
      · rw [if_neg (by omega), if_neg (by omega)]
        have hbr : b * rr d ≤ b * (42 * 1000000000000000000000000) := Int.mul_le_mul_of_nonneg_left r2 (by omega)
        have ebr : b * (42 * 1000000000000000000000000) = 42 * (b * 1000000000000000000000000) := by grind
        obtain ⟨h1, h2⟩ := nA2 (u := u) (z := b * rr d + b) (b := b) (by omega) (by omega) hb1 (by omega) (by omega)
        have h3 := mul_up (a := 86 * b) (b := 8600000) (x := b * rr d + b - u * 1000000000000000000000000) (by omega) (by omega)
        exact Or.inr (Or.inl ⟨rfl, by omega⟩)
theorem nrA {u v d : Int} (hu : -10000000 ≤ u ∧ u ≤ 10000000) (hv : -100000 ≤ v ∧ v ≤ 100000) (hd : 0 ≤ d ∧ d ≤ 1701) : nrP (sg2 u v d) (u * 1000000000000000000000000 + v * rr d) 100000 := by
  rcases (by omega : 0 < u ∨ u < 0 ∨ u = 0) with q | q | q
  · exact nrA_p ⟨q, hu.2⟩ hv hd
  · have h := nrP_neg (nrA_p (u := -u) (v := -v) (d := d) ⟨by omega, by omega⟩ ⟨by omega, by omega⟩ hd)
    rw [sg2_neg] at h
    have e : -(-u * 1000000000000000000000000 + -v * rr d) = u * 1000000000000000000000000 + v * rr d := by grind
    rw [e, Int.neg_neg] at h
    exact h
  · subst q
    rcases (by omega : d = 0 ∨ 1 ≤ d) with z | z
    · subst z
      rw [sg2_d0, rr_0, Int.mul_zero]
      exact Or.inr (Or.inr ⟨rfl, by omega, by omega⟩)
    · obtain ⟨r1, r2⟩ := rr_b ⟨z, hd.2⟩
      have hs : sg2 0 v d = sg v := by
        unfold sg2
        rw [if_neg (by omega : ¬ d = 0), show sg 0 = 0 from rfl]
        by_cases h : sg v = 0
        · rw [if_pos (Or.inr h), h]
        · rw [if_neg (by omega), if_pos rfl]
      rw [hs]
      rcases (by omega : v = 0 ∨ 1 ≤ v ∨ v ≤ -1) with w | w | w
      · subst w
        rw [Int.zero_mul]
        exact Or.inr (Or.inr ⟨rfl, by omega, by omega⟩)
      · rw [sg_p (by omega)]
        have := mul_up (a := 1) (b := v) (x := rr d) (by omega) w
        exact Or.inl ⟨rfl, by omega⟩
      · rw [sg_n (by omega)]
        have := mul_up (a := v) (b := -1) (x := rr d) (by omega) w
        exact Or.inr (Or.inl ⟨rfl, by omega⟩)

def nrQ (s a : Int) : Prop := (s = 1 ∧ 1000000000000000000000000 ≤ 160000000000 * a) ∨ (s = -1 ∧ 160000000000 * a ≤ -1000000000000000000000000) ∨ (s = 0 ∧ -200000 ≤ a ∧ a ≤ 200000)
theorem nrQ_neg {s a : Int} (h : nrQ s a) : nrQ (-s) (-a) := by
  rcases h with ⟨h1, h2⟩ | ⟨h1, h2⟩ | ⟨h1, h2, h3⟩
  · exact Or.inr (Or.inl ⟨by omega, by omega⟩)
  · exact Or.inl ⟨by omega, by omega⟩
  · exact Or.inr (Or.inr ⟨by omega, by omega, by omega⟩)
theorem nB {a t B e s : Int} (ha : 0 < a) (ht : 1000000000000000000000000 ≤ t) (hat : a + t ≤ 4000 * 1000000000000000000000000) (hsq : a * a - t * t = 1000000000000000000000000 * B + e) (he : -61236 * 1000000000000000000000000 ≤ e ∧ e ≤ 61236 * 1000000000000000000000000) (hs : nrP s B 100000) : nrQ s (a - t) := by
  rcases hs with ⟨h1, h2⟩ | ⟨h1, h2⟩ | ⟨h1, h2, h3⟩
  · refine Or.inl ⟨h1, ?_⟩
    have p1 : t < a := sq_lt (by omega) (by omega)
    have e1 : (a - t) * (a + t) = a * a - t * t := by grind
    have p2 : (a - t) * (a + t) ≤ (a - t) * (4000 * 1000000000000000000000000) := Int.mul_le_mul_of_nonneg_left hat (by omega)
    omega
  · refine Or.inr (Or.inl ⟨h1, ?_⟩)
    have p1 : a < t := sq_lt (by omega) (by omega)
    have e1 : (t - a) * (a + t) = t * t - a * a := by grind
    have p2 : (t - a) * (a + t) ≤ (t - a) * (4000 * 1000000000000000000000000) := Int.mul_le_mul_of_nonneg_left hat (by omega)
    omega
  · refine Or.inr (Or.inr ⟨h1, ?_, ?_⟩)
    · rcases (by omega : -200000 ≤ a - t ∨ 200000 + 1 ≤ t - a) with q | q
      · exact q
      · have e1 : (t - a) * (a + t) = t * t - a * a := by grind
        have p2 : (t - a) * 1000000000000000000000000 ≤ (t - a) * (a + t) := Int.mul_le_mul_of_nonneg_left (by omega) (by omega)
        omega
    · rcases (by omega : a - t ≤ 200000 ∨ 200000 + 1 ≤ a - t) with q | q
      · exact q
      · have e1 : (a - t) * (a + t) = a * a - t * t := by grind
        have p2 : (a - t) * 1000000000000000000000000 ≤ (a - t) * (a + t) := Int.mul_le_mul_of_nonneg_left (by omega) (by omega)
        omega
theorem er_b {v d : Int} (hv : -27 ≤ v ∧ v ≤ 27) (hd : 0 ≤ d ∧ d ≤ 1701) : 0 ≤ v * v * (d * 1000000000000000000000000000000000000000000000000 - rr d * rr d) ∧ v * v * (d * 1000000000000000000000000000000000000000000000000 - rr d * rr d) ≤ 61236 * 1000000000000000000000000 := by
  obtain ⟨s1, s2, s3⟩ := rr_s (d := d) hd.1
  have hr := rr_hi hd
  have h1 := mul_rg (x := v) (y := v) (A := 27) (B := 27) (by omega) (by omega)
  have h0 : 0 ≤ v * v := by
    rcases (by omega : 0 ≤ v ∨ v ≤ 0) with q | q
    · exact Int.mul_nonneg q q
    · exact Int.mul_nonneg_of_nonpos_of_nonpos q q
  refine ⟨Int.mul_nonneg h0 (by omega), ?_⟩
  have h2 : v * v * (d * 1000000000000000000000000000000000000000000000000 - rr d * rr d) ≤ 729 * (84 * 1000000000000000000000000) := Int.mul_le_mul (by omega) (by omega) (by omega) (by omega)
  omega
theorem ap_b {v d : Int} (hv : -27 ≤ v ∧ v ≤ 27) (hd : 0 ≤ d ∧ d ≤ 1701) : -1134 * 1000000000000000000000000 ≤ v * rr d ∧ v * rr d ≤ 1134 * 1000000000000000000000000 := by
  have hr := rr_hi hd
  have h0 := (rr_s (d := d) hd.1).1
  have := mul_rg (x := v) (y := rr d) (A := 27) (B := 42 * 1000000000000000000000000) hv (by omega)
  omega
theorem nrC {P S D Q P2 S2 D2 Q2 : Int} (h1 : rtOK P S D Q) (h2 : rtOK P2 S2 D2 Q2) : nrQ (cmF P S D Q P2 S2 D2 Q2) ((P * Q2 - P2 * Q) * 1000000000000000000000000 + S * Q2 * rr D - S2 * Q * rr D2) := by
  obtain ⟨b1, b2, b3, b4, b5⟩ := cmF_rg h1 h2
  obtain ⟨hP, hS, hD, hQ, hz⟩ := id h1
  obtain ⟨hP2, hS2, hD2, hQ2, hz2⟩ := id h2
  have e1 := mul_rg (x := P) (y := Q2) (A := 27) (B := 27) (by omega) (by omega)
  have e2 := mul_rg (x := P2) (y := Q) (A := 27) (B := 27) (by omega) (by omega)
  have e3 := mul_rg (x := S) (y := Q2) (A := 1) (B := 27) (by omega) (by omega)
  have e4 := mul_rg (x := S2) (y := Q) (A := 1) (B := 27) (by omega) (by omega)
  have e10 := mul_rg (x := 2 * (P * Q2 - P2 * Q)) (y := S * Q2) (A := 2916) (B := 27) (by omega) (by omega)
  have hc1 : nrP (cm1 P S D Q P2 Q2) ((P * Q2 - P2 * Q) * 1000000000000000000000000 + S * Q2 * rr D) 100000 := nrA (by omega) (by omega) hD
  have hc3 : nrP (cm3 P S D Q P2 S2 D2 Q2) (((P * Q2 - P2 * Q) * (P * Q2 - P2 * Q) + S * Q2 * (S * Q2) * D - S2 * Q * (S2 * Q) * D2) * 1000000000000000000000000 + 2 * (P * Q2 - P2 * Q) * (S * Q2) * rr D) 100000 := nrA (by omega) (by omega) hD
  have hw : (cm2 Q S2 D2 = 1 ∧ 1000000000000000000000000 ≤ S2 * Q * rr D2) ∨ (cm2 Q S2 D2 = -1 ∧ S2 * Q * rr D2 ≤ -1000000000000000000000000) ∨ (cm2 Q S2 D2 = 0 ∧ S2 * Q * rr D2 = 0 ∧ D2 = 0) := by
    unfold cm2
    rcases (by omega : D2 = 0 ∨ 1 ≤ D2) with q | q
    · rw [if_pos q, q, rr_0, Int.mul_zero]
      exact Or.inr (Or.inr ⟨rfl, rfl, rfl⟩)
    · obtain ⟨r1, r2⟩ := rr_b ⟨q, hD2.2⟩
      rw [if_neg (by omega)]
      rcases (by omega : S2 = 0 ∨ S2 = 1 ∨ S2 = -1) with z | z | z
      · exact absurd (hz2 z) (by omega)
      · rw [z, Int.one_mul, sg_p (by omega)]
        have := mul_up (a := 1) (b := Q) (x := rr D2) (by omega) (by omega)
        exact Or.inl ⟨rfl, by omega⟩
      · rw [z, sg_n (by omega)]
        have := mul_up (a := -1 * Q) (b := -1) (x := rr D2) (by omega) (by omega)
        exact Or.inr (Or.inl ⟨rfl, by omega⟩)
  have f1 := ap_b (v := S * Q2) (d := D) (by omega) hD
  have f2 := ap_b (v := S2 * Q) (d := D2) (by omega) hD2
  have g1 := er_b (v := S * Q2) (d := D) (by omega) hD
  have g2 := er_b (v := S2 * Q) (d := D2) (by omega) hD2
  generalize hu : P * Q2 - P2 * Q = u at *
  generalize hv : S * Q2 = v at *
  generalize hww : S2 * Q = w at *
  generalize hr1 : rr D = r1 at *
  generalize hr2 : rr D2 = r2 at *
  have hsq : (u * 1000000000000000000000000 + v * r1) * (u * 1000000000000000000000000 + v * r1) - (w * r2) * (w * r2) = 1000000000000000000000000 * ((u * u + v * v * D - w * w * D2) * 1000000000000000000000000 + 2 * u * v * r1) + (w * w * (D2 * 1000000000000000000000000000000000000000000000000 - r2 * r2) - v * v * (D * 1000000000000000000000000000000000000000000000000 - r1 * r1)) := by grind
  unfold cmF
  rcases hc1 with ⟨c1, c2⟩ | ⟨c1, c2⟩ | ⟨c1, c2, c3⟩ <;> rcases hw with ⟨w1, w2⟩ | ⟨w1, w2⟩ | ⟨w1, w2, w3⟩ <;> rw [c1, w1]
  · rw [if_pos rfl, if_neg (by omega)]
    exact nB (by omega) w2 (by omega) hsq (by omega) hc3
  · rw [if_neg (by omega), if_neg (by omega)]
    exact Or.inl ⟨rfl, by omega⟩
  · rw [if_neg (by omega), if_neg (by omega)]
    exact Or.inl ⟨rfl, by omega⟩
  · rw [if_neg (by omega), if_pos (by omega)]
    exact Or.inr (Or.inl ⟨rfl, by omega⟩)
  · rw [if_pos rfl, if_pos (by omega)]
    have hsq2 : (-(u * 1000000000000000000000000 + v * r1)) * (-(u * 1000000000000000000000000 + v * r1)) - (-(w * r2)) * (-(w * r2)) = 1000000000000000000000000 * ((u * u + v * v * D - w * w * D2) * 1000000000000000000000000 + 2 * u * v * r1) + (w * w * (D2 * 1000000000000000000000000000000000000000000000000 - r2 * r2) - v * v * (D * 1000000000000000000000000000000000000000000000000 - r1 * r1)) := by rw [Int.neg_mul_neg, Int.neg_mul_neg]; exact hsq
    have h := nrQ_neg (nB (a := -(u * 1000000000000000000000000 + v * r1)) (t := -(w * r2)) (by omega) (by omega) (by omega) hsq2 (by omega) hc3)
    have e : -(-(u * 1000000000000000000000000 + v * r1) - -(w * r2)) = u * 1000000000000000000000000 + v * r1 - w * r2 := by omega
    rw [e] at h
    exact h
  · rw [if_neg (by omega), if_pos (by omega)]
    exact Or.inr (Or.inl ⟨rfl, by omega⟩)
  · rw [if_neg (by omega), if_pos (by omega)]
    exact Or.inr (Or.inl ⟨rfl, by omega⟩)
  · rw [if_neg (by omega), if_neg (by omega)]
    exact Or.inl ⟨rfl, by omega⟩
  · rw [if_pos rfl, if_neg (by omega), cm3_0 hD.1 w3 c1]
    exact Or.inr (Or.inr ⟨rfl, by omega, by omega⟩)
