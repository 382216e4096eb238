/-! for the class's own calls -/
theorem exT_cg {n : Int} {kd kd2 nu nu2 : Int → Int} (h1 : ∀ q, 0 ≤ q → q < n → kd q = kd2 q) (h2 : ∀ j, 0 ≤ j → j < 3 * n → nu j = nu2 j) : exT n kd nu = exT n kd2 nu2 := by
  funext q k
  unfold exT
  by_cases h : 0 ≤ q ∧ q < n
  · rw [if_pos h, if_pos h]
    unfold exF
    rw [h1 q h.1 h.2, h2 (3 * q) (by omega) (by omega), h2 (3 * q + 1) (by omega) (by omega), h2 (3 * q + 2) (by omega) (by omega)]
  · rw [if_neg h, if_neg h]
def R_shb (n : Int) (E : Int → Int → Int) (k : Int) : Int := if n = 0 then -3 else if ¬ (0 ≤ k ∧ k < (ALb E n.toNat).length) then -1 else (((ALb E n.toNat)[k.toNat]?).map Prod.snd).getD 0
theorem gcd_p {u l : Int} (hu : 0 ≤ u) (hl : 0 < l) : 0 < (Nat.gcd u.toNat l.toNat : Int) ∧ (Nat.gcd u.toNat l.toNat : Int) ≤ l ∧ u % (Nat.gcd u.toNat l.toNat : Int) = 0 ∧ l % (Nat.gcd u.toNat l.toNat : Int) = 0 ∧ ∀ d, 0 < d → u % d = 0 → l % d = 0 → d ≤ (Nat.gcd u.toNat l.toNat : Int) := by
  have h1 : 0 < Nat.gcd u.toNat l.toNat := Nat.gcd_pos_of_pos_right _ (by omega)
  have h2 : Nat.gcd u.toNat l.toNat ≤ l.toNat := Nat.gcd_le_right _ (by omega)
  have h3 := Nat.gcd_dvd_left u.toNat l.toNat
  have h4 := Nat.gcd_dvd_right u.toNat l.toNat
  refine ⟨by omega, by omega, ?_, ?_, fun d hd e1 e2 => ?_⟩
  · have := Int.ofNat_dvd.mpr h3
    rw [show ((u.toNat : Nat) : Int) = u by omega] at this
    exact Int.emod_eq_zero_of_dvd this
  · have := Int.ofNat_dvd.mpr h4
    rw [show ((l.toNat : Nat) : Int) = l by omega] at this
    exact Int.emod_eq_zero_of_dvd this
  · have d1 : d.toNat ∣ u.toNat := by
      apply Int.ofNat_dvd.mp
      rw [show ((u.toNat : Nat) : Int) = u by omega, show ((d.toNat : Nat) : Int) = d by omega]
      exact Int.dvd_of_emod_eq_zero e1
    have d2 : d.toNat ∣ l.toNat := by
      apply Int.ofNat_dvd.mp
      rw [show ((l.toNat : Nat) : Int) = l by omega, show ((d.toNat : Nat) : Int) = d by omega]
      exact Int.dvd_of_emod_eq_zero e2
    have := Nat.le_of_dvd h1 (Nat.dvd_gcd d1 d2)
    omega
