/-! texts have at most four; threes -/
theorem stD_len {c stp kn : Int} {vs : List Int} {acc : List pyT} {q : Int × Int × List Int × List pyT} (h : stD c stp kn vs acc = some q) (h4 : acc.length ≤ 4) (h3 : ¬ stp = 0 → ¬ stp = 1 → acc.length ≤ 3) : q.2.2.2.length ≤ 4 ∧ (¬ q.1 = 0 → ¬ q.1 = 1 → q.2.2.2.length ≤ 3) := by
  unfold stD at h
  by_cases e0 : stp = 0
  · rw [if_pos e0] at h
    by_cases e : c = 112
    · rw [if_pos e] at h; cases h; exact ⟨h4, fun _ q => absurd rfl q⟩
    · rw [if_neg e] at h; cases h
  rw [if_neg e0] at h
  by_cases e1 : stp = 1
  · rw [if_pos e1] at h
    by_cases e : c = 59 ∧ acc.length < 4
    · rw [if_pos e] at h; cases h; exact ⟨h4, fun _ _ => by have := e.2; show acc.length ≤ 3; omega⟩
    · rw [if_neg e] at h; cases h
  rw [if_neg e1] at h
  have h3' := h3 e0 e1
  by_cases e2 : stp = 2
  · rw [if_pos e2] at h
    (repeat' split at h) <;> first | (cases h; exact ⟨h4, fun _ _ => h3'⟩) | cases h
  rw [if_neg e2] at h
  by_cases e3 : stp = 3 ∧ c = 45
  · rw [if_pos e3] at h; cases h; exact ⟨h4, fun _ _ => h3'⟩
  rw [if_neg e3] at h
  by_cases e4 : 48 ≤ c ∧ c ≤ 57
  · rw [if_pos e4] at h
    by_cases e5 : vs.length = 2
    · rw [if_pos e5] at h; cases h
      refine ⟨?_, fun _ q => absurd rfl q⟩
      show (acc ++ [_]).length ≤ 4
      rw [List.length_append]
      show acc.length + 1 ≤ 4
      omega
    · rw [if_neg e5] at h; cases h; exact ⟨h4, fun _ _ => h3'⟩
  · rw [if_neg e4] at h; cases h
theorem runD_len (cd : Int → Int) (n : Int) : ∀ (f : Nat) (x stp kn : Int) (vs : List Int) (acc : List pyT), acc.length ≤ 4 → (¬ stp = 0 → ¬ stp = 1 → acc.length ≤ 3) → (runD cd n f x stp kn vs acc).2.length ≤ 4 := by
  intro f
  induction f with
  | zero => intro x stp kn vs acc h4 h3; rw [runD]; split <;> exact h4
  | succ f ih =>
    intro x stp kn vs acc h4 h3
    rw [runD]
    cases hq : stD (cd x) stp kn vs acc with
    | none => exact h4
    | some q => obtain ⟨a, b⟩ := stD_len hq h4 h3; exact ih _ _ _ _ _ a b
theorem PRS_len (ce : Int → Int) (f n : Int) : (PRS ce f n).2.length ≤ 4 := runD_len _ _ _ _ _ _ _ _ (by decide) (fun h => absurd rfl h)
theorem runD_pos (cd : Int → Int) (n : Int) : ∀ (f : Nat) (x stp kn : Int) (vs : List Int) (acc : List pyT), 0 ≤ x → 0 ≤ n → (runD cd n f x stp kn vs acc).1 = -9 → 0 < (runD cd n f x stp kn vs acc).2.length := by
  intro f
  induction f with
  | zero =>
    intro x stp kn vs acc hx hn h
    rw [runD] at h ⊢
    split
    next q => exact q.2
    next q => rw [if_neg q] at h; exfalso; revert h; show ¬ n = -9; omega
  | succ f ih =>
    intro x stp kn vs acc hx hn h
    rw [runD] at h ⊢
    cases hq : stD (cd x) stp kn vs acc with
    | none => rw [hq] at h; exfalso; revert h; show ¬ x = -9; omega
    | some q => rw [hq] at h; exact ih _ _ _ _ _ (by omega) hn h
theorem PRS_pos {ce : Int → Int} {f n : Int} (hn : 0 ≤ n) (h : (PRS ce f n).1 = -9) : 0 < (PRS ce f n).2.length := runD_pos _ _ _ _ _ _ _ _ (by omega) hn h
theorem allB_X {P : Int → Bool} {n : Int} (h : allB P n.toNat = true) : allX P n := fun x h1 h2 => allB_i h x h1 (by omega)
theorem X_allB {P : Int → Bool} : ∀ n : Nat, allX P n → allB P n = true := by
  intro n
  induction n with
  | zero => intro _; rfl
  | succ n ih =>
    intro h
    unfold allB
    rw [ih (fun x h1 h2 => h x h1 (by omega)), h n (by omega) (by omega)]
    rfl
theorem nX_allB {P : Int → Bool} {n : Int} (hn : 0 ≤ n) (h : ¬ allB P n.toNat = true) : ¬ allX P n := fun q => h (X_allB n.toNat (by rw [show ((n.toNat : Nat) : Int) = n by omega]; exact q))
theorem runD_r (cd : Int → Int) (n : Int) : ∀ (f : Nat) (x stp kn : Int) (vs : List Int) (acc : List pyT), 0 ≤ x → x + f = n → (runD cd n f x stp kn vs acc).1 = -9 ∨ (0 ≤ (runD cd n f x stp kn vs acc).1 ∧ (runD cd n f x stp kn vs acc).1 ≤ n) := by
  intro f
  induction f with
  | zero =>
    intro x stp kn vs acc hx hn
    rw [runD]
    split
    next => exact Or.inl rfl
    next => exact Or.inr ⟨by show 0 ≤ n; omega, by show n ≤ n; omega⟩
  | succ f ih =>
    intro x stp kn vs acc hx hn
    rw [runD]
    cases hq : stD (cd x) stp kn vs acc with
    | none => exact Or.inr ⟨hx, by show x ≤ n; omega⟩
    | some q => exact ih _ _ _ _ _ (by omega) (by omega)
theorem PRS_r {ce : Int → Int} {f n : Int} (hn : 0 ≤ n) : (PRS ce f n).1 = -9 ∨ (0 ≤ (PRS ce f n).1 ∧ (PRS ce f n).1 ≤ n) := runD_r _ _ _ _ _ _ _ _ (by omega) (by omega)
