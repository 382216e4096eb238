/-! wishes, days -/
def lsF (P : Int → Bool) (lo : Int) : Nat → Int
  | 0 => -9
  | c + 1 => if P lo then lo else lsF P (lo + 1) c
theorem lsF_s {P : Int → Bool} {lo c : Int} (hc : 0 ≤ c) : lsF P lo (c + 1).toNat = if P lo then lo else lsF P (lo + 1) c.toNat := by
  rw [show (c + 1).toNat = c.toNat + 1 by omega, lsF]
theorem lsF_r (P : Int → Bool) : ∀ (c : Nat) (lo : Int), lsF P lo c = -9 ∨ (lo ≤ lsF P lo c ∧ lsF P lo c < lo + c) := by
  intro c
  induction c with
  | zero => intro lo; exact Or.inl rfl
  | succ c ih =>
    intro lo
    unfold lsF
    split
    · right; omega
    · rcases ih (lo + 1) with h | h
      · exact Or.inl h
      · right; omega
theorem lsF_none {P : Int → Bool} : ∀ (c : Nat) (lo : Int), 0 ≤ lo → lsF P lo c = -9 → ∀ x, lo ≤ x → x < lo + c → P x = false := by
  intro c
  induction c with
  | zero => intro lo h0 h x h1 h2; omega
  | succ c ih =>
    intro lo h0 h x h1 h2
    unfold lsF at h
    split at h
    · omega
    next hp =>
      by_cases q : x = lo
      · subst q; simpa using hp
      · exact ih (lo + 1) (by omega) h x (by omega) (by omega)
def mtP (E : Int → Int → Int) (L : List Int) (ce : Int → Int) (f k p : Int) : Bool := decide (ce (f + p) = 3 ∨ ce (f + p) = sSp E L k p + 1)
theorem mtP_t {E : Int → Int → Int} {L : List Int} {ce : Int → Int} {f k p : Int} (h : ce (f + p) = 3 ∨ ce (f + p) = sSp E L k p + 1) : mtP E L ce f k p = true := decide_eq_true h
theorem mtP_f {E : Int → Int → Int} {L : List Int} {ce : Int → Int} {f k p : Int} (h : ¬ (ce (f + p) = 3 ∨ ce (f + p) = sSp E L k p + 1)) : mtP E L ce f k p = false := decide_eq_false h
def mtB (E : Int → Int → Int) (L : List Int) (n : Int) (ce : Int → Int) (f k : Int) : Bool := allB (mtP E L ce f k) n.toNat
def wcP (ce : Int → Int) (f p : Int) : Bool := decide (0 ≤ ce (f + p) ∧ ce (f + p) ≤ 3)
theorem wcP_t {ce : Int → Int} {f p : Int} (h : 0 ≤ ce (f + p) ∧ ce (f + p) ≤ 3) : wcP ce f p = true := decide_eq_true h
theorem wcP_f {ce : Int → Int} {f p : Int} (h : ¬ (0 ≤ ce (f + p) ∧ ce (f + p) ≤ 3)) : wcP ce f p = false := decide_eq_false h
def allX (P : Int → Bool) (m : Int) : Prop := ∀ x, 0 ≤ x → x < m → P x = true
theorem allX_s {P : Int → Bool} {x : Int} (h : allX P x) (hx : P x = true) : allX P (x + 1) := by
  intro y h1 h2
  by_cases q : y = x
  · subst q; exact hx
  · exact h y h1 (by omega)
noncomputable def W_st (n k lane : Int) : Int := if n = 0 then -3 else if ¬ (0 ≤ k ∧ k ≤ 3) then -1 else if ¬ (0 ≤ lane ∧ lane ≤ 2) then -2 else 0

noncomputable def R_wsh (n : Int) (E : Int → Int → Int) (L : List Int) (sz ln ce : Int → Int) (k lane i : Int) : Int :=
  if ¬ W_st n k lane = 0 then W_st n k lane else if ¬ barC sz ln k lane i n = 0 then -10 - barC sz ln k lane i n
  else if (@decide (¬ allX (wcP ce (60 * k + i)) n) (Classical.propDecidable _)) = true then -2 else lsF (mtB E L n ce (60 * k + i)) 0 (2 * L.length + 1)
noncomputable def F_wsh (n : Int) (sz ln : Int → Int) (k lane i : Int) : Int := if ¬ W_st n k lane = 0 then 0 else barC sz ln k lane i n
noncomputable def dyF (n : Int) (nu ce : Int → Int) (f : Int) : Nat → (Int → Int)
  | 0 => nu
  | x + 1 => tuF n (dyF n nu ce f x) (ce (f + 3 * x)) (ce (f + 3 * x + 1)) (ce (f + 3 * x + 2))
theorem dyF_s {n : Int} {nu ce : Int → Int} {f x : Int} (hx : 0 ≤ x) : dyF n nu ce f (x + 1).toNat = tuF n (dyF n nu ce f x.toNat) (ce (f + 3 * x)) (ce (f + 3 * x + 1)) (ce (f + 3 * x + 2)) := by
  rw [show (x + 1).toNat = x.toNat + 1 by omega, dyF, show ((x.toNat : Nat) : Int) = x by omega]
theorem dyF_ok {n : Int} {nu ce : Int → Int} (f : Int) (h : nuOK nu) (x : Nat) : nuOK (dyF n nu ce f x) := by
  induction x with
  | zero => exact h
  | succ x ih => unfold dyF; exact nuOK_tu ih _ _ _ _
theorem tuF_out {n : Int} {nu : Int → Int} {p k v j : Int} (hj : ¬ (0 ≤ j ∧ j < 3 * n)) : tuF n nu p k v j = nu j := by
  unfold tuF
  split
  · rw [up_n (by omega)]
  · rfl
def fwP (n : Int) (ce : Int → Int) (f x : Int) : Bool := decide (¬ (0 ≤ ce (f + 3 * x) ∧ ce (f + 3 * x) < n))
theorem fwP_t {n : Int} {ce : Int → Int} {f x : Int} (h : ¬ (0 ≤ ce (f + 3 * x) ∧ ce (f + 3 * x) < n)) : fwP n ce f x = true := decide_eq_true h
theorem fwP_f {n : Int} {ce : Int → Int} {f x : Int} (h : 0 ≤ ce (f + 3 * x) ∧ ce (f + 3 * x) < n) : ¬ fwP n ce f x = true := by
  unfold fwP
  simp only [decide_eq_true_eq]
  omega
def dcP (ce : Int → Int) (f x : Int) : Bool := decide ((0 ≤ ce (f + 3 * x + 1) ∧ ce (f + 3 * x + 1) ≤ 2) ∧ (-9 ≤ ce (f + 3 * x + 2) ∧ ce (f + 3 * x + 2) ≤ 9))
theorem dcP_t {ce : Int → Int} {f x : Int} (h : (0 ≤ ce (f + 3 * x + 1) ∧ ce (f + 3 * x + 1) ≤ 2) ∧ (-9 ≤ ce (f + 3 * x + 2) ∧ ce (f + 3 * x + 2) ≤ 9)) : dcP ce f x = true := decide_eq_true h
theorem dcP_i {ce : Int → Int} {f x : Int} (h : dcP ce f x = true) : (0 ≤ ce (f + 3 * x + 1) ∧ ce (f + 3 * x + 1) ≤ 2) ∧ (-9 ≤ ce (f + 3 * x + 2) ∧ ce (f + 3 * x + 2) ≤ 9) := of_decide_eq_true h
/-- what a day answers, all its threes being good -/
noncomputable def R_end (n : Int) (E : Int → Int → Int) (L : List Int) (w : Int) : Int :=
  if 10 ≤ w then (if w - 10 < n then nR E (w - 10) else -9) else if w = 0 then L.length else if w = 2 then (fsL E L n (2 * L.length + 1)).length
  else if w = 3 then cnF (fun k => allB (fun q => decide (0 < sSp E L k q)) n.toNat) (2 * L.length + 1) else cnF (fun q => nR E q == 0) n.toNat
noncomputable def R_dyo (n : Int) (kd nu ce : Int → Int) (f m w : Int) : Int :=
  if w = 1 then lsF (fwP n ce f) 0 m.toNat else if 0 ≤ lsF (fwP n ce f) 0 m.toNat then -100 - lsF (fwP n ce f) 0 m.toNat
  else R_end n (exT n kd (dyF n nu ce f m.toNat)) (ALn (exT n kd (dyF n nu ce f m.toNat)) n.toNat) w
noncomputable def D_st (n k lane m w : Int) : Int := if ¬ (0 ≤ k ∧ k ≤ 3) then -1 else if ¬ (0 ≤ lane ∧ lane ≤ 2) ∨ ¬ (0 ≤ m ∧ m ≤ 20) ∨ ¬ ((0 ≤ w ∧ w ≤ 4) ∨ (10 ≤ w ∧ w ≤ 13)) then -2 else if n = 0 then -3 else 0

noncomputable def R_day (n : Int) (kd nu sz ln ce : Int → Int) (k lane i m w : Int) : Int :=
  if ¬ D_st n k lane m w = 0 then D_st n k lane m w else if ¬ barC sz ln k lane i (3 * m) = 0 then -10 - barC sz ln k lane i (3 * m)
  else if (@decide (¬ allX (dcP ce (60 * k + i)) m) (Classical.propDecidable _)) = true then -2 else R_dyo n kd nu ce (60 * k + i) m w
noncomputable def F_day (n : Int) (sz ln : Int → Int) (k lane i m w : Int) : Int := if ¬ D_st n k lane m w = 0 then 0 else barC sz ln k lane i (3 * m)
theorem dec_t {P : Prop} (h : P) : (@decide P (Classical.propDecidable _)) = true := @decide_eq_true P (Classical.propDecidable _) h
theorem dec_f {P : Prop} (h : ¬ P) : ¬ (@decide P (Classical.propDecidable _)) = true := fun q => h (@of_decide_eq_true P (Classical.propDecidable _) q)
theorem R_wsh_1 {n : Int} {E : Int → Int → Int} {L : List Int} {sz ln ce : Int → Int} {k lane i : Int} (h : ¬ W_st n k lane = 0) : R_wsh n E L sz ln ce k lane i = W_st n k lane ∧ F_wsh n sz ln k lane i = 0 := ⟨if_pos h, if_pos h⟩
theorem R_wsh_2 {n : Int} {E : Int → Int → Int} {L : List Int} {sz ln ce : Int → Int} {k lane i : Int} (h0 : W_st n k lane = 0) (h : ¬ barC sz ln k lane i n = 0) : R_wsh n E L sz ln ce k lane i = -10 - barC sz ln k lane i n ∧ F_wsh n sz ln k lane i = barC sz ln k lane i n := by
  unfold R_wsh F_wsh
  rw [if_neg (fun q => q h0), if_pos h, if_neg (fun q => q h0)]
  exact ⟨rfl, rfl⟩
theorem R_wsh_3 {n : Int} {E : Int → Int → Int} {L : List Int} {sz ln ce : Int → Int} {k lane i : Int} (h0 : W_st n k lane = 0) (h : barC sz ln k lane i n = 0) (h2 : ¬ allX (wcP ce (60 * k + i)) n) : R_wsh n E L sz ln ce k lane i = -2 ∧ F_wsh n sz ln k lane i = 0 := by
  unfold R_wsh F_wsh
  rw [if_neg (fun q => q h0), if_neg (fun q => q h), if_pos (dec_t h2), if_neg (fun q => q h0)]
  exact ⟨rfl, h⟩
theorem R_wsh_4 {n : Int} {E : Int → Int → Int} {L : List Int} {sz ln ce : Int → Int} {k lane i : Int} (h0 : W_st n k lane = 0) (h : barC sz ln k lane i n = 0) (h2 : allX (wcP ce (60 * k + i)) n) : R_wsh n E L sz ln ce k lane i = lsF (mtB E L n ce (60 * k + i)) 0 (2 * L.length + 1) ∧ F_wsh n sz ln k lane i = 0 := by
  unfold R_wsh F_wsh
  rw [if_neg (fun q => q h0), if_neg (fun q => q h), if_neg (dec_f (fun q => q h2)), if_neg (fun q => q h0)]
  exact ⟨rfl, h⟩
theorem R_day_1 {n : Int} {kd nu sz ln ce : Int → Int} {k lane i m w : Int} (h : ¬ D_st n k lane m w = 0) : R_day n kd nu sz ln ce k lane i m w = D_st n k lane m w ∧ F_day n sz ln k lane i m w = 0 := ⟨if_pos h, if_pos h⟩
theorem R_day_2 {n : Int} {kd nu sz ln ce : Int → Int} {k lane i m w : Int} (h0 : D_st n k lane m w = 0) (h : ¬ barC sz ln k lane i (3 * m) = 0) : R_day n kd nu sz ln ce k lane i m w = -10 - barC sz ln k lane i (3 * m) ∧ F_day n sz ln k lane i m w = barC sz ln k lane i (3 * m) := by
  unfold R_day F_day
  rw [if_neg (fun q => q h0), if_pos h, if_neg (fun q => q h0)]
  exact ⟨rfl, rfl⟩
theorem R_day_3 {n : Int} {kd nu sz ln ce : Int → Int} {k lane i m w : Int} (h0 : D_st n k lane m w = 0) (h : barC sz ln k lane i (3 * m) = 0) (h2 : ¬ allX (dcP ce (60 * k + i)) m) : R_day n kd nu sz ln ce k lane i m w = -2 ∧ F_day n sz ln k lane i m w = 0 := by
  unfold R_day F_day
  rw [if_neg (fun q => q h0), if_neg (fun q => q h), if_pos (dec_t h2), if_neg (fun q => q h0)]
  exact ⟨rfl, h⟩
theorem R_day_4 {n : Int} {kd nu sz ln ce : Int → Int} {k lane i m w : Int} (h0 : D_st n k lane m w = 0) (h : barC sz ln k lane i (3 * m) = 0) (h2 : allX (dcP ce (60 * k + i)) m) : R_day n kd nu sz ln ce k lane i m w = R_dyo n kd nu ce (60 * k + i) m w ∧ F_day n sz ln k lane i m w = 0 := by
  unfold R_day F_day
  rw [if_neg (fun q => q h0), if_neg (fun q => q h), if_neg (dec_f (fun q => q h2)), if_neg (fun q => q h0)]
  exact ⟨rfl, h⟩
theorem R_bar_c {sz ln : Int → Int} {k lane i n : Int} (h : R_bar sz ln k lane i n < 0) : ¬ barC sz ln k lane i n = 0 ∧ R_bar sz ln k lane i n = -10 - barC sz ln k lane i n ∧ ∀ ft, F_bar sz ln ft k lane i n = barC sz ln k lane i n := by
  have h1 : ¬ barC sz ln k lane i n = 0 := by
    intro q
    unfold R_bar at h
    rw [if_pos q] at h
    omega
  exact ⟨h1, if_neg h1, fun ft => if_neg h1⟩
theorem R_bar_0 {sz ln : Int → Int} {k lane i n : Int} (h : ¬ R_bar sz ln k lane i n < 0) : barC sz ln k lane i n = 0 ∧ (∀ ft, F_bar sz ln ft k lane i n = ft) ∧ 0 ≤ i ∧ 0 ≤ n ∧ i + n ≤ sz k ∧ 0 ≤ sz k ∧ ln k = lane := by
  have hr := barC_r sz ln k lane i n
  have h1 : barC sz ln k lane i n = 0 := by
    rcases Classical.em (barC sz ln k lane i n = 0) with q | q
    · exact q
    · unfold R_bar at h
      rw [if_neg q] at h
      omega
  refine ⟨h1, fun ft => if_pos h1, ?_⟩
  unfold barC at h1
  (repeat' split at h1) <;> omega
theorem R_bar_r (sz ln : Int → Int) (k lane i n : Int) : -14 ≤ R_bar sz ln k lane i n ∧ R_bar sz ln k lane i n ≤ 0 := by
  have hr := barC_r sz ln k lane i n
  unfold R_bar
  split <;> omega
