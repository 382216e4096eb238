/-! sheets of both sides -/
theorem qfS_same {st : Nat → Option shE} {k : Nat} {x y : shE} (hx : st k = some x) (h : y.1 = x.1) : qfS st = qfS (upS st k (some y)) := by
  funext j
  unfold qfS upS
  split
  next e => rw [e, hx]; show some x.1 = some y.1; rw [h]
  next => rfl
theorem qfS_non {st : Nat → Option shE} {k : Nat} (hx : st k = none) : va_up (qfS st) k none = qfS st := by
  funext j
  unfold va_up qfS
  split
  next e => rw [e, hx]; rfl
  next => rfl
theorem shR_set {st : Nat → Option shE} {sz ln ce ce2 : Int → Int} (h : shR st sz ln ce) {k : Nat} (hk : k < 4) {sa : Nat} {sb : Nat → Nat} {la : Int} {zn : Nat} {gg gg2 : Int → Int} (hx : st k = some (sa, sb, la, zn, gg))
    (h1 : ∀ j, 0 ≤ j → j < (zn : Int) → gg2 j = ce2 (60 * k + j) ∧ -2147483648 ≤ gg2 j ∧ gg2 j ≤ 2147483647) (h2 : ∀ k' : Nat, k' < 4 → ¬ k' = k → ∀ j, 0 ≤ j → j < 60 → ce2 (60 * k' + j) = ce (60 * k' + j)) : shR (upS st k (some (sa, sb, la, zn, gg2))) sz ln ce2 := by
  intro k' hk'
  by_cases e : k' = k
  · subst e
    have hu : upS st k' (some (sa, sb, la, zn, gg2)) k' = some (sa, sb, la, zn, gg2) := if_pos rfl
    rw [hu]
    obtain ⟨q1, q2, q3⟩ := (h k' hk').2 _ hx
    refine ⟨fun q => (by cases q), fun x q => ?_⟩
    injection q with q
    subst q
    exact ⟨q1, q2, h1⟩
  · have hu : upS st k (some (sa, sb, la, zn, gg2)) k' = st k' := if_neg e
    rw [hu]
    refine ⟨(h k' hk').1, fun x q => ?_⟩
    obtain ⟨q1, q2, q3⟩ := (h k' hk').2 x q
    refine ⟨q1, q2, fun j a1 a2 => ?_⟩
    rw [h2 k' hk' e j a1 (by omega)]
    exact q3 j a1 a2
theorem shR_non {st : Nat → Option shE} {sz ln ce : Int → Int} (h : shR st sz ln ce) (k : Nat) : shR (upS st k none) (up sz k (-1)) ln ce := by
  intro k' hk'
  by_cases e : k' = k
  · subst e
    have hu : upS st k' none k' = none := if_pos rfl
    rw [hu]
    exact ⟨fun _ => up_s, fun x q => (by cases q)⟩
  · have hu : upS st k none k' = st k' := if_neg e
    rw [hu]
    obtain ⟨q1, q2⟩ := h k' hk'
    have hz : up sz k (-1) k' = sz k' := up_n (by omega)
    rw [hz]
    exact ⟨q1, q2⟩
theorem shR_new {st : Nat → Option shE} {sz ln ce : Int → Int} (h : shR st sz ln ce) (k : Nat) (sa : Nat) (sb : Nat → Nat) {la nn : Int} (hl : 0 ≤ la ∧ la ≤ 2) (hn : 0 ≤ nn ∧ nn ≤ 60) : shR (upS st k (some (sa, sb, la, nn.toNat, fun _ => 0))) (up sz k nn) (up ln k la) (zfF ce (60 * k) nn) := by
  intro k' hk'
  by_cases e : k' = k
  · subst e
    have hu : upS st k' (some (sa, sb, la, nn.toNat, fun _ => 0)) k' = some (sa, sb, la, nn.toNat, fun _ => 0) := if_pos rfl
    rw [hu]
    refine ⟨fun q => (by cases q), fun x q => ?_⟩
    injection q with q
    subst q
    refine ⟨⟨by rw [up_s]; show nn = (nn.toNat : Int); omega, up_s⟩, ⟨hl, by show nn.toNat ≤ 60; omega⟩, fun j a1 a2 => ?_⟩
    replace a2 : j < (nn.toNat : Int) := a2
    refine ⟨?_, by show (-2147483648 : Int) ≤ 0; omega, by show (0 : Int) ≤ 2147483647; omega⟩
    show 0 = zfF ce (60 * k') nn (60 * k' + j)
    unfold zfF
    rw [if_pos (by omega)]
  · have hu : upS st k (some (sa, sb, la, nn.toNat, fun _ => 0)) k' = st k' := if_neg e
    rw [hu]
    have hz : up sz k nn k' = sz k' := up_n (by omega)
    have hl2 : up ln k la k' = ln k' := up_n (by omega)
    rw [hz, hl2]
    refine ⟨(h k' hk').1, fun x q => ?_⟩
    obtain ⟨q1, q2, q3⟩ := (h k' hk').2 x q
    refine ⟨q1, q2, fun j a1 a2 => ?_⟩
    have hc : zfF ce (60 * k) nn (60 * k' + j) = ce (60 * k' + j) := by
      unfold zfF
      rw [if_neg (by omega)]
    rw [hc]
    exact q3 j a1 a2
theorem cutF_r {la v : Int} (hv : -2147483648 ≤ v ∧ v ≤ 2147483647) : -2147483648 ≤ cutF la v ∧ cutF la v ≤ 2147483647 := by
  unfold cutF
  split
  · exact iI_rg _
  · split
    · exact iI_rg _
    · exact hv
theorem shOK_up {sz ln ce : Int → Int} (h : shOK sz ln ce) {z v : Int} (hv : -2147483648 ≤ v ∧ v ≤ 2147483647) : shOK sz ln (up ce z v) := by
  obtain ⟨h1, h2, h3⟩ := h
  refine ⟨h1, h2, fun j => ?_⟩
  unfold up
  split
  · exact hv
  · exact h3 j
theorem shOK_mv {sz ln ce : Int → Int} (h : shOK sz ln ce) {f : Int → Int} (hf : ∀ j, -2147483648 ≤ f j ∧ f j ≤ 2147483647) (b n : Int) : shOK sz ln (mvF f ce b n) := by
  obtain ⟨h1, h2, h3⟩ := h
  refine ⟨h1, h2, fun j => ?_⟩
  unfold mvF
  split
  · exact hf _
  · exact h3 j
theorem shOK_new {sz ln ce : Int → Int} (h : shOK sz ln ce) {k la nn : Int} (hl : 0 ≤ la ∧ la ≤ 2) (hn : 0 ≤ nn ∧ nn ≤ 60) (b : Int) : shOK (up sz k nn) (up ln k la) (zfF ce b nn) := by
  obtain ⟨h1, h2, h3⟩ := h
  refine ⟨fun j => ?_, fun j => ?_, fun j => ?_⟩
  · unfold up; split; omega; exact h1 j
  · unfold up; split; omega; exact h2 j
  · unfold zfF; split; omega; exact h3 j
theorem shOK_non {sz ln ce : Int → Int} (h : shOK sz ln ce) (k : Int) : shOK (up sz k (-1)) ln ce := by
  obtain ⟨h1, h2, h3⟩ := h
  refine ⟨fun j => ?_, h2, h3⟩
  unfold up; split; omega; exact h1 j
theorem shR_put {st : Nat → Option shE} {sz ln ce : Int → Int} (h : shR st sz ln ce) {y i v : Int} (hy : 0 ≤ y ∧ y ≤ 3) {sa : Nat} {sb : Nat → Nat} {la : Int} {zn : Nat} {gg : Int → Int} (hx : st y.toNat = some (sa, sb, la, zn, gg)) (hi : 0 ≤ i ∧ i < 60) (hv : -2147483648 ≤ v ∧ v ≤ 2147483647) : shR (upS st y.toNat (some (sa, sb, la, zn, up gg i v))) sz ln (up ce (60 * y + i) v) := by
  have hc : ((y.toNat : Nat) : Int) = y := by omega
  obtain ⟨-, -, q3⟩ := (h y.toNat (by omega)).2 _ hx
  refine shR_set h (by omega) hx (fun j a1 a2 => ?_) (fun k' a1 a2 j a3 a4 => ?_)
  · rw [hc]
    by_cases e : j = i
    · subst e
      rw [up_s, up_s]
      exact ⟨rfl, hv⟩
    · rw [up_n e, up_n (by omega)]
      have := q3 j a1 a2
      rw [hc] at this
      exact this
  · rw [up_n (by omega)]
theorem shR_cpy {st : Nat → Option shE} {sz ln ce : Int → Int} (h : shR st sz ln ce) {y o i j n : Int} (hy : 0 ≤ y ∧ y ≤ 3) (ho : 0 ≤ o ∧ o ≤ 3) {sa sc : Nat} {sb sd : Nat → Nat} {la la2 : Int} {zn zm : Nat} {gg gh : Int → Int} (hx : st y.toNat = some (sa, sb, la, zn, gg)) (hz : st o.toNat = some (sc, sd, la2, zm, gh)) (hb : 0 ≤ i ∧ 0 ≤ n ∧ i + n ≤ zn ∧ 0 ≤ j ∧ j + n ≤ zm) (hm : zm ≤ 60) : shR (upS st o.toNat (some (sc, sd, la2, zm, cpI gg gh i j n))) sz ln (mvF (fun x => ce (60 * y + i + x)) ce (60 * o + j) n) := by
  have hc : ((y.toNat : Nat) : Int) = y := by omega
  have hd : ((o.toNat : Nat) : Int) = o := by omega
  obtain ⟨-, -, q3⟩ := (h y.toNat (by omega)).2 _ hx
  obtain ⟨-, -, p3⟩ := (h o.toNat (by omega)).2 _ hz
  refine shR_set h (by omega) hz (fun t a1 a2 => ?_) (fun k' a1 a2 t a3 a4 => ?_)
  · rw [hd]
    unfold cpI mvF
    by_cases e : j ≤ t ∧ t < j + n
    · rw [if_pos e, if_pos (by omega)]
      have := q3 (t - j + i) (by omega) (by show t - j + i < (zn : Int); omega)
      rw [hc] at this
      replace this : gg (t - j + i) = ce (60 * y + (t - j + i)) ∧ -2147483648 ≤ gg (t - j + i) ∧ gg (t - j + i) ≤ 2147483647 := this
      rw [show i + (t - j) = t - j + i by omega]
      dsimp only
      rw [show 60 * y + i + (60 * o + t - (60 * o + j)) = 60 * y + (t - j + i) by omega]
      exact this
    · rw [if_neg e, if_neg (by omega)]
      have := p3 t a1 a2
      rw [hd] at this
      exact this
  · unfold mvF
    rw [if_neg (by omega)]
