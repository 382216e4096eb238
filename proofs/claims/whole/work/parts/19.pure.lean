/-! pure words: signs, polynomials, roots -/
def sg (z : Int) : Int := if z < 0 then -1 else if 0 < z then 1 else 0
def sg2 (u v d : Int) : Int := if sg u = (if d = 0 then 0 else sg v) ∨ (if d = 0 then 0 else sg v) = 0 then sg u else if sg u = 0 then (if d = 0 then 0 else sg v) else if u * u - v * v * d = 0 then 0 else if 0 < u * u - v * v * d then sg u else (if d = 0 then 0 else sg v)
theorem sg_r (z : Int) : -1 ≤ sg z ∧ sg z ≤ 1 := by unfold sg; (repeat' split) <;> omega
theorem sg_n {z : Int} (h : z < 0) : sg z = -1 := by simp [sg, h]
theorem sg_p {z : Int} (h : 0 < z) : sg z = 1 := by unfold sg; rw [if_neg (by omega), if_pos h]
theorem sg_0 {z : Int} (h : z = 0) : sg z = 0 := by subst h; decide
theorem sg2_r (u v d : Int) : -1 ≤ sg2 u v d ∧ sg2 u v d ≤ 1 := by
  have h1 := sg_r u
  have h2 := sg_r v
  unfold sg2
  (repeat' split) <;> omega
theorem mul_rg {x y A B : Int} (hx : -A ≤ x ∧ x ≤ A) (hy : -B ≤ y ∧ y ≤ B) : -(A * B) ≤ x * y ∧ x * y ≤ A * B := by
  have h1 : 0 ≤ (A - x) * (B + y) := Int.mul_nonneg (by omega) (by omega)
  have h2 : 0 ≤ (A + x) * (B - y) := Int.mul_nonneg (by omega) (by omega)
  have h3 : 0 ≤ (A - x) * (B - y) := Int.mul_nonneg (by omega) (by omega)
  have h4 : 0 ≤ (A + x) * (B + y) := Int.mul_nonneg (by omega) (by omega)
  rw [Int.sub_mul, Int.mul_add, Int.mul_add] at h1
  rw [Int.add_mul, Int.mul_sub, Int.mul_sub] at h2
  rw [Int.sub_mul, Int.mul_sub, Int.mul_sub] at h3
  rw [Int.add_mul, Int.mul_add, Int.mul_add] at h4
  omega
theorem sg2_rg {u v d : Int} (hu : -10000000 ≤ u ∧ u ≤ 10000000) (hv : -10000000 ≤ v ∧ v ≤ 10000000) (hd : 0 ≤ d ∧ d ≤ 10000) : -9000000000000000000 ≤ u * u - v * v * d ∧ u * u - v * v * d ≤ 9000000000000000000 := by
  have h1 := mul_rg (A := 10000000) (B := 10000000) (by omega) (by omega : -10000000 ≤ u ∧ u ≤ 10000000) (x := u)
  have h2 := mul_rg (A := 10000000) (B := 10000000) (by omega) (by omega : -10000000 ≤ v ∧ v ≤ 10000000) (x := v)
  have h3 := mul_rg (x := v * v) (y := d) (A := 100000000000000) (B := 10000) (by omega) (by omega)
  omega
/-! what polynomials are; their roots -/
def exF (kd nu : Int → Int) (q k : Int) : Int :=
  if k = 0 then (if kd q = 2 then nu (3 * q) + -(nu (3 * q + 1)) + nu (3 * q + 2) else nu (3 * q))
  else if k = 1 then (if kd q = 0 then nu (3 * q + 1) else if kd q = 2 then -(nu (3 * q + 1)) + 2 * nu (3 * q + 2) else -(nu (3 * q + 1)))
  else nu (3 * q + 2)
def exT (n : Int) (kd nu : Int → Int) (q k : Int) : Int := if 0 ≤ q ∧ q < n then exF kd nu q k else 0
def kdOK (kd : Int → Int) : Prop := ∀ j, 0 ≤ kd j ∧ kd j ≤ 2
def nuOK (nu : Int → Int) : Prop := ∀ j, -9 ≤ nu j ∧ nu j ≤ 9
def EB (E : Int → Int → Int) : Prop := ∀ q, (-27 ≤ E q 0 ∧ E q 0 ≤ 27) ∧ (-27 ≤ E q 1 ∧ E q 1 ≤ 27) ∧ (-9 ≤ E q 2 ∧ E q 2 ≤ 9)
theorem exT_in {n : Int} {kd nu : Int → Int} {q k : Int} (h : 0 ≤ q ∧ q < n) : exT n kd nu q k = exF kd nu q k := if_pos h
theorem exT_B (n : Int) (kd : Int → Int) {nu : Int → Int} (hn : nuOK nu) : EB (exT n kd nu) := by
  intro q
  have h0 := hn (3 * q)
  have h1 := hn (3 * q + 1)
  have h2 := hn (3 * q + 2)
  refine ⟨?_, ?_, ?_⟩
  · unfold exT exF
    (repeat' split) <;> omega
  · unfold exT exF
    (repeat' split) <;> omega
  · unfold exT exF
    (repeat' split) <;> omega
theorem exT_b {n : Int} {kd nu : Int → Int} (hn : nuOK nu) (q k : Int) : -27 ≤ exT n kd nu q k ∧ exT n kd nu q k ≤ 27 := by
  have h0 := hn (3 * q)
  have h1 := hn (3 * q + 1)
  have h2 := hn (3 * q + 2)
  unfold exT exF
  (repeat' split) <;> omega
def dsc (E : Int → Int → Int) (q : Int) : Int := E q 1 * E q 1 - 4 * E q 2 * E q 0
def nR (E : Int → Int → Int) (q : Int) : Int := if E q 2 = 0 then (if E q 1 = 0 then 0 else 1) else if 0 < dsc E q then 2 else if dsc E q = 0 then 1 else 0
def zP (E : Int → Int → Int) (q : Int) : Int := if E q 2 = 0 then (if 0 < E q 1 then -(E q 0) else E q 0) else (if 0 < E q 2 then -(E q 1) else E q 1)
def zQ (E : Int → Int → Int) (q : Int) : Int := if E q 2 = 0 then (if 0 < E q 1 then E q 1 else -(E q 1)) else (if 0 < E q 2 then 2 * E q 2 else (-2) * E q 2)
def zS (E : Int → Int → Int) (q i : Int) : Int := if E q 2 = 0 then 0 else if dsc E q = 0 then 0 else if i = 0 then -1 else 1
def zD (E : Int → Int → Int) (q : Int) : Int := if E q 2 = 0 then 0 else dsc E q
def rtOK (P S D Q : Int) : Prop := (-27 ≤ P ∧ P ≤ 27) ∧ (-1 ≤ S ∧ S ≤ 1) ∧ (0 ≤ D ∧ D ≤ 1701) ∧ (1 ≤ Q ∧ Q ≤ 27) ∧ (S = 0 → D = 0)
theorem dsc_b {E : Int → Int → Int} (h : EB E) (q : Int) : -1701 ≤ dsc E q ∧ dsc E q ≤ 1701 := by
  obtain ⟨h0, h1, h2⟩ := h q
  have a1 := mul_rg (x := E q 1) (y := E q 1) (A := 27) (B := 27) (by omega) (by omega)
  have a2 := mul_rg (x := 4 * E q 2) (y := E q 0) (A := 36) (B := 27) (by omega) (by omega)
  unfold dsc
  omega
theorem nR_r (E : Int → Int → Int) (q : Int) : 0 ≤ nR E q ∧ nR E q ≤ 2 := by
  unfold nR
  (repeat' split) <;> omega
theorem rt_ok {E : Int → Int → Int} (h : EB E) {q i : Int} (hi : 0 ≤ i ∧ i < nR E q) : rtOK (zP E q) (zS E q i) (zD E q) (zQ E q) := by
  have hd := dsc_b h q
  obtain ⟨h0, h1, h2⟩ := h q
  unfold nR at hi
  refine ⟨?_, ?_, ?_, ?_, ?_⟩
  · unfold zP
    (repeat' split) <;> omega
  · unfold zS
    (repeat' split) <;> omega
  · unfold zD
    (repeat' split at hi) <;> (split <;> omega)
  · unfold zQ
    (repeat' split at hi) <;> ((repeat' split) <;> omega)
  · unfold zS zD
    (repeat' split) <;> omega
/-- the sign at a root of c, b x, a x x together -/
def sAt (c b a P S D Q : Int) : Int := sg2 (c * Q * Q + b * Q * P + a * (P * P + D)) (S * (b * Q + 2 * a * P)) D
theorem sAt_r (c b a P S D Q : Int) : -1 ≤ sAt c b a P S D Q ∧ sAt c b a P S D Q ≤ 1 := sg2_r _ _ _
theorem sAt_rg {c b a P S D Q : Int} (hr : rtOK P S D Q) (hc : -60 ≤ c ∧ c ≤ 60) (hb : -60 ≤ b ∧ b ≤ 60) (ha : -60 ≤ a ∧ a ≤ 60) :
    (-10000000 ≤ c * Q * Q + b * Q * P + a * (P * P + D) ∧ c * Q * Q + b * Q * P + a * (P * P + D) ≤ 10000000) ∧ (-10000000 ≤ S * (b * Q + 2 * a * P) ∧ S * (b * Q + 2 * a * P) ≤ 10000000) := by
  obtain ⟨hP, hS, hD, hQ, -⟩ := hr
  have e1 := mul_rg (x := c) (y := Q) (A := 60) (B := 27) hc (by omega)
  have e2 := mul_rg (x := c * Q) (y := Q) (A := 1620) (B := 27) (by omega) (by omega)
  have e3 := mul_rg (x := b) (y := Q) (A := 60) (B := 27) hb (by omega)
  have e4 := mul_rg (x := b * Q) (y := P) (A := 1620) (B := 27) (by omega) (by omega)
  have e5 := mul_rg (x := P) (y := P) (A := 27) (B := 27) (by omega) (by omega)
  have e6 := mul_rg (x := a) (y := P * P + D) (A := 60) (B := 2430) ha (by omega)
  have e7 := mul_rg (x := 2 * a) (y := P) (A := 120) (B := 27) (by omega) (by omega)
  have e8 := mul_rg (x := S) (y := b * Q + 2 * a * P) (A := 1) (B := 4860) (by omega) (by omega)
  omega
/-- one root against another: less (-1), the same (0), greater (1) -/
def cm1 (P S D Q P2 Q2 : Int) : Int := sg2 (P * Q2 - P2 * Q) (S * Q2) D
def cm2 (Q S2 D2 : Int) : Int := if D2 = 0 then 0 else sg (S2 * Q)
def cm3 (P S D Q P2 S2 D2 Q2 : Int) : Int := sg2 ((P * Q2 - P2 * Q) * (P * Q2 - P2 * Q) + S * Q2 * (S * Q2) * D - S2 * Q * (S2 * Q) * D2) (2 * (P * Q2 - P2 * Q) * (S * Q2)) D
def cmF (P S D Q P2 S2 D2 Q2 : Int) : Int :=
  if cm1 P S D Q P2 Q2 = cm2 Q S2 D2 then (if cm1 P S D Q P2 Q2 < 0 then -(cm3 P S D Q P2 S2 D2 Q2) else cm3 P S D Q P2 S2 D2 Q2)
  else if cm1 P S D Q P2 Q2 < cm2 Q S2 D2 then -1 else 1
theorem cmF_r (P S D Q P2 S2 D2 Q2 : Int) : -1 ≤ cmF P S D Q P2 S2 D2 Q2 ∧ cmF P S D Q P2 S2 D2 Q2 ≤ 1 := by
  have h := sg2_r ((P * Q2 - P2 * Q) * (P * Q2 - P2 * Q) + S * Q2 * (S * Q2) * D - S2 * Q * (S2 * Q) * D2) (2 * (P * Q2 - P2 * Q) * (S * Q2)) D
  unfold cmF cm3
  (repeat' split) <;> omega
theorem cmF_rg {P S D Q P2 S2 D2 Q2 : Int} (h1 : rtOK P S D Q) (h2 : rtOK P2 S2 D2 Q2) :
    (-10000000 ≤ P * Q2 - P2 * Q ∧ P * Q2 - P2 * Q ≤ 10000000) ∧ (-10000000 ≤ S * Q2 ∧ S * Q2 ≤ 10000000) ∧ (-10000000 ≤ S2 * Q ∧ S2 * Q ≤ 10000000) ∧
    (-10000000 ≤ (P * Q2 - P2 * Q) * (P * Q2 - P2 * Q) + S * Q2 * (S * Q2) * D - S2 * Q * (S2 * Q) * D2 ∧ (P * Q2 - P2 * Q) * (P * Q2 - P2 * Q) + S * Q2 * (S * Q2) * D - S2 * Q * (S2 * Q) * D2 ≤ 10000000) ∧
    (-10000000 ≤ 2 * (P * Q2 - P2 * Q) * (S * Q2) ∧ 2 * (P * Q2 - P2 * Q) * (S * Q2) ≤ 10000000) := by
  obtain ⟨hP, hS, hD, hQ, -⟩ := h1
  obtain ⟨hP2, hS2, hD2, hQ2, -⟩ := h2
  have e1 := mul_rg (x := P) (y := Q2) (A := 27) (B := 27) (by omega) (by omega)
  have e2 := mul_rg (x := P2) (y := Q) (A := 27) (B := 27) (by omega) (by omega)
  have e3 := mul_rg (x := S) (y := Q2) (A := 1) (B := 27) (by omega) (by omega)
  have e4 := mul_rg (x := S2) (y := Q) (A := 1) (B := 27) (by omega) (by omega)
  have e5 := mul_rg (x := P * Q2 - P2 * Q) (y := P * Q2 - P2 * Q) (A := 1458) (B := 1458) (by omega) (by omega)
  have e6 := mul_rg (x := S * Q2) (y := S * Q2) (A := 27) (B := 27) (by omega) (by omega)
  have e7 := mul_rg (x := S * Q2 * (S * Q2)) (y := D) (A := 729) (B := 1701) (by omega) (by omega)
  have e8 := mul_rg (x := S2 * Q) (y := S2 * Q) (A := 27) (B := 27) (by omega) (by omega)
  have e9 := mul_rg (x := S2 * Q * (S2 * Q)) (y := D2) (A := 729) (B := 1701) (by omega) (by omega)
  have e10 := mul_rg (x := 2 * (P * Q2 - P2 * Q)) (y := S * Q2) (A := 2916) (B := 27) (by omega) (by omega)
  omega
theorem ssd {P S D Q : Int} (h : rtOK P S D Q) : S * S * D = D := by
  obtain ⟨-, hS, -, -, hz⟩ := h
  rcases (by omega : S = -1 ∨ S = 0 ∨ S = 1) with e | e | e
  · subst e; omega
  · rw [hz e]; omega
  · subst e; omega
/-! all roots, by their places 2 p + i -/
def qP (E : Int → Int → Int) (t : Int) : Int := zP E (t / 2)
def qS (E : Int → Int → Int) (t : Int) : Int := zS E (t / 2) (t % 2)
def qD (E : Int → Int → Int) (t : Int) : Int := zD E (t / 2)
def qQ (E : Int → Int → Int) (t : Int) : Int := zQ E (t / 2)
def cmE (E : Int → Int → Int) (a b : Int) : Int := cmF (qP E a) (qS E a) (qD E a) (qQ E a) (qP E b) (qS E b) (qD E b) (qQ E b)
def isRt (E : Int → Int → Int) (n t : Int) : Prop := 0 ≤ t ∧ t / 2 < n ∧ t % 2 < nR E (t / 2)
theorem isRt_ok {E : Int → Int → Int} (h : EB E) {n t : Int} (ht : isRt E n t) : rtOK (qP E t) (qS E t) (qD E t) (qQ E t) := rt_ok h ⟨by omega, ht.2.2⟩
def insL (E : Int → Int → Int) (a : Int) : List Int → List Int
  | [] => [a]
  | x :: xs => if 0 < cmE E a x then x :: insL E a xs else if cmE E a x = 0 then x :: xs else a :: x :: xs
def insR (E : Int → Int → Int) (q : Int) (L : List Int) : Nat → List Int
  | 0 => L
  | i + 1 => insL E (2 * q + i) (insR E q L i)
def ALn (E : Int → Int → Int) : Nat → List Int
  | 0 => []
  | q + 1 => insR E q (ALn E q) (nR E q).toNat
/-- a row holds a list -/
def hasL (f : Int → Int) (L : List Int) : Prop := ∀ j : Nat, j < L.length → L[j]? = some (f j)
def MR (E : Int → Int → Int) (L : List Int) (vP vS vD vQ : Int → Int) : Prop := ∀ (j : Nat) (t : Int), L[j]? = some t → vP j = qP E t ∧ vS j = qS E t ∧ vD j = qD E t ∧ vQ j = qQ E t
theorem insL_len (E : Int → Int → Int) (a : Int) (L : List Int) : L.length ≤ (insL E a L).length ∧ (insL E a L).length ≤ L.length + 1 := by
  induction L with
  | nil => simp [insL]
  | cons x xs ih =>
    unfold insL
    (repeat' split) <;> (simp only [List.length_cons]; omega)
theorem insR_len (E : Int → Int → Int) (q : Int) (L : List Int) (i : Nat) : L.length ≤ (insR E q L i).length ∧ (insR E q L i).length ≤ L.length + i := by
  induction i with
  | zero => simp [insR]
  | succ i ih =>
    have := insL_len E (2 * q + i) (insR E q L i)
    unfold insR
    omega
theorem ALn_len (E : Int → Int → Int) (q : Nat) : (ALn E q).length ≤ 2 * q := by
  induction q with
  | zero => simp [ALn]
  | succ q ih =>
    have h1 := insR_len E q (ALn E q) (nR E q).toNat
    have h2 := nR_r E q
    unfold ALn
    omega
theorem insL_mem (E : Int → Int → Int) (a : Int) (L : List Int) (x : Int) : x ∈ insL E a L → x = a ∨ x ∈ L := by
  induction L with
  | nil => simp [insL]
  | cons y ys ih =>
    unfold insL
    intro h
    split at h
    · rcases List.mem_cons.mp h with h | h
      · exact Or.inr (List.mem_cons.mpr (Or.inl h))
      · rcases ih h with h | h
        · exact Or.inl h
        · exact Or.inr (List.mem_cons_of_mem _ h)
    · split at h
      · exact Or.inr h
      · exact List.mem_cons.mp h
theorem insR_mem (E : Int → Int → Int) (q : Int) (L : List Int) (i : Nat) (x : Int) : x ∈ insR E q L i → x ∈ L ∨ ∃ j : Nat, j < i ∧ x = 2 * q + j := by
  induction i with
  | zero => exact fun h => Or.inl h
  | succ i ih =>
    intro h
    unfold insR at h
    rcases insL_mem _ _ _ _ h with h | h
    · exact Or.inr ⟨i, by omega, h⟩
    · rcases ih h with h | ⟨j, h1, h2⟩
      · exact Or.inl h
      · exact Or.inr ⟨j, by omega, h2⟩
theorem ALn_mem (E : Int → Int → Int) (q : Nat) (x : Int) : x ∈ ALn E q → isRt E q x := by
  induction q with
  | zero => intro h; cases h
  | succ q ih =>
    intro h
    unfold ALn at h
    rcases insR_mem _ _ _ _ _ h with h | ⟨j, h1, h2⟩
    · obtain ⟨a, b, c⟩ := ih h
      exact ⟨a, by omega, c⟩
    · have e : x / 2 = (q : Int) := by have := nR_r E q; omega
      refine ⟨by omega, by omega, ?_⟩
      rw [e]
      have := nR_r E q
      omega
theorem insR_isRt {E : Int → Int → Int} {q i : Nat} (hi : (i : Int) ≤ nR E q) {x : Int} (h : x ∈ insR E q (ALn E q) i) : isRt E (q + 1) x := by
  rcases insR_mem _ _ _ _ _ h with h | ⟨j, h1, h2⟩
  · obtain ⟨a, b, c⟩ := ALn_mem E q x h
    exact ⟨a, by omega, c⟩
  · have hr := nR_r E q
    have e : x / 2 = (q : Int) := by omega
    refine ⟨by omega, by omega, ?_⟩
    rw [e]
    omega
/-- where it goes: behind those that are less; not at all, if it is there -/
theorem insL_at {E : Int → Int → Int} {a : Int} : ∀ {L : List Int} {k : Nat}, k ≤ L.length → (∀ (j : Nat) (x : Int), j < k → L[j]? = some x → 0 < cmE E a x) → (∀ x, L[k]? = some x → cmE E a x < 0) → insL E a L = L.take k ++ a :: L.drop k := by
  intro L
  induction L with
  | nil => intro k hk h1 h2; simp [insL]
  | cons y ys ih =>
    intro k hk h1 h2
    cases k with
    | zero =>
      have h := h2 y rfl
      unfold insL
      rw [if_neg (by omega), if_neg (by omega)]
      rfl
    | succ k =>
      have h := h1 0 y (by omega) rfl
      unfold insL
      rw [if_pos h, ih (k := k) (by simpa using hk) (fun j x hj hx => h1 (j + 1) x (by omega) hx) (fun x hx => h2 x hx)]
      rfl
theorem insL_eq {E : Int → Int → Int} {a : Int} : ∀ {L : List Int} {k : Nat} {x : Int}, (∀ (j : Nat) (x : Int), j < k → L[j]? = some x → 0 < cmE E a x) → L[k]? = some x → cmE E a x = 0 → insL E a L = L := by
  intro L
  induction L with
  | nil => intro k x h1 h2; simp at h2
  | cons y ys ih =>
    intro k x h1 h2 h3
    cases k with
    | zero =>
      cases h2
      unfold insL
      rw [if_neg (by omega), if_pos h3]
    | succ k =>
      have h := h1 0 y (by omega) rfl
      unfold insL
      rw [if_pos h, ih (k := k) (fun j x hj hx => h1 (j + 1) x (by omega) hx) h2 h3]
/-- a row with one put in between -/
def insA (f : Int → Int) (n k v : Int) : Int → Int := fun j => if j < k then f j else if j = k then v else if j ≤ n then f (j - 1) else f j
theorem ins_at {L : List Int} {k : Nat} {a : Int} (hk : k ≤ L.length) (j : Nat) (t : Int) (h : (L.take k ++ a :: L.drop k)[j]? = some t) : (j < k ∧ L[j]? = some t) ∨ (j = k ∧ t = a) ∨ (k < j ∧ j ≤ L.length ∧ L[j - 1]? = some t) := by
  rcases Nat.lt_trichotomy j k with q | q | q
  · rw [List.getElem?_append_left (by simp; omega), List.getElem?_take_of_lt q] at h
    exact Or.inl ⟨q, h⟩
  · subst q
    rw [List.getElem?_append_right (by simp; omega)] at h
    have e : j - (L.take j).length = 0 := by simp; omega
    rw [e] at h
    exact Or.inr (Or.inl ⟨rfl, (Option.some.inj h).symm⟩)
  · rw [List.getElem?_append_right (by simp; omega)] at h
    have e : j - (L.take k).length = (j - 1 - k) + 1 := by simp; omega
    rw [e, List.getElem?_cons_succ, List.getElem?_drop] at h
    have e2 : k + (j - 1 - k) = j - 1 := by omega
    rw [e2] at h
    have := (List.getElem?_eq_some_iff.mp h).1
    exact Or.inr (Or.inr ⟨q, by omega, h⟩)
theorem MR_ins {E : Int → Int → Int} {L : List Int} {vP vS vD vQ : Int → Int} (h : MR E L vP vS vD vQ) {k : Nat} (hk : k ≤ L.length) (a : Int) :
    MR E (L.take k ++ a :: L.drop k) (insA vP L.length k (qP E a)) (insA vS L.length k (qS E a)) (insA vD L.length k (qD E a)) (insA vQ L.length k (qQ E a)) := by
  intro j t ht
  rcases ins_at hk j t ht with ⟨q, g⟩ | ⟨q, g⟩ | ⟨q, q2, g⟩
  · have := h j t g
    simp only [insA]
    rw [if_pos (by omega), if_pos (by omega), if_pos (by omega), if_pos (by omega)]
    exact this
  · subst q; subst g
    simp [insA]
  · have := h (j - 1) t g
    have e : ((j - 1 : Nat) : Int) = (j : Int) - 1 := by omega
    rw [e] at this
    simp only [insA]
    rw [if_neg (by omega), if_neg (by omega), if_pos (by omega), if_neg (by omega), if_neg (by omega), if_pos (by omega), if_neg (by omega), if_neg (by omega), if_pos (by omega), if_neg (by omega), if_neg (by omega), if_pos (by omega)]
    exact this
/-- the sign of p in spot k -/
def sA0 (E : Int → Int → Int) (p : Int) : Int := if E p 2 = 0 then (if E p 1 = 0 then sg (E p 0) else -(sg (E p 1))) else sg (E p 2)
def sRt (E : Int → Int → Int) (t p : Int) : Int := sAt (E p 0) (E p 1) (E p 2) (qP E t) (qS E t) (qD E t) (qQ E t)
def sBh (E : Int → Int → Int) (t p : Int) : Int := if sAt (E p 1) (2 * E p 2) 0 (qP E t) (qS E t) (qD E t) (qQ E t) = 0 then sg (E p 2) else sAt (E p 1) (2 * E p 2) 0 (qP E t) (qS E t) (qD E t) (qQ E t)
def sSp (E : Int → Int → Int) (L : List Int) (k p : Int) : Int :=
  if k = 0 then sA0 E p
  else if k % 2 = 1 then sRt E (L.getD ((k - 1) / 2).toNat 0) p
  else if sRt E (L.getD ((k - 1) / 2).toNat 0) p = 0 then sBh E (L.getD ((k - 1) / 2).toNat 0) p else sRt E (L.getD ((k - 1) / 2).toNat 0) p
theorem sA0_r (E : Int → Int → Int) (p : Int) : -1 ≤ sA0 E p ∧ sA0 E p ≤ 1 := by
  have h0 := sg_r (E p 0)
  have h1 := sg_r (E p 1)
  have h2 := sg_r (E p 2)
  unfold sA0
  (repeat' split) <;> omega
theorem sRt_r (E : Int → Int → Int) (t p : Int) : -1 ≤ sRt E t p ∧ sRt E t p ≤ 1 := sAt_r _ _ _ _ _ _ _
theorem sBh_r (E : Int → Int → Int) (t p : Int) : -1 ≤ sBh E t p ∧ sBh E t p ≤ 1 := by
  have h0 := sg_r (E p 2)
  have h1 := sAt_r (E p 1) (2 * E p 2) 0 (qP E t) (qS E t) (qD E t) (qQ E t)
  unfold sBh
  (repeat' split) <;> omega
theorem sSp_r (E : Int → Int → Int) (L : List Int) (k p : Int) : -1 ≤ sSp E L k p ∧ sSp E L k p ≤ 1 := by
  have h0 := sA0_r E p
  have h1 := sRt_r E (L.getD ((k - 1) / 2).toNat 0) p
  have h2 := sBh_r E (L.getD ((k - 1) / 2).toNat 0) p
  unfold sSp
  (repeat' split) <;> omega
theorem q_of (pp ii : Int) (hi : 0 ≤ ii ∧ ii ≤ 1) : (2 * pp + ii) / 2 = pp ∧ (2 * pp + ii) % 2 = ii := by omega
theorem qP_of {E : Int → Int → Int} {pp ii : Int} (hi : 0 ≤ ii ∧ ii ≤ 1) : qP E (2 * pp + ii) = zP E pp ∧ qS E (2 * pp + ii) = zS E pp ii ∧ qD E (2 * pp + ii) = zD E pp ∧ qQ E (2 * pp + ii) = zQ E pp := by
  obtain ⟨h1, h2⟩ := q_of pp ii hi
  simp only [qP, qS, qD, qQ, h1, h2, and_self]
theorem MR_at {E : Int → Int → Int} {L : List Int} {vP vS vD vQ : Int → Int} (h : MR E L vP vS vD vQ) {k : Int} (hk : 0 ≤ k ∧ k < L.length) : ∃ t : Int, L[k.toNat]? = some t ∧ t ∈ L ∧ (vP k = qP E t ∧ vS k = qS E t ∧ vD k = qD E t ∧ vQ k = qQ E t) := by
  have hl : k.toNat < L.length := by omega
  refine ⟨L[k.toNat], List.getElem?_eq_getElem hl, List.getElem_mem hl, ?_⟩
  have := h k.toNat _ (List.getElem?_eq_getElem hl)
  rw [show ((k.toNat : Nat) : Int) = k by omega] at this
  exact this
theorem cm_conv {E : Int → Int → Int} {pp ii t p2 s2 d2 q2 : Int} (hi : 0 ≤ ii ∧ ii ≤ 1) (h : p2 = qP E t ∧ s2 = qS E t ∧ d2 = qD E t ∧ q2 = qQ E t) : cmF (zP E pp) (zS E pp ii) (zD E pp) (zQ E pp) p2 s2 d2 q2 = cmE E (2 * pp + ii) t := by
  obtain ⟨h1, h2, h3, h4⟩ := h
  obtain ⟨g1, g2, g3, g4⟩ := qP_of (E := E) (pp := pp) hi
  rw [cmE, g1, g2, g3, g4, h1, h2, h3, h4]
def shA (f : Int → Int) (n x : Int) : Int → Int := fun j => if x < j ∧ j ≤ n then f (j - 1) else f j
theorem shA_0 (f : Int → Int) (n : Int) : shA f n n = f := by
  funext j
  unfold shA
  rw [if_neg (by omega)]
theorem shA_s {f : Int → Int} {n x : Int} (h : x ≤ n) : up (shA f n x) x (shA f n x (x - 1)) = shA f n (x + (-1)) := by
  funext j
  unfold up shA
  by_cases hj : j = x
  · subst hj
    rw [if_pos rfl, if_neg (by omega), if_pos (by omega)]
  · rw [if_neg hj]
    by_cases h2 : x < j ∧ j ≤ n
    · rw [if_pos h2, if_pos (by omega)]
    · rw [if_neg h2, if_neg (by omega)]
theorem insA_of {f : Int → Int} {n k v : Int} : up (shA f n k) k v = insA f n k v := by
  funext j
  unfold up shA insA
  by_cases hj : j = k
  · rw [if_pos hj, if_neg (by omega), if_pos hj]
  · rw [if_neg hj]
    by_cases h2 : j < k
    · rw [if_neg (by omega), if_pos h2]
    · by_cases h3 : j ≤ n
      · rw [if_pos (by omega), if_neg h2, if_neg hj, if_pos h3]
      · rw [if_neg (by omega), if_neg h2, if_neg hj, if_neg h3]
theorem ALn_s {E : Int → Int → Int} {pp : Int} (h : 0 ≤ pp) : ALn E (pp + 1).toNat = insR E pp (ALn E pp.toNat) (nR E pp).toNat := by
  rw [show (pp + 1).toNat = pp.toNat + 1 by omega, ALn, show ((pp.toNat : Nat) : Int) = pp by omega]
theorem insR_s {E : Int → Int → Int} {pp ii : Int} {L : List Int} (h : 0 ≤ ii) : insR E pp L (ii + 1).toNat = insL E (2 * pp + ii) (insR E pp L ii.toNat) := by
  rw [show (ii + 1).toNat = ii.toNat + 1 by omega, insR, show ((ii.toNat : Nat) : Int) = ii by omega]
theorem insR_rt {E : Int → Int → Int} {pp ii x : Int} (h0 : 0 ≤ pp) (h1 : 0 ≤ ii) (h2 : ii ≤ nR E pp) (h : x ∈ insR E pp (ALn E pp.toNat) ii.toNat) : isRt E (pp + 1) x := by
  have e : ((pp.toNat : Nat) : Int) = pp := by omega
  have := insR_isRt (E := E) (q := pp.toNat) (i := ii.toNat) (by rw [e]; omega) (x := x) (by rw [e]; exact h)
  rw [e] at this
  exact this
/-! a root is there once it has been put; what calls answer -/
theorem cm_self {P S D Q : Int} : cmF P S D Q P S D Q = 0 := by
  have e1 : cm1 P S D Q P Q = cm2 Q S D := by
    unfold cm1 cm2
    rw [Int.sub_self]
    unfold sg2
    have z0 : sg 0 = 0 := rfl
    rw [z0]
    generalize (if D = 0 then (0 : Int) else sg (S * Q)) = t
    by_cases ht : t = 0
    · rw [if_pos (Or.inr ht), ht]
    · rw [if_neg (by omega), if_pos rfl]
  have e3 : cm3 P S D Q P S D Q = 0 := by
    unfold cm3
    rw [Int.sub_self]
    simp only [Int.zero_mul, Int.mul_zero, Int.zero_add, Int.sub_self]
    unfold sg2
    rw [if_pos]
    · rfl
    · left
      split <;> rfl
  unfold cmF
  rw [if_pos e1, e3]
  split <;> rfl
theorem insL_keeps {E : Int → Int → Int} {a x : Int} {L : List Int} (h : x ∈ L) : x ∈ insL E a L := by
  induction L with
  | nil => cases h
  | cons y ys ih =>
    unfold insL
    (repeat' split)
    · rcases List.mem_cons.mp h with h | h
      · exact List.mem_cons.mpr (Or.inl h)
      · exact List.mem_cons_of_mem _ (ih h)
    · exact h
    · exact List.mem_cons_of_mem _ h
theorem insL_has (E : Int → Int → Int) (a : Int) (L : List Int) : ∃ x, x ∈ insL E a L ∧ cmE E a x = 0 := by
  induction L with
  | nil => exact ⟨a, by simp [insL], cm_self⟩
  | cons y ys ih =>
    unfold insL
    (repeat' split)
    · obtain ⟨x, h1, h2⟩ := ih
      exact ⟨x, List.mem_cons_of_mem _ h1, h2⟩
    · exact ⟨y, List.mem_cons_self, by assumption⟩
    · exact ⟨a, List.mem_cons_self, cm_self⟩
theorem insR_keeps {E : Int → Int → Int} {q x : Int} {L : List Int} (i : Nat) (h : x ∈ L) : x ∈ insR E q L i := by
  induction i with
  | zero => exact h
  | succ i ih => unfold insR; exact insL_keeps ih
theorem insR_has (E : Int → Int → Int) (q : Int) (L : List Int) : ∀ (i j : Nat), j < i → ∃ x, x ∈ insR E q L i ∧ cmE E (2 * q + j) x = 0 := by
  intro i
  induction i with
  | zero => intro j h; omega
  | succ i ih =>
    intro j h
    unfold insR
    rcases (by omega : j = i ∨ j < i) with e | e
    · subst e
      exact insL_has _ _ _
    · obtain ⟨x, h1, h2⟩ := ih j e
      exact ⟨x, insL_keeps h1, h2⟩
theorem ALn_has (E : Int → Int → Int) : ∀ (n q i : Nat), q < n → (i : Int) < nR E q → ∃ x, x ∈ ALn E n ∧ cmE E (2 * (q : Int) + i) x = 0 := by
  intro n
  induction n with
  | zero => intro q i h; omega
  | succ n ih =>
    intro q i h hi
    unfold ALn
    rcases (by omega : q = n ∨ q < n) with e | e
    · subst e
      exact insR_has E q _ _ i (by omega)
    · obtain ⟨x, h1, h2⟩ := ih q i e hi
      exact ⟨x, insR_keeps _ h1, h2⟩
theorem ALn_hasI {E : Int → Int → Int} {n q i : Int} (hq : 0 ≤ q ∧ q < n) (hi : 0 ≤ i ∧ i < nR E q) : ∃ x, x ∈ ALn E n.toNat ∧ cmE E (2 * q + i) x = 0 := by
  have := ALn_has E n.toNat q.toNat i.toNat (by omega) (by rw [show ((q.toNat : Nat) : Int) = q by omega]; omega)
  rw [show ((q.toNat : Nat) : Int) = q by omega, show ((i.toNat : Nat) : Int) = i by omega] at this
  exact this
/-- the first place of all at which one is that number -/
def plF (E : Int → Int → Int) (t : Int) : List Int → Int
  | [] => 0
  | x :: xs => if cmE E t x = 0 then 0 else 1 + plF E t xs
theorem plF_at {E : Int → Int → Int} {t : Int} : ∀ {L : List Int} {k : Nat} {x : Int}, (∀ (j : Nat) (y : Int), j < k → L[j]? = some y → ¬ cmE E t y = 0) → L[k]? = some x → cmE E t x = 0 → plF E t L = k := by
  intro L
  induction L with
  | nil => intro k x h1 h2; simp at h2
  | cons y ys ih =>
    intro k x h1 h2 h3
    cases k with
    | zero =>
      cases h2
      unfold plF
      rw [if_pos h3]
      rfl
    | succ k =>
      have h := h1 0 y (by omega) rfl
      unfold plF
      rw [if_neg h, ih (k := k) (fun j y hj hy => h1 (j + 1) y (by omega) hy) h2 h3]
      omega
def nmF (E : Int → Int → Int) (p i : Int) : Int := 3 * (sAt (E p 1) (2 * E p 2) 0 (zP E p) (zS E p i) (zD E p) (zQ E p) + 1) + sg (E p 2) + 1
theorem nmF_r (E : Int → Int → Int) (p i : Int) : 0 ≤ nmF E p i ∧ nmF E p i ≤ 8 := by
  have h1 := sAt_r (E p 1) (2 * E p 2) 0 (zP E p) (zS E p i) (zD E p) (zQ E p)
  have h2 := sg_r (E p 2)
  unfold nmF
  omega
def sRi (E : Int → Int → Int) (p i q : Int) : Int := sAt (E q 0) (E q 1) (E q 2) (zP E p) (zS E p i) (zD E p) (zQ E p)
theorem sRi_r (E : Int → Int → Int) (p i q : Int) : -1 ≤ sRi E p i q ∧ sRi E p i q ≤ 1 := sAt_r _ _ _ _ _ _ _
def R_ofp (n : Int) (kd nu : Int → Int) (p w : Int) : Int := if ¬ (0 ≤ p ∧ p < n) then -1 else if w = 0 then kd p else if w = 1 then nR (exT n kd nu) p else if 10 ≤ w ∧ w ≤ 12 then nu (3 * p + (w - 10)) + 9 else if 20 ≤ w ∧ w ≤ 22 then exT n kd nu p (w - 20) + 100 else -2
def R_val (n : Int) (kd nu : Int → Int) (p x : Int) : Int := if ¬ (0 ≤ p ∧ p < n) ∨ x < -1000000 ∨ 1000000 < x then -9223372036854775808 else exT n kd nu p 0 + exT n kd nu p 1 * x + exT n kd nu p 2 * x * x
def tuOK (n p k v : Int) : Prop := (0 ≤ p ∧ p < n) ∧ (0 ≤ k ∧ k ≤ 2) ∧ (-9 ≤ v ∧ v ≤ 9)
noncomputable def tuF (n : Int) (nu : Int → Int) (p k v : Int) : Int → Int := fun j => if (0 ≤ p ∧ p < n) ∧ (0 ≤ k ∧ k ≤ 2) ∧ (-9 ≤ v ∧ v ≤ 9) then up nu (3 * p + k) v j else nu j
def R_tune (n : Int) (nu : Int → Int) (p k v : Int) : Int := if ¬ (0 ≤ p ∧ p < n) then -1 else if ¬ ((0 ≤ k ∧ k ≤ 2) ∧ (-9 ≤ v ∧ v ≤ 9)) then -2 else nu (3 * p + k) + 9
theorem tuF_t {n : Int} {nu : Int → Int} {p k v : Int} (h : (0 ≤ p ∧ p < n) ∧ (0 ≤ k ∧ k ≤ 2) ∧ (-9 ≤ v ∧ v ≤ 9)) : tuF n nu p k v = up nu (3 * p + k) v := by
  funext j
  unfold tuF
  rw [if_pos h]
theorem tuF_f {n : Int} {nu : Int → Int} {p k v : Int} (h : ¬ ((0 ≤ p ∧ p < n) ∧ (0 ≤ k ∧ k ≤ 2) ∧ (-9 ≤ v ∧ v ≤ 9))) : tuF n nu p k v = nu := by
  funext j
  unfold tuF
  rw [if_neg h]
theorem nuOK_up {nu : Int → Int} (h : nuOK nu) {z v : Int} (hv : -9 ≤ v ∧ v ≤ 9) : nuOK (up nu z v) := by
  intro j
  unfold up
  split
  · exact hv
  · exact h j
theorem kdOK_up {kd : Int → Int} (h : kdOK kd) {z v : Int} (hv : 0 ≤ v ∧ v ≤ 2) : kdOK (up kd z v) := by
  intro j
  unfold up
  split
  · exact hv
  · exact h j
theorem nuOK_tu {nu : Int → Int} (h : nuOK nu) (n p k v : Int) : nuOK (tuF n nu p k v) := by
  intro j
  unfold tuF
  split
  next q => exact nuOK_up h (by omega) j
  next => exact h j
def R_cal (n : Int) (E : Int → Int → Int) (p i : Int) : Int := if (0 ≤ p ∧ p < n) ∧ 0 ≤ i ∧ i < nR E p then nmF E p i else -1
def R_byn (n : Int) (E : Int → Int → Int) (p w : Int) : Int := if ¬ (0 ≤ p ∧ p < n) then -1 else if ¬ (0 ≤ w ∧ w ≤ 8) then -2 else if 0 < nR E p ∧ nmF E p 0 = w then 0 else if 1 < nR E p ∧ nmF E p 1 = w then 1 else -9
def R_sig (n : Int) (E : Int → Int → Int) (p i q : Int) : Int := if ((0 ≤ p ∧ p < n) ∧ 0 ≤ i ∧ i < nR E p) ∧ (0 ≤ q ∧ q < n) then sRi E p i q + 1 else -1
def R_mor (n : Int) (E : Int → Int → Int) (p q : Int) : Int := if (0 ≤ p ∧ p < n) ∧ (0 ≤ q ∧ q < n) then 2 + (if 0 < nR E p then sRi E p 0 q else 0) + (if 1 < nR E p then sRi E p 1 q else 0) else -1
def R_pla (n : Int) (E : Int → Int → Int) (p i : Int) : Int := if (0 ≤ p ∧ p < n) ∧ 0 ≤ i ∧ i < nR E p then plF E (2 * p + i) (ALn E n.toNat) else -1
