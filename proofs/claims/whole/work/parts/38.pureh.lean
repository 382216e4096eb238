/-! what a Line holds -/
def LnX (E : Int → Int → Int) (n : Int) (ex : Int → Int) : Prop := ∀ q, 0 ≤ q → q < n → ex (q * 3) = E q 0 ∧ ex (q * 3 + 1) = E q 1 ∧ ex (q * 3 + 2) = E q 2
def LnT (E : Int → Int → Int) (n : Int) (rt : Int → Int) : Prop := ∀ q, 0 ≤ q → q < n → rt q = nR E q
def LnZ (E : Int → Int → Int) (n : Int) (mi si un be : Int → Int) : Prop := ∀ t, isRt E n t → mi t = qP E t ∧ si t = qS E t ∧ un t = qD E t ∧ be t = qQ E t
def fRp (E : Int → Int → Int) (pp : Int) (rt mi si un be rt2 mi2 si2 un2 be2 : Int → Int) : Prop := rt2 = up rt pp (nR E pp) ∧ (∀ i, 0 ≤ i → i < nR E pp → mi2 (pp * 2 + i) = zP E pp ∧ si2 (pp * 2 + i) = zS E pp i ∧ un2 (pp * 2 + i) = zD E pp ∧ be2 (pp * 2 + i) = zQ E pp) ∧ (∀ t, ¬ (pp * 2 ≤ t ∧ t < pp * 2 + 2) → mi2 t = mi t ∧ si2 t = si t ∧ un2 t = un t ∧ be2 t = be t)
theorem fR_0 {E : Int → Int → Int} {pp : Int} {rt mi si un be : Int → Int} (h : nR E pp = 0) : fRp E pp rt mi si un be (up rt pp 0) mi si un be := ⟨by rw [h], fun i h1 h2 => by omega, fun _ _ => ⟨rfl, rfl, rfl, rfl⟩⟩
theorem fR_1 {E : Int → Int → Int} {pp m s d e : Int} {rt mi si un be : Int → Int} (h : nR E pp = 1) (h1 : m = zP E pp) (h2 : s = zS E pp 0) (h3 : d = zD E pp) (h4 : e = zQ E pp) : fRp E pp rt mi si un be (up (up rt pp 0) pp (0 + 1)) (up mi (pp * 2 + 0) m) (up si (pp * 2 + 0) s) (up un (pp * 2 + 0) d) (up be (pp * 2 + 0) e) := by
  refine ⟨by rw [up_up, h]; rfl, fun i a1 a2 => ?_, fun t ht => ⟨up_n (by omega), up_n (by omega), up_n (by omega), up_n (by omega)⟩⟩
  obtain rfl : i = 0 := by omega
  exact ⟨by rw [up_s, h1], by rw [up_s, h2], by rw [up_s, h3], by rw [up_s, h4]⟩
theorem fR_2 {E : Int → Int → Int} {pp m s s2 d e : Int} {rt mi si un be : Int → Int} (h : nR E pp = 2) (h1 : m = zP E pp) (h2 : s = zS E pp 0) (h5 : s2 = zS E pp 1) (h3 : d = zD E pp) (h4 : e = zQ E pp) : fRp E pp rt mi si un be (up (up (up rt pp 0) pp (0 + 1)) pp (1 + 1)) (up (up mi (pp * 2 + 0) m) (pp * 2 + 1) m) (up (up si (pp * 2 + 0) s) (pp * 2 + 1) s2) (up (up un (pp * 2 + 0) d) (pp * 2 + 1) d) (up (up be (pp * 2 + 0) e) (pp * 2 + 1) e) := by
  refine ⟨by rw [up_up, up_up, h]; rfl, fun i a1 a2 => ?_, fun t ht => ⟨by rw [up_n (by omega), up_n (by omega)], by rw [up_n (by omega), up_n (by omega)], by rw [up_n (by omega), up_n (by omega)], by rw [up_n (by omega), up_n (by omega)]⟩⟩
  rcases (by omega : i = 0 ∨ i = 1) with q | q
  · subst q
    exact ⟨by rw [up_n (by omega), up_s, h1], by rw [up_n (by omega), up_s, h2], by rw [up_n (by omega), up_s, h3], by rw [up_n (by omega), up_s, h4]⟩
  · subst q
    exact ⟨by rw [up_s, h1], by rw [up_s, h5], by rw [up_s, h3], by rw [up_s, h4]⟩
theorem LnX_s {E : Int → Int → Int} {p : Int} {ex : Int → Int} (hp : 0 ≤ p) (h : LnX E p ex) {a b c : Int} (ha : a = E p 0) (hb : b = E p 1) (hc : c = E p 2) : LnX E (p + 1) (up (up (up ex (p * 3 + 0) a) (p * 3 + 1) b) (p * 3 + 2) c) := by
  intro q h1 h2
  by_cases e : q = p
  · subst e
    refine ⟨?_, ?_, ?_⟩
    · rw [up_n (by omega), up_n (by omega), show q * 3 + 0 = q * 3 by omega, up_s, ha]
    · rw [up_n (by omega), up_s, hb]
    · rw [up_s, hc]
  · have := h q h1 (by omega)
    rw [up_n (by omega), up_n (by omega), up_n (by omega), up_n (by omega), up_n (by omega), up_n (by omega), up_n (by omega), up_n (by omega), up_n (by omega)]
    exact this
theorem LnT_s {E : Int → Int → Int} {p : Int} {rt : Int → Int} (h : LnT E p rt) : LnT E (p + 1) (up rt p (nR E p)) := by
  intro q h1 h2
  by_cases e : q = p
  · subst e; exact up_s
  · rw [up_n e]; exact h q h1 (by omega)
theorem LnZ_s {E : Int → Int → Int} {p : Int} {rt mi si un be rt2 mi2 si2 un2 be2 : Int → Int} (h : LnZ E p mi si un be) (hf : fRp E p rt mi si un be rt2 mi2 si2 un2 be2) : LnZ E (p + 1) mi2 si2 un2 be2 := by
  intro t ht
  obtain ⟨h0, h1, h2⟩ := ht
  by_cases e : t / 2 = p
  · have := hf.2.1 (t % 2) (by omega) (by rw [← e]; exact h2)
    rw [show p * 2 + t % 2 = t by omega] at this
    obtain ⟨a1, a2, a3, a4⟩ := this
    exact ⟨by rw [a1, ← e]; rfl, by rw [a2, ← e]; rfl, by rw [a3, ← e]; rfl, by rw [a4, ← e]; rfl⟩
  · obtain ⟨a1, a2, a3, a4⟩ := hf.2.2 t (by omega)
    rw [a1, a2, a3, a4]
    exact h t ⟨h0, by omega, h2⟩
/-! all roots with who has them -/
def shI (p : Int) : Int := (iI 1 <<< (iI p &&& 31)).toInt
def orI (a b : Int) : Int := (iI a ||| iI b).toInt
theorem shI_i (p : Int) : iI 1 <<< (iI p &&& 31) = iI (shI p) := iI_of _
theorem orI_i (a b : Int) : iI a ||| iI b = iI (orI a b) := iI_of _
def insB (E : Int → Int → Int) (a b : Int) : List (Int × Int) → List (Int × Int)
  | [] => [(a, b)]
  | x :: xs => if 0 < cmE E a x.1 then x :: insB E a b xs else if cmE E a x.1 = 0 then (x.1, orI x.2 b) :: xs else (a, b) :: x :: xs
def insBR (E : Int → Int → Int) (q : Int) (L : List (Int × Int)) : Nat → List (Int × Int)
  | 0 => L
  | i + 1 => insB E (2 * q + i) (shI q) (insBR E q L i)
def ALb (E : Int → Int → Int) : Nat → List (Int × Int)
  | 0 => []
  | q + 1 => insBR E q (ALb E q) (nR E q).toNat
theorem insB_fst (E : Int → Int → Int) (a b : Int) (L : List (Int × Int)) : (insB E a b L).map Prod.fst = insL E a (L.map Prod.fst) := by
  induction L with
  | nil => rfl
  | cons x xs ih =>
    unfold insB
    rw [List.map_cons]
    unfold insL
    (repeat' split)
    · rw [List.map_cons, ih]
    · rfl
    · rfl
theorem insBR_fst (E : Int → Int → Int) (q : Int) (L : List (Int × Int)) (i : Nat) : (insBR E q L i).map Prod.fst = insR E q (L.map Prod.fst) i := by
  induction i with
  | zero => rfl
  | succ i ih => unfold insBR insR; rw [insB_fst, ih]
theorem ALb_fst (E : Int → Int → Int) (n : Nat) : (ALb E n).map Prod.fst = ALn E n := by
  induction n with
  | zero => rfl
  | succ n ih => unfold ALb ALn; rw [insBR_fst, ih]
def hasB (ka br : Int → Int) (L : List (Int × Int)) : Prop := ∀ (j : Nat) (x : Int × Int), L[j]? = some x → ka j = x.1 ∧ br j = x.2
theorem hasB_at {ka br : Int → Int} {L : List (Int × Int)} (h : hasB ka br L) {k : Int} (hk : 0 ≤ k ∧ k < L.length) : ∃ x, L[k.toNat]? = some x ∧ x ∈ L ∧ ka k = x.1 ∧ br k = x.2 := by
  have hl : k.toNat < L.length := by omega
  refine ⟨L[k.toNat], List.getElem?_eq_getElem hl, List.getElem_mem hl, ?_⟩
  have := h k.toNat _ (List.getElem?_eq_getElem hl)
  rw [show ((k.toNat : Nat) : Int) = k by omega] at this
  exact this
theorem hasB_L {ka br : Int → Int} {E : Int → Int → Int} {n : Nat} (h : hasB ka br (ALb E n)) : hasL ka (ALn E n) := by
  intro j hj
  rw [← ALb_fst] at hj ⊢
  rw [List.length_map] at hj
  rw [List.getElem?_map, List.getElem?_eq_getElem hj]
  have := h j _ (List.getElem?_eq_getElem hj)
  rw [this.1]
  rfl
theorem ALb_len (E : Int → Int → Int) (n : Nat) : (ALb E n).length = (ALn E n).length := by rw [← ALb_fst, List.length_map]
theorem insB_at {E : Int → Int → Int} {a b : Int} : ∀ {L : List (Int × Int)} {k : Nat}, k ≤ L.length → (∀ (j : Nat) (x : Int × Int), j < k → L[j]? = some x → 0 < cmE E a x.1) → (∀ x, L[k]? = some x → cmE E a x.1 < 0) → insB E a b L = L.take k ++ (a, b) :: L.drop k := by
  intro L
  induction L with
  | nil => intro k hk h1 h2; simp [insB]
  | cons y ys ih =>
    intro k hk h1 h2
    cases k with
    | zero =>
      have h := h2 y rfl
      unfold insB
      rw [if_neg (by omega), if_neg (by omega)]
      rfl
    | succ k =>
      have h := h1 0 y (by omega) rfl
      unfold insB
      rw [if_pos h, ih (k := k) (by simpa using hk) (fun j x hj hx => h1 (j + 1) x (by omega) hx) (fun x hx => h2 x hx)]
      rfl
theorem insB_eq {E : Int → Int → Int} {a b : Int} : ∀ {L : List (Int × Int)} {k : Nat} {x : Int × Int}, (∀ (j : Nat) (x : Int × Int), j < k → L[j]? = some x → 0 < cmE E a x.1) → L[k]? = some x → cmE E a x.1 = 0 → insB E a b L = L.set k (x.1, orI x.2 b) := by
  intro L
  induction L with
  | nil => intro k x h1 h2; simp at h2
  | cons y ys ih =>
    intro k x h1 h2 h3
    cases k with
    | zero =>
      cases h2
      unfold insB
      rw [if_neg (by omega), if_pos h3]
      rfl
    | succ k =>
      have h := h1 0 y (by omega) rfl
      unfold insB
      rw [if_pos h, ih (k := k) (fun j x hj hx => h1 (j + 1) x (by omega) hx) h2 h3]
      rfl
theorem ins_atB {α : Type} {L : List α} {k : Nat} {a : α} (hk : k ≤ L.length) (j : Nat) (t : α) (h : (L.take k ++ a :: L.drop k)[j]? = some t) : (j < k ∧ L[j]? = some t) ∨ (j = k ∧ t = a) ∨ (k < j ∧ j ≤ L.length ∧ L[j - 1]? = some t) := by
  rcases Nat.lt_trichotomy j k with q | q | q
  · rw [List.getElem?_append_left (by simp; omega), List.getElem?_take_of_lt q] at h
    exact Or.inl ⟨q, h⟩
  · subst q
    rw [List.getElem?_append_right (by simp; omega)] at h
    have e : j - (L.take j).length = 0 := by simp; omega
    rw [e] at h
    exact Or.inr (Or.inl ⟨rfl, (Option.some.inj h).symm⟩)
  · rw [List.getElem?_append_right (by simp; omega)] at h
    have e : j - (L.take k).length = (j - 1 - k) + 1 := by simp; omega
    rw [e, List.getElem?_cons_succ, List.getElem?_drop] at h
    have e2 : k + (j - 1 - k) = j - 1 := by omega
    rw [e2] at h
    have := (List.getElem?_eq_some_iff.mp h).1
    exact Or.inr (Or.inr ⟨q, by omega, h⟩)
theorem hasB_ins {ka br : Int → Int} {L : List (Int × Int)} (h : hasB ka br L) {k : Nat} (hk : k ≤ L.length) (a b : Int) : hasB (insA ka L.length k a) (insA br L.length k b) (L.take k ++ (a, b) :: L.drop k) := by
  intro j t ht
  rcases ins_atB hk j t ht with ⟨q, g⟩ | ⟨q, g⟩ | ⟨q, q2, g⟩
  · have := h j t g
    simp only [insA]
    rw [if_pos (by omega), if_pos (by omega)]
    exact this
  · subst q; subst g
    simp [insA]
  · have := h (j - 1) t g
    have e : ((j - 1 : Nat) : Int) = (j : Int) - 1 := by omega
    rw [e] at this
    simp only [insA]
    rw [if_neg (by omega), if_neg (by omega), if_pos (by omega), if_neg (by omega), if_neg (by omega), if_pos (by omega)]
    exact this
theorem hasB_set {ka br : Int → Int} {L : List (Int × Int)} (h : hasB ka br L) {k : Nat} {x : Int × Int} (hx : L[k]? = some x) (b : Int) : hasB ka (up br k b) (L.set k (x.1, b)) := by
  intro j t ht
  by_cases q : j = k
  · subst q
    have hl := (List.getElem?_eq_some_iff.mp hx).1
    rw [List.getElem?_set_self hl] at ht
    cases ht
    exact ⟨(h j x hx).1, up_s⟩
  · rw [List.getElem?_set_ne (fun e => q e.symm)] at ht
    have := h j t ht
    rw [up_n (by omega)]
    exact this
theorem ALb_s {E : Int → Int → Int} {pp : Int} (h : 0 ≤ pp) : ALb E (pp + 1).toNat = insBR E pp (ALb E pp.toNat) (nR E pp).toNat := by
  rw [show (pp + 1).toNat = pp.toNat + 1 by omega, ALb, show ((pp.toNat : Nat) : Int) = pp by omega]
theorem insBR_s {E : Int → Int → Int} {pp ii : Int} {L : List (Int × Int)} (h : 0 ≤ ii) : insBR E pp L (ii + 1).toNat = insB E (2 * pp + ii) (shI pp) (insBR E pp L ii.toNat) := by
  rw [show (ii + 1).toNat = ii.toNat + 1 by omega, insBR, show ((ii.toNat : Nat) : Int) = ii by omega]
theorem insBR_rt {E : Int → Int → Int} {pp ii : Int} {x : Int × Int} (h0 : 0 ≤ pp) (h1 : 0 ≤ ii) (h2 : ii ≤ nR E pp) (h : x ∈ insBR E pp (ALb E pp.toNat) ii.toNat) : isRt E (pp + 1) x.1 := by
  have h3 : x.1 ∈ (insBR E pp (ALb E pp.toNat) ii.toNat).map Prod.fst := List.mem_map_of_mem h
  rw [insBR_fst, ALb_fst] at h3
  exact insR_rt h0 h1 h2 h3
theorem insBR_len {E : Int → Int → Int} {pp ii : Int} (h0 : 0 ≤ pp) (h1 : 0 ≤ ii) : ((insBR E pp (ALb E pp.toNat) ii.toNat).length : Int) ≤ 2 * pp + ii := by
  have h2 : (insBR E pp (ALb E pp.toNat) ii.toNat).length = (insR E pp (ALn E pp.toNat) ii.toNat).length := by rw [← List.length_map (f := Prod.fst), insBR_fst, ALb_fst]
  have h3 := insR_len E pp (ALn E pp.toNat) ii.toNat
  have h4 := ALn_len E pp.toNat
  omega
theorem allB_i {P : Int → Bool} {n : Nat} (h : allB P n = true) : ∀ x : Int, 0 ≤ x → x < n → P x = true := by
  induction n with
  | zero => intro x h1 h2; omega
  | succ n ih =>
    unfold allB at h
    rw [Bool.and_eq_true] at h
    intro x h1 h2
    by_cases q : x = n
    · subst q; exact h.2
    · exact ih h.1 x h1 (by omega)
