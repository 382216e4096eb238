/-! rows gathered; texts code by code -/
theorem fsL_any {E : Int → Int → Int} {L : List Int} {n : Int} {k : Nat} {v : Int} : (fsL E L n k).any (fun r => rwN E L n r == v) = true ↔ ∃ r ∈ fsL E L n k, rwN E L n r = v := by
  rw [List.any_eq_true]
  constructor
  · rintro ⟨x, h1, h2⟩; exact ⟨x, h1, by simpa using h2⟩
  · rintro ⟨x, h1, h2⟩; exact ⟨x, h1, by simpa using h2⟩
theorem fsL_cov {E : Int → Int → Int} {L : List Int} {n : Int} : ∀ (k j : Nat), j < k → ∃ r ∈ fsL E L n k, rwN E L n r = rwN E L n j := by
  intro k
  induction k with
  | zero => intro j h; omega
  | succ k ih =>
    intro j h
    unfold fsL
    by_cases q : (fsL E L n k).any (fun r => rwN E L n r == rwN E L n k) = true
    · rw [if_pos q]
      rcases (by omega : j = k ∨ j < k) with e | e
      · subst e; exact fsL_any.mp q
      · exact ih j e
    · rw [if_neg q]
      rcases (by omega : j = k ∨ j < k) with e | e
      · subst e; exact ⟨j, List.mem_append_right _ (List.mem_singleton.mpr rfl), rfl⟩
      · obtain ⟨r, h1, h2⟩ := ih j e
        exact ⟨r, List.mem_append_left _ h1, h2⟩
theorem fsL_inj {E : Int → Int → Int} {L : List Int} {n : Int} : ∀ (k i j : Nat) (x y : Int), (fsL E L n k)[i]? = some x → (fsL E L n k)[j]? = some y → rwN E L n x = rwN E L n y → i = j := by
  intro k
  induction k with
  | zero => intro i j x y h; simp [fsL] at h
  | succ k ih =>
    intro i j x y hx hy h
    unfold fsL at hx hy
    by_cases q : (fsL E L n k).any (fun r => rwN E L n r == rwN E L n k) = true
    · rw [if_pos q] at hx hy
      exact ih i j x y hx hy h
    · rw [if_neg q] at hx hy
      have hno : ∀ r ∈ fsL E L n k, ¬ rwN E L n r = rwN E L n k := fun r hr e => q (fsL_any.mpr ⟨r, hr, e⟩)
      rcases Nat.lt_or_ge i (fsL E L n k).length with hi | hi <;> rcases Nat.lt_or_ge j (fsL E L n k).length with hj | hj
      · rw [List.getElem?_append_left hi] at hx
        rw [List.getElem?_append_left hj] at hy
        exact ih i j x y hx hy h
      · rw [List.getElem?_append_left hi] at hx
        rw [List.getElem?_append_right hj] at hy
        have hjj := (List.getElem?_eq_some_iff.mp hy).1
        simp at hjj
        rw [show j - (fsL E L n k).length = 0 by omega] at hy
        cases hy
        exact absurd h (hno x (List.mem_of_getElem? hx))
      · rw [List.getElem?_append_right hi] at hx
        rw [List.getElem?_append_left hj] at hy
        have hjj := (List.getElem?_eq_some_iff.mp hx).1
        simp at hjj
        rw [show i - (fsL E L n k).length = 0 by omega] at hx
        cases hx
        exact absurd h.symm (hno y (List.mem_of_getElem? hy))
      · rw [List.getElem?_append_right hi] at hx
        rw [List.getElem?_append_right hj] at hy
        have h1 := (List.getElem?_eq_some_iff.mp hx).1
        have h2 := (List.getElem?_eq_some_iff.mp hy).1
        simp at h1 h2
        omega
def grP (E : Int → Int → Int) (L : List Int) (n k w : Int) (rs rf rp : Int → Int) : Prop := w = ((fsL E L n k.toNat).length : Int) ∧ hasL rf (fsL E L n k.toNat) ∧ ∀ r, 0 ≤ r → r < w → rs r = rwN E L n (rf r) ∧ rp r = cnF (fun j => rwN E L n j == rwN E L n (rf r)) k.toNat
theorem grq_0 {E : Int → Int → Int} {L : List Int} {n : Int} {rs rf rp : Int → Int} : grP E L n 0 0 rs rf rp := ⟨rfl, fun j hj => by simp [fsL] at hj, fun r h1 h2 => by omega⟩
theorem grq_old {E : Int → Int → Int} {L : List Int} {n k w r : Int} {rs rf rp : Int → Int} (h : grP E L n k w rs rf rp) (hk : 0 ≤ k) (hr : 0 ≤ r ∧ r < w) (he : rs r = rwN E L n k) : grP E L n (k + 1) w rs rf (up rp r (rp r + 1)) := by
  obtain ⟨h1, h2, h3⟩ := h
  have hrr := h3 r hr.1 hr.2
  obtain ⟨g1, g2⟩ := hasL_at h2 (k := r) ⟨hr.1, by omega⟩
  have hf : fsL E L n (k + 1).toNat = fsL E L n k.toNat := fsL_t hk (fsL_any.mpr ⟨rf r, g2, by rw [← hrr.1]; exact he⟩)
  refine ⟨by rw [hf]; exact h1, by rw [hf]; exact h2, fun r' a1 a2 => ?_⟩
  have hr' := h3 r' a1 a2
  refine ⟨hr'.1, ?_⟩
  rw [cnF_s hk]
  by_cases q : r' = r
  · subst q
    rw [up_s, hrr.2, if_pos (by simp; rw [← he, hrr.1])]
  · rw [up_n q, hr'.2, if_neg]
    · omega
    · simp only [beq_iff_eq]
      intro e
      obtain ⟨g3, g4⟩ := hasL_at h2 (k := r') ⟨a1, by omega⟩
      have := fsL_inj k.toNat r'.toNat r.toNat _ _ g3 g1 (by rw [← e, ← he, hrr.1])
      omega
theorem grq_new {E : Int → Int → Int} {L : List Int} {n k w : Int} {rs rf rp : Int → Int} (h : grP E L n k w rs rf rp) (hk : 0 ≤ k) (he : ∀ j, 0 ≤ j → j < w → ¬ rs j = rwN E L n k) : grP E L n (k + 1) (w + 1) (up rs w (rwN E L n k)) (up rf w k) (up (up rp w 0) w (0 + 1)) := by
  obtain ⟨h1, h2, h3⟩ := h
  have hno : ¬ (fsL E L n k.toNat).any (fun r => rwN E L n r == rwN E L n k) = true := by
    intro q
    obtain ⟨r, q1, q2⟩ := fsL_any.mp q
    obtain ⟨i, hi⟩ := List.getElem?_of_mem q1
    have hl := (List.getElem?_eq_some_iff.mp hi).1
    have hh := h2 i hl
    rw [hi] at hh
    have h4 := h3 i (by omega) (by omega)
    rw [← Option.some.inj hh] at h4
    exact he i (by omega) (by omega) (by rw [h4.1]; exact q2)
  have hf := fsL_f hk hno
  refine ⟨by rw [hf, List.length_append, List.length_singleton]; omega, by rw [hf, h1]; exact hasL_push h2 k, fun r a1 a2 => ?_⟩
  by_cases q : r = w
  · subst q
    rw [up_s, up_s, up_s, cnF_s hk, if_pos (by simp)]
    refine ⟨rfl, ?_⟩
    have hz : cnF (fun j => rwN E L n j == rwN E L n k) k.toNat = 0 := by
      have hgen : ∀ m : Nat, m ≤ k.toNat → cnF (fun j => rwN E L n j == rwN E L n k) m = 0 := by
        intro m
        induction m with
        | zero => intro _; rfl
        | succ m ih =>
          intro hm
          unfold cnF
          rw [ih (by omega), if_neg]
          · rfl
          · simp only [beq_iff_eq]
            intro e
            obtain ⟨r, q1, q2⟩ := fsL_cov (E := E) (L := L) (n := n) k.toNat m (by omega)
            exact hno (fsL_any.mpr ⟨r, q1, by rw [q2]; exact e⟩)
      exact hgen _ (Nat.le_refl _)
    rw [hz]
  · rw [up_n q, up_n q, up_n q, up_n q, cnF_s hk]
    have h4 := h3 r a1 (by omega)
    refine ⟨h4.1, ?_⟩
    rw [if_neg]
    · rw [h4.2]; omega
    · simp only [beq_iff_eq]
      intro e
      exact he r a1 (by omega) (by rw [h4.1, ← e])
/-! the reader's own state -/
def vsP (dn : Int → Int) (b ce : Int) (vs : List Int) : Prop := (ce = 0 ∧ vs = []) ∨ (ce = 1 ∧ vs = [dn b]) ∨ (ce = 2 ∧ vs = [dn b, dn (b + 1)])
def drOK (stp kn : Int) (vs : List Int) (acc : List pyT) (sp ce da dc : Int) (dk dn : Int → Int) : Prop :=
  (0 ≤ stp ∧ stp ≤ 4) ∧ sp = stp ∧ dc = (acc.length : Int) ∧ (0 ≤ dc ∧ dc ≤ 4) ∧ hasP dk dn acc ∧ (2 ≤ stp → dc < 4) ∧ (3 ≤ stp → dk dc = kn ∧ (0 ≤ kn ∧ kn ≤ 2) ∧ vsP dn (3 * dc) ce vs) ∧ (stp = 4 → da = 1)
def drI (cd : Int → Int) (n x sp ce da dc : Int) (dk dn : Int → Int) : Prop := ∃ (stp kn : Int) (vs : List Int) (acc : List pyT), drOK stp kn vs acc sp ce da dc dk dn ∧ RUN cd n 0 0 0 [] [] = RUN cd n x stp kn vs acc
/-- what a step does: none: it fails; else the state is another -/
def goP (c stp kn : Int) (vs : List Int) (acc : List pyT) (ok sp2 ce2 da2 dc2 : Int) (dk2 dn2 : Int → Int) : Prop :=
  (ok = 0 ∧ stD c stp kn vs acc = none) ∨ (ok = 1 ∧ ∃ (stp2 kn2 : Int) (vs2 : List Int) (acc2 : List pyT), stD c stp kn vs acc = some (stp2, kn2, vs2, acc2) ∧ drOK stp2 kn2 vs2 acc2 sp2 ce2 da2 dc2 dk2 dn2)
theorem hasP_keep {rk rt rk2 rt2 : Int → Int} {acc : List pyT} (h : hasP rk rt acc) (h1 : ∀ j, j < (acc.length : Int) → rk2 j = rk j) (h2 : ∀ j, j < 3 * (acc.length : Int) → rt2 j = rt j) : hasP rk2 rt2 acc := hasP_eq h (fun j _ q => h1 j q) (fun j _ q => h2 j q)
theorem go_let {c ce da dc k : Int} {vs : List Int} {acc : List pyT} {sp kn ce0 da0 : Int} {dk dn : Int → Int} (h : drOK 2 kn vs acc sp ce0 da0 dc dk dn) (hc : (c = 112 ∧ k = 0) ∨ (c = 109 ∧ k = 1) ∨ (c = 115 ∧ k = 2)) (hce : ce = 0) : goP c 2 kn vs acc 1 3 ce da dc (up dk dc k) dn := by
  obtain ⟨-, -, h2, h3, h4, h5, -, -⟩ := h
  refine Or.inr ⟨rfl, 3, k, [], acc, ?_, by omega, rfl, h2, h3, hasP_keep h4 (fun j hj => up_n (by omega)) (fun _ _ => rfl), fun _ => h5 (by omega), fun _ => ⟨up_s, by omega, Or.inl ⟨hce, rfl⟩⟩, by omega⟩
  unfold stD
  rw [if_neg (by decide), if_neg (by decide), if_pos rfl]
  rcases hc with ⟨q, rfl⟩ | ⟨q, rfl⟩ | ⟨q, rfl⟩
  · rw [if_pos q]
  · rw [if_neg (by omega), if_pos q]
  · rw [if_neg (by omega), if_neg (by omega), if_pos q]
theorem go_letf {c kn : Int} {vs : List Int} {acc : List pyT} {sp2 ce2 da2 dc2 : Int} {dk2 dn2 : Int → Int} (hc : ¬ c = 112 ∧ ¬ c = 109 ∧ ¬ c = 115) : goP c 2 kn vs acc 0 sp2 ce2 da2 dc2 dk2 dn2 := by
  refine Or.inl ⟨rfl, ?_⟩
  unfold stD
  rw [if_neg (by decide), if_neg (by decide), if_pos rfl, if_neg hc.1, if_neg hc.2.1, if_neg hc.2.2]
theorem go_head {c kn : Int} {vs : List Int} {acc : List pyT} {sp ce da dc : Int} {dk dn : Int → Int} (h : drOK 0 kn vs acc sp ce da dc dk dn) : (c = 112 → goP c 0 kn vs acc 1 1 ce da dc dk dn) ∧ (¬ c = 112 → goP c 0 kn vs acc 0 1 ce da dc dk dn) := by
  obtain ⟨-, -, h2, h3, h4, -, -, -⟩ := h
  refine ⟨fun q => Or.inr ⟨rfl, 1, 0, [], acc, ?_, by omega, rfl, h2, h3, h4, by omega, by omega, by omega⟩, fun q => Or.inl ⟨rfl, ?_⟩⟩
  · unfold stD; rw [if_pos rfl, if_pos q]
  · unfold stD; rw [if_pos rfl, if_neg q]
theorem go_mark {c kn : Int} {vs : List Int} {acc : List pyT} {sp ce da dc : Int} {dk dn : Int → Int} (h : drOK 1 kn vs acc sp ce da dc dk dn) : (c = 59 ∧ dc < 4 → goP c 1 kn vs acc 1 2 ce da dc dk dn) ∧ (¬ (c = 59 ∧ dc < 4) → goP c 1 kn vs acc 0 2 ce da dc dk dn) := by
  obtain ⟨-, -, h2, h3, h4, -, -, -⟩ := h
  refine ⟨fun q => Or.inr ⟨rfl, 2, 0, [], acc, ?_, by omega, rfl, h2, h3, h4, by omega, by omega, by omega⟩, fun q => Or.inl ⟨rfl, ?_⟩⟩
  · unfold stD; rw [if_neg (by decide), if_pos rfl, if_pos (by omega)]
  · unfold stD; rw [if_neg (by decide), if_pos rfl, if_neg (by omega)]
theorem go_dash {c kn : Int} {vs : List Int} {acc : List pyT} {sp ce da dc : Int} {dk dn : Int → Int} (h : drOK 3 kn vs acc sp ce da dc dk dn) (hc : c = 45) : goP c 3 kn vs acc 1 4 ce 1 dc dk dn := by
  obtain ⟨-, -, h2, h3, h4, h5, h6, -⟩ := h
  exact Or.inr ⟨rfl, 4, kn, vs, acc, stD_45 hc, by omega, rfl, h2, h3, h4, fun _ => h5 (by omega), fun _ => h6 (by omega), fun _ => rfl⟩
theorem go_nd {c stp kn : Int} {vs : List Int} {acc : List pyT} {sp2 ce2 da2 dc2 : Int} {dk2 dn2 : Int → Int} (hs : stp = 3 ∨ stp = 4) (h4 : ¬ (stp = 3 ∧ c = 45)) (hc : c < 48 ∨ 57 < c) : goP c stp kn vs acc 0 sp2 ce2 da2 dc2 dk2 dn2 := Or.inl ⟨rfl, stD_nd hs h4 (by omega)⟩
theorem go_dg {c stp kn : Int} {vs : List Int} {acc : List pyT} {sp ce da da2 dc v : Int} {dk dn : Int → Int} (h : drOK stp kn vs acc sp ce da dc dk dn) (hs : stp = 3 ∨ stp = 4) (h4 : ¬ (stp = 3 ∧ c = 45)) (hc : 48 ≤ c ∧ c ≤ 57) (hv : v = vlD stp c) :
    (ce + 1 = 3 → goP c stp kn vs acc 1 1 (ce + 1) da2 (dc + 1) dk (up dn (dc * 3 + ce) v)) ∧ (¬ ce + 1 = 3 → goP c stp kn vs acc 1 3 (ce + 1) da2 dc dk (up dn (dc * 3 + ce) v)) := by
  obtain ⟨-, -, h2, h3, hp, h5, h6, -⟩ := h
  obtain ⟨a1, a2, a3⟩ := h6 (by omega)
  have hd4 := h5 (by omega)
  have hce : 0 ≤ ce ∧ ce ≤ 2 := by rcases a3 with ⟨q, -⟩ | ⟨q, -⟩ | ⟨q, -⟩ <;> omega
  have e := stD_dg (kn := kn) (vs := vs) (acc := acc) hs h4 (by omega)
  rw [← hv] at e
  constructor
  · intro q
    obtain ⟨q1, q2⟩ : ce = 2 ∧ vs = [dn (3 * dc), dn (3 * dc + 1)] := by
      rcases a3 with ⟨q1, -⟩ | ⟨q1, -⟩ | ⟨q1, q2⟩
      · omega
      · omega
      · exact ⟨q1, q2⟩
    subst q1; subst q2
    rw [if_pos (show ([dn (3 * dc), dn (3 * dc + 1)] : List Int).length = 2 from rfl)] at e
    refine Or.inr ⟨rfl, 1, 0, [], _, e, by omega, rfl, by rw [List.length_append, List.length_singleton]; omega, by omega, ?_, by omega, by omega, by omega⟩
    rw [h2] at a1 ⊢
    refine hasP_push hp a2 (fun _ _ => rfl) a1 (fun j hj => up_n (by omega)) ?_ ?_ ?_
    · rw [up_n (by omega)]
    · rw [up_n (by omega)]
    · rw [show (acc.length : Int) * 3 + 2 = 3 * acc.length + 2 by omega, up_s]
  · intro q
    refine Or.inr ⟨rfl, 3, kn, vs ++ [v], acc, ?_, by omega, rfl, h2, h3, hasP_keep hp (fun _ _ => rfl) (fun j hj => up_n (by omega)), fun _ => hd4, fun _ => ⟨a1, a2, ?_⟩, by omega⟩
    · rw [e, if_neg]
      intro hl
      rcases a3 with ⟨q1, q2⟩ | ⟨q1, q2⟩ | ⟨q1, q2⟩
      · rw [q2] at hl; simp at hl
      · rw [q2] at hl; simp at hl
      · omega
    · rcases a3 with ⟨q1, q2⟩ | ⟨q1, q2⟩ | ⟨q1, q2⟩
      · subst q1; subst q2
        refine Or.inr (Or.inl ⟨rfl, ?_⟩)
        rw [show dc * 3 + 0 = 3 * dc by omega, up_s]
        rfl
      · subst q1; subst q2
        refine Or.inr (Or.inr ⟨rfl, ?_⟩)
        rw [show dc * 3 + 1 = 3 * dc + 1 by omega, up_s, up_n (by omega)]
        rfl
      · omega
theorem dr_step {cd : Int → Int} {n x ok sp2 ce2 da2 dc2 : Int} {dk2 dn2 : Int → Int} {stp kn : Int} {vs : List Int} {acc : List pyT} (hx : x < n) (hr : RUN cd n 0 0 0 [] [] = RUN cd n x stp kn vs acc) (hg : goP (cd x) stp kn vs acc ok sp2 ce2 da2 dc2 dk2 dn2) :
    (ok = 0 → RUN cd n 0 0 0 [] [] = (x, acc)) ∧ (¬ ok = 0 → drI cd n (x + 1) sp2 ce2 da2 dc2 dk2 dn2) := by
  rcases hg with ⟨h1, h2⟩ | ⟨h1, stp2, kn2, vs2, acc2, h2, h3⟩
  · exact ⟨fun _ => by rw [hr]; exact RUN_n hx h2, fun q => absurd h1 q⟩
  · exact ⟨fun q => by omega, fun _ => ⟨stp2, kn2, vs2, acc2, h3, by rw [hr]; exact RUN_s hx h2⟩⟩
theorem go_r {c stp kn : Int} {vs : List Int} {acc : List pyT} {ok sp2 ce2 da2 dc2 : Int} {dk2 dn2 : Int → Int} (h : goP c stp kn vs acc ok sp2 ce2 da2 dc2 dk2 dn2) : ok = 0 ∨ ok = 1 := by
  rcases h with ⟨h, -⟩ | ⟨h, -⟩
  · exact Or.inl h
  · exact Or.inr h
theorem dr_da {kn : Int} {vs : List Int} {acc : List pyT} {sp ce da da2 dc : Int} {dk dn : Int → Int} (h : drOK 3 kn vs acc sp ce da dc dk dn) : drOK 3 kn vs acc sp ce da2 dc dk dn := by
  obtain ⟨h1, h2, h3, h4, h5, h6, h7, -⟩ := h
  exact ⟨h1, h2, h3, h4, h5, h6, h7, by omega⟩
theorem dr_f {stp kn : Int} {vs : List Int} {acc : List pyT} {sp ce da dc : Int} {dk dn : Int → Int} (h : drOK stp kn vs acc sp ce da dc dk dn) : (0 ≤ stp ∧ stp ≤ 4) ∧ sp = stp ∧ (0 ≤ dc ∧ dc ≤ 4) ∧ (2 ≤ stp → dc < 4) ∧ (3 ≤ stp → 0 ≤ ce ∧ ce ≤ 2) ∧ (stp = 4 → da = 1) := by
  obtain ⟨h1, h2, h3, h4, h5, h6, h7, h8⟩ := h
  refine ⟨h1, h2, h4, h6, fun q => ?_, h8⟩
  rcases (h7 q).2.2 with ⟨q, -⟩ | ⟨q, -⟩ | ⟨q, -⟩ <;> omega
theorem dr_start {cd : Int → Int} {n ce da : Int} {dk dn : Int → Int} : drI cd n 0 0 ce da 0 dk dn := ⟨0, 0, [], [], ⟨by omega, rfl, rfl, by omega, hasP_0 _ _, by omega, by omega, by omega⟩, rfl⟩
theorem dr_end {cd : Int → Int} {n sp ce da dc : Int} {dk dn : Int → Int} (h : drI cd n n sp ce da dc dk dn) : ((sp = 1 ∧ 0 < dc) → (RUN cd n 0 0 0 [] []).1 = -9 ∧ dc = ((RUN cd n 0 0 0 [] []).2.length : Int) ∧ hasP dk dn (RUN cd n 0 0 0 [] []).2) ∧ (¬ (sp = 1 ∧ 0 < dc) → (RUN cd n 0 0 0 [] []).1 = n) := by
  obtain ⟨stp, kn, vs, acc, hd, hr⟩ := h
  obtain ⟨h1, h2, h3, h4, h5, -, -, -⟩ := hd
  rw [hr, RUN_e]
  constructor
  · intro q
    rw [if_pos (by omega)]
    exact ⟨rfl, h3, h5⟩
  · intro q
    rw [if_neg (by omega)]
