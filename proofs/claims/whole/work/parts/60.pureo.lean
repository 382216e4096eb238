/-! who has a root -/
def sB (E : Int → Int → Int) (L : List (Int × Int)) : Prop := L.Pairwise (fun x y => cmE E x.1 y.1 < 0)
theorem rtE_of {E : Int → Int → Int} (hE : EB E) {q i : Int} (hi : 0 ≤ i ∧ i < nR E q) : rtE E (2 * q + i) := by
  have hn := nR_r E q
  obtain ⟨g0, g1, g2, g3⟩ := qP_of (E := E) (pp := q) (ii := i) (by omega)
  unfold rtE
  rw [g0, g1, g2, g3]
  exact rt_ok hE hi
theorem insB_c {E : Int → Int → Int} {a b : Int} (ha : rtE E a) : ∀ {L : List (Int × Int)}, (∀ x ∈ L, rtE E x.1) → sB E L →
    ((∃ x ∈ L, cmE E a x.1 = 0 ∧ ∀ y ∈ insB E a b L, y = (x.1, orI x.2 b) ∨ (y ∈ L ∧ ¬ cmE E a y.1 = 0)) ∨ ((∀ x ∈ L, ¬ cmE E a x.1 = 0) ∧ ∀ y ∈ insB E a b L, y = (a, b) ∨ y ∈ L)) ∧ sB E (insB E a b L) ∧ (∀ x ∈ L, ∃ y ∈ insB E a b L, y.1 = x.1) ∧ ∃ y ∈ insB E a b L, cmE E a y.1 = 0 := by
  intro L
  induction L with
  | nil =>
    intro _ _
    refine ⟨Or.inr ⟨fun x hx => absurd hx List.not_mem_nil, fun y hy => Or.inl (List.mem_singleton.mp hy)⟩, List.pairwise_singleton _ _, fun x hx => absurd hx List.not_mem_nil, ⟨(a, b), List.mem_singleton.mpr rfl, cm_rf ha⟩⟩
  | cons x xs ih =>
    intro hR hS
    have hx := hR x List.mem_cons_self
    have hRx : ∀ z ∈ xs, rtE E z.1 := fun z hz => hR z (List.mem_cons_of_mem _ hz)
    obtain ⟨hS1, hS2⟩ := List.pairwise_cons.mp hS
    obtain ⟨c1, c2, c3, c4⟩ := ih hRx hS2
    have hlt : cmE E a x.1 ≤ 0 → ∀ z ∈ xs, cmE E a z.1 < 0 := fun h z hz => (cm_tr ha hx (hRx z hz) h (by have := hS1 z hz; omega)).2 (Or.inr (hS1 z hz))
    unfold insB
    by_cases h1 : 0 < cmE E a x.1
    · rw [if_pos h1]
      refine ⟨?_, ?_, ?_, ?_⟩
      · rcases c1 with ⟨x', m1, m2, m3⟩ | ⟨m1, m2⟩
        · refine Or.inl ⟨x', List.mem_cons_of_mem _ m1, m2, fun y hy => ?_⟩
          rcases List.mem_cons.mp hy with e | hy
          · subst e; exact Or.inr ⟨List.mem_cons_self, by omega⟩
          · rcases m3 y hy with e | ⟨e1, e2⟩
            · exact Or.inl e
            · exact Or.inr ⟨List.mem_cons_of_mem _ e1, e2⟩
        · refine Or.inr ⟨fun z hz => ?_, fun y hy => ?_⟩
          · rcases List.mem_cons.mp hz with e | hz
            · subst e; omega
            · exact m1 z hz
          · rcases List.mem_cons.mp hy with e | hy
            · subst e; exact Or.inr List.mem_cons_self
            · rcases m2 y hy with e | e
              · exact Or.inl e
              · exact Or.inr (List.mem_cons_of_mem _ e)
      · refine List.pairwise_cons.mpr ⟨fun y hy => ?_, c2⟩
        rcases c1 with ⟨x', m1, m2, m3⟩ | ⟨m1, m2⟩
        · rcases m3 y hy with e | ⟨e1, e2⟩
          · rw [e]; exact hS1 x' m1
          · exact hS1 y e1
        · rcases m2 y hy with e | e
          · rw [e]; have := cm_as ha hx; show cmE E x.1 a < 0; omega
          · exact hS1 y e
      · intro z hz
        rcases List.mem_cons.mp hz with e | hz
        · subst e; exact ⟨_, List.mem_cons_self, rfl⟩
        · obtain ⟨y, hy, e⟩ := c3 z hz
          exact ⟨y, List.mem_cons_of_mem _ hy, e⟩
      · obtain ⟨y, hy, e⟩ := c4
        exact ⟨y, List.mem_cons_of_mem _ hy, e⟩
    · rw [if_neg h1]
      by_cases h2 : cmE E a x.1 = 0
      · rw [if_pos h2]
        refine ⟨Or.inl ⟨x, List.mem_cons_self, h2, fun y hy => ?_⟩, List.pairwise_cons.mpr ⟨fun y hy => hS1 y hy, hS2⟩, ?_, ⟨_, List.mem_cons_self, h2⟩⟩
        · rcases List.mem_cons.mp hy with e | hy
          · exact Or.inl e
          · exact Or.inr ⟨List.mem_cons_of_mem _ hy, by have := hlt (by omega) y hy; omega⟩
        · intro z hz
          rcases List.mem_cons.mp hz with e | hz
          · subst e; exact ⟨_, List.mem_cons_self, rfl⟩
          · exact ⟨z, List.mem_cons_of_mem _ hz, rfl⟩
      · rw [if_neg h2]
        have hall : ∀ z ∈ x :: xs, cmE E a z.1 < 0 := fun z hz => by
          rcases List.mem_cons.mp hz with e | hz
          · subst e; omega
          · exact hlt (by omega) z hz
        refine ⟨Or.inr ⟨fun z hz => by have := hall z hz; omega, fun y hy => List.mem_cons.mp hy⟩, List.pairwise_cons.mpr ⟨fun z hz => hall z hz, hS⟩, fun z hz => ⟨z, List.mem_cons_of_mem _ hz, rfl⟩, ⟨(a, b), List.mem_cons_self, cm_rf ha⟩⟩
def shV (p : Nat) : Int32 := iI 1 <<< (iI (p : Int) &&& 31)
theorem shM_c (E : Int → Int → Int) (t : Int) (p : Nat) : shM E t (p + 1) = if ¬ noB E p = true ∧ sRt E t p = 0 then shM E t p ||| shV p else shM E t p := rfl
theorem shM_z {E : Int → Int → Int} {t : Int} : ∀ {p : Nat}, (∀ q : Nat, q < p → ¬ (¬ noB E q = true ∧ sRt E t q = 0)) → shM E t p = iI 0 := by
  intro p
  induction p with
  | zero => intro _; rfl
  | succ p ih =>
    intro h
    rw [shM_c, if_neg (h p (by omega))]
    exact ih (fun q hq => h q (by omega))
def hitB (E : Int → Int → Int) (p : Nat) (ii x : Int) : Prop := ∃ j : Int, (0 ≤ j ∧ j < ii) ∧ cmE E (2 * p + j) x = 0
def bP (E : Int → Int → Int) (p : Nat) (ii : Int) (L : List (Int × Int)) : Prop := (∀ x ∈ L, rtE E x.1) ∧ sB E L ∧ (∀ x ∈ L, (hitB E p ii x.1 → iI x.2 = shM E x.1 p ||| shV p) ∧ (¬ hitB E p ii x.1 → iI x.2 = shM E x.1 p)) ∧ (∀ q : Nat, q < p → ∀ i : Int, (0 ≤ i ∧ i < nR E q) → ∃ y ∈ L, cmE E (2 * q + i) y.1 = 0) ∧ ∀ i : Int, (0 ≤ i ∧ i < ii) → ∃ y ∈ L, cmE E (2 * p + i) y.1 = 0
theorem cm_fst {E : Int → Int → Int} {t : Int} {x y : Int × Int} (e : y.1 = x.1) (h : cmE E t x.1 = 0) : cmE E t y.1 = 0 := by rw [e]; exact h
theorem bP_s {E : Int → Int → Int} (hE : EB E) {p : Nat} {ii : Int} {L : List (Int × Int)} (h : bP E p ii L) (hi : 0 ≤ ii ∧ ii < nR E p) : bP E p (ii + 1) (insB E (2 * p + ii) (shI p) L) := by
  obtain ⟨h1, h2, h3, h4, h5⟩ := h
  have ht := rtE_of hE hi
  obtain ⟨c1, c2, c3, c4⟩ := insB_c (b := shI p) ht h1 h2
  have hsh : iI (shI (p : Int)) = shV p := (shI_i _).symm
  have hup : ∀ x, hitB E p ii x → hitB E p (ii + 1) x := fun x ⟨j, a1, a2⟩ => ⟨j, by omega, a2⟩
  have hdn : ∀ x, ¬ cmE E (2 * p + ii) x = 0 → hitB E p (ii + 1) x → hitB E p ii x := fun x hn ⟨j, a1, a2⟩ => by
    rcases (by omega : j = ii ∨ j < ii) with e | e
    · subst e; exact absurd a2 hn
    · exact ⟨j, by omega, a2⟩
  refine ⟨fun y hy => ?_, c2, fun y hy => ?_, fun q hq i hqi => ?_, fun i hqi => ?_⟩
  · rcases c1 with ⟨x, m1, m2, m3⟩ | ⟨m1, m2⟩
    · rcases m3 y hy with e | ⟨e1, -⟩
      · rw [e]; exact h1 x m1
      · exact h1 y e1
    · rcases m2 y hy with e | e
      · rw [e]; exact ht
      · exact h1 y e
  · rcases c1 with ⟨x, m1, m2, m3⟩ | ⟨m1, m2⟩
    · rcases m3 y hy with e | ⟨e1, e2⟩
      · rw [e]
        have hh : hitB E p (ii + 1) x.1 := ⟨ii, by omega, m2⟩
        refine ⟨fun _ => ?_, fun q => absurd hh q⟩
        show iI (orI x.2 (shI p)) = _
        rw [← orI_i, hsh]
        by_cases hq : hitB E p ii x.1
        · rw [(h3 x m1).1 hq, Int32.or_assoc, Int32.or_self]
        · rw [(h3 x m1).2 hq]
      · exact ⟨fun q => (h3 y e1).1 (hdn _ e2 q), fun q => (h3 y e1).2 (fun r => q (hup _ r))⟩
    · rcases m2 y hy with e | e
      · rw [e]
        have hh : hitB E p (ii + 1) (2 * (p : Int) + ii) := ⟨ii, by omega, cm_rf ht⟩
        refine ⟨fun _ => ?_, fun q => absurd hh q⟩
        show iI (shI p) = _
        have hz : shM E (2 * (p : Int) + ii) p = iI 0 := shM_z (fun q hq hc => by
          obtain ⟨i, i1, i2⟩ := zero_rt ht hE hc.1 hc.2
          obtain ⟨y', y1, y2⟩ := h4 q hq i i1
          have hr := rtE_of hE i1
          have e1 := cm_as ht hr
          exact m1 y' y1 (cm_eqv hr ht (h1 y' y1) (by omega) y2))
        rw [hz, hsh, iI_0, Int32.zero_or]
      · have e2 : ¬ cmE E (2 * p + ii) y.1 = 0 := m1 y e
        exact ⟨fun q => (h3 y e).1 (hdn _ e2 q), fun q => (h3 y e).2 (fun r => q (hup _ r))⟩
  · obtain ⟨y, y1, y2⟩ := h4 q hq i hqi
    obtain ⟨z, z1, z2⟩ := c3 y y1
    exact ⟨z, z1, cm_fst z2 y2⟩
  · rcases (by omega : i = ii ∨ i < ii) with e | e
    · subst e; exact c4
    · obtain ⟨y, y1, y2⟩ := h5 i (by omega)
      obtain ⟨z, z1, z2⟩ := c3 y y1
      exact ⟨z, z1, cm_fst z2 y2⟩
def fB (E : Int → Int → Int) (p : Nat) (L : List (Int × Int)) : Prop := (∀ x ∈ L, rtE E x.1) ∧ sB E L ∧ (∀ x ∈ L, iI x.2 = shM E x.1 p) ∧ ∀ q : Nat, q < p → ∀ i : Int, (0 ≤ i ∧ i < nR E q) → ∃ y ∈ L, cmE E (2 * q + i) y.1 = 0
theorem fB_bP {E : Int → Int → Int} {p : Nat} {L : List (Int × Int)} (h : fB E p L) : bP E p 0 L := by
  obtain ⟨h1, h2, h3, h4⟩ := h
  exact ⟨h1, h2, fun x hx => ⟨fun ⟨j, a1, _⟩ => absurd a1 (by omega), fun _ => h3 x hx⟩, h4, fun i hi => absurd hi (by omega)⟩
theorem bP_n {E : Int → Int → Int} (hE : EB E) {p : Nat} {L : List (Int × Int)} (h : bP E p 0 L) : ∀ i : Nat, (i : Int) ≤ nR E p → bP E p i (insBR E p L i) := by
  intro i
  induction i with
  | zero => intro _; exact h
  | succ i ih =>
    intro hi
    have := bP_s hE (ih (by omega)) ⟨by omega, by omega⟩
    unfold insBR
    exact this
theorem fB_all {E : Int → Int → Int} (hE : EB E) : ∀ n : Nat, fB E n (ALb E n) := by
  intro n
  induction n with
  | zero => exact ⟨fun x hx => absurd hx List.not_mem_nil, List.Pairwise.nil, fun x hx => absurd hx List.not_mem_nil, fun q hq => absurd hq (by omega)⟩
  | succ n ih =>
    have hn := nR_r E n
    have hb := bP_n hE (fB_bP ih) (nR E n).toNat (by omega)
    rw [show (((nR E n).toNat : Nat) : Int) = nR E n by omega] at hb
    obtain ⟨h1, h2, h3, h4, h5⟩ := hb
    unfold ALb
    refine ⟨h1, h2, fun x hx => ?_, fun q hq i hi => ?_⟩
    · rw [shM_c]
      by_cases hc : ¬ noB E n = true ∧ sRt E x.1 n = 0
      · rw [if_pos hc]
        obtain ⟨i, i1, i2⟩ := zero_rt (h1 x hx) hE hc.1 hc.2
        have := cm_as (h1 x hx) (rtE_of hE i1)
        exact (h3 x hx).1 ⟨i, i1, by omega⟩
      · rw [if_neg hc]
        refine (h3 x hx).2 (fun ⟨j, j1, j2⟩ => hc ?_)
        have := cm_as (rtE_of hE j1) (h1 x hx)
        exact rt_zero (h1 x hx) hE j1 (by omega)
    · rcases (by omega : q = n ∨ q < n) with e | e
      · subst e; exact h5 i hi
      · exact h4 q e i hi
theorem sha_eq {E : Int → Int → Int} (hE : EB E) (n k : Int) : iI (R_shb n E k) = R_sha n E (ALn E n.toNat) k := by
  have hl := ALb_len E n.toNat
  unfold R_shb R_sha
  by_cases h0 : n = 0
  · rw [if_pos h0, if_pos h0]
  · rw [if_neg h0, if_neg h0, hl]
    by_cases hk : 0 ≤ k ∧ k < (ALn E n.toNat).length
    · have hnn : ¬ ¬ (0 ≤ k ∧ k < (ALn E n.toNat).length) := fun q => q hk
      rw [if_neg hnn, if_neg hnn]
      have hlt : k.toNat < (ALb E n.toNat).length := by omega
      have e1 : (ALb E n.toNat)[k.toNat]? = some (ALb E n.toNat)[k.toNat] := List.getElem?_eq_getElem hlt
      have e2 : (ALn E n.toNat).getD k.toNat 0 = ((ALb E n.toNat)[k.toNat]).1 := by
        rw [← ALb_fst, List.getD_eq_getElem?_getD, List.getElem?_map, e1]
        rfl
      rw [e1, e2]
      exact (fB_all hE n.toNat).2.2.1 _ (List.getElem_mem hlt)
    · rw [if_pos hk, if_pos hk]
