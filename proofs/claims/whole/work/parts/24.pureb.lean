/-! rows of signs -/
def rnF (E : Int → Int → Int) (L : List Int) (k : Int) : Nat → Int
  | 0 => 0
  | p + 1 => 3 * rnF E L k p + sSp E L k p + 1
def rwN (E : Int → Int → Int) (L : List Int) (n k : Int) : Int := rnF E L k n.toNat
def fsL (E : Int → Int → Int) (L : List Int) (n : Int) : Nat → List Int
  | 0 => []
  | k + 1 => if (fsL E L n k).any (fun r => rwN E L n r == rwN E L n k) then fsL E L n k else fsL E L n k ++ [(k : Int)]
theorem rnF_b (E : Int → Int → Int) (L : List Int) (k : Int) : ∀ p : Nat, 0 ≤ rnF E L k p ∧ rnF E L k p + 1 ≤ 3 ^ p := by
  intro p
  induction p with
  | zero => simp [rnF]
  | succ p ih =>
    have h := sSp_r E L k p
    have e : (3 : Int) ^ (p + 1) = 3 ^ p * 3 := Int.pow_succ 3 p
    unfold rnF
    omega
theorem rnF_r (E : Int → Int → Int) (L : List Int) (k : Int) {p : Nat} (hp : p ≤ 4) : 0 ≤ rnF E L k p ∧ rnF E L k p ≤ 80 := by
  have h := rnF_b E L k p
  have e : (3 : Int) ^ p ≤ 81 := by
    rcases (by omega : p = 0 ∨ p = 1 ∨ p = 2 ∨ p = 3 ∨ p = 4) with q | q | q | q | q <;> subst q <;> decide
  omega
theorem fsL_len (E : Int → Int → Int) (L : List Int) (n : Int) (k : Nat) : (fsL E L n k).length ≤ k := by
  induction k with
  | zero => simp [fsL]
  | succ k ih =>
    unfold fsL
    split
    · omega
    · rw [List.length_append, List.length_singleton]; omega
theorem fsL_mem (E : Int → Int → Int) (L : List Int) (n : Int) (k : Nat) (x : Int) : x ∈ fsL E L n k → 0 ≤ x ∧ x < k := by
  induction k with
  | zero => intro h; cases h
  | succ k ih =>
    intro h
    unfold fsL at h
    split at h
    · have := ih h; omega
    · rcases List.mem_append.mp h with h | h
      · have := ih h; omega
      · have := List.mem_singleton.mp h; omega
theorem take_any {α : Type} {p : α → Bool} {L : List α} {n : Nat} {x : α} (h : L[n]? = some x) : (L.take (n + 1)).any p = ((L.take n).any p || p x) := by
  rw [List.take_add_one, h, List.any_append]
  simp
theorem hasL_at {f : Int → Int} {L : List Int} (h : hasL f L) {k : Int} (hk : 0 ≤ k ∧ k < L.length) : L[k.toNat]? = some (f k) ∧ f k ∈ L := by
  have h1 := h k.toNat (by omega)
  rw [show ((k.toNat : Nat) : Int) = k by omega] at h1
  exact ⟨h1, List.mem_of_getElem? h1⟩
theorem hasL_push {f : Int → Int} {L : List Int} (h : hasL f L) (v : Int) : hasL (up f L.length v) (L ++ [v]) := by
  intro j hj
  rw [List.length_append, List.length_singleton] at hj
  rcases (by omega : j < L.length ∨ j = L.length) with q | q
  · rw [List.getElem?_append_left q, up_n (by omega), h j q]
  · subst q
    rw [List.getElem?_append_right (Nat.le_refl _), Nat.sub_self, up_s]
    rfl
theorem fsL_t {E : Int → Int → Int} {L : List Int} {n : Int} {k : Int} (hk : 0 ≤ k) (h : (fsL E L n k.toNat).any (fun r => rwN E L n r == rwN E L n k) = true) : fsL E L n (k + 1).toNat = fsL E L n k.toNat := by
  rw [show (k + 1).toNat = k.toNat + 1 by omega, fsL, show ((k.toNat : Nat) : Int) = k by omega, if_pos h]
theorem fsL_f {E : Int → Int → Int} {L : List Int} {n : Int} {k : Int} (hk : 0 ≤ k) (h : ¬ (fsL E L n k.toNat).any (fun r => rwN E L n r == rwN E L n k) = true) : fsL E L n (k + 1).toNat = fsL E L n k.toNat ++ [k] := by
  rw [show (k + 1).toNat = k.toNat + 1 by omega, fsL, show ((k.toNat : Nat) : Int) = k by omega, if_neg h]
theorem rnF_s {E : Int → Int → Int} {L : List Int} {k p : Int} (hp : 0 ≤ p) : rnF E L k (p + 1).toNat = 3 * rnF E L k p.toNat + sSp E L k p + 1 := by
  rw [show (p + 1).toNat = p.toNat + 1 by omega, rnF, show ((p.toNat : Nat) : Int) = p by omega]
/-- how many of the first k spots are such -/
def cnF (P : Int → Bool) : Nat → Int
  | 0 => 0
  | k + 1 => cnF P k + (if P k then 1 else 0)
theorem cnF_r (P : Int → Bool) (k : Nat) : 0 ≤ cnF P k ∧ cnF P k ≤ k := by
  induction k with
  | zero => simp [cnF]
  | succ k ih =>
    unfold cnF
    split <;> omega
theorem cnF_s {P : Int → Bool} {k : Int} (hk : 0 ≤ k) : cnF P (k + 1).toNat = cnF P k.toNat + (if P k then 1 else 0) := by
  rw [show (k + 1).toNat = k.toNat + 1 by omega, cnF, show ((k.toNat : Nat) : Int) = k by omega]
def allB (P : Int → Bool) : Nat → Bool
  | 0 => true
  | k + 1 => allB P k && P k
theorem allB_s {P : Int → Bool} {k : Int} (hk : 0 ≤ k) : allB P (k + 1).toNat = (allB P k.toNat && P k) := by
  rw [show (k + 1).toNat = k.toNat + 1 by omega, allB, show ((k.toNat : Nat) : Int) = k by omega]
def smF (f : Int → Int) : Nat → Int
  | 0 => 0
  | k + 1 => smF f k + f k
theorem smF_s {f : Int → Int} {k : Int} (hk : 0 ≤ k) : smF f (k + 1).toNat = smF f k.toNat + f k := by
  rw [show (k + 1).toNat = k.toNat + 1 by omega, smF, show ((k.toNat : Nat) : Int) = k by omega]
def noB (E : Int → Int → Int) (q : Int) : Bool := decide (E q 0 = 0 ∧ E q 1 = 0 ∧ E q 2 = 0)
theorem noB_t {E : Int → Int → Int} {q : Int} (h : E q 0 = 0 ∧ E q 1 = 0 ∧ E q 2 = 0) : noB E q = true := decide_eq_true h
theorem noB_f {E : Int → Int → Int} {q : Int} (h : ¬ (E q 0 = 0 ∧ E q 1 = 0 ∧ E q 2 = 0)) : ¬ noB E q = true := by unfold noB; simp only [decide_eq_true_eq]; exact h
def R_many (n : Int) (E : Int → Int → Int) (rc w : Int) : Int := if w = 0 then n else if w = 1 then smF (fun q => nR E q) n.toNat else if w = 2 then cnF (noB E) n.toNat else if w = 3 then rc else -2
section GS
variable {p : Program} {l : Launch} {e : Env} {R : Room} {s : State} {m : MethodId} {args : Array Value} {below : List Frame} {meth : Method} {c : Code} {H : Heap} {locs : List Loc} {cells slots : Nat} {Q : State → Prop} {pc : Nat} {ls : Array Slot} {rest : List Value}
variable {D : va_G} {G : gT} {Ts : List Cond} {own : String} {cc : ByteArray} {nL : Nat}
theorem g_tabIn (C : gC D G Ts own cc nL p s m args meth c) {z : Int} (v : Int) {dflt lo hi : Int} {offs : Array Int} {len : Nat} (off : Int) (tgt : Nat) (hz : z = v) (hv : -2147483648 ≤ v ∧ v ≤ 2147483647) (hdg : decode cc pc = .ok (.tableswitch dflt lo hi offs, len)) (h1 : ¬ v < lo) (h2 : ¬ hi < v) (ho : offs[(v - lo).toNat]? = some off) (ht : (pc : Int) + off = (tgt : Int))
    (k : W p l e R s m args below meth c H locs cells slots Q (F0 m tgt ls rest)) : W p l e R s m args below meth c H locs cells slots Q (F0 m pc ls (.int (iI z) :: rest)) := by
  subst hz
  exact lv_tableIn C.1.1 C.1.2.1 hdg (by rw [iI_toInt hv]; exact h1) (by rw [iI_toInt hv]; exact h2) (by rw [iI_toInt hv]; exact ho) ht k
theorem g_tabOut (C : gC D G Ts own cc nL p s m args meth c) {z : Int} {dflt lo hi : Int} {offs : Array Int} {len : Nat} (tgt : Nat) (hz : -2147483648 ≤ z ∧ z ≤ 2147483647) (hdg : decode cc pc = .ok (.tableswitch dflt lo hi offs, len)) (h : z < lo ∨ hi < z) (ht : (pc : Int) + dflt = (tgt : Int))
    (k : W p l e R s m args below meth c H locs cells slots Q (F0 m tgt ls rest)) : W p l e R s m args below meth c H locs cells slots Q (F0 m pc ls (.int (iI z) :: rest)) :=
  lv_tableOut C.1.1 C.1.2.1 hdg (by rw [iI_toInt hz]; exact h) ht k
theorem g_look (C : gC D G Ts own cc nL p s m args meth c) {z : Int} (v : Int) {dflt : Int} {ps : Array (Int × Int)} {len : Nat} (off : Int) (tgt : Nat) (hz : z = v) (hv : -2147483648 ≤ v ∧ v ≤ 2147483647) (hdg : decode cc pc = .ok (.lookupswitch dflt ps, len)) (hp : (ps.toList.zip (ps.toList.drop 1)).all (fun (a, next) => a.1 < next.1) = true) (ho : Op.lookupswitch.offset ps.toList dflt v = off) (ht : (pc : Int) + off = (tgt : Int))
    (k : W p l e R s m args below meth c H locs cells slots Q (F0 m tgt ls rest)) : W p l e R s m args below meth c H locs cells slots Q (F0 m pc ls (.int (iI z) :: rest)) := by
  subst hz
  exact lv_lookup C.1.1 C.1.2.1 hdg hp (by rw [iI_toInt hv]; exact ho) ht k
end GS
