/-! worlds with a tail, the script, equal answers -/
theorem vD_nd {A : Nat → Prop} {ws : va_W} (h : va_D A ws) : (ws.map Prod.fst).Nodup := by
  unfold List.Nodup
  rw [List.pairwise_map, List.pairwise_iff_getElem]
  intro i j hi hj hij e
  have := h.1 i j ws[i] ws[j] (List.getElem?_eq_getElem hi) (List.getElem?_eq_getElem hj) e
  omega
theorem nd_vD {A : Nat → Prop} {ws : va_W} (h : (ws.map Prod.fst).Nodup) (hA : ∀ q ∈ ws, A q.1) : va_D A ws := by
  unfold List.Nodup at h
  rw [List.pairwise_map, List.pairwise_iff_getElem] at h
  refine ⟨?_, fun k q hk => hA q (List.mem_of_getElem? hk)⟩
  intro i j p q hi hj e
  obtain ⟨hi1, hi2⟩ := List.getElem?_eq_some_iff.mp hi
  obtain ⟨hj1, hj2⟩ := List.getElem?_eq_some_iff.mp hj
  rcases (by omega : i < j ∨ i = j ∨ j < i) with q1 | q1 | q1
  · exact absurd (by rw [hi2, hj2]; exact e) (h i j hi1 hj1 q1)
  · exact q1
  · exact absurd (by rw [hi2, hj2]; exact e.symm) (h j i hj1 hi1 q1)
theorem gW_perm {D : va_G} {A : Nat → Prop} {H0 : Heap} {ws ws' : va_W} {H : Heap} {locs : List Loc} (h : gW D A H0 ws H locs) (hp : ws.Perm ws') : gW D A H0 ws' H locs := by
  refine ⟨fun k q hk => ?_, nd_vD (((hp.map Prod.fst).nodup_iff).mp (vD_nd h.2.1)) (fun q hq => ?_), h.2.2⟩
  · obtain ⟨k', hk'⟩ := List.getElem?_of_mem (hp.mem_iff.mpr (List.mem_of_getElem? hk))
    exact h.1 k' q hk'
  · obtain ⟨k', hk'⟩ := List.getElem?_of_mem (hp.mem_iff.mpr hq)
    exact h.2.1.2 k' q hk'
theorem tl_lt {ws wc : va_W} {is : List Nat} (h : is.map (fun i => ws[i]?) = wc.map some) {i : Nat} (hi : i ∈ is) : i < ws.length := by
  have h1 : ws[i]? ∈ wc.map some := by rw [← h]; exact List.mem_map.mpr ⟨i, hi, rfl⟩
  obtain ⟨x, -, hx⟩ := List.mem_map.mp h1
  exact (List.getElem?_eq_some_iff.mp hx.symm).1
theorem tl_map {ws wc : va_W} {is : List Nat} (h : is.map (fun i => ws[i]?) = wc.map some) (SH : va_W) : is.map (fun i => (ws ++ SH)[i]?) = wc.map some := by
  rw [← h]
  refine List.map_congr_left (fun i hi => ?_)
  exact List.getElem?_append_left (tl_lt h hi)
theorem tl_tail (ws SH : va_W) : ((List.range SH.length).map (fun j => ws.length + j)).map (fun i => (ws ++ SH)[i]?) = SH.map some := by
  apply List.ext_getElem?
  intro k
  rw [List.getElem?_map, List.getElem?_map, List.getElem?_map]
  by_cases hk : k < SH.length
  · rw [List.getElem?_range hk, List.getElem?_eq_getElem hk]
    show some ((ws ++ SH)[ws.length + k]?) = some (some SH[k])
    rw [List.getElem?_append_right (by omega), show ws.length + k - ws.length = k by omega, List.getElem?_eq_getElem hk]
  · rw [List.getElem?_eq_none (by rw [List.length_range]; omega), List.getElem?_eq_none (by omega)]
    rfl
theorem nd_of {l : List Nat} (h : l.Nodup) : va_nd l = true := by
  induction l with
  | nil => rfl
  | cons a l ih =>
    rw [List.nodup_cons] at h
    unfold va_nd
    rw [ih h.2, decide_eq_true h.1]
    rfl
theorem of_nd {l : List Nat} (h : va_nd l = true) : l.Nodup := by
  induction l with
  | nil => exact List.nodup_nil
  | cons a l ih =>
    unfold va_nd at h
    rw [Bool.and_eq_true, decide_eq_true_eq] at h
    exact List.nodup_cons.mpr ⟨h.1, ih h.2⟩
theorem tl_nd {ws wr : va_W} {is : List Nat} (h : is.map (fun i => ws[i]?) = wr.map some) (hn : va_nd is = true) (n : Nat) : va_nd (is ++ (List.range n).map (fun j => ws.length + j)) = true := by
  apply nd_of
  rw [List.nodup_append]
  refine ⟨of_nd hn, ?_, ?_⟩
  · unfold List.Nodup
    rw [List.pairwise_map, List.pairwise_iff_getElem]
    intro i j hi hj hij e
    rw [List.getElem_range, List.getElem_range] at e
    omega
  · intro a ha b hb e
    obtain ⟨j, -, rfl⟩ := List.mem_map.mp hb
    have := tl_lt h ha
    omega
section GT8
variable {p : Program} {l : Launch} {e : Env} {R : Room} {s : State} {m : MethodId} {args : Array Value} {below : List Frame} {meth : Method} {c : Code} {H : Heap} {locs : List Loc} {cells slots : Nat} {Q : State → Prop} {pc : Nat} {ls : Array Slot} {rest : List Value}
variable {D : va_G} {G : gT} {Ts : List Cond} {own : String} {cc : ByteArray} {nL : Nat} {A : Nat → Prop} {H0 : Heap} {ws SH : va_W}
theorem tl_dis {ws wc wr : va_W} {isC isR : List Nat} (hC : isC.map (fun i => ws[i]?) = wc.map some) (hdis : ∀ i ∈ isR, i ∉ isC) (n : Nat) : ∀ i ∈ isR ++ (List.range n).map (fun j => ws.length + j), i ∉ isC := by
  intro i hi hc
  rcases List.mem_append.mp hi with q | q
  · exact hdis i q hc
  · obtain ⟨j, -, rfl⟩ := List.mem_map.mp q
    have := tl_lt hC hc
    omega
theorem tl_perm (wr w1 SH : va_W) : ((wr ++ SH) ++ w1).Perm ((wr ++ w1) ++ SH) := by
  rw [List.append_assoc, List.append_assoc]
  exact List.Perm.append_left wr List.perm_append_comm
theorem g_callVTi (C : gC D G Ts own cc nL p s m args meth c) (hw : gW D A H0 (ws ++ SH) H locs) {y : MethodName} {wy : List Cond} {rm : Room} {As : List Value} {wc wr : va_W} {mc ms n index maxL : Nat} {bytes : ByteArray} {ret : Option FieldType} {post : Int32 → va_W → Prop} {Cn : String} {T : u_T} {N ci : Nat} {fs : List Value} {b : Nat} (hM : gMi l y wy rm D G (.ref b :: As) wc mc ms post) (cw : CallW R s args own Cn index y bytes maxL ret wy rm mc ms n)
    (isC isR : List Nat) (hC : isC.map (fun i => ws[i]?) = wc.map some) (hR : isR.map (fun i => ws[i]?) = wr.map some) (hnC : va_nd isC = true) (hnR : va_nd isR = true) (hdis : ∀ i ∈ isR, i ∉ isC) (qr : Nat) (hrc : wc[qr]? = some (b, .inr (ci, fs))) (hcl : vwCl[ci]? = some (Cn, T, N)) (hn : As.length = n) (hsz : ls.size = nL) (st0 : List Value) (hst : st0 = As.reverse ++ .ref b :: rest) (hrm : (rest.map fun v => v.category).sum ≤ 8) (hdg : decode cc pc = .ok (.invokevirtual index, 3)) (hf : cells + mc ≤ R.cells ∧ slots + ms ≤ R.slots)
    (kk : ∀ (r : Int32) (w1 : va_W) (H : Heap) (locs : List Loc), post r w1 → gW D A H0 ((wr ++ w1) ++ SH) H locs → W p l e R s m args below meth c H locs (cells + mc) (slots + ms) Q (F0 m (pc + 3) ls (.int r :: rest))) : W p l e R s m args below meth c H locs cells slots Q (F0 m pc ls st0) :=
  g_callVi C hw (wr := wr ++ SH) hM cw isC (isR ++ (List.range SH.length).map (fun j => ws.length + j)) (tl_map hC SH) (by rw [List.map_append, List.map_append, tl_map hR SH, tl_tail]) hnC (tl_nd hR hnR _) (tl_dis (wr := wr) hC hdis _) qr hrc hcl hn hsz st0 hst hrm hdg hf (fun r w1 H locs hp hw => kk r w1 H locs hp (gW_perm hw (tl_perm wr w1 SH)))
theorem g_callVTl (C : gC D G Ts own cc nL p s m args meth c) (hw : gW D A H0 (ws ++ SH) H locs) {y : MethodName} {wy : List Cond} {rm : Room} {As : List Value} {wc wr : va_W} {mc ms n index maxL : Nat} {bytes : ByteArray} {ret : Option FieldType} {post : Int64 → va_W → Prop} {Cn : String} {T : u_T} {N ci : Nat} {fs : List Value} {b : Nat} (hM : gMl l y wy rm D G (.ref b :: As) wc mc ms post) (cw : CallW R s args own Cn index y bytes maxL ret wy rm mc ms n)
    (isC isR : List Nat) (hC : isC.map (fun i => ws[i]?) = wc.map some) (hR : isR.map (fun i => ws[i]?) = wr.map some) (hnC : va_nd isC = true) (hnR : va_nd isR = true) (hdis : ∀ i ∈ isR, i ∉ isC) (qr : Nat) (hrc : wc[qr]? = some (b, .inr (ci, fs))) (hcl : vwCl[ci]? = some (Cn, T, N)) (hn : As.length = n) (hsz : ls.size = nL) (st0 : List Value) (hst : st0 = As.reverse ++ .ref b :: rest) (hrm : (rest.map fun v => v.category).sum ≤ 8) (hdg : decode cc pc = .ok (.invokevirtual index, 3)) (hf : cells + mc ≤ R.cells ∧ slots + ms ≤ R.slots)
    (kk : ∀ (r : Int64) (w1 : va_W) (H : Heap) (locs : List Loc), post r w1 → gW D A H0 ((wr ++ w1) ++ SH) H locs → W p l e R s m args below meth c H locs (cells + mc) (slots + ms) Q (F0 m (pc + 3) ls (.long r :: rest))) : W p l e R s m args below meth c H locs cells slots Q (F0 m pc ls st0) :=
  g_callVl C hw (wr := wr ++ SH) hM cw isC (isR ++ (List.range SH.length).map (fun j => ws.length + j)) (tl_map hC SH) (by rw [List.map_append, List.map_append, tl_map hR SH, tl_tail]) hnC (tl_nd hR hnR _) (tl_dis (wr := wr) hC hdis _) qr hrc hcl hn hsz st0 hst hrm hdg hf (fun r w1 H locs hp hw => kk r w1 H locs hp (gW_perm hw (tl_perm wr w1 SH)))
theorem g_permT {ws ws' : va_W} (hw : gW D A H0 (ws ++ SH) H locs) (is : List Nat) (hn : va_nd is = true) (hs : is.map (fun i => ws[i]?) = ws'.map some) : gW D A H0 (ws' ++ SH) H locs := by
  have h1 : (is ++ (List.range SH.length).map (fun j => ws.length + j)).map (fun i => (ws ++ SH)[i]?) = (ws' ++ SH).map some := by rw [List.map_append, List.map_append, tl_map hs SH, tl_tail]
  exact ⟨g_subP hw.1 _ h1, hw.2.1.sub _ (tl_nd hs hn _) h1, hw.2.2⟩
theorem g_sld (C : gC D G Ts own cc nL p s m args meth c) (hw : gW D A H0 ws H locs) {b L : Nat} {xs : Nat → Int32} (hX : va_X b L xs s H0) (hbl : b < H0.size) (hbA : ¬ A b) {z : Int} (hz : 0 ≤ z ∧ z < L) (hL : L ≤ 3072) (hdg : decode cc pc = .ok (.iaload, 1))
    (kk : W p l e R s m args below meth c H locs cells slots Q (F0 m (pc + 1) ls (.int (iI (xs z.toNat).toInt) :: rest))) : W p l e R s m args below meth c H locs cells slots Q (F0 m pc ls (.int (iI z) :: .ref b :: rest)) :=
  va_sld C.1.1 C.1.2.1 hX hbl hbA hw.2.2.1 (iI_in hz (by omega)) hdg (by rw [iI_clamp (by omega), iI_of (xs z.toNat)]; exact kk)
theorem g_slen (C : gC D G Ts own cc nL p s m args meth c) (hw : gW D A H0 ws H locs) {b L : Nat} {xs : Nat → Int32} (hX : va_X b L xs s H0) (hbl : b < H0.size) (hbA : ¬ A b) (hdg : decode cc pc = .ok (.arraylength, 1))
    (kk : W p l e R s m args below meth c H locs cells slots Q (F0 m (pc + 1) ls (.int (iI L) :: rest))) : W p l e R s m args below meth c H locs cells slots Q (F0 m pc ls (.ref b :: rest)) :=
  va_slen C.1.1 C.1.2.1 hX hbl hbA hw.2.2.1 hdg kk
theorem g_icmpS (C : gC D G Ts own cc nL p s m args meth c) {x y : Int32} (h : x = y) {off : Int} (tgt : Nat) (hdg : decode cc pc = .ok (.if_icmp .eq off, 3)) (ht : (pc : Int) + off = (tgt : Int))
    (kt : W p l e R s m args below meth c H locs cells slots Q (F0 m tgt ls rest)) : W p l e R s m args below meth c H locs cells slots Q (F0 m pc ls (.int y :: .int x :: rest)) := lv_icmp_eq C.1.1 C.1.2.1 hdg ht (fun _ => kt) (fun q => absurd h q)
theorem g_lcmpS (C : gC D G Ts own cc nL p s m args meth c) {x y : Int64} (h : x = y) {off : Int} (tgt : Nat) (hd1 : decode cc pc = .ok (.lcmp, 1)) (hdg : decode cc (pc + 1) = .ok (.ifCond .eq off, 3)) (ht : ((pc + 1 : Nat) : Int) + off = (tgt : Int))
    (kt : W p l e R s m args below meth c H locs cells slots Q (F0 m tgt ls rest)) : W p l e R s m args below meth c H locs cells slots Q (F0 m pc ls (.long y :: .long x :: rest)) := W.lcmp C.1.1 C.1.2.1 hd1 (lv_if_eq C.1.1 C.1.2.1 hdg ht (fun _ => kt) (fun q => absurd ((lg_cmp_eq x y).mpr h) q))
end GT8
theorem and31 (x : Int32) : ∃ z : Int, x &&& iI 31 = iI z ∧ 0 ≤ z ∧ z ≤ 31 := by
  refine ⟨(x &&& iI 31).toInt, iI_of _, ?_⟩
  have h : x &&& iI 31 = Int32.ofBitVec (x.toBitVec &&& 31#32) := by
    apply Int32.toBitVec.inj
    show (x &&& iI 31).toBitVec = _
    rw [Int32.toBitVec_and]
    rfl
  have h2 : (x.toBitVec &&& 31#32).toNat ≤ 31 := by rw [BitVec.toNat_and]; exact Nat.and_le_right
  have h3 : (x &&& iI 31).toInt = ((x.toBitVec &&& 31#32).toNat : Int) := by
    rw [h]
    show (x.toBitVec &&& 31#32).toInt = _
    rw [BitVec.toInt_eq_toNat_of_lt (by omega)]
  omega
/-! sheets as a tail -/
abbrev shE : Type := Nat × (Nat → Nat) × Int × Nat × (Int → Int)
def shC (G : gT) : Option shE → va_W
  | none => []
  | some x => [oX2 x.1 x.2.1 x.2.2.1, cA G (x.2.1 1) x.2.2.2.1 x.2.2.2.2]
def shW (G : gT) (st : Nat → Option shE) : va_W := shC G (st 0) ++ (shC G (st 1) ++ (shC G (st 2) ++ shC G (st 3)))
def upS (st : Nat → Option shE) (k : Nat) (v : Option shE) : Nat → Option shE := fun j => if j = k then v else st j
def qfS (st : Nat → Option shE) : Nat → Option Nat := fun k => (st k).map Prod.fst
theorem upS_id (st : Nat → Option shE) (k : Nat) : upS st k (st k) = st := by
  funext j
  unfold upS
  split
  next h => rw [h]
  next => rfl
theorem upS_2 (st : Nat → Option shE) (k : Nat) (u v : Option shE) : upS (upS st k u) k v = upS st k v := by
  funext j
  unfold upS
  split <;> rfl
theorem qfS_up (st : Nat → Option shE) (k : Nat) (v : Option shE) : qfS (upS st k v) = va_up (qfS st) k (v.map Prod.fst) := by
  funext j
  unfold qfS upS va_up
  split <;> rfl
theorem p4_1 (a b c d : va_W) : (a ++ (b ++ (c ++ d))).Perm (b ++ (a ++ (c ++ d))) := by
  have h := List.Perm.append_right (c ++ d) (List.perm_append_comm (l₁ := a) (l₂ := b))
  simpa [List.append_assoc] using h
theorem shW_up (G : gT) (st : Nat → Option shE) {k : Nat} (hk : k < 4) (v : Option shE) : (shW G (upS st k v)).Perm (shC G v ++ shW G (upS st k none)) := by
  rcases (by omega : k = 0 ∨ k = 1 ∨ k = 2 ∨ k = 3) with rfl | rfl | rfl | rfl
  · exact List.Perm.refl _
  · exact p4_1 _ _ _ _
  · show (shC G (st 0) ++ (shC G (st 1) ++ (shC G v ++ shC G (st 3)))).Perm (shC G v ++ (shC G (st 0) ++ (shC G (st 1) ++ ([] ++ shC G (st 3)))))
    have h := p4_1 (shC G (st 0) ++ shC G (st 1)) (shC G v) (shC G (st 3)) []
    simpa [List.append_assoc] using h
  · show (shC G (st 0) ++ (shC G (st 1) ++ (shC G (st 2) ++ shC G v))).Perm (shC G v ++ (shC G (st 0) ++ (shC G (st 1) ++ (shC G (st 2) ++ []))))
    have h := List.perm_append_comm (l₁ := shC G (st 0) ++ (shC G (st 1) ++ shC G (st 2))) (l₂ := shC G v)
    simpa [List.append_assoc] using h

theorem g_open {D : va_G} {G : gT} {A : Nat → Prop} {H0 : Heap} {ws : va_W} {H : Heap} {locs : List Loc} {st : Nat → Option shE} {k : Nat} {x : shE} (hw : gW D A H0 (ws ++ shW G st) H locs) (hk : k < 4) (hx : st k = some x) : gW D A H0 ((ws ++ [oX2 x.1 x.2.1 x.2.2.1, cA G (x.2.1 1) x.2.2.2.1 x.2.2.2.2]) ++ shW G (upS st k none)) H locs := by
  refine gW_perm hw ?_
  rw [List.append_assoc]
  refine List.Perm.append_left ws ?_
  have h := shW_up G st hk (st k)
  rw [upS_id, hx] at h
  exact h
theorem g_fold {D : va_G} {G : gT} {A : Nat → Prop} {H0 : Heap} {ws : va_W} {H : Heap} {locs : List Loc} {st : Nat → Option shE} {k : Nat} (x : shE) (hw : gW D A H0 ((ws ++ [oX2 x.1 x.2.1 x.2.2.1, cA G (x.2.1 1) x.2.2.2.1 x.2.2.2.2]) ++ shW G (upS st k none)) H locs) (hk : k < 4) : gW D A H0 (ws ++ shW G (upS st k (some x))) H locs := by
  refine gW_perm hw ?_
  rw [List.append_assoc]
  exact List.Perm.append_left ws (shW_up G st hk (some x)).symm
theorem g_drop {D : va_G} {G : gT} {A : Nat → Prop} {H0 : Heap} {ws : va_W} {H : Heap} {locs : List Loc} {st : Nat → Option shE} {k : Nat} (hw : gW D A H0 (ws ++ shW G st) H locs) (hk : k < 4) : gW D A H0 (ws ++ shW G (upS st k none)) H locs := by
  have h : gW D A H0 (shC G (st k) ++ (ws ++ shW G (upS st k none))) H locs := by
    refine gW_perm hw ?_
    have h2 := shW_up G st hk (st k)
    rw [upS_id] at h2
    refine (List.Perm.append_left ws h2).trans ?_
    have h := List.Perm.append_right (shW G (upS st k none)) (List.perm_append_comm (l₁ := ws) (l₂ := shC G (st k)))
    simpa [List.append_assoc] using h
  refine ⟨fun i q hi => h.1 (i + (shC G (st k)).length) q (by rw [List.getElem?_append_right (by omega), show i + (shC G (st k)).length - (shC G (st k)).length = i by omega]; exact hi), ⟨fun i j p q hi hj e => ?_, fun i q hi => h.2.1.2 (i + (shC G (st k)).length) q (by rw [List.getElem?_append_right (by omega), show i + (shC G (st k)).length - (shC G (st k)).length = i by omega]; exact hi)⟩, h.2.2⟩
  have := h.2.1.1 (i + (shC G (st k)).length) (j + (shC G (st k)).length) p q (by rw [List.getElem?_append_right (by omega), show i + (shC G (st k)).length - (shC G (st k)).length = i by omega]; exact hi) (by rw [List.getElem?_append_right (by omega), show j + (shC G (st k)).length - (shC G (st k)).length = j by omega]; exact hj) e
  omega
def shR (st : Nat → Option shE) (sz ln ce : Int → Int) : Prop := ∀ k : Nat, k < 4 → (st k = none → sz k = -1) ∧ ∀ x, st k = some x → (sz k = x.2.2.2.1 ∧ ln k = x.2.2.1) ∧ ((0 ≤ x.2.2.1 ∧ x.2.2.1 ≤ 2) ∧ x.2.2.2.1 ≤ 60) ∧ ∀ j, 0 ≤ j → j < (x.2.2.2.1 : Int) → x.2.2.2.2 j = ce (60 * k + j) ∧ -2147483648 ≤ x.2.2.2.2 j ∧ x.2.2.2.2 j ≤ 2147483647
