theorem g_subP {D : va_G} {ws ws' : va_W} {H : Heap} (h : va_P D vwCl ws H) (is : List Nat) (hs : is.map (fun i => ws[i]?) = ws'.map some) : va_P D vwCl ws' H := by
  intro k q hk
  have h1 : (is.map (fun i => ws[i]?))[k]? = some (some q) := by rw [hs, List.getElem?_map, hk]; rfl
  rw [List.getElem?_map] at h1
  cases hi : is[k]? with
  | none => rw [hi] at h1; cases h1
  | some i => rw [hi] at h1; exact h i q (Option.some.inj h1)
section GR
variable {p : Program} {l : Launch} {e : Env} {R : Room} {s : State} {m : MethodId} {args : Array Value} {below : List Frame} {meth : Method} {c : Code} {H : Heap} {locs : List Loc} {cells slots : Nat} {Q : State → Prop} {pc : Nat} {ls : Array Slot} {rest : List Value}
variable {D : va_G} {G : gT} {Ts : List Cond} {own : String} {cc : ByteArray} {nL : Nat} {A : Nat → Prop} {H0 : Heap} {ws : va_W}
theorem bp_ok {n : Int} (h : -128 ≤ n ∧ n ≤ 127) : (Int8.ofInt n).toInt32 = iI n := by
  rw [← Int32.toInt_inj, Int8.toInt_toInt32, Int8.toInt_ofInt_of_le (by omega) (by omega), iI_toInt (by omega)]
theorem sp_ok {n : Int} (h : -32768 ≤ n ∧ n ≤ 32767) : (Int16.ofInt n).toInt32 = iI n := by
  rw [← Int32.toInt_inj, Int16.toInt_toInt32, Int16.toInt_ofInt_of_le (by omega) (by omega), iI_toInt (by omega)]
/-! constants -/
theorem g_iconst (C : gC D G Ts own cc nL p s m args meth c) {z : Int} (hdg : decode cc pc = .ok (.iconst z, 1))
    (k : W p l e R s m args below meth c H locs cells slots Q (F0 m (pc + 1) ls (.int (iI z) :: rest))) : W p l e R s m args below meth c H locs cells slots Q (F0 m pc ls (rest)) := lv_iconst C.1.1 C.1.2.1 hdg rfl k
theorem g_bipush (C : gC D G Ts own cc nL p s m args meth c) {z : Int} (hdg : decode cc pc = .ok (.bipush z, 2)) (hz : -128 ≤ z ∧ z ≤ 127)
    (k : W p l e R s m args below meth c H locs cells slots Q (F0 m (pc + 2) ls (.int (iI z) :: rest))) : W p l e R s m args below meth c H locs cells slots Q (F0 m pc ls (rest)) := lv_bipush C.1.1 C.1.2.1 hdg (bp_ok hz) k
theorem g_sipush (C : gC D G Ts own cc nL p s m args meth c) {z : Int} (hdg : decode cc pc = .ok (.sipush z, 3)) (hz : -32768 ≤ z ∧ z ≤ 32767)
    (k : W p l e R s m args below meth c H locs cells slots Q (F0 m (pc + 3) ls (.int (iI z) :: rest))) : W p l e R s m args below meth c H locs cells slots Q (F0 m pc ls (rest)) := lv_sipush C.1.1 C.1.2.1 hdg (sp_ok hz) k
theorem g_lconst0 (C : gC D G Ts own cc nL p s m args meth c) (hdg : decode cc pc = .ok (.lconst 0, 1))
    (k : W p l e R s m args below meth c H locs cells slots Q (F0 m (pc + 1) ls (.long (lI 0) :: rest))) : W p l e R s m args below meth c H locs cells slots Q (F0 m pc ls (rest)) := lv_lconst C.1.1 C.1.2.1 hdg (by decide +kernel) k
theorem g_lconst1 (C : gC D G Ts own cc nL p s m args meth c) (hdg : decode cc pc = .ok (.lconst 1, 1))
    (k : W p l e R s m args below meth c H locs cells slots Q (F0 m (pc + 1) ls (.long (lI 1) :: rest))) : W p l e R s m args below meth c H locs cells slots Q (F0 m pc ls (rest)) := lv_lconst C.1.1 C.1.2.1 hdg (by decide +kernel) k
theorem g_ldc (C : gC D G Ts own cc nL p s m args meth c) (z : Int) {v : Int32} {index : Nat} (hm : Jvm.Cond.constant own index v ∈ Ts) (hv : v = iI z) (hdg : decode cc pc = .ok (.ldc index, 2))
    (k : W p l e R s m args below meth c H locs cells slots Q (F0 m (pc + 2) ls (.int (iI z) :: rest))) : W p l e R s m args below meth c H locs cells slots Q (F0 m pc ls (rest)) := by
  subst hv
  exact lv_ldc C.1.1 C.1.2.1 C.1.2.2.2.1 (C.1.2.2.2.2 _ hm) hdg k
theorem g_ldc2 (C : gC D G Ts own cc nL p s m args meth c) (z : Int) {v : Int64} {index : Nat} (hm : Jvm.Cond.constantLong own index v ∈ Ts) (hv : v = lI z) (hdg : decode cc pc = .ok (.ldc2_w index, 3))
    (k : W p l e R s m args below meth c H locs cells slots Q (F0 m (pc + 3) ls (.long (lI z) :: rest))) : W p l e R s m args below meth c H locs cells slots Q (F0 m pc ls (rest)) := by
  subst hv
  exact lv_ldc2 C.1.1 C.1.2.1 C.1.2.2.2.1 (C.1.2.2.2.2 _ hm) hdg k
/-! locals -/
theorem g_iload_n (C : gC D G Ts own cc nL p s m args meth c) {q : Fin 4} {i : Nat} {x : Int32} {lv : List (Nat × Value)} (hl : lv_has ls nL lv) (j : Nat) (hj : lv[j]? = some (i, .int x)) (hi : (q : Nat) = i) (hdg : decode cc pc = .ok (.iload_n q, 1))
    (k : W p l e R s m args below meth c H locs cells slots Q (F0 m (pc + 1) ls (.int x :: rest))) : W p l e R s m args below meth c H locs cells slots Q (F0 m pc ls (rest)) := lv_iload_n C.1.1 C.1.2.1 hdg hi (lv_at hl j hj) k
theorem g_iload (C : gC D G Ts own cc nL p s m args meth c) {i : Nat} {x : Int32} {lv : List (Nat × Value)} (hl : lv_has ls nL lv) (j : Nat) (hj : lv[j]? = some (i, .int x)) (hdg : decode cc pc = .ok (.iload i, 2))
    (k : W p l e R s m args below meth c H locs cells slots Q (F0 m (pc + 2) ls (.int x :: rest))) : W p l e R s m args below meth c H locs cells slots Q (F0 m pc ls (rest)) := lv_iload C.1.1 C.1.2.1 hdg (lv_at hl j hj) k
theorem g_lload_n (C : gC D G Ts own cc nL p s m args meth c) {q : Fin 4} {i : Nat} {x : Int64} {lv : List (Nat × Value)} (hl : lv_has ls nL lv) (j : Nat) (hj : lv[j]? = some (i, .long x)) (hi : (q : Nat) = i) (hdg : decode cc pc = .ok (.lload_n q, 1))
    (k : W p l e R s m args below meth c H locs cells slots Q (F0 m (pc + 1) ls (.long x :: rest))) : W p l e R s m args below meth c H locs cells slots Q (F0 m pc ls (rest)) := lv_lload_n C.1.1 C.1.2.1 hdg hi (lv_at hl j hj) k
theorem g_lload (C : gC D G Ts own cc nL p s m args meth c) {i : Nat} {x : Int64} {lv : List (Nat × Value)} (hl : lv_has ls nL lv) (j : Nat) (hj : lv[j]? = some (i, .long x)) (hdg : decode cc pc = .ok (.lload i, 2))
    (k : W p l e R s m args below meth c H locs cells slots Q (F0 m (pc + 2) ls (.long x :: rest))) : W p l e R s m args below meth c H locs cells slots Q (F0 m pc ls (rest)) := lv_lload C.1.1 C.1.2.1 hdg (lv_at hl j hj) k
theorem g_aload_n (C : gC D G Ts own cc nL p s m args meth c) {q : Fin 4} {i : Nat} {x : Nat} {lv : List (Nat × Value)} (hl : lv_has ls nL lv) (j : Nat) (hj : lv[j]? = some (i, .ref x)) (hi : (q : Nat) = i) (hdg : decode cc pc = .ok (.aload_n q, 1))
    (k : W p l e R s m args below meth c H locs cells slots Q (F0 m (pc + 1) ls (.ref x :: rest))) : W p l e R s m args below meth c H locs cells slots Q (F0 m pc ls (rest)) := lv_aload_n C.1.1 C.1.2.1 hdg hi (lv_at hl j hj) k
theorem g_aload (C : gC D G Ts own cc nL p s m args meth c) {i : Nat} {x : Nat} {lv : List (Nat × Value)} (hl : lv_has ls nL lv) (j : Nat) (hj : lv[j]? = some (i, .ref x)) (hdg : decode cc pc = .ok (.aload i, 2))
    (k : W p l e R s m args below meth c H locs cells slots Q (F0 m (pc + 2) ls (.ref x :: rest))) : W p l e R s m args below meth c H locs cells slots Q (F0 m pc ls (rest)) := lv_aload C.1.1 C.1.2.1 hdg (lv_at hl j hj) k
theorem g_aload_nN (C : gC D G Ts own cc nL p s m args meth c) {q : Fin 4} {i : Nat} {lv : List (Nat × Value)} (hl : lv_has ls nL lv) (j : Nat) (hj : lv[j]? = some (i, .null)) (hi : (q : Nat) = i) (hdg : decode cc pc = .ok (.aload_n q, 1))
    (k : W p l e R s m args below meth c H locs cells slots Q (F0 m (pc + 1) ls (.null :: rest))) : W p l e R s m args below meth c H locs cells slots Q (F0 m pc ls (rest)) := lv_aload_nN C.1.1 C.1.2.1 hdg hi (lv_at hl j hj) k
theorem g_aloadN (C : gC D G Ts own cc nL p s m args meth c) {i : Nat} {lv : List (Nat × Value)} (hl : lv_has ls nL lv) (j : Nat) (hj : lv[j]? = some (i, .null)) (hdg : decode cc pc = .ok (.aload i, 2))
    (k : W p l e R s m args below meth c H locs cells slots Q (F0 m (pc + 2) ls (.null :: rest))) : W p l e R s m args below meth c H locs cells slots Q (F0 m pc ls (rest)) := lv_aloadN C.1.1 C.1.2.1 hdg (lv_at hl j hj) k
theorem g_istore_n (C : gC D G Ts own cc nL p s m args meth c) {x : Int32} {lv : List (Nat × Value)} (lv' : List (Nat × Value)) {q : Fin 4} {i : Nat} (hdg : decode cc pc = .ok (.istore_n q, 1)) (hi : (q : Nat) = i) (hl : lv_has ls nL lv) (hn : i < nL) (he : (i, Value.int x) :: lv.filter (fun q => !(q.1 == i) && !(q.1 + 1 == i && q.2.category == 2)) = lv')
    (k : ∀ ls' : Array Slot, lv_has ls' nL lv' → W p l e R s m args below meth c H locs cells slots Q (F0 m (pc + 1) ls' rest)) : W p l e R s m args below meth c H locs cells slots Q (F0 m pc ls (.int x :: rest)) := lv_istore_n C.1.1 C.1.2.1 hdg hi hl hn he k
theorem g_istore (C : gC D G Ts own cc nL p s m args meth c) {x : Int32} {lv : List (Nat × Value)} (lv' : List (Nat × Value)) {i : Nat} (hdg : decode cc pc = .ok (.istore i, 2)) (hl : lv_has ls nL lv) (hn : i < nL) (he : (i, Value.int x) :: lv.filter (fun q => !(q.1 == i) && !(q.1 + 1 == i && q.2.category == 2)) = lv')
    (k : ∀ ls' : Array Slot, lv_has ls' nL lv' → W p l e R s m args below meth c H locs cells slots Q (F0 m (pc + 2) ls' rest)) : W p l e R s m args below meth c H locs cells slots Q (F0 m pc ls (.int x :: rest)) := lv_istore C.1.1 C.1.2.1 hdg hl hn he k
theorem g_lstore_n (C : gC D G Ts own cc nL p s m args meth c) {x : Int64} {lv : List (Nat × Value)} (lv' : List (Nat × Value)) {q : Fin 4} {i : Nat} (hdg : decode cc pc = .ok (.lstore_n q, 1)) (hi : (q : Nat) = i) (hl : lv_has ls nL lv) (hn : i + 1 < nL) (he : (i, Value.long x) :: lv.filter (fun q => !(q.1 == i) && (!(q.1 == i + 1) && !(q.1 + 1 == i && q.2.category == 2))) = lv')
    (k : ∀ ls' : Array Slot, lv_has ls' nL lv' → W p l e R s m args below meth c H locs cells slots Q (F0 m (pc + 1) ls' rest)) : W p l e R s m args below meth c H locs cells slots Q (F0 m pc ls (.long x :: rest)) := lv_lstore_n C.1.1 C.1.2.1 hdg hi hl hn he k
theorem g_lstore (C : gC D G Ts own cc nL p s m args meth c) {x : Int64} {lv : List (Nat × Value)} (lv' : List (Nat × Value)) {i : Nat} (hdg : decode cc pc = .ok (.lstore i, 2)) (hl : lv_has ls nL lv) (hn : i + 1 < nL) (he : (i, Value.long x) :: lv.filter (fun q => !(q.1 == i) && (!(q.1 == i + 1) && !(q.1 + 1 == i && q.2.category == 2))) = lv')
    (k : ∀ ls' : Array Slot, lv_has ls' nL lv' → W p l e R s m args below meth c H locs cells slots Q (F0 m (pc + 2) ls' rest)) : W p l e R s m args below meth c H locs cells slots Q (F0 m pc ls (.long x :: rest)) := lv_lstore C.1.1 C.1.2.1 hdg hl hn he k
theorem g_astore_n (C : gC D G Ts own cc nL p s m args meth c) {x : Nat} {lv : List (Nat × Value)} (lv' : List (Nat × Value)) {q : Fin 4} {i : Nat} (hdg : decode cc pc = .ok (.astore_n q, 1)) (hi : (q : Nat) = i) (hl : lv_has ls nL lv) (hn : i < nL) (he : (i, Value.ref x) :: lv.filter (fun q => !(q.1 == i) && !(q.1 + 1 == i && q.2.category == 2)) = lv')
    (k : ∀ ls' : Array Slot, lv_has ls' nL lv' → W p l e R s m args below meth c H locs cells slots Q (F0 m (pc + 1) ls' rest)) : W p l e R s m args below meth c H locs cells slots Q (F0 m pc ls (.ref x :: rest)) := lv_astore_n C.1.1 C.1.2.1 hdg hi hl hn he k
theorem g_astore (C : gC D G Ts own cc nL p s m args meth c) {x : Nat} {lv : List (Nat × Value)} (lv' : List (Nat × Value)) {i : Nat} (hdg : decode cc pc = .ok (.astore i, 2)) (hl : lv_has ls nL lv) (hn : i < nL) (he : (i, Value.ref x) :: lv.filter (fun q => !(q.1 == i) && !(q.1 + 1 == i && q.2.category == 2)) = lv')
    (k : ∀ ls' : Array Slot, lv_has ls' nL lv' → W p l e R s m args below meth c H locs cells slots Q (F0 m (pc + 2) ls' rest)) : W p l e R s m args below meth c H locs cells slots Q (F0 m pc ls (.ref x :: rest)) := lv_astore C.1.1 C.1.2.1 hdg hl hn he k
theorem g_astoreN (C : gC D G Ts own cc nL p s m args meth c) {lv : List (Nat × Value)} (lv' : List (Nat × Value)) {i : Nat} (hdg : decode cc pc = .ok (.astore i, 2)) (hl : lv_has ls nL lv) (hn : i < nL) (he : (i, Value.null) :: lv.filter (fun q => !(q.1 == i) && !(q.1 + 1 == i && q.2.category == 2)) = lv')
    (k : ∀ ls' : Array Slot, lv_has ls' nL lv' → W p l e R s m args below meth c H locs cells slots Q (F0 m (pc + 2) ls' rest)) : W p l e R s m args below meth c H locs cells slots Q (F0 m pc ls (.null :: rest)) := lv_astoreN C.1.1 C.1.2.1 hdg hl hn he k
theorem g_iinc (C : gC D G Ts own cc nL p s m args meth c) {x n : Int} {lv : List (Nat × Value)} (lv' : List (Nat × Value)) (j : Nat) {i : Nat} (hdg : decode cc pc = .ok (.iinc i n, 3)) (hl : lv_has ls nL lv) (hj : lv[j]? = some (i, .int (iI x))) (hn : i < nL) (he : (i, Value.int (iI (x + n))) :: lv.filter (fun q => !(q.1 == i) && !(q.1 + 1 == i && q.2.category == 2)) = lv')
    (k : ∀ ls' : Array Slot, lv_has ls' nL lv' → W p l e R s m args below meth c H locs cells slots Q (F0 m (pc + 3) ls' rest)) : W p l e R s m args below meth c H locs cells slots Q (F0 m pc ls rest) := lv_iinc C.1.1 C.1.2.1 hdg hl hj (iI_add x n) hn he k
/-! arithmetic -/
theorem g_iadd (C : gC D G Ts own cc nL p s m args meth c) {a b : Int} (hdg : decode cc pc = .ok (.iadd, 1))
    (k : W p l e R s m args below meth c H locs cells slots Q (F0 m (pc + 1) ls (.int (iI (a + b)) :: rest))) : W p l e R s m args below meth c H locs cells slots Q (F0 m pc ls (.int (iI b) :: .int (iI a) :: rest)) := lv_iadd C.1.1 C.1.2.1 hdg (by rw [iI_add]; exact k)
theorem g_isub (C : gC D G Ts own cc nL p s m args meth c) {a b : Int} (hdg : decode cc pc = .ok (.isub, 1))
    (k : W p l e R s m args below meth c H locs cells slots Q (F0 m (pc + 1) ls (.int (iI (a - b)) :: rest))) : W p l e R s m args below meth c H locs cells slots Q (F0 m pc ls (.int (iI b) :: .int (iI a) :: rest)) := lv_isub C.1.1 C.1.2.1 hdg (by rw [iI_sub]; exact k)
theorem g_imul (C : gC D G Ts own cc nL p s m args meth c) {a b : Int} (hdg : decode cc pc = .ok (.imul, 1))
    (k : W p l e R s m args below meth c H locs cells slots Q (F0 m (pc + 1) ls (.int (iI (a * b)) :: rest))) : W p l e R s m args below meth c H locs cells slots Q (F0 m pc ls (.int (iI b) :: .int (iI a) :: rest)) := lv_imul C.1.1 C.1.2.1 hdg (by rw [iI_mul]; exact k)
theorem g_ladd (C : gC D G Ts own cc nL p s m args meth c) {a b : Int} (hdg : decode cc pc = .ok (.ladd, 1))
    (k : W p l e R s m args below meth c H locs cells slots Q (F0 m (pc + 1) ls (.long (lI (a + b)) :: rest))) : W p l e R s m args below meth c H locs cells slots Q (F0 m pc ls (.long (lI b) :: .long (lI a) :: rest)) := lv_ladd C.1.1 C.1.2.1 hdg (by rw [lI_add]; exact k)
theorem g_lsub (C : gC D G Ts own cc nL p s m args meth c) {a b : Int} (hdg : decode cc pc = .ok (.lsub, 1))
    (k : W p l e R s m args below meth c H locs cells slots Q (F0 m (pc + 1) ls (.long (lI (a - b)) :: rest))) : W p l e R s m args below meth c H locs cells slots Q (F0 m pc ls (.long (lI b) :: .long (lI a) :: rest)) := lv_lsub C.1.1 C.1.2.1 hdg (by rw [lI_sub]; exact k)
theorem g_lmul (C : gC D G Ts own cc nL p s m args meth c) {a b : Int} (hdg : decode cc pc = .ok (.lmul, 1))
    (k : W p l e R s m args below meth c H locs cells slots Q (F0 m (pc + 1) ls (.long (lI (a * b)) :: rest))) : W p l e R s m args below meth c H locs cells slots Q (F0 m pc ls (.long (lI b) :: .long (lI a) :: rest)) := lv_lmul C.1.1 C.1.2.1 hdg (by rw [lI_mul]; exact k)
theorem g_ineg (C : gC D G Ts own cc nL p s m args meth c) {a : Int} (hdg : decode cc pc = .ok (.ineg, 1))
    (k : W p l e R s m args below meth c H locs cells slots Q (F0 m (pc + 1) ls (.int (iI (-a)) :: rest))) : W p l e R s m args below meth c H locs cells slots Q (F0 m pc ls (.int (iI a) :: rest)) := lv_ineg C.1.1 C.1.2.1 hdg (by rw [iI_neg]; exact k)
theorem g_lneg (C : gC D G Ts own cc nL p s m args meth c) {a : Int} (hdg : decode cc pc = .ok (.lneg, 1))
    (k : W p l e R s m args below meth c H locs cells slots Q (F0 m (pc + 1) ls (.long (lI (-a)) :: rest))) : W p l e R s m args below meth c H locs cells slots Q (F0 m pc ls (.long (lI a) :: rest)) := lv_lneg C.1.1 C.1.2.1 hdg (by rw [lI_neg]; exact k)
theorem g_i2l (C : gC D G Ts own cc nL p s m args meth c) {a : Int} (hdg : decode cc pc = .ok (.i2l, 1)) (ha : -2147483648 ≤ a ∧ a ≤ 2147483647)
    (k : W p l e R s m args below meth c H locs cells slots Q (F0 m (pc + 1) ls (.long (lI a) :: rest))) : W p l e R s m args below meth c H locs cells slots Q (F0 m pc ls (.int (iI a) :: rest)) := lv_i2l C.1.1 C.1.2.1 hdg (iI_l ha) k
theorem g_l2i (C : gC D G Ts own cc nL p s m args meth c) {a : Int} (hdg : decode cc pc = .ok (.l2i, 1))
    (k : W p l e R s m args below meth c H locs cells slots Q (F0 m (pc + 1) ls (.int (iI a) :: rest))) : W p l e R s m args below meth c H locs cells slots Q (F0 m pc ls (.long (lI a) :: rest)) := lv_l2i C.1.1 C.1.2.1 hdg (lI_i a) k
theorem g_idiv (C : gC D G Ts own cc nL p s m args meth c) {a b : Int} (hdg : decode cc pc = .ok (.idiv, 1)) (ha : -2147483647 ≤ a ∧ a ≤ 2147483647) (hb : 0 < b ∧ b ≤ 2147483647)
    (k : W p l e R s m args below meth c H locs cells slots Q (F0 m (pc + 1) ls (.int (iI (a.tdiv b)) :: rest))) : W p l e R s m args below meth c H locs cells slots Q (F0 m pc ls (.int (iI b) :: .int (iI a) :: rest)) := lv_idiv C.1.1 C.1.2.1 hdg (fun h => by have q := (iI_eq (a := b) (b := 0) (by omega) (by omega)).mp (h.trans iI_0.symm); omega) (by rw [iI_div ha hb]; exact k)
theorem g_irem (C : gC D G Ts own cc nL p s m args meth c) {a b : Int} (hdg : decode cc pc = .ok (.irem, 1)) (ha : -2147483647 ≤ a ∧ a ≤ 2147483647) (hb : 0 < b ∧ b ≤ 2147483647)
    (k : W p l e R s m args below meth c H locs cells slots Q (F0 m (pc + 1) ls (.int (iI (a - a.tdiv b * b)) :: rest))) : W p l e R s m args below meth c H locs cells slots Q (F0 m pc ls (.int (iI b) :: .int (iI a) :: rest)) := lv_irem C.1.1 C.1.2.1 hdg (fun h => by have q := (iI_eq (a := b) (b := 0) (by omega) (by omega)).mp (h.trans iI_0.symm); omega) (by rw [iI_div ha hb, iI_mul, iI_sub]; exact k)
theorem g_ldiv (C : gC D G Ts own cc nL p s m args meth c) {a b : Int} (hdg : decode cc pc = .ok (.ldiv, 1)) (ha : -9223372036854775807 ≤ a ∧ a ≤ 9223372036854775807) (hb : 0 < b ∧ b ≤ 9223372036854775807)
    (k : W p l e R s m args below meth c H locs cells slots Q (F0 m (pc + 1) ls (.long (lI (a.tdiv b)) :: rest))) : W p l e R s m args below meth c H locs cells slots Q (F0 m pc ls (.long (lI b) :: .long (lI a) :: rest)) := lv_ldiv C.1.1 C.1.2.1 hdg (fun h => by have q := (lI_eq (a := b) (b := 0) (by omega) (by omega)).mp (h.trans (by decide +kernel)); omega) (by rw [lI_div ha hb]; exact k)
theorem g_lrem (C : gC D G Ts own cc nL p s m args meth c) {a b : Int} (hdg : decode cc pc = .ok (.lrem, 1)) (ha : -9223372036854775807 ≤ a ∧ a ≤ 9223372036854775807) (hb : 0 < b ∧ b ≤ 9223372036854775807)
    (k : W p l e R s m args below meth c H locs cells slots Q (F0 m (pc + 1) ls (.long (lI (a - a.tdiv b * b)) :: rest))) : W p l e R s m args below meth c H locs cells slots Q (F0 m pc ls (.long (lI b) :: .long (lI a) :: rest)) := lv_lrem C.1.1 C.1.2.1 hdg (fun h => by have q := (lI_eq (a := b) (b := 0) (by omega) (by omega)).mp (h.trans (by decide +kernel)); omega) (by rw [lI_div ha hb, lI_mul, lI_sub]; exact k)
theorem g_dup (C : gC D G Ts own cc nL p s m args meth c) {v : Value} (hdg : decode cc pc = .ok (.dup, 1)) (hv : v.category = 1)
    (k : W p l e R s m args below meth c H locs cells slots Q (F0 m (pc + 1) ls (v :: v :: rest))) : W p l e R s m args below meth c H locs cells slots Q (F0 m pc ls (v :: rest)) := lv_dup C.1.1 C.1.2.1 hdg hv k
theorem g_dup2 (C : gC D G Ts own cc nL p s m args meth c) {v w : Value} (hdg : decode cc pc = .ok (.dup2, 1)) (hv : v.category = 1) (hw : w.category = 1)
    (k : W p l e R s m args below meth c H locs cells slots Q (F0 m (pc + 1) ls (v :: w :: v :: w :: rest))) : W p l e R s m args below meth c H locs cells slots Q (F0 m pc ls (v :: w :: rest)) := lv_dup2_11 C.1.1 C.1.2.1 hdg hv hw k
theorem g_null (C : gC D G Ts own cc nL p s m args meth c) (hdg : decode cc pc = .ok (.aconst_null, 1))
    (k : W p l e R s m args below meth c H locs cells slots Q (F0 m (pc + 1) ls (.null :: rest))) : W p l e R s m args below meth c H locs cells slots Q (F0 m pc ls (rest)) := lv_null C.1.1 C.1.2.1 hdg k
theorem g_ior (C : gC D G Ts own cc nL p s m args meth c) {x y : Int32} (hdg : decode cc pc = .ok (.ior, 1))
    (k : W p l e R s m args below meth c H locs cells slots Q (F0 m (pc + 1) ls (.int (x ||| y) :: rest))) : W p l e R s m args below meth c H locs cells slots Q (F0 m pc ls (.int y :: .int x :: rest)) := lv_ior C.1.1 C.1.2.1 hdg k
theorem g_iand (C : gC D G Ts own cc nL p s m args meth c) {x y : Int32} (hdg : decode cc pc = .ok (.iand, 1))
    (k : W p l e R s m args below meth c H locs cells slots Q (F0 m (pc + 1) ls (.int (x &&& y) :: rest))) : W p l e R s m args below meth c H locs cells slots Q (F0 m pc ls (.int y :: .int x :: rest)) := lv_iand C.1.1 C.1.2.1 hdg k
theorem g_ishl (C : gC D G Ts own cc nL p s m args meth c) {x y : Int32} (hdg : decode cc pc = .ok (.ishl, 1))
    (k : W p l e R s m args below meth c H locs cells slots Q (F0 m (pc + 1) ls (.int (x <<< (y &&& 31)) :: rest))) : W p l e R s m args below meth c H locs cells slots Q (F0 m pc ls (.int y :: .int x :: rest)) := lv_ishl C.1.1 C.1.2.1 hdg k
theorem g_i2b (C : gC D G Ts own cc nL p s m args meth c) {x : Int32} (hdg : decode cc pc = .ok (.i2b, 1))
    (k : W p l e R s m args below meth c H locs cells slots Q (F0 m (pc + 1) ls (.int x.toInt8.toInt32 :: rest))) : W p l e R s m args below meth c H locs cells slots Q (F0 m pc ls (.int x :: rest)) := lv_i2b C.1.1 C.1.2.1 hdg rfl k
theorem g_i2s (C : gC D G Ts own cc nL p s m args meth c) {x : Int32} (hdg : decode cc pc = .ok (.i2s, 1))
    (k : W p l e R s m args below meth c H locs cells slots Q (F0 m (pc + 1) ls (.int x.toInt16.toInt32 :: rest))) : W p l e R s m args below meth c H locs cells slots Q (F0 m pc ls (.int x :: rest)) := lv_i2s C.1.1 C.1.2.1 hdg rfl k
theorem g_topi {x y : Int32} (h : x = y) (k : W p l e R s m args below meth c H locs cells slots Q (F0 m pc ls (.int y :: rest))) : W p l e R s m args below meth c H locs cells slots Q (F0 m pc ls (.int x :: rest)) := by
  subst h
  exact k
theorem g_topl {x y : Int64} (h : x = y) (k : W p l e R s m args below meth c H locs cells slots Q (F0 m pc ls (.long y :: rest))) : W p l e R s m args below meth c H locs cells slots Q (F0 m pc ls (.long x :: rest)) := by
  subst h
  exact k
theorem g_nI {a b : Int} (h : a = b) (k : W p l e R s m args below meth c H locs cells slots Q (F0 m pc ls (.int (iI b) :: rest))) : W p l e R s m args below meth c H locs cells slots Q (F0 m pc ls (.int (iI a) :: rest)) := by
  subst h
  exact k
theorem g_nL {a b : Int} (h : a = b) (k : W p l e R s m args below meth c H locs cells slots Q (F0 m pc ls (.long (lI b) :: rest))) : W p l e R s m args below meth c H locs cells slots Q (F0 m pc ls (.long (lI a) :: rest)) := by
  subst h
  exact k
theorem g_goto (C : gC D G Ts own cc nL p s m args meth c) {off : Int} (tgt : Nat) (hdg : decode cc pc = .ok (.goto off, 3)) (ht : (pc : Int) + off = (tgt : Int)) (k : W p l e R s m args below meth c H locs cells slots Q (F0 m tgt ls rest)) : W p l e R s m args below meth c H locs cells slots Q (F0 m pc ls rest) := lv_goto C.1.1 C.1.2.1 hdg ht k
theorem g_loc {ls2 : Array Slot} {lv : List (Nat × Value)} (lv2 : List (Nat × Value)) (hl : lv_has ls nL lv) (js : List Nat) (he : lv_pick lv js = lv2) (k : lv_has ls nL lv2 → W p l e R s m args below meth c H locs cells slots Q (F0 m pc ls rest)) : W p l e R s m args below meth c H locs cells slots Q (F0 m pc ls rest) := k (lv_sub hl js he)
/-! branches -/
theorem iI_lt0 {a : Int} (h : -2147483648 ≤ a ∧ a ≤ 2147483647) : iI a < 0 ↔ a < 0 := by rw [← iI_0]; exact iI_lt h (by decide)
theorem iI_le0 {a : Int} (h : -2147483648 ≤ a ∧ a ≤ 2147483647) : iI a ≤ 0 ↔ a ≤ 0 := by rw [← iI_0]; exact iI_le h (by decide)
theorem iI_0lt {a : Int} (h : -2147483648 ≤ a ∧ a ≤ 2147483647) : 0 < iI a ↔ 0 < a := by rw [← iI_0]; exact iI_lt (by decide) h
theorem iI_0le {a : Int} (h : -2147483648 ≤ a ∧ a ≤ 2147483647) : 0 ≤ iI a ↔ 0 ≤ a := by rw [← iI_0]; exact iI_le (by decide) h
theorem iI_eq0 {a : Int} (h : -2147483648 ≤ a ∧ a ≤ 2147483647) : iI a = 0 ↔ a = 0 := by rw [← iI_0]; exact iI_eq h (by decide)
theorem g_if_eq (C : gC D G Ts own cc nL p s m args meth c) {a off : Int} (tgt : Nat) (hdg : decode cc pc = .ok (.ifCond .eq off, 3)) (ht : (pc : Int) + off = (tgt : Int)) (ha : -2147483648 ≤ a ∧ a ≤ 2147483647)
    (kt : a = 0 → W p l e R s m args below meth c H locs cells slots Q (F0 m tgt ls rest)) (kf : ¬ a = 0 → W p l e R s m args below meth c H locs cells slots Q (F0 m (pc + 3) ls rest)) : W p l e R s m args below meth c H locs cells slots Q (F0 m pc ls (.int (iI a) :: rest)) := lv_if_eq C.1.1 C.1.2.1 hdg ht (fun h => kt ((iI_eq0 ha).mp h)) (fun h => kf (fun q => h ((iI_eq0 ha).mpr q)))
theorem g_icmp_eq (C : gC D G Ts own cc nL p s m args meth c) {a b off : Int} (tgt : Nat) (hdg : decode cc pc = .ok (.if_icmp .eq off, 3)) (ht : (pc : Int) + off = (tgt : Int)) (ha : -2147483648 ≤ a ∧ a ≤ 2147483647) (hb : -2147483648 ≤ b ∧ b ≤ 2147483647)
    (kt : a = b → W p l e R s m args below meth c H locs cells slots Q (F0 m tgt ls rest)) (kf : ¬ a = b → W p l e R s m args below meth c H locs cells slots Q (F0 m (pc + 3) ls rest)) : W p l e R s m args below meth c H locs cells slots Q (F0 m pc ls (.int (iI b) :: .int (iI a) :: rest)) := lv_icmp_eq C.1.1 C.1.2.1 hdg ht (fun h => kt ((iI_eq ha hb).mp h)) (fun h => kf (fun q => h ((iI_eq ha hb).mpr q)))
theorem g_lcmp_eq (C : gC D G Ts own cc nL p s m args meth c) {a b off : Int} (tgt : Nat) (hd1 : decode cc pc = .ok (.lcmp, 1)) (hdg : decode cc (pc + 1) = .ok (.ifCond .eq off, 3)) (ht : ((pc + 1 : Nat) : Int) + off = (tgt : Int)) (ha : -9223372036854775808 ≤ a ∧ a ≤ 9223372036854775807) (hb : -9223372036854775808 ≤ b ∧ b ≤ 9223372036854775807)
    (kt : a = b → W p l e R s m args below meth c H locs cells slots Q (F0 m tgt ls rest)) (kf : ¬ a = b → W p l e R s m args below meth c H locs cells slots Q (F0 m (pc + 4) ls rest)) : W p l e R s m args below meth c H locs cells slots Q (F0 m pc ls (.long (lI b) :: .long (lI a) :: rest)) := W.lcmp C.1.1 C.1.2.1 hd1 (lv_if_eq C.1.1 C.1.2.1 hdg ht (fun h => kt (((lg_cmp_eq (lI a) (lI b)).trans (lI_eq ha hb)).mp h)) (fun h => kf (fun q => h (((lg_cmp_eq (lI a) (lI b)).trans (lI_eq ha hb)).mpr q))))
theorem g_if_ne (C : gC D G Ts own cc nL p s m args meth c) {a off : Int} (tgt : Nat) (hdg : decode cc pc = .ok (.ifCond .ne off, 3)) (ht : (pc : Int) + off = (tgt : Int)) (ha : -2147483648 ≤ a ∧ a ≤ 2147483647)
    (kt : ¬ a = 0 → W p l e R s m args below meth c H locs cells slots Q (F0 m tgt ls rest)) (kf : a = 0 → W p l e R s m args below meth c H locs cells slots Q (F0 m (pc + 3) ls rest)) : W p l e R s m args below meth c H locs cells slots Q (F0 m pc ls (.int (iI a) :: rest)) := lv_if_ne C.1.1 C.1.2.1 hdg ht (fun h => kt (fun q => h ((iI_eq0 ha).mpr q))) (fun h => kf ((iI_eq0 ha).mp h))
theorem g_icmp_ne (C : gC D G Ts own cc nL p s m args meth c) {a b off : Int} (tgt : Nat) (hdg : decode cc pc = .ok (.if_icmp .ne off, 3)) (ht : (pc : Int) + off = (tgt : Int)) (ha : -2147483648 ≤ a ∧ a ≤ 2147483647) (hb : -2147483648 ≤ b ∧ b ≤ 2147483647)
    (kt : ¬ a = b → W p l e R s m args below meth c H locs cells slots Q (F0 m tgt ls rest)) (kf : a = b → W p l e R s m args below meth c H locs cells slots Q (F0 m (pc + 3) ls rest)) : W p l e R s m args below meth c H locs cells slots Q (F0 m pc ls (.int (iI b) :: .int (iI a) :: rest)) := lv_icmp_ne C.1.1 C.1.2.1 hdg ht (fun h => kt (fun q => h ((iI_eq ha hb).mpr q))) (fun h => kf ((iI_eq ha hb).mp h))
theorem g_lcmp_ne (C : gC D G Ts own cc nL p s m args meth c) {a b off : Int} (tgt : Nat) (hd1 : decode cc pc = .ok (.lcmp, 1)) (hdg : decode cc (pc + 1) = .ok (.ifCond .ne off, 3)) (ht : ((pc + 1 : Nat) : Int) + off = (tgt : Int)) (ha : -9223372036854775808 ≤ a ∧ a ≤ 9223372036854775807) (hb : -9223372036854775808 ≤ b ∧ b ≤ 9223372036854775807)
    (kt : ¬ a = b → W p l e R s m args below meth c H locs cells slots Q (F0 m tgt ls rest)) (kf : a = b → W p l e R s m args below meth c H locs cells slots Q (F0 m (pc + 4) ls rest)) : W p l e R s m args below meth c H locs cells slots Q (F0 m pc ls (.long (lI b) :: .long (lI a) :: rest)) := W.lcmp C.1.1 C.1.2.1 hd1 (lv_if_ne C.1.1 C.1.2.1 hdg ht (fun h => kt (fun q => h (((lg_cmp_eq (lI a) (lI b)).trans (lI_eq ha hb)).mpr q))) (fun h => kf (((lg_cmp_eq (lI a) (lI b)).trans (lI_eq ha hb)).mp h)))
theorem g_if_lt (C : gC D G Ts own cc nL p s m args meth c) {a off : Int} (tgt : Nat) (hdg : decode cc pc = .ok (.ifCond .lt off, 3)) (ht : (pc : Int) + off = (tgt : Int)) (ha : -2147483648 ≤ a ∧ a ≤ 2147483647)
    (kt : a < 0 → W p l e R s m args below meth c H locs cells slots Q (F0 m tgt ls rest)) (kf : ¬ a < 0 → W p l e R s m args below meth c H locs cells slots Q (F0 m (pc + 3) ls rest)) : W p l e R s m args below meth c H locs cells slots Q (F0 m pc ls (.int (iI a) :: rest)) := lv_if_lt C.1.1 C.1.2.1 hdg ht (fun h => kt ((iI_lt0 ha).mp h)) (fun h => kf (fun q => h ((iI_lt0 ha).mpr q)))
theorem g_icmp_lt (C : gC D G Ts own cc nL p s m args meth c) {a b off : Int} (tgt : Nat) (hdg : decode cc pc = .ok (.if_icmp .lt off, 3)) (ht : (pc : Int) + off = (tgt : Int)) (ha : -2147483648 ≤ a ∧ a ≤ 2147483647) (hb : -2147483648 ≤ b ∧ b ≤ 2147483647)
    (kt : a < b → W p l e R s m args below meth c H locs cells slots Q (F0 m tgt ls rest)) (kf : ¬ a < b → W p l e R s m args below meth c H locs cells slots Q (F0 m (pc + 3) ls rest)) : W p l e R s m args below meth c H locs cells slots Q (F0 m pc ls (.int (iI b) :: .int (iI a) :: rest)) := lv_icmp_lt C.1.1 C.1.2.1 hdg ht (fun h => kt ((iI_lt ha hb).mp h)) (fun h => kf (fun q => h ((iI_lt ha hb).mpr q)))
theorem g_lcmp_lt (C : gC D G Ts own cc nL p s m args meth c) {a b off : Int} (tgt : Nat) (hd1 : decode cc pc = .ok (.lcmp, 1)) (hdg : decode cc (pc + 1) = .ok (.ifCond .lt off, 3)) (ht : ((pc + 1 : Nat) : Int) + off = (tgt : Int)) (ha : -9223372036854775808 ≤ a ∧ a ≤ 9223372036854775807) (hb : -9223372036854775808 ≤ b ∧ b ≤ 9223372036854775807)
    (kt : a < b → W p l e R s m args below meth c H locs cells slots Q (F0 m tgt ls rest)) (kf : ¬ a < b → W p l e R s m args below meth c H locs cells slots Q (F0 m (pc + 4) ls rest)) : W p l e R s m args below meth c H locs cells slots Q (F0 m pc ls (.long (lI b) :: .long (lI a) :: rest)) := W.lcmp C.1.1 C.1.2.1 hd1 (lv_if_lt C.1.1 C.1.2.1 hdg ht (fun h => kt (((lg_cmp_lt (lI a) (lI b)).trans (lI_lt ha hb)).mp h)) (fun h => kf (fun q => h (((lg_cmp_lt (lI a) (lI b)).trans (lI_lt ha hb)).mpr q))))
theorem g_if_ge (C : gC D G Ts own cc nL p s m args meth c) {a off : Int} (tgt : Nat) (hdg : decode cc pc = .ok (.ifCond .ge off, 3)) (ht : (pc : Int) + off = (tgt : Int)) (ha : -2147483648 ≤ a ∧ a ≤ 2147483647)
    (kt : 0 ≤ a → W p l e R s m args below meth c H locs cells slots Q (F0 m tgt ls rest)) (kf : ¬ 0 ≤ a → W p l e R s m args below meth c H locs cells slots Q (F0 m (pc + 3) ls rest)) : W p l e R s m args below meth c H locs cells slots Q (F0 m pc ls (.int (iI a) :: rest)) := lv_if_ge C.1.1 C.1.2.1 hdg ht (fun h => kt ((iI_0le ha).mp h)) (fun h => kf (fun q => h ((iI_0le ha).mpr q)))
theorem g_icmp_ge (C : gC D G Ts own cc nL p s m args meth c) {a b off : Int} (tgt : Nat) (hdg : decode cc pc = .ok (.if_icmp .ge off, 3)) (ht : (pc : Int) + off = (tgt : Int)) (ha : -2147483648 ≤ a ∧ a ≤ 2147483647) (hb : -2147483648 ≤ b ∧ b ≤ 2147483647)
    (kt : b ≤ a → W p l e R s m args below meth c H locs cells slots Q (F0 m tgt ls rest)) (kf : ¬ b ≤ a → W p l e R s m args below meth c H locs cells slots Q (F0 m (pc + 3) ls rest)) : W p l e R s m args below meth c H locs cells slots Q (F0 m pc ls (.int (iI b) :: .int (iI a) :: rest)) := lv_icmp_ge C.1.1 C.1.2.1 hdg ht (fun h => kt ((iI_le hb ha).mp h)) (fun h => kf (fun q => h ((iI_le hb ha).mpr q)))
theorem g_lcmp_ge (C : gC D G Ts own cc nL p s m args meth c) {a b off : Int} (tgt : Nat) (hd1 : decode cc pc = .ok (.lcmp, 1)) (hdg : decode cc (pc + 1) = .ok (.ifCond .ge off, 3)) (ht : ((pc + 1 : Nat) : Int) + off = (tgt : Int)) (ha : -9223372036854775808 ≤ a ∧ a ≤ 9223372036854775807) (hb : -9223372036854775808 ≤ b ∧ b ≤ 9223372036854775807)
    (kt : b ≤ a → W p l e R s m args below meth c H locs cells slots Q (F0 m tgt ls rest)) (kf : ¬ b ≤ a → W p l e R s m args below meth c H locs cells slots Q (F0 m (pc + 4) ls rest)) : W p l e R s m args below meth c H locs cells slots Q (F0 m pc ls (.long (lI b) :: .long (lI a) :: rest)) := W.lcmp C.1.1 C.1.2.1 hd1 (lv_if_ge C.1.1 C.1.2.1 hdg ht (fun h => kt (((lg_cmp_ge (lI a) (lI b)).trans (lI_le hb ha)).mp h)) (fun h => kf (fun q => h (((lg_cmp_ge (lI a) (lI b)).trans (lI_le hb ha)).mpr q))))
theorem g_if_gt (C : gC D G Ts own cc nL p s m args meth c) {a off : Int} (tgt : Nat) (hdg : decode cc pc = .ok (.ifCond .gt off, 3)) (ht : (pc : Int) + off = (tgt : Int)) (ha : -2147483648 ≤ a ∧ a ≤ 2147483647)
    (kt : 0 < a → W p l e R s m args below meth c H locs cells slots Q (F0 m tgt ls rest)) (kf : ¬ 0 < a → W p l e R s m args below meth c H locs cells slots Q (F0 m (pc + 3) ls rest)) : W p l e R s m args below meth c H locs cells slots Q (F0 m pc ls (.int (iI a) :: rest)) := lv_if_gt C.1.1 C.1.2.1 hdg ht (fun h => kt ((iI_0lt ha).mp h)) (fun h => kf (fun q => h ((iI_0lt ha).mpr q)))
theorem g_icmp_gt (C : gC D G Ts own cc nL p s m args meth c) {a b off : Int} (tgt : Nat) (hdg : decode cc pc = .ok (.if_icmp .gt off, 3)) (ht : (pc : Int) + off = (tgt : Int)) (ha : -2147483648 ≤ a ∧ a ≤ 2147483647) (hb : -2147483648 ≤ b ∧ b ≤ 2147483647)
    (kt : b < a → W p l e R s m args below meth c H locs cells slots Q (F0 m tgt ls rest)) (kf : ¬ b < a → W p l e R s m args below meth c H locs cells slots Q (F0 m (pc + 3) ls rest)) : W p l e R s m args below meth c H locs cells slots Q (F0 m pc ls (.int (iI b) :: .int (iI a) :: rest)) := lv_icmp_gt C.1.1 C.1.2.1 hdg ht (fun h => kt ((iI_lt hb ha).mp h)) (fun h => kf (fun q => h ((iI_lt hb ha).mpr q)))
theorem g_lcmp_gt (C : gC D G Ts own cc nL p s m args meth c) {a b off : Int} (tgt : Nat) (hd1 : decode cc pc = .ok (.lcmp, 1)) (hdg : decode cc (pc + 1) = .ok (.ifCond .gt off, 3)) (ht : ((pc + 1 : Nat) : Int) + off = (tgt : Int)) (ha : -9223372036854775808 ≤ a ∧ a ≤ 9223372036854775807) (hb : -9223372036854775808 ≤ b ∧ b ≤ 9223372036854775807)
    (kt : b < a → W p l e R s m args below meth c H locs cells slots Q (F0 m tgt ls rest)) (kf : ¬ b < a → W p l e R s m args below meth c H locs cells slots Q (F0 m (pc + 4) ls rest)) : W p l e R s m args below meth c H locs cells slots Q (F0 m pc ls (.long (lI b) :: .long (lI a) :: rest)) := W.lcmp C.1.1 C.1.2.1 hd1 (lv_if_gt C.1.1 C.1.2.1 hdg ht (fun h => kt (((lg_cmp_gt (lI a) (lI b)).trans (lI_lt hb ha)).mp h)) (fun h => kf (fun q => h (((lg_cmp_gt (lI a) (lI b)).trans (lI_lt hb ha)).mpr q))))
theorem g_if_le (C : gC D G Ts own cc nL p s m args meth c) {a off : Int} (tgt : Nat) (hdg : decode cc pc = .ok (.ifCond .le off, 3)) (ht : (pc : Int) + off = (tgt : Int)) (ha : -2147483648 ≤ a ∧ a ≤ 2147483647)
    (kt : a ≤ 0 → W p l e R s m args below meth c H locs cells slots Q (F0 m tgt ls rest)) (kf : ¬ a ≤ 0 → W p l e R s m args below meth c H locs cells slots Q (F0 m (pc + 3) ls rest)) : W p l e R s m args below meth c H locs cells slots Q (F0 m pc ls (.int (iI a) :: rest)) := lv_if_le C.1.1 C.1.2.1 hdg ht (fun h => kt ((iI_le0 ha).mp h)) (fun h => kf (fun q => h ((iI_le0 ha).mpr q)))
theorem g_icmp_le (C : gC D G Ts own cc nL p s m args meth c) {a b off : Int} (tgt : Nat) (hdg : decode cc pc = .ok (.if_icmp .le off, 3)) (ht : (pc : Int) + off = (tgt : Int)) (ha : -2147483648 ≤ a ∧ a ≤ 2147483647) (hb : -2147483648 ≤ b ∧ b ≤ 2147483647)
    (kt : a ≤ b → W p l e R s m args below meth c H locs cells slots Q (F0 m tgt ls rest)) (kf : ¬ a ≤ b → W p l e R s m args below meth c H locs cells slots Q (F0 m (pc + 3) ls rest)) : W p l e R s m args below meth c H locs cells slots Q (F0 m pc ls (.int (iI b) :: .int (iI a) :: rest)) := lv_icmp_le C.1.1 C.1.2.1 hdg ht (fun h => kt ((iI_le ha hb).mp h)) (fun h => kf (fun q => h ((iI_le ha hb).mpr q)))
theorem g_lcmp_le (C : gC D G Ts own cc nL p s m args meth c) {a b off : Int} (tgt : Nat) (hd1 : decode cc pc = .ok (.lcmp, 1)) (hdg : decode cc (pc + 1) = .ok (.ifCond .le off, 3)) (ht : ((pc + 1 : Nat) : Int) + off = (tgt : Int)) (ha : -9223372036854775808 ≤ a ∧ a ≤ 9223372036854775807) (hb : -9223372036854775808 ≤ b ∧ b ≤ 9223372036854775807)
    (kt : a ≤ b → W p l e R s m args below meth c H locs cells slots Q (F0 m tgt ls rest)) (kf : ¬ a ≤ b → W p l e R s m args below meth c H locs cells slots Q (F0 m (pc + 4) ls rest)) : W p l e R s m args below meth c H locs cells slots Q (F0 m pc ls (.long (lI b) :: .long (lI a) :: rest)) := W.lcmp C.1.1 C.1.2.1 hd1 (lv_if_le C.1.1 C.1.2.1 hdg ht (fun h => kt (((lg_cmp_le (lI a) (lI b)).trans (lI_le ha hb)).mp h)) (fun h => kf (fun q => h (((lg_cmp_le (lI a) (lI b)).trans (lI_le ha hb)).mpr q))))
theorem g_ifb_eq (C : gC D G Ts own cc nL p s m args meth c) {P : Prop} {dP : Decidable P} {off : Int} (tgt : Nat) (hdg : decode cc pc = .ok (.ifCond .eq off, 3)) (ht : (pc : Int) + off = (tgt : Int))
    (kt : ¬ P → W p l e R s m args below meth c H locs cells slots Q (F0 m tgt ls rest)) (kf : P → W p l e R s m args below meth c H locs cells slots Q (F0 m (pc + 3) ls rest)) : W p l e R s m args below meth c H locs cells slots Q (F0 m pc ls (.int (iI (bI P)) :: rest)) :=
  g_if_eq C tgt hdg ht (by have := bI_r P; omega) (fun h => kt (bI_0.mp h)) (fun h => kf (Classical.byContradiction (fun q => h (bI_f q))))
theorem g_ifb_ne (C : gC D G Ts own cc nL p s m args meth c) {P : Prop} {dP : Decidable P} {off : Int} (tgt : Nat) (hdg : decode cc pc = .ok (.ifCond .ne off, 3)) (ht : (pc : Int) + off = (tgt : Int))
    (kt : P → W p l e R s m args below meth c H locs cells slots Q (F0 m tgt ls rest)) (kf : ¬ P → W p l e R s m args below meth c H locs cells slots Q (F0 m (pc + 3) ls rest)) : W p l e R s m args below meth c H locs cells slots Q (F0 m pc ls (.int (iI (bI P)) :: rest)) :=
  g_if_ne C tgt hdg ht (by have := bI_r P; omega) (fun h => kt (Classical.byContradiction (fun q => h (bI_f q)))) (fun h => kf (bI_0.mp h))
theorem g_ifnullR (C : gC D G Ts own cc nL p s m args meth c) {x : Nat} {off : Int} (hdg : decode cc pc = .ok (.ifnull off, 3)) (k : W p l e R s m args below meth c H locs cells slots Q (F0 m (pc + 3) ls rest)) : W p l e R s m args below meth c H locs cells slots Q (F0 m pc ls (.ref x :: rest)) := lv_ifnull C.1.1 C.1.2.1 hdg k
theorem g_ifnullN (C : gC D G Ts own cc nL p s m args meth c) {off : Int} (tgt : Nat) (hdg : decode cc pc = .ok (.ifnull off, 3)) (ht : (pc : Int) + off = (tgt : Int)) (k : W p l e R s m args below meth c H locs cells slots Q (F0 m tgt ls rest)) : W p l e R s m args below meth c H locs cells slots Q (F0 m pc ls (.null :: rest)) := lv_ifnullN C.1.1 C.1.2.1 hdg ht k
theorem g_ifnonnullR (C : gC D G Ts own cc nL p s m args meth c) {x : Nat} {off : Int} (tgt : Nat) (hdg : decode cc pc = .ok (.ifnonnull off, 3)) (ht : (pc : Int) + off = (tgt : Int)) (k : W p l e R s m args below meth c H locs cells slots Q (F0 m tgt ls rest)) : W p l e R s m args below meth c H locs cells slots Q (F0 m pc ls (.ref x :: rest)) := lv_ifnonnull C.1.1 C.1.2.1 hdg ht k
theorem g_ifnonnullN (C : gC D G Ts own cc nL p s m args meth c) {off : Int} (hdg : decode cc pc = .ok (.ifnonnull off, 3)) (k : W p l e R s m args below meth c H locs cells slots Q (F0 m (pc + 3) ls rest)) : W p l e R s m args below meth c H locs cells slots Q (F0 m pc ls (.null :: rest)) := lv_ifnonnullN C.1.1 C.1.2.1 hdg k
/-! fields, rows -/
theorem g_get (C : gC D G Ts own cc nL p s m args meth c) (hw : gW D A H0 ws H locs) {Cn : String} {T : u_T} {N ci index a : Nat} {fs : List Value} {v : Value} (hin : ∀ w ∈ u_ws Cn T N, w ∈ Ts) (q0 : Nat) (he : ws[q0]? = some (a, .inr (ci, fs))) (hc : vwCl[ci]? = some (Cn, T, N)) (k : Nat) (hk : k < N) (hlk : Cond.fieldLink own index (T k).1 (T k).2.1 (T k).2.2.1 ∈ Ts) (hv : fs[k]? = some v) (hdg : decode cc pc = .ok (.getfield index, 3))
    (kk : W p l e R s m args below meth c H locs cells slots Q (F0 m (pc + 3) ls (v :: rest))) : W p l e R s m args below meth c H locs cells slots Q (F0 m pc ls (.ref a :: rest)) :=
  va_get C.1.1 C.1.2.1 C.1.2.2.2.2 hin C.1.2.2.2.1 C.2.1 hw.1 q0 he hc k hk (C.1.2.2.2.2 _ hlk) (fun _ h => h) hv hdg kk
theorem g_put (C : gC D G Ts own cc nL p s m args meth c) (hw : gW D A H0 ws H locs) {Cn : String} {T : u_T} {N ci index a : Nat} {fs : List Value} {v : Value} (ws' : va_W) (hin : ∀ w ∈ u_ws Cn T N, w ∈ Ts) (ty0 : Nat → FieldType) (hty : ∀ k, k < N → parseFieldDescriptor (T k).2.2.1 = some (ty0 k)) (hnm : ∀ a, a < N → ∀ b, b < N → a ≠ b → (T a).2.1 ≠ (T b).2.1) (q0 : Nat) (he : ws[q0]? = some (a, .inr (ci, fs))) (hc : vwCl[ci]? = some (Cn, T, N)) (k : Nat) (hk : k < N) (hlk : Cond.fieldLink own index (T k).1 (T k).2.1 (T k).2.2.1 ∈ Ts) (hfin : (T k).2.2.2 = false) {ty : FieldType} (hty2 : ty0 k = ty) (hn : narrow ty v = v) (hfit : fits ty v = true) (hl : k < fs.length) (hws : ws.set q0 (a, .inr (ci, fs.set k v)) = ws') (hdg : decode cc pc = .ok (.putfield index, 3))
    (kk : ∀ (H : Heap) (locs : List Loc), gW D A H0 ws' H locs → W p l e R s m args below meth c H locs cells slots Q (F0 m (pc + 3) ls rest)) : W p l e R s m args below meth c H locs cells slots Q (F0 m pc ls (v :: .ref a :: rest)) := by
  subst hws
  exact va_put (ty := ty) C.1.1 C.1.2.1 C.1.2.2.2.2 hin ty0 hty hnm C.1.2.2.2.1 C.2.1 hw.1 hw.2.1 hw.2.2.1 q0 he hc k hk (C.1.2.2.2.2 _ hlk) (fun _ h => h) hfin (by rw [hty k hk, hty2]) hn hfit hl hdg (fun H locs a1 a2 a3 => kk H locs ⟨a1, a2, a3, hw.2.2.2⟩)
theorem g_putF (C : gC D G Ts own cc nL p s m args meth c) (hw : gW D A H0 ws H locs) {Cn : String} {T : u_T} {N ci index a : Nat} {fs : List Value} {v : Value} (ws' : va_W) (hin : ∀ w ∈ u_ws Cn T N, w ∈ Ts) (ty0 : Nat → FieldType) (hty : ∀ k, k < N → parseFieldDescriptor (T k).2.2.1 = some (ty0 k)) (hnm : ∀ a, a < N → ∀ b, b < N → a ≠ b → (T a).2.1 ≠ (T b).2.1) (q0 : Nat) (he : ws[q0]? = some (a, .inr (ci, fs))) (hc : vwCl[ci]? = some (Cn, T, N)) (k : Nat) (hk : k < N) (hlk : Cond.fieldLink own index (T k).1 (T k).2.1 (T k).2.2.1 ∈ Ts) (hfin : (T k).2.2.2 = true) (hini : meth.name = "<init>") (hdecl : (T k).1 = own) {ty : FieldType} (hty2 : ty0 k = ty) (hn : narrow ty v = v) (hfit : fits ty v = true) (hl : k < fs.length) (hws : ws.set q0 (a, .inr (ci, fs.set k v)) = ws') (hdg : decode cc pc = .ok (.putfield index, 3))
    (kk : ∀ (H : Heap) (locs : List Loc), gW D A H0 ws' H locs → W p l e R s m args below meth c H locs cells slots Q (F0 m (pc + 3) ls rest)) : W p l e R s m args below meth c H locs cells slots Q (F0 m pc ls (v :: .ref a :: rest)) := by
  subst hws
  exact va_putF (ty := ty) C.1.1 C.1.2.1 C.1.2.2.2.2 hin ty0 hty hnm C.1.2.2.2.1 C.2.1 hw.1 hw.2.1 hw.2.2.1 q0 he hc k hk (C.1.2.2.2.2 _ hlk) (fun _ h => h) hfin hini hdecl (by rw [hty k hk, hty2]) hn hfit hl hdg (fun H locs a1 a2 a3 => kk H locs ⟨a1, a2, a3, hw.2.2.2⟩)
theorem g_iald (C : gC D G Ts own cc nL p s m args meth c) (hw : gW D A H0 ws H locs) {a n : Nat} {g : Int → Int} {z : Int} (q0 : Nat) (he : ws[q0]? = some (cA G a n g)) (hz : 0 ≤ z ∧ z < n) (hn : n ≤ 2147483647) (hdg : decode cc pc = .ok (.iaload, 1))
    (kk : W p l e R s m args below meth c H locs cells slots Q (F0 m (pc + 1) ls (.int (iI (g z)) :: rest))) : W p l e R s m args below meth c H locs cells slots Q (F0 m pc ls (.int (iI z) :: .ref a :: rest)) :=
  va_iald C.1.1 C.1.2.1 C.2.1 hw.1 q0 0 he rfl (iI_in hz hn) hdg (by rw [iI_clamp (by omega), aI_at hz.1]; exact kk)
theorem g_iast (C : gC D G Ts own cc nL p s m args meth c) (hw : gW D A H0 ws H locs) {a n : Nat} {g : Int → Int} {z v : Int} (ws' : va_W) (q0 : Nat) (he : ws[q0]? = some (cA G a n g)) (hz : 0 ≤ z ∧ z < n) (hn : n ≤ 2147483647) (hws : ws.set q0 (cA G a n (up g z v)) = ws') (hdg : decode cc pc = .ok (.iastore, 1))
    (kk : ∀ (H : Heap) (locs : List Loc), gW D A H0 ws' H locs → W p l e R s m args below meth c H locs cells slots Q (F0 m (pc + 1) ls rest)) : W p l e R s m args below meth c H locs cells slots Q (F0 m pc ls (.int (iI v) :: .int (iI z) :: .ref a :: rest)) := by
  subst hws
  refine va_iast C.1.1 C.1.2.1 C.2.1 hw.1 hw.2.1 hw.2.2.1 q0 0 he rfl (iI_in hz hn) hdg (fun H locs a1 a2 a3 => kk H locs ?_)
  rw [iI_clamp (by omega), aI_up hz.1] at a1 a2
  exact ⟨a1, a2, a3, hw.2.2.2⟩
theorem g_lald (C : gC D G Ts own cc nL p s m args meth c) (hw : gW D A H0 ws H locs) {a n : Nat} {g : Int → Int} {z : Int} (q0 : Nat) (he : ws[q0]? = some (cJ G a n g)) (hz : 0 ≤ z ∧ z < n) (hn : n ≤ 2147483647) (hdg : decode cc pc = .ok (.laload, 1))
    (kk : W p l e R s m args below meth c H locs cells slots Q (F0 m (pc + 1) ls (.long (lI (g z)) :: rest))) : W p l e R s m args below meth c H locs cells slots Q (F0 m pc ls (.int (iI z) :: .ref a :: rest)) :=
  va_lald C.1.1 C.1.2.1 C.2.1 hw.1 q0 1 he rfl (iI_in hz hn) hdg (by rw [iI_clamp (by omega), aL_at hz.1]; exact kk)
theorem g_last (C : gC D G Ts own cc nL p s m args meth c) (hw : gW D A H0 ws H locs) {a n : Nat} {g : Int → Int} {z v : Int} (ws' : va_W) (q0 : Nat) (he : ws[q0]? = some (cJ G a n g)) (hz : 0 ≤ z ∧ z < n) (hn : n ≤ 2147483647) (hws : ws.set q0 (cJ G a n (up g z v)) = ws') (hdg : decode cc pc = .ok (.lastore, 1))
    (kk : ∀ (H : Heap) (locs : List Loc), gW D A H0 ws' H locs → W p l e R s m args below meth c H locs cells slots Q (F0 m (pc + 1) ls rest)) : W p l e R s m args below meth c H locs cells slots Q (F0 m pc ls (.long (lI v) :: .int (iI z) :: .ref a :: rest)) := by
  subst hws
  refine va_last C.1.1 C.1.2.1 C.2.1 hw.1 hw.2.1 hw.2.2.1 q0 1 he rfl (iI_in hz hn) hdg (fun H locs a1 a2 a3 => kk H locs ?_)
  rw [iI_clamp (by omega), aL_up hz.1] at a1 a2
  exact ⟨a1, a2, a3, hw.2.2.2⟩
theorem g_alen (C : gC D G Ts own cc nL p s m args meth c) (hw : gW D A H0 ws H locs) {a n : Nat} {g : Int → Int} (q0 : Nat) (he : ws[q0]? = some (cA G a n g)) (hdg : decode cc pc = .ok (.arraylength, 1))
    (kk : W p l e R s m args below meth c H locs cells slots Q (F0 m (pc + 1) ls (.int (iI (n : Int)) :: rest))) : W p l e R s m args below meth c H locs cells slots Q (F0 m pc ls (.ref a :: rest)) :=
  va_alen C.1.1 C.1.2.1 C.2.1 hw.1 q0 0 he rfl (Int32.ofInt_eq_ofNat (n := n)).symm hdg kk
theorem g_aald (C : gC D G Ts own cc nL p s m args meth c) (hw : gW D A H0 ws H locs) {a n : Nat} {f : Nat → Option Nat} {z : Int} (q0 : Nat) (he : ws[q0]? = some (cQ G a n f)) (hz : 0 ≤ z ∧ z < n) (hn : n ≤ 2147483647) (hdg : decode cc pc = .ok (.aaload, 1))
    (kk : W p l e R s m args below meth c H locs cells slots Q (F0 m (pc + 1) ls (va_rf (f z.toNat) :: rest))) : W p l e R s m args below meth c H locs cells slots Q (F0 m pc ls (.int (iI z) :: .ref a :: rest)) :=
  va_aldq C.1.1 C.1.2.1 C.2.1 hw.1 q0 2 he rfl (iI_in hz hn) hdg (by rw [iI_clamp (by omega)]; exact kk)
/-! the start of a method, its ends -/
theorem g_start_i {y : MethodName} {rm : Room} {av : List Value} {w0 : va_W} {mc ms : Nat} {post : Int32 → va_W → Prop} {Ts' : List Cond} {ret : Option FieldType} (hy : plainName y.cls = true) (hcs : y.cls = own) (hw : Ts = .code y cc nL ret :: Ts') (hlen : (lg_sl av).length ≤ nL)
    (body : ∀ (p : Program) (e : Env) (s : State) (m : MethodId) (below : List Frame) (meth : Method) (c : Code) (A : Nat → Prop) (ls : Array Slot), gC D G Ts own cc nL p s m av.toArray meth c → meth.sig.returnType = ret → meth.name = y.name → gW D A s.heap w0 s.heap [] → lv_has ls nL (lv_args 0 av) →
      W p l e rm s m av.toArray below meth c s.heap [] 0 0 (MQ below (va_Qi post (gB D G A) A) av.toArray s mc ms A) (F0 m 0 ls [])) : gMi l y Ts rm D G av w0 mc ms post := by
  intro sz
  refine Met.ofW (cc := cc) (maxL := nL) (ret := ret) hy hw ?_
  intro p e s m args below meth c s₁ B hml hv
  obtain ⟨rfl, rfl, hP, hK, hD0⟩ := hv
  have hl := lv_entry av (n := nL) hlen
  rw [lg_entry_eq]
  have hown := findClass_of_methodNamed B.named
  rw [hcs] at hown
  exact body p e s m below meth c (va_A w0 s.heap.size) _ ⟨⟨B.exec, B.bytes, hml, hown, atoms_spec (ws := Ts) B.pre⟩, hK, B.notSynchronized⟩ B.returns (name_of_methodNamed B.named B.method).1 ⟨hP, hD0.self, va_S.rf, fun q h => Or.inr h⟩ hl
theorem g_start_l {y : MethodName} {rm : Room} {av : List Value} {w0 : va_W} {mc ms : Nat} {post : Int64 → va_W → Prop} {Ts' : List Cond} {ret : Option FieldType} (hy : plainName y.cls = true) (hcs : y.cls = own) (hw : Ts = .code y cc nL ret :: Ts') (hlen : (lg_sl av).length ≤ nL)
    (body : ∀ (p : Program) (e : Env) (s : State) (m : MethodId) (below : List Frame) (meth : Method) (c : Code) (A : Nat → Prop) (ls : Array Slot), gC D G Ts own cc nL p s m av.toArray meth c → meth.sig.returnType = ret → meth.name = y.name → gW D A s.heap w0 s.heap [] → lv_has ls nL (lv_args 0 av) →
      W p l e rm s m av.toArray below meth c s.heap [] 0 0 (MQ below (va_Ql post (gB D G A) A) av.toArray s mc ms A) (F0 m 0 ls [])) : gMl l y Ts rm D G av w0 mc ms post := by
  intro sz
  refine Met.ofW (cc := cc) (maxL := nL) (ret := ret) hy hw ?_
  intro p e s m args below meth c s₁ B hml hv
  obtain ⟨rfl, rfl, hP, hK, hD0⟩ := hv
  have hl := lv_entry av (n := nL) hlen
  rw [lg_entry_eq]
  have hown := findClass_of_methodNamed B.named
  rw [hcs] at hown
  exact body p e s m below meth c (va_A w0 s.heap.size) _ ⟨⟨B.exec, B.bytes, hml, hown, atoms_spec (ws := Ts) B.pre⟩, hK, B.notSynchronized⟩ B.returns (name_of_methodNamed B.named B.method).1 ⟨hP, hD0.self, va_S.rf, fun q h => Or.inr h⟩ hl
theorem g_start_v {y : MethodName} {rm : Room} {av : List Value} {w0 : va_W} {mc ms : Nat} {post : va_W → Prop} {Ts' : List Cond} {ret : Option FieldType} (hy : plainName y.cls = true) (hcs : y.cls = own) (hw : Ts = .code y cc nL ret :: Ts') (hlen : (lg_sl av).length ≤ nL)
    (body : ∀ (p : Program) (e : Env) (s : State) (m : MethodId) (below : List Frame) (meth : Method) (c : Code) (A : Nat → Prop) (ls : Array Slot), gC D G Ts own cc nL p s m av.toArray meth c → meth.sig.returnType = ret → meth.name = y.name → gW D A s.heap w0 s.heap [] → lv_has ls nL (lv_args 0 av) →
      W p l e rm s m av.toArray below meth c s.heap [] 0 0 (MQ below (va_Qv post (gB D G A) A) av.toArray s mc ms A) (F0 m 0 ls [])) : gMv l y Ts rm D G av w0 mc ms post := by
  intro sz
  refine Met.ofW (cc := cc) (maxL := nL) (ret := ret) hy hw ?_
  intro p e s m args below meth c s₁ B hml hv
  obtain ⟨rfl, rfl, hP, hK, hD0⟩ := hv
  have hl := lv_entry av (n := nL) hlen
  rw [lg_entry_eq]
  have hown := findClass_of_methodNamed B.named
  rw [hcs] at hown
  exact body p e s m below meth c (va_A w0 s.heap.size) _ ⟨⟨B.exec, B.bytes, hml, hown, atoms_spec (ws := Ts) B.pre⟩, hK, B.notSynchronized⟩ B.returns (name_of_methodNamed B.named B.method).1 ⟨hP, hD0.self, va_S.rf, fun q h => Or.inr h⟩ hl
theorem g_iret (C : gC D G Ts own cc nL p s m args meth c) (hr : meth.sig.returnType = some .int) {post : Int32 → va_W → Prop} {v : Int32} {ws' : va_W} (hw : gW D A s.heap ws H locs) (is : List Nat) (hn : va_nd is = true) (hs : is.map (fun i => ws[i]?) = ws'.map some) (hp : post v ws') (hdg : decode cc pc = .ok (.ireturn, 1)) :
    W p l e R s m args below meth c H locs cells slots (MQ below (va_Qi post (gB D G A) A) args s cells slots A) (F0 m pc ls [.int v]) :=
  W.iret C.1.1 C.1.2.1 hr (fun t ht hW => ⟨⟨v, ws', rfl, hp, by rw [ht]; exact g_subP hw.1 is hs, va_K.moved hW.alike C.2.1, hw.2.1.sub is hn hs⟩, hw.2.2.1.F ht⟩) hw.2.2.1.2.2 hdg C.2.2
theorem g_zret (C : gC D G Ts own cc nL p s m args meth c) (hr : meth.sig.returnType = some .boolean) {post : Int32 → va_W → Prop} {v : Int32} {ws' : va_W} (hw : gW D A s.heap ws H locs) (is : List Nat) (hn : va_nd is = true) (hs : is.map (fun i => ws[i]?) = ws'.map some) (hz : v = iI 0 ∨ v = iI 1) (hp : post v ws') (hdg : decode cc pc = .ok (.ireturn, 1)) :
    W p l e R s m args below meth c H locs cells slots (MQ below (va_Qi post (gB D G A) A) args s cells slots A) (F0 m pc ls [.int v]) :=
  W.zret C.1.1 C.1.2.1 hr (by rcases hz with rfl | rfl <;> decide +kernel) (fun t ht hW => ⟨⟨v, ws', rfl, hp, by rw [ht]; exact g_subP hw.1 is hs, va_K.moved hW.alike C.2.1, hw.2.1.sub is hn hs⟩, hw.2.2.1.F ht⟩) hw.2.2.1.2.2 hdg C.2.2
theorem g_lret (C : gC D G Ts own cc nL p s m args meth c) (hr : meth.sig.returnType = some .long) {post : Int64 → va_W → Prop} {v : Int64} {ws' : va_W} (hw : gW D A s.heap ws H locs) (is : List Nat) (hn : va_nd is = true) (hs : is.map (fun i => ws[i]?) = ws'.map some) (hp : post v ws') (hdg : decode cc pc = .ok (.lreturn, 1)) :
    W p l e R s m args below meth c H locs cells slots (MQ below (va_Ql post (gB D G A) A) args s cells slots A) (F0 m pc ls [.long v]) :=
  W.lret C.1.1 C.1.2.1 hr (fun t ht hW => ⟨⟨v, ws', rfl, hp, by rw [ht]; exact g_subP hw.1 is hs, va_K.moved hW.alike C.2.1, hw.2.1.sub is hn hs⟩, hw.2.2.1.F ht⟩) hw.2.2.1.2.2 hdg C.2.2
theorem g_vret (C : gC D G Ts own cc nL p s m args meth c) (hr : meth.sig.returnType = none) {post : va_W → Prop} {ws' : va_W} (hw : gW D A s.heap ws H locs) (is : List Nat) (hn : va_nd is = true) (hs : is.map (fun i => ws[i]?) = ws'.map some) (hp : post ws') (hdg : decode cc pc = .ok (.return_, 1)) :
    W p l e R s m args below meth c H locs cells slots (MQ below (va_Qv post (gB D G A) A) args s cells slots A) (F0 m pc ls []) :=
  W.vret C.1.1 C.1.2.1 hr (fun t ht hW => ⟨⟨ws', rfl, hp, by rw [ht]; exact g_subP hw.1 is hs, va_K.moved hW.alike C.2.1, hw.2.1.sub is hn hs⟩, hw.2.2.1.F ht⟩) hw.2.2.1.2.2 hdg C.2.2
/-! loops, cuts -/
theorem g_loop {σ : Type} (wsx : σ → va_W) (lvx : σ → List (Nat × Value)) (Px : σ → Prop) (μ : σ → Nat) {st : List Value} (x0 : σ) (hP0 : Px x0) (hw : gW D A H0 (wsx x0) H locs) (hl : lv_has ls nL (lvx x0))
    (step : ∀ x, Px x → ∀ (H : Heap) (locs : List Loc) (ls : Array Slot), gW D A H0 (wsx x) H locs → lv_has ls nL (lvx x) → (∀ y, Px y → μ y < μ x → ∀ (H : Heap) (locs : List Loc) (ls : Array Slot), gW D A H0 (wsx y) H locs → lv_has ls nL (lvx y) → W p l e R s m args below meth c H locs cells slots Q (F0 m pc ls st)) → W p l e R s m args below meth c H locs cells slots Q (F0 m pc ls st)) : W p l e R s m args below meth c H locs cells slots Q (F0 m pc ls st) := by
  have key : ∀ (n : Nat) (x : σ), μ x < n → Px x → ∀ (H : Heap) (locs : List Loc) (ls : Array Slot), gW D A H0 (wsx x) H locs → lv_has ls nL (lvx x) → W p l e R s m args below meth c H locs cells slots Q (F0 m pc ls st) := by
    intro n
    induction n with
    | zero => intro x h; exact absurd h (Nat.not_lt_zero _)
    | succ n ih =>
      intro x hx hPx H locs ls hw hl
      exact step x hPx H locs ls hw hl (fun y hPy hy H locs ls hw hl => ih y (by omega) hPy H locs ls hw hl)
  exact key (μ x0 + 1) x0 (Nat.lt_succ_self _) hP0 H locs ls hw hl
theorem g_cut {σ : Type} (wsx : σ → va_W) (lvx : σ → List (Nat × Value)) (Px : σ → Prop) (pcj : Nat) (stx : σ → List Value)
    (h1 : ∀ x, Px x → ∀ (H : Heap) (locs : List Loc) (ls : Array Slot), gW D A H0 (wsx x) H locs → lv_has ls nL (lvx x) → W p l e R s m args below meth c H locs cells slots Q (F0 m pcj ls (stx x)))
    (h2 : (∀ x, Px x → ∀ (H : Heap) (locs : List Loc) (ls : Array Slot), gW D A H0 (wsx x) H locs → lv_has ls nL (lvx x) → W p l e R s m args below meth c H locs cells slots Q (F0 m pcj ls (stx x))) → W p l e R s m args below meth c H locs cells slots Q (F0 m pc ls rest)) : W p l e R s m args below meth c H locs cells slots Q (F0 m pc ls rest) := h2 h1
theorem g_cut0 (P : Int → Prop) (pcj : Nat) (stx : Int → List Value) (h1 : ∀ t : Int, P t → W p l e R s m args below meth c H locs cells slots Q (F0 m pcj ls (stx t))) (h2 : (∀ t : Int, P t → W p l e R s m args below meth c H locs cells slots Q (F0 m pcj ls (stx t))) → W p l e R s m args below meth c H locs cells slots Q (F0 m pc ls rest)) : W p l e R s m args below meth c H locs cells slots Q (F0 m pc ls rest) := h2 h1
/-! calls -/
theorem g_callVi (C : gC D G Ts own cc nL p s m args meth c) (hw : gW D A H0 ws H locs) {y : MethodName} {wy : List Cond} {rm : Room} {As : List Value} {wc wr : va_W} {mc ms n index maxL : Nat} {bytes : ByteArray} {ret : Option FieldType} {post : Int32 → va_W → Prop} {Cn : String} {T : u_T} {N ci : Nat} {fs : List Value} {b : Nat} (hM : gMi l y wy rm D G (.ref b :: As) wc mc ms post) (cw : CallW R s args own Cn index y bytes maxL ret wy rm mc ms n)
    (isC isR : List Nat) (hC : isC.map (fun i => ws[i]?) = wc.map some) (hR : isR.map (fun i => ws[i]?) = wr.map some) (hnC : va_nd isC = true) (hnR : va_nd isR = true) (hdis : ∀ i ∈ isR, i ∉ isC) (qr : Nat) (hrc : wc[qr]? = some (b, .inr (ci, fs))) (hcl : vwCl[ci]? = some (Cn, T, N)) (hn : As.length = n) (hsz : ls.size = nL) (st0 : List Value) (hst : st0 = As.reverse ++ .ref b :: rest) (hrm : (rest.map fun v => v.category).sum ≤ 8) (hdg : decode cc pc = .ok (.invokevirtual index, 3)) (hf : cells + mc ≤ R.cells ∧ slots + ms ≤ R.slots)
    (kk : ∀ (r : Int32) (w1 : va_W) (H : Heap) (locs : List Loc), post r w1 → gW D A H0 (wr ++ w1) H locs → W p l e R s m args below meth c H locs (cells + mc) (slots + ms) Q (F0 m (pc + 3) ls (.int r :: rest))) : W p l e R s m args below meth c H locs cells slots Q (F0 m pc ls st0) := by
  subst hst
  have hPc : va_P D vwCl wc H := g_subP hw.1 isC hC
  have hDc := hw.2.1.sub isC hnC hC
  have hFc := va_free hw.2.1 hw.2.2.1 hw.2.2.2 isC hC
  refine va_calli (va_runV (As := As) (rest := rest) C.1 (hM H.size) cw ⟨fun a U g mk q => by obtain ⟨q0, q1, qP, qK, qD⟩ := q; exact ⟨q0, q1, qP, va_K.moved (u := U) (U := U.calling g mk a) (Vm.Alike.refl U.vm) qK, qD⟩, va_recv C.2.1 hPc hcl hrc, fun U hU hW => ⟨rfl, by rw [hU], by rw [hU]; exact hPc, va_K.moved hW.alike C.2.1, hDc.weaken (fun _ _ _ _ => trivial)⟩⟩ rfl hn hsz rfl (lv_room hrm) hdg hf) hw.2.2.1 (fun q _ h => hFc q h) hFc ?_
  intro r w1 t H1 locs1 ht hvm hp hB hz1 hk1 hS
  obtain ⟨hP1, hK1, hD1⟩ := hB
  rw [ht] at hP1
  obtain ⟨hP2, hD2⟩ := va_join hw.1 hw.2.1 isC isR hC hR hnR hdis hk1 hFc hP1 hD1
  exact kk r w1 H1 locs1 hp ⟨hP2, hD2, hS, hw.2.2.2⟩
theorem g_callSi (C : gC D G Ts own cc nL p s m args meth c) (hw : gW D A H0 ws H locs) {y : MethodName} {wy : List Cond} {rm : Room} {As : List Value} {wc wr : va_W} {mc ms n index maxL : Nat} {bytes : ByteArray} {ret : Option FieldType} {post : Int32 → va_W → Prop}  (hM : gMi l y wy rm D G (As) wc mc ms post) (cw : CallB R s args own index y bytes maxL ret wy rm mc ms n ∧ (Cond.static y).before args s = true)
    (isC isR : List Nat) (hC : isC.map (fun i => ws[i]?) = wc.map some) (hR : isR.map (fun i => ws[i]?) = wr.map some) (hnC : va_nd isC = true) (hnR : va_nd isR = true) (hdis : ∀ i ∈ isR, i ∉ isC) (hn : As.length = n) (hsz : ls.size = nL) (st0 : List Value) (hst : st0 = As.reverse ++ rest) (hrm : (rest.map fun v => v.category).sum ≤ 8) (hdg : decode cc pc = .ok (.invokestatic index, 3)) (hf : cells + mc ≤ R.cells ∧ slots + ms ≤ R.slots)
    (kk : ∀ (r : Int32) (w1 : va_W) (H : Heap) (locs : List Loc), post r w1 → gW D A H0 (wr ++ w1) H locs → W p l e R s m args below meth c H locs (cells + mc) (slots + ms) Q (F0 m (pc + 3) ls (.int r :: rest))) : W p l e R s m args below meth c H locs cells slots Q (F0 m pc ls st0) := by
  subst hst
  have hPc : va_P D vwCl wc H := g_subP hw.1 isC hC
  have hDc := hw.2.1.sub isC hnC hC
  have hFc := va_free hw.2.1 hw.2.2.1 hw.2.2.2 isC hC
  refine va_calli (va_runS (As := As) (rest := rest) C.1 (hM H.size) cw ⟨fun a U g mk q => by obtain ⟨q0, q1, qP, qK, qD⟩ := q; exact ⟨q0, q1, qP, va_K.moved (u := U) (U := U.calling g mk a) (Vm.Alike.refl U.vm) qK, qD⟩, fun U hU hW => ⟨rfl, by rw [hU], by rw [hU]; exact hPc, va_K.moved hW.alike C.2.1, hDc.weaken (fun _ _ _ _ => trivial)⟩⟩ rfl hn hsz rfl (lv_room hrm) hdg hf) hw.2.2.1 (fun q _ h => hFc q h) hFc ?_
  intro r w1 t H1 locs1 ht hvm hp hB hz1 hk1 hS
  obtain ⟨hP1, hK1, hD1⟩ := hB
  rw [ht] at hP1
  obtain ⟨hP2, hD2⟩ := va_join hw.1 hw.2.1 isC isR hC hR hnR hdis hk1 hFc hP1 hD1
  exact kk r w1 H1 locs1 hp ⟨hP2, hD2, hS, hw.2.2.2⟩
theorem g_callVl (C : gC D G Ts own cc nL p s m args meth c) (hw : gW D A H0 ws H locs) {y : MethodName} {wy : List Cond} {rm : Room} {As : List Value} {wc wr : va_W} {mc ms n index maxL : Nat} {bytes : ByteArray} {ret : Option FieldType} {post : Int64 → va_W → Prop} {Cn : String} {T : u_T} {N ci : Nat} {fs : List Value} {b : Nat} (hM : gMl l y wy rm D G (.ref b :: As) wc mc ms post) (cw : CallW R s args own Cn index y bytes maxL ret wy rm mc ms n)
    (isC isR : List Nat) (hC : isC.map (fun i => ws[i]?) = wc.map some) (hR : isR.map (fun i => ws[i]?) = wr.map some) (hnC : va_nd isC = true) (hnR : va_nd isR = true) (hdis : ∀ i ∈ isR, i ∉ isC) (qr : Nat) (hrc : wc[qr]? = some (b, .inr (ci, fs))) (hcl : vwCl[ci]? = some (Cn, T, N)) (hn : As.length = n) (hsz : ls.size = nL) (st0 : List Value) (hst : st0 = As.reverse ++ .ref b :: rest) (hrm : (rest.map fun v => v.category).sum ≤ 8) (hdg : decode cc pc = .ok (.invokevirtual index, 3)) (hf : cells + mc ≤ R.cells ∧ slots + ms ≤ R.slots)
    (kk : ∀ (r : Int64) (w1 : va_W) (H : Heap) (locs : List Loc), post r w1 → gW D A H0 (wr ++ w1) H locs → W p l e R s m args below meth c H locs (cells + mc) (slots + ms) Q (F0 m (pc + 3) ls (.long r :: rest))) : W p l e R s m args below meth c H locs cells slots Q (F0 m pc ls st0) := by
  subst hst
  have hPc : va_P D vwCl wc H := g_subP hw.1 isC hC
  have hDc := hw.2.1.sub isC hnC hC
  have hFc := va_free hw.2.1 hw.2.2.1 hw.2.2.2 isC hC
  refine va_calll (va_runV (As := As) (rest := rest) C.1 (hM H.size) cw ⟨fun a U g mk q => by obtain ⟨q0, q1, qP, qK, qD⟩ := q; exact ⟨q0, q1, qP, va_K.moved (u := U) (U := U.calling g mk a) (Vm.Alike.refl U.vm) qK, qD⟩, va_recv C.2.1 hPc hcl hrc, fun U hU hW => ⟨rfl, by rw [hU], by rw [hU]; exact hPc, va_K.moved hW.alike C.2.1, hDc.weaken (fun _ _ _ _ => trivial)⟩⟩ rfl hn hsz rfl (lv_room hrm) hdg hf) hw.2.2.1 (fun q _ h => hFc q h) hFc ?_
  intro r w1 t H1 locs1 ht hvm hp hB hz1 hk1 hS
  obtain ⟨hP1, hK1, hD1⟩ := hB
  rw [ht] at hP1
  obtain ⟨hP2, hD2⟩ := va_join hw.1 hw.2.1 isC isR hC hR hnR hdis hk1 hFc hP1 hD1
  exact kk r w1 H1 locs1 hp ⟨hP2, hD2, hS, hw.2.2.2⟩
theorem g_callSl (C : gC D G Ts own cc nL p s m args meth c) (hw : gW D A H0 ws H locs) {y : MethodName} {wy : List Cond} {rm : Room} {As : List Value} {wc wr : va_W} {mc ms n index maxL : Nat} {bytes : ByteArray} {ret : Option FieldType} {post : Int64 → va_W → Prop}  (hM : gMl l y wy rm D G (As) wc mc ms post) (cw : CallB R s args own index y bytes maxL ret wy rm mc ms n ∧ (Cond.static y).before args s = true)
    (isC isR : List Nat) (hC : isC.map (fun i => ws[i]?) = wc.map some) (hR : isR.map (fun i => ws[i]?) = wr.map some) (hnC : va_nd isC = true) (hnR : va_nd isR = true) (hdis : ∀ i ∈ isR, i ∉ isC) (hn : As.length = n) (hsz : ls.size = nL) (st0 : List Value) (hst : st0 = As.reverse ++ rest) (hrm : (rest.map fun v => v.category).sum ≤ 8) (hdg : decode cc pc = .ok (.invokestatic index, 3)) (hf : cells + mc ≤ R.cells ∧ slots + ms ≤ R.slots)
    (kk : ∀ (r : Int64) (w1 : va_W) (H : Heap) (locs : List Loc), post r w1 → gW D A H0 (wr ++ w1) H locs → W p l e R s m args below meth c H locs (cells + mc) (slots + ms) Q (F0 m (pc + 3) ls (.long r :: rest))) : W p l e R s m args below meth c H locs cells slots Q (F0 m pc ls st0) := by
  subst hst
  have hPc : va_P D vwCl wc H := g_subP hw.1 isC hC
  have hDc := hw.2.1.sub isC hnC hC
  have hFc := va_free hw.2.1 hw.2.2.1 hw.2.2.2 isC hC
  refine va_calll (va_runS (As := As) (rest := rest) C.1 (hM H.size) cw ⟨fun a U g mk q => by obtain ⟨q0, q1, qP, qK, qD⟩ := q; exact ⟨q0, q1, qP, va_K.moved (u := U) (U := U.calling g mk a) (Vm.Alike.refl U.vm) qK, qD⟩, fun U hU hW => ⟨rfl, by rw [hU], by rw [hU]; exact hPc, va_K.moved hW.alike C.2.1, hDc.weaken (fun _ _ _ _ => trivial)⟩⟩ rfl hn hsz rfl (lv_room hrm) hdg hf) hw.2.2.1 (fun q _ h => hFc q h) hFc ?_
  intro r w1 t H1 locs1 ht hvm hp hB hz1 hk1 hS
  obtain ⟨hP1, hK1, hD1⟩ := hB
  rw [ht] at hP1
  obtain ⟨hP2, hD2⟩ := va_join hw.1 hw.2.1 isC isR hC hR hnR hdis hk1 hFc hP1 hD1
  exact kk r w1 H1 locs1 hp ⟨hP2, hD2, hS, hw.2.2.2⟩
theorem g_callVv (C : gC D G Ts own cc nL p s m args meth c) (hw : gW D A H0 ws H locs) {y : MethodName} {wy : List Cond} {rm : Room} {As : List Value} {wc wr : va_W} {mc ms n index maxL : Nat} {bytes : ByteArray} {ret : Option FieldType} {post : va_W → Prop} {Cn : String} {T : u_T} {N ci : Nat} {fs : List Value} {b : Nat} (hM : gMv l y wy rm D G (.ref b :: As) wc mc ms post) (cw : CallW R s args own Cn index y bytes maxL ret wy rm mc ms n)
    (isC isR : List Nat) (hC : isC.map (fun i => ws[i]?) = wc.map some) (hR : isR.map (fun i => ws[i]?) = wr.map some) (hnC : va_nd isC = true) (hnR : va_nd isR = true) (hdis : ∀ i ∈ isR, i ∉ isC) (qr : Nat) (hrc : wc[qr]? = some (b, .inr (ci, fs))) (hcl : vwCl[ci]? = some (Cn, T, N)) (hn : As.length = n) (hsz : ls.size = nL) (st0 : List Value) (hst : st0 = As.reverse ++ .ref b :: rest) (hrm : (rest.map fun v => v.category).sum ≤ 8) (hdg : decode cc pc = .ok (.invokevirtual index, 3)) (hf : cells + mc ≤ R.cells ∧ slots + ms ≤ R.slots)
    (kk : ∀ (w1 : va_W) (H : Heap) (locs : List Loc), post w1 → gW D A H0 (wr ++ w1) H locs → W p l e R s m args below meth c H locs (cells + mc) (slots + ms) Q (F0 m (pc + 3) ls (rest))) : W p l e R s m args below meth c H locs cells slots Q (F0 m pc ls st0) := by
  subst hst
  have hPc : va_P D vwCl wc H := g_subP hw.1 isC hC
  have hDc := hw.2.1.sub isC hnC hC
  have hFc := va_free hw.2.1 hw.2.2.1 hw.2.2.2 isC hC
  refine va_callv (va_runV (As := As) (rest := rest) C.1 (hM H.size) cw ⟨fun a U g mk q => by obtain ⟨q0, q1, qP, qK, qD⟩ := q; exact ⟨q0, q1, qP, va_K.moved (u := U) (U := U.calling g mk a) (Vm.Alike.refl U.vm) qK, qD⟩, va_recv C.2.1 hPc hcl hrc, fun U hU hW => ⟨rfl, by rw [hU], by rw [hU]; exact hPc, va_K.moved hW.alike C.2.1, hDc.weaken (fun _ _ _ _ => trivial)⟩⟩ rfl hn hsz rfl (lv_room hrm) hdg hf) hw.2.2.1 (fun q _ h => hFc q h) hFc ?_
  intro w1 t H1 locs1 ht hvm hp hB hz1 hk1 hS
  obtain ⟨hP1, hK1, hD1⟩ := hB
  rw [ht] at hP1
  obtain ⟨hP2, hD2⟩ := va_join hw.1 hw.2.1 isC isR hC hR hnR hdis hk1 hFc hP1 hD1
  exact kk w1 H1 locs1 hp ⟨hP2, hD2, hS, hw.2.2.2⟩
theorem g_callSv (C : gC D G Ts own cc nL p s m args meth c) (hw : gW D A H0 ws H locs) {y : MethodName} {wy : List Cond} {rm : Room} {As : List Value} {wc wr : va_W} {mc ms n index maxL : Nat} {bytes : ByteArray} {ret : Option FieldType} {post : va_W → Prop}  (hM : gMv l y wy rm D G (As) wc mc ms post) (cw : CallB R s args own index y bytes maxL ret wy rm mc ms n ∧ (Cond.static y).before args s = true)
    (isC isR : List Nat) (hC : isC.map (fun i => ws[i]?) = wc.map some) (hR : isR.map (fun i => ws[i]?) = wr.map some) (hnC : va_nd isC = true) (hnR : va_nd isR = true) (hdis : ∀ i ∈ isR, i ∉ isC) (hn : As.length = n) (hsz : ls.size = nL) (st0 : List Value) (hst : st0 = As.reverse ++ rest) (hrm : (rest.map fun v => v.category).sum ≤ 8) (hdg : decode cc pc = .ok (.invokestatic index, 3)) (hf : cells + mc ≤ R.cells ∧ slots + ms ≤ R.slots)
    (kk : ∀ (w1 : va_W) (H : Heap) (locs : List Loc), post w1 → gW D A H0 (wr ++ w1) H locs → W p l e R s m args below meth c H locs (cells + mc) (slots + ms) Q (F0 m (pc + 3) ls (rest))) : W p l e R s m args below meth c H locs cells slots Q (F0 m pc ls st0) := by
  subst hst
  have hPc : va_P D vwCl wc H := g_subP hw.1 isC hC
  have hDc := hw.2.1.sub isC hnC hC
  have hFc := va_free hw.2.1 hw.2.2.1 hw.2.2.2 isC hC
  refine va_callv (va_runS (As := As) (rest := rest) C.1 (hM H.size) cw ⟨fun a U g mk q => by obtain ⟨q0, q1, qP, qK, qD⟩ := q; exact ⟨q0, q1, qP, va_K.moved (u := U) (U := U.calling g mk a) (Vm.Alike.refl U.vm) qK, qD⟩, fun U hU hW => ⟨rfl, by rw [hU], by rw [hU]; exact hPc, va_K.moved hW.alike C.2.1, hDc.weaken (fun _ _ _ _ => trivial)⟩⟩ rfl hn hsz rfl (lv_room hrm) hdg hf) hw.2.2.1 (fun q _ h => hFc q h) hFc ?_
  intro w1 t H1 locs1 ht hvm hp hB hz1 hk1 hS
  obtain ⟨hP1, hK1, hD1⟩ := hB
  rw [ht] at hP1
  obtain ⟨hP2, hD2⟩ := va_join hw.1 hw.2.1 isC isR hC hR hnR hdis hk1 hFc hP1 hD1
  exact kk w1 H1 locs1 hp ⟨hP2, hD2, hS, hw.2.2.2⟩
theorem g_callIv (C : gC D G Ts own cc nL p s m args meth c) (hw : gW D A H0 ws H locs) {y : MethodName} {wy : List Cond} {rm : Room} {As : List Value} {wc wr : va_W} {mc ms n index maxL : Nat} {bytes : ByteArray} {post : va_W → Prop} {b : Nat} (hM : gMv l y wy rm D G (.ref b :: As) wc mc ms post) (cw : CallB R s args own index y bytes maxL none wy rm mc ms n ∧ y.name = "<init>" ∧ (Cond.instanceMethod y).before args s = true)
    (isC isR : List Nat) (hC : isC.map (fun i => ws[i]?) = wc.map some) (hR : isR.map (fun i => ws[i]?) = wr.map some) (hnC : va_nd isC = true) (hnR : va_nd isR = true) (hdis : ∀ i ∈ isR, i ∉ isC) (hn : As.length = n) (hsz : ls.size = nL) (st0 : List Value) (hst : st0 = As.reverse ++ .ref b :: rest) (hrm : (rest.map fun v => v.category).sum ≤ 8) (hdg : decode cc pc = .ok (.invokespecial index, 3)) (hf : cells + mc ≤ R.cells ∧ slots + ms ≤ R.slots)
    (kk : ∀ (w1 : va_W) (H : Heap) (locs : List Loc), post w1 → gW D A H0 (wr ++ w1) H locs → W p l e R s m args below meth c H locs (cells + mc) (slots + ms) Q (F0 m (pc + 3) ls (rest))) : W p l e R s m args below meth c H locs cells slots Q (F0 m pc ls st0) := by
  subst hst
  have hPc : va_P D vwCl wc H := g_subP hw.1 isC hC
  have hDc := hw.2.1.sub isC hnC hC
  have hFc := va_free hw.2.1 hw.2.2.1 hw.2.2.2 isC hC
  refine va_callv (va_runI (As := As) (rest := rest) C.1 (hM H.size) cw ⟨fun a U g mk q => by obtain ⟨q0, q1, qP, qK, qD⟩ := q; exact ⟨q0, q1, qP, va_K.moved (u := U) (U := U.calling g mk a) (Vm.Alike.refl U.vm) qK, qD⟩, fun U hU hW => ⟨rfl, by rw [hU], by rw [hU]; exact hPc, va_K.moved hW.alike C.2.1, hDc.weaken (fun _ _ _ _ => trivial)⟩⟩ rfl hn hsz rfl (lv_room hrm) hdg hf) hw.2.2.1 (fun q _ h => hFc q h) hFc ?_
  intro w1 t H1 locs1 ht hvm hp hB hz1 hk1 hS
  obtain ⟨hP1, hK1, hD1⟩ := hB
  rw [ht] at hP1
  obtain ⟨hP2, hD2⟩ := va_join hw.1 hw.2.1 isC isR hC hR hnR hdis hk1 hFc hP1 hD1
  exact kk w1 H1 locs1 hp ⟨hP2, hD2, hS, hw.2.2.2⟩
theorem g_callNv (C : gC D G Ts own cc nL p s m args meth c) (hw : gW D A H0 ws H locs) {y : MethodName} {wy : List Cond} {rm : Room} {As : List Value} {wc wr : va_W} {mc ms n index maxL : Nat} {bytes : ByteArray} {post : va_W → Prop} {b : Nat} {host : String} (hM : gMv l y wy rm D G (.ref b :: As) wc mc ms post) (cw : va_CN R s args own index y host bytes maxL none wy rm mc ms n ∧ y.name = "<init>" ∧ (Cond.instanceMethod y).before args s = true)
    (isC isR : List Nat) (hC : isC.map (fun i => ws[i]?) = wc.map some) (hR : isR.map (fun i => ws[i]?) = wr.map some) (hnC : va_nd isC = true) (hnR : va_nd isR = true) (hdis : ∀ i ∈ isR, i ∉ isC) (hn : As.length = n) (hsz : ls.size = nL) (st0 : List Value) (hst : st0 = As.reverse ++ .ref b :: rest) (hrm : (rest.map fun v => v.category).sum ≤ 8) (hdg : decode cc pc = .ok (.invokespecial index, 3)) (hf : cells + mc ≤ R.cells ∧ slots + ms ≤ R.slots)
    (kk : ∀ (w1 : va_W) (H : Heap) (locs : List Loc), post w1 → gW D A H0 (wr ++ w1) H locs → W p l e R s m args below meth c H locs (cells + mc) (slots + ms) Q (F0 m (pc + 3) ls (rest))) : W p l e R s m args below meth c H locs cells slots Q (F0 m pc ls st0) := by
  subst hst
  have hPc : va_P D vwCl wc H := g_subP hw.1 isC hC
  have hDc := hw.2.1.sub isC hnC hC
  have hFc := va_free hw.2.1 hw.2.2.1 hw.2.2.2 isC hC
  refine va_callv (va_runIN (As := As) (rest := rest) C.1 (hM H.size) cw ⟨fun a U g mk q => by obtain ⟨q0, q1, qP, qK, qD⟩ := q; exact ⟨q0, q1, qP, va_K.moved (u := U) (U := U.calling g mk a) (Vm.Alike.refl U.vm) qK, qD⟩, fun U hU hW => ⟨rfl, by rw [hU], by rw [hU]; exact hPc, va_K.moved hW.alike C.2.1, hDc.weaken (fun _ _ _ _ => trivial)⟩⟩ rfl hn hsz rfl (lv_room hrm) hdg hf) hw.2.2.1 (fun q _ h => hFc q h) hFc ?_
  intro w1 t H1 locs1 ht hvm hp hB hz1 hk1 hS
  obtain ⟨hP1, hK1, hD1⟩ := hB
  rw [ht] at hP1
  obtain ⟨hP2, hD2⟩ := va_join hw.1 hw.2.1 isC isR hC hR hnR hdis hk1 hFc hP1 hD1
  exact kk w1 H1 locs1 hp ⟨hP2, hD2, hS, hw.2.2.2⟩
end GR
