/-! signs by shifts -/
theorem sr_31 {z : Int} : (iI z >>> (iI 31 &&& 31)).toInt = (iI z).toInt >>> 31 := pk_shr _ _ 31 (by decide +kernel)
theorem or_m1 (B : Int32) : (-1) ||| B = -1 := by
  apply Int32.toBitVec.inj
  show (-1 : Int32).toBitVec ||| B.toBitVec = (-1 : Int32).toBitVec
  rw [show (-1 : Int32).toBitVec = BitVec.allOnes 32 by decide +kernel, BitVec.allOnes_or]
theorem or_m1L (B : Int64) : (-1) ||| B = -1 := by
  apply Int64.toBitVec.inj
  show (-1 : Int64).toBitVec ||| B.toBitVec = (-1 : Int64).toBitVec
  rw [show (-1 : Int64).toBitVec = BitVec.allOnes 64 by decide +kernel, BitVec.allOnes_or]
theorem or_0L (B : Int64) : (0 : Int64) ||| B = B := Int64.zero_or
theorem bv_of_neg {z : Int} (h : 0 < z ∧ z ≤ 2147483648) : (iI (-z)).toBitVec.toNat = (4294967296 - z).toNat := by
  show (BitVec.ofInt 32 (-z)).toNat = _
  rw [BitVec.toNat_ofInt]
  omega
theorem bv_of_negL {z : Int} (h : 0 < z ∧ z ≤ 9223372036854775808) : (lI (-z)).toBitVec.toNat = (18446744073709551616 - z).toNat := by
  show (BitVec.ofInt 64 (-z)).toNat = _
  rw [BitVec.toNat_ofInt]
  omega
theorem sgn_i {z : Int} (h : -2147483648 ≤ z ∧ z ≤ 2147483647) : (iI z >>> (iI 31 &&& 31)) ||| ((iI (-z)).toUInt32 >>> ((iI 31).toUInt32 &&& Int32.toUInt32 31)).toInt32 = iI (sg z) := by
  have e := sr_31 (z := z)
  rw [iI_toInt h, Int.shiftRight_eq_div_pow] at e
  rcases (by omega : z < 0 ∨ z = 0 ∨ 0 < z) with q | q | q
  · have e2 : (iI z >>> (iI 31 &&& 31)) = -1 := by
      apply Int32.toInt_inj.mp
      rw [e, show (-1 : Int32).toInt = -1 by decide +kernel]
      omega
    rw [e2, or_m1, sg_n q]
    decide +kernel
  · subst q
    decide +kernel
  · have e2 : (iI z >>> (iI 31 &&& 31)) = 0 := by
      apply Int32.toInt_inj.mp
      rw [e, show (0 : Int32).toInt = 0 by decide +kernel]
      omega
    have e3 := pk_ushr (iI (-z)) (iI 31) 31 (by decide +kernel)
    rw [bv_of_neg (by omega)] at e3
    rw [e2, Int32.zero_or, sg_p q]
    apply Int32.toBitVec.inj
    apply BitVec.eq_of_toNat_eq
    rw [e3, show (iI 1).toBitVec.toNat = 1 by decide +kernel]
    omega
theorem sgn_l {z : Int} (h : -9223372036854775808 ≤ z ∧ z ≤ 9223372036854775807) : ((lI z >>> ((iI 63).toInt64 &&& 63)) ||| ((lI (-z)).toUInt64 >>> ((iI 63).toInt64.toUInt64 &&& Int64.toUInt64 63)).toInt64).toInt32 = iI (sg z) := by
  have e : (lI z >>> ((iI 63).toInt64 &&& 63)).toInt = z >>> 63 := by
    show ((lI z).toBitVec.sshiftRight (((iI 63).toInt64 &&& 63).toBitVec.smod 64).toNat).toInt = _
    rw [show (((iI 63).toInt64 &&& 63).toBitVec.smod 64).toNat = 63 by decide +kernel, BitVec.toInt_sshiftRight]
    show (lI z).toInt >>> 63 = _
    rw [lI_toInt h]
  rw [Int.shiftRight_eq_div_pow] at e
  rcases (by omega : z < 0 ∨ z = 0 ∨ 0 < z) with q | q | q
  · have e2 : (lI z >>> ((iI 63).toInt64 &&& 63)) = -1 := by
      apply Int64.toInt_inj.mp
      rw [e, show (-1 : Int64).toInt = -1 by decide +kernel]
      omega
    rw [e2, or_m1L, sg_n q]
    decide +kernel
  · subst q
    decide +kernel
  · have e2 : (lI z >>> ((iI 63).toInt64 &&& 63)) = 0 := by
      apply Int64.toInt_inj.mp
      rw [e, show (0 : Int64).toInt = 0 by decide +kernel]
      omega
    have e3 : ((lI (-z)).toUInt64 >>> ((iI 63).toInt64.toUInt64 &&& Int64.toUInt64 63)).toInt64 = lI 1 := by
      apply Int64.toBitVec.inj
      apply BitVec.eq_of_toNat_eq
      have e4 : ((lI (-z)).toUInt64 >>> ((iI 63).toInt64.toUInt64 &&& Int64.toUInt64 63)).toInt64.toBitVec = (lI (-z)).toBitVec >>> 63 := by
        rw [← show (((iI 63).toInt64.toUInt64 &&& Int64.toUInt64 63).toBitVec % 64).toNat = 63 by decide +kernel]
        exact UInt64.toBitVec_shiftRight _ _
      rw [e4, BitVec.toNat_ushiftRight, Nat.shiftRight_eq_div_pow, bv_of_negL (by omega), show (lI 1).toBitVec.toNat = 1 by decide +kernel]
      omega
    rw [e2, or_0L, e3, sg_p q]
    decide +kernel
section GX
variable {p : Program} {l : Launch} {e : Env} {R : Room} {s : State} {m : MethodId} {args : Array Value} {below : List Frame} {meth : Method} {c : Code} {H : Heap} {locs : List Loc} {cells slots : Nat} {Q : State → Prop} {pc : Nat} {ls : Array Slot} {rest : List Value}
variable {D : va_G} {G : gT} {Ts : List Cond} {own : String} {cc : ByteArray} {nL : Nat} {A : Nat → Prop} {H0 : Heap} {ws : va_W}
theorem g_ishr (C : gC D G Ts own cc nL p s m args meth c) {x y : Int32} (hdg : decode cc pc = .ok (.ishr, 1)) (k : W p l e R s m args below meth c H locs cells slots Q (F0 m (pc + 1) ls (.int (x >>> (y &&& 31)) :: rest))) : W p l e R s m args below meth c H locs cells slots Q (F0 m pc ls (.int y :: .int x :: rest)) := lv_ishr C.1.1 C.1.2.1 hdg k
theorem g_iushr (C : gC D G Ts own cc nL p s m args meth c) {x y : Int32} (hdg : decode cc pc = .ok (.iushr, 1)) (k : W p l e R s m args below meth c H locs cells slots Q (F0 m (pc + 1) ls (.int (x.toUInt32 >>> (y.toUInt32 &&& Int32.toUInt32 31)).toInt32 :: rest))) : W p l e R s m args below meth c H locs cells slots Q (F0 m pc ls (.int y :: .int x :: rest)) := lv_iushr C.1.1 C.1.2.1 hdg rfl k
theorem g_lshr (C : gC D G Ts own cc nL p s m args meth c) {x : Int64} {y : Int32} (hdg : decode cc pc = .ok (.lshr, 1)) (k : W p l e R s m args below meth c H locs cells slots Q (F0 m (pc + 1) ls (.long (x >>> (y.toInt64 &&& 63)) :: rest))) : W p l e R s m args below meth c H locs cells slots Q (F0 m pc ls (.int y :: .long x :: rest)) := lv_lshr C.1.1 C.1.2.1 hdg rfl k
theorem g_lushr (C : gC D G Ts own cc nL p s m args meth c) {x : Int64} {y : Int32} (hdg : decode cc pc = .ok (.lushr, 1)) (k : W p l e R s m args below meth c H locs cells slots Q (F0 m (pc + 1) ls (.long (x.toUInt64 >>> (y.toInt64.toUInt64 &&& Int64.toUInt64 63)).toInt64 :: rest))) : W p l e R s m args below meth c H locs cells slots Q (F0 m pc ls (.int y :: .long x :: rest)) := lv_lushr C.1.1 C.1.2.1 hdg rfl k
theorem g_lor (C : gC D G Ts own cc nL p s m args meth c) {x y : Int64} (hdg : decode cc pc = .ok (.lor, 1)) (k : W p l e R s m args below meth c H locs cells slots Q (F0 m (pc + 1) ls (.long (x ||| y) :: rest))) : W p l e R s m args below meth c H locs cells slots Q (F0 m pc ls (.long y :: .long x :: rest)) := lv_lor C.1.1 C.1.2.1 hdg k
theorem g_l2iR (C : gC D G Ts own cc nL p s m args meth c) {x : Int64} (hdg : decode cc pc = .ok (.l2i, 1)) (k : W p l e R s m args below meth c H locs cells slots Q (F0 m (pc + 1) ls (.int x.toInt32 :: rest))) : W p l e R s m args below meth c H locs cells slots Q (F0 m pc ls (.long x :: rest)) := lv_l2i C.1.1 C.1.2.1 hdg rfl k
/-! copying -/
def cpI (f g : Int → Int) (sp dp n : Int) : Int → Int := fun j => if dp ≤ j ∧ j < dp + n then f (sp + (j - dp)) else g j
theorem cpI_aI {f g : Int → Int} {sp dp n : Int} (h1 : 0 ≤ sp) (h2 : 0 ≤ dp) (h3 : 0 ≤ n) : va_cpy (aI f) (aI g) sp.toNat dp.toNat n.toNat = aI (cpI f g sp dp n) := by
  funext j
  unfold va_cpy aI cpI
  by_cases q : dp.toNat ≤ j ∧ j < dp.toNat + n.toNat
  · rw [if_pos q, if_pos (by omega)]
    congr 2
    omega
  · rw [if_neg q, if_neg (by omega)]
theorem g_acopy (C : gC D G Ts own cc nL p s m args meth c) (hw : gW D A H0 ws H locs) {index a0 a1 n0 n1 : Nat} {f g : Int → Int} {sp dp n : Int} (ws' : va_W) (hml : ls.size = nL) (h1 : Cond.methodLink own index arraycopyName ∈ Ts) (h2 : Cond.native arraycopyName ∈ Ts) (h3 : Cond.static arraycopyName ∈ Ts) (h4 : Cond.initialized "java/lang/System" ∈ Ts) (q0 q1 : Nat) (he0 : ws[q0]? = some (cA G a0 n0 f)) (he1 : ws[q1]? = some (cA G a1 n1 g))
    (hs : 0 ≤ sp ∧ 0 ≤ dp ∧ 0 ≤ n ∧ sp + n ≤ n0 ∧ dp + n ≤ n1) (hn : n0 ≤ 2147483647 ∧ n1 ≤ 2147483647) (hfr : 1 ≤ R.frames) (hlo : (rest.map fun v => v.category).sum + (nativeFrameWords "java/lang/System" "arraycopy" 5 + 11) ≤ R.locals) (hws : ws.set q1 (cA G a1 n1 (cpI f g sp dp n)) = ws') (hdg : decode cc pc = .ok (.invokestatic index, 3))
    (kk : ∀ (H : Heap) (locs : List Loc), gW D A H0 ws' H locs → W p l e R s m args below meth c H locs cells slots Q (F0 m (pc + 3) ls rest)) : W p l e R s m args below meth c H locs cells slots Q (F0 m pc ls (.int (iI n) :: .int (iI dp) :: .ref a1 :: .int (iI sp) :: .ref a0 :: rest)) := by
  subst hws
  have e1 : (iI sp).toNatClampNeg = sp.toNat := iI_clamp (by omega)
  have e2 : (iI dp).toNatClampNeg = dp.toNat := iI_clamp (by omega)
  have e3 : (iI n).toNatClampNeg = n.toNat := iI_clamp (by omega)
  refine va_copyi C.1.1 C.1.2.1 (C.1.2.2.1.trans hml.symm) C.1.2.2.2.1 (C.1.2.2.2.2 _ h1) (C.1.2.2.2.2 _ h2) (C.1.2.2.2.2 _ h3) (C.1.2.2.2.2 _ h4) C.2.1 hw.1 hw.2.1 hw.2.2.1 q0 q1 0 0 he0 he1 rfl rfl rfl (by rw [iI_lt0 (by omega)]; omega) (by rw [iI_lt0 (by omega)]; omega) (by rw [iI_lt0 (by omega)]; omega) (by rw [e1, e3]; omega) (by rw [e2, e3]; omega) (fun _ _ => rfl) hfr hlo hdg (fun H locs a1 a2 a3 => kk H locs ?_)
  rw [e1, e2, e3, cpI_aI hs.1 hs.2.1 hs.2.2.1] at a1 a2
  exact ⟨a1, a2, a3, hw.2.2.2⟩
/-! making -/
theorem g_new (C : gC D G Ts own cc nL p s m args meth c) (hw : gW D A H0 ws H locs) {Cn : String} {T : u_T} {N ci index : Nat} (fs : List Value) (hin : ∀ w ∈ u_ws Cn T N, w ∈ Ts) (ty0 : Nat → FieldType) (hty : ∀ k, k < N → parseFieldDescriptor (T k).2.2.1 = some (ty0 k)) (hcl : Cond.classLink own index Cn ∈ Ts) (hinst : Cond.instantiable Cn N ∈ Ts) (hini : Cond.initialized Cn ∈ Ts) (hc : vwCl[ci]? = some (Cn, T, N)) (hfs : ∀ j, j < N → defaultValue (ty0 j) = vp_V fs j) (hcells : cells + 1 ≤ R.cells) (hslots : slots + N ≤ R.slots) (hdg : decode cc pc = .ok (.new index, 3))
    (kk : ∀ (q : Nat) (H : Heap), gW D A H0 (ws ++ [cO q ci fs]) H locs → W p l e R s m args below meth c H locs (cells + 1) (slots + N) Q (F0 m (pc + 3) ls (.ref q :: rest))) : W p l e R s m args below meth c H locs cells slots Q (F0 m pc ls rest) :=
  va_new C.1.1 C.1.2.1 C.1.2.2.2.2 hin ty0 hty C.1.2.2.2.1 (C.1.2.2.2.2 _ hcl) (C.1.2.2.2.2 _ hinst) (C.1.2.2.2.2 _ hini) C.2.1 hw.1 hw.2.1 hw.2.2.1 hw.2.2.2 hc hfs hcells hslots hdg (fun q H a1 a2 a3 => kk q H ⟨a1, a2, a3, hw.2.2.2⟩)
theorem g_newI (C : gC D G Ts own cc nL p s m args meth c) (hw : gW D A H0 ws H locs) {z : Int} (n : Nat) (hz : z = n) (hn : n ≤ 100000) (harr : Cond.arrayClass .int ∈ Ts) (hcells : cells + 1 ≤ R.cells) (hslots : slots + n ≤ R.slots) (hdg : decode cc pc = .ok (.newarray .int, 2))
    (kk : ∀ (q : Nat) (H : Heap), gW D A H0 (ws ++ [cA G q n (fun _ => 0)]) H locs → W p l e R s m args below meth c H locs (cells + 1) (slots + n) Q (F0 m (pc + 2) ls (.ref q :: rest))) : W p l e R s m args below meth c H locs cells slots Q (F0 m pc ls (.int (iI z) :: rest)) := by
  subst hz
  refine va_newa (atype := .int) (ty := .int) (a0 := (n, .inl (aI (fun _ => 0)))) (N' := n) C.1.1 C.1.2.1 (C.1.2.2.2.2 _ harr) rfl C.2.1 hw.1 hw.2.1 hw.2.2.1 hw.2.2.2 (fun c => ?_) (by rw [iI_lt0 (by omega)]; omega) (by rw [iI_clamp (by omega)]; omega) (by show n * 4 ≤ 536870912; omega) hcells hslots hdg (fun q cX H hK a1 a2 a3 => ?_)
  · rw [vp_cell_i]
    congr 1
  · have h1 : s.vm.findClass ("[" ++ FieldType.int.toString) = some G.1 := (C.2.1.2 0 (G.1, .int) rfl).2
    have h2 : s.vm.findClass ("[" ++ FieldType.int.toString) = some cX := (hK.2 3 (cX, .int) rfl).2
    have e : cX = G.1 := Option.some.inj (h2.symm.trans h1)
    subst e
    exact kk q H ⟨a1, a2, a3, hw.2.2.2⟩
theorem g_newJ (C : gC D G Ts own cc nL p s m args meth c) (hw : gW D A H0 ws H locs) {z : Int} (n : Nat) (hz : z = n) (hn : n ≤ 100000) (harr : Cond.arrayClass .long ∈ Ts) (hcells : cells + 1 ≤ R.cells) (hslots : slots + n ≤ R.slots) (hdg : decode cc pc = .ok (.newarray .long, 2))
    (kk : ∀ (q : Nat) (H : Heap), gW D A H0 (ws ++ [cJ G q n (fun _ => 0)]) H locs → W p l e R s m args below meth c H locs (cells + 1) (slots + n) Q (F0 m (pc + 2) ls (.ref q :: rest))) : W p l e R s m args below meth c H locs cells slots Q (F0 m pc ls (.int (iI z) :: rest)) := by
  subst hz
  refine va_newa (atype := .long) (ty := .long) (a0 := (n, .inr (.inl (aL (fun _ => 0))))) (N' := n) C.1.1 C.1.2.1 (C.1.2.2.2.2 _ harr) rfl C.2.1 hw.1 hw.2.1 hw.2.2.1 hw.2.2.2 (fun c => ?_) (by rw [iI_lt0 (by omega)]; omega) (by rw [iI_clamp (by omega)]; omega) (by show n * 8 ≤ 536870912; omega) hcells hslots hdg (fun q cX H hK a1 a2 a3 => ?_)
  · rw [vp_cell_l]
    congr 1
  · have h1 : s.vm.findClass ("[" ++ FieldType.long.toString) = some G.2.1 := (C.2.1.2 1 (G.2.1, .long) rfl).2
    have h2 : s.vm.findClass ("[" ++ FieldType.long.toString) = some cX := (hK.2 3 (cX, .long) rfl).2
    have e : cX = G.2.1 := Option.some.inj (h2.symm.trans h1)
    subst e
    exact kk q H ⟨a1, a2, a3, hw.2.2.2⟩
end GX
