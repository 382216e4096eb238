section GZ
variable {p : Program} {l : Launch} {e : Env} {R : Room} {s : State} {m : MethodId} {args : Array Value} {below : List Frame} {meth : Method} {c : Code} {H : Heap} {locs : List Loc} {cells slots : Nat} {Q : State → Prop} {pc : Nat} {ls : Array Slot} {rest : List Value}
variable {D : va_G} {G : gT} {Ts : List Cond} {own : String} {cc : ByteArray} {nL : Nat} {A : Nat → Prop} {H0 : Heap} {ws : va_W}
theorem g_topv {x y : Value} (h : x = y) (k : W p l e R s m args below meth c H locs cells slots Q (F0 m pc ls (y :: rest))) : W p l e R s m args below meth c H locs cells slots Q (F0 m pc ls (x :: rest)) := by
  subst h
  exact k
theorem g_astN (C : gC D G Ts own cc nL p s m args meth c) (hw : gW D A H0 ws H locs) {a n : Nat} {f : Nat → Option Nat} {z : Int} (ws' : va_W) (q0 : Nat) (he : ws[q0]? = some (cQ G a n f)) (hz : 0 ≤ z ∧ z < n) (hn : n ≤ 2147483647) (hws : ws.set q0 (cQ G a n (va_up f z.toNat none)) = ws') (hdg : decode cc pc = .ok (.aastore, 1))
    (kk : ∀ (H : Heap) (locs : List Loc), gW D A H0 ws' H locs → W p l e R s m args below meth c H locs cells slots Q (F0 m (pc + 1) ls rest)) : W p l e R s m args below meth c H locs cells slots Q (F0 m pc ls (.null :: .int (iI z) :: .ref a :: rest)) := by
  subst hws
  refine va_astqN C.1.1 C.1.2.1 C.2.1 hw.1 hw.2.1 hw.2.2.1 q0 2 he rfl (iI_in hz hn) hdg (fun H locs a1 a2 a3 => kk H locs ?_)
  rw [iI_clamp (by omega)] at a1 a2
  exact ⟨a1, a2, a3, hw.2.2.2⟩
theorem g_astR (C : gC D G Ts own cc nL p s m args meth c) (hw : gW D A H0 ws H locs) {a n v : Nat} {f : Nat → Option Nat} {z : Int} {vs : List Value} (ws' : va_W) (q0 qk : Nat) (he : ws[q0]? = some (cQ G a n f)) (hv : ws[qk]? = some (cO v 2 vs)) (hz : 0 ≤ z ∧ z < n) (hn : n ≤ 2147483647) (hws : ws.set q0 (cQ G a n (va_up f z.toNat (some v))) = ws') (hdg : decode cc pc = .ok (.aastore, 1))
    (kk : ∀ (H : Heap) (locs : List Loc), gW D A H0 ws' H locs → W p l e R s m args below meth c H locs cells slots Q (F0 m (pc + 1) ls rest)) : W p l e R s m args below meth c H locs cells slots Q (F0 m pc ls (.ref v :: .int (iI z) :: .ref a :: rest)) := by
  subst hws
  refine va_astq C.1.1 C.1.2.1 C.2.1 hw.1 hw.2.1 hw.2.2.1 q0 2 qk 2 he rfl hv rfl (iI_in hz hn) hdg (fun H locs a1 a2 a3 => kk H locs ?_)
  rw [iI_clamp (by omega)] at a1 a2
  exact ⟨a1, a2, a3, hw.2.2.2⟩
end GZ
theorem rf_n {o : Option Nat} (h : o = none) : va_rf o = .null := by rw [h]; rfl
theorem rf_s {o : Option Nat} {s : Nat} (h : o = some s) : va_rf o = .ref s := by rw [h]; rfl
