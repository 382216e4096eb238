/-! makers of nest mates, a row of references -/
def zZ (U : State) : Prop := va_AO "RootSigns$Sheet" U ∧ va_Nw (.methodLinkNest RX5 19 yX4_init "RootSigns") U ∧ va_Nw (.methodLinkNest RX5 26 yX0_init "RootSigns") U ∧ va_Nw (.methodLinkNest RX5 39 yX3_init "RootSigns") U ∧ va_Nw (.methodLinkNest RX5 46 yX1_init "RootSigns") U ∧ va_Nw (.methodLinkNest RX3 11 yX4_init "RootSigns") U
theorem zZ.warm {s U : State} (hW : s.WarmedH U.vm) (h : zZ s) : zZ U :=
  ⟨va_AO.moved hW.alike h.1, va_Nw.warmM hW h.2.1, va_Nw.warmM hW h.2.2.1, va_Nw.warmM hW h.2.2.2.1, va_Nw.warmM hW h.2.2.2.2.1, va_Nw.warmM hW h.2.2.2.2.2⟩
theorem zZ.same {u U : State} (hv : u.vm = U.vm) (h : zZ u) : zZ U :=
  ⟨va_AO.moved (by rw [hv]; exact Vm.Alike.refl U.vm) h.1, va_Nw.same rfl hv h.2.1, va_Nw.same rfl hv h.2.2.1, va_Nw.same rfl hv h.2.2.2.1, va_Nw.same rfl hv h.2.2.2.2.1, va_Nw.same rfl hv h.2.2.2.2.2⟩
def gMvZ (l : Launch) (y : MethodName) (ws : List Cond) (rm : Room) (D : va_G) (G : gT) (av : List Value) (w0 : va_W) (mc ms : Nat) (post : va_W → Prop) : Prop :=
  ∀ sz : Nat, Met l y ws rm (va_Pc av (fun U => gPre D G w0 sz U ∧ zZ U)) (va_Qv post (gB D G (va_A w0 sz)) (va_A w0 sz)) mc ms (va_A w0 sz)
section GZZ
variable {p : Program} {l : Launch} {e : Env} {R : Room} {s : State} {m : MethodId} {args : Array Value} {below : List Frame} {meth : Method} {c : Code} {H : Heap} {locs : List Loc} {cells slots : Nat} {Q : State → Prop} {pc : Nat} {ls : Array Slot} {rest : List Value}
variable {D : va_G} {G : gT} {Ts : List Cond} {own : String} {cc : ByteArray} {nL : Nat} {A : Nat → Prop} {H0 : Heap} {ws : va_W}
theorem g_start_vZ {y : MethodName} {rm : Room} {av : List Value} {w0 : va_W} {mc ms : Nat} {post : va_W → Prop} {Ts' : List Cond} {ret : Option FieldType} (hy : plainName y.cls = true) (hcs : y.cls = own) (hw : Ts = .code y cc nL ret :: Ts') (hlen : (lg_sl av).length ≤ nL)
    (body : ∀ (p : Program) (e : Env) (s : State) (m : MethodId) (below : List Frame) (meth : Method) (c : Code) (A : Nat → Prop) (ls : Array Slot), gC D G Ts own cc nL p s m av.toArray meth c → meth.sig.returnType = ret → meth.name = y.name → gW D A s.heap w0 s.heap [] → lv_has ls nL (lv_args 0 av) → zZ s →
      W p l e rm s m av.toArray below meth c s.heap [] 0 0 (MQ below (va_Qv post (gB D G A) A) av.toArray s mc ms A) (F0 m 0 ls [])) : gMvZ l y Ts rm D G av w0 mc ms post := by
  intro sz
  refine Met.ofW (cc := cc) (maxL := nL) (ret := ret) hy hw ?_
  intro p e s m args below meth c s₁ B hml hv
  obtain ⟨rfl, ⟨rfl, hP, hK, hD0⟩, hZ⟩ := hv
  have hl := lv_entry av (n := nL) hlen
  rw [lg_entry_eq]
  have hown := findClass_of_methodNamed B.named
  rw [hcs] at hown
  exact body p e s m below meth c (va_A w0 s.heap.size) _ ⟨⟨B.exec, B.bytes, hml, hown, atoms_spec (ws := Ts) B.pre⟩, hK, B.notSynchronized⟩ B.returns (name_of_methodNamed B.named B.method).1 ⟨hP, hD0.self, va_S.rf, fun q h => Or.inr h⟩ hl hZ
theorem g_callNvZ (C : gC D G Ts own cc nL p s m args meth c) (hZ : zZ s) (hw : gW D A H0 ws H locs) {y : MethodName} {wy : List Cond} {rm : Room} {As : List Value} {wc wr : va_W} {mc ms n index maxL : Nat} {bytes : ByteArray} {post : va_W → Prop} {b : Nat} {host : String} (hM : gMvZ l y wy rm D G (.ref b :: As) wc mc ms post) (cw : va_CN R s args own index y host bytes maxL none wy rm mc ms n ∧ y.name = "<init>" ∧ (Cond.instanceMethod y).before args s = true)
    (isC isR : List Nat) (hC : isC.map (fun i => ws[i]?) = wc.map some) (hR : isR.map (fun i => ws[i]?) = wr.map some) (hnC : va_nd isC = true) (hnR : va_nd isR = true) (hdis : ∀ i ∈ isR, i ∉ isC) (hn : As.length = n) (hsz : ls.size = nL) (st0 : List Value) (hst : st0 = As.reverse ++ .ref b :: rest) (hrm : (rest.map fun v => v.category).sum ≤ 8) (hdg : decode cc pc = .ok (.invokespecial index, 3)) (hf : cells + mc ≤ R.cells ∧ slots + ms ≤ R.slots)
    (kk : ∀ (w1 : va_W) (H : Heap) (locs : List Loc), post w1 → gW D A H0 (wr ++ w1) H locs → W p l e R s m args below meth c H locs (cells + mc) (slots + ms) Q (F0 m (pc + 3) ls (rest))) : W p l e R s m args below meth c H locs cells slots Q (F0 m pc ls st0) := by
  subst hst
  have hPc : va_P D vwCl wc H := g_subP hw.1 isC hC
  have hDc := hw.2.1.sub isC hnC hC
  have hFc := va_free hw.2.1 hw.2.2.1 hw.2.2.2 isC hC
  refine va_callv (va_runIN (As := As) (rest := rest) C.1 (hM H.size) cw ⟨fun a U g mk q => by obtain ⟨q0, ⟨q1, qP, qK, qD⟩, qZ⟩ := q; exact ⟨q0, ⟨q1, qP, va_K.moved (u := U) (U := U.calling g mk a) (Vm.Alike.refl U.vm) qK, qD⟩, zZ.same (u := U) (U := U.calling g mk a) rfl qZ⟩, fun U hU hW => ⟨rfl, ⟨by rw [hU], by rw [hU]; exact hPc, va_K.moved hW.alike C.2.1, hDc.weaken (fun _ _ _ _ => trivial)⟩, zZ.warm hW hZ⟩⟩ rfl hn hsz rfl (lv_room hrm) hdg hf) hw.2.2.1 (fun q _ h => hFc q h) hFc ?_
  intro w1 t H1 locs1 ht hvm hp hB hz1 hk1 hS
  obtain ⟨hP1, hK1, hD1⟩ := hB
  rw [ht] at hP1
  obtain ⟨hP2, hD2⟩ := va_join hw.1 hw.2.1 isC isR hC hR hnR hdis hk1 hFc hP1 hD1
  exact kk w1 H1 locs1 hp ⟨hP2, hD2, hS, hw.2.2.2⟩
theorem g_callIvZ (C : gC D G Ts own cc nL p s m args meth c) (hZ : zZ s) (hw : gW D A H0 ws H locs) {y : MethodName} {wy : List Cond} {rm : Room} {As : List Value} {wc wr : va_W} {mc ms n index maxL : Nat} {bytes : ByteArray} {post : va_W → Prop} {b : Nat} (hM : gMvZ l y wy rm D G (.ref b :: As) wc mc ms post) (cw : CallB R s args own index y bytes maxL none wy rm mc ms n ∧ y.name = "<init>" ∧ (Cond.instanceMethod y).before args s = true)
    (isC isR : List Nat) (hC : isC.map (fun i => ws[i]?) = wc.map some) (hR : isR.map (fun i => ws[i]?) = wr.map some) (hnC : va_nd isC = true) (hnR : va_nd isR = true) (hdis : ∀ i ∈ isR, i ∉ isC) (hn : As.length = n) (hsz : ls.size = nL) (st0 : List Value) (hst : st0 = As.reverse ++ .ref b :: rest) (hrm : (rest.map fun v => v.category).sum ≤ 8) (hdg : decode cc pc = .ok (.invokespecial index, 3)) (hf : cells + mc ≤ R.cells ∧ slots + ms ≤ R.slots)
    (kk : ∀ (w1 : va_W) (H : Heap) (locs : List Loc), post w1 → gW D A H0 (wr ++ w1) H locs → W p l e R s m args below meth c H locs (cells + mc) (slots + ms) Q (F0 m (pc + 3) ls (rest))) : W p l e R s m args below meth c H locs cells slots Q (F0 m pc ls st0) := by
  subst hst
  have hPc : va_P D vwCl wc H := g_subP hw.1 isC hC
  have hDc := hw.2.1.sub isC hnC hC
  have hFc := va_free hw.2.1 hw.2.2.1 hw.2.2.2 isC hC
  refine va_callv (va_runI (As := As) (rest := rest) C.1 (hM H.size) cw ⟨fun a U g mk q => by obtain ⟨q0, ⟨q1, qP, qK, qD⟩, qZ⟩ := q; exact ⟨q0, ⟨q1, qP, va_K.moved (u := U) (U := U.calling g mk a) (Vm.Alike.refl U.vm) qK, qD⟩, zZ.same (u := U) (U := U.calling g mk a) rfl qZ⟩, fun U hU hW => ⟨rfl, ⟨by rw [hU], by rw [hU]; exact hPc, va_K.moved hW.alike C.2.1, hDc.weaken (fun _ _ _ _ => trivial)⟩, zZ.warm hW hZ⟩⟩ rfl hn hsz rfl (lv_room hrm) hdg hf) hw.2.2.1 (fun q _ h => hFc q h) hFc ?_
  intro w1 t H1 locs1 ht hvm hp hB hz1 hk1 hS
  obtain ⟨hP1, hK1, hD1⟩ := hB
  rw [ht] at hP1
  obtain ⟨hP2, hD2⟩ := va_join hw.1 hw.2.1 isC isR hC hR hnR hdis hk1 hFc hP1 hD1
  exact kk w1 H1 locs1 hp ⟨hP2, hD2, hS, hw.2.2.2⟩
theorem g_newQ (C : gC D G Ts own cc nL p s m args meth c) (hZ : zZ s) (hw : gW D A H0 ws H locs) {z : Int} {index : Nat} (n : Nat) (hz : z = n) (hn : n ≤ 100000) (hcl : Cond.classLink own index "RootSigns$Sheet" ∈ Ts) (hcells : cells + 1 ≤ R.cells) (hslots : slots + n ≤ R.slots) (hdg : decode cc pc = .ok (.anewarray index, 3))
    (kk : ∀ (q : Nat) (H : Heap), gW D A H0 (ws ++ [cQ G q n (fun _ => none)]) H locs → W p l e R s m args below meth c H locs (cells + 1) (slots + n) Q (F0 m (pc + 3) ls (.ref q :: rest))) : W p l e R s m args below meth c H locs cells slots Q (F0 m pc ls (.int (iI z) :: rest)) := by
  subst hz
  refine va_newq (N' := n) C.1.1 C.1.2.1 C.1.2.2.2.1 (C.1.2.2.2.2 _ hcl) hZ.1 C.2.1 hw.1 hw.2.1 hw.2.2.1 hw.2.2.2 (by rw [iI_lt0 (by omega)]; omega) (by rw [iI_clamp (by omega)]; omega) (by omega) hcells hslots hdg (fun q cX H hK a1 a2 a3 => ?_)
  obtain ⟨_, _, _, _, _, h1⟩ := (C.2.1.2 2 (G.2.2, .object "RootSigns$Sheet") rfl).2
  obtain ⟨_, _, _, _, _, h2⟩ := (hK.2 3 (cX, .object "RootSigns$Sheet") rfl).2
  have e : cX = G.2.2 := Option.some.inj (h2.symm.trans h1)
  subst e
  exact kk q H ⟨a1, a2, a3, hw.2.2.2⟩
end GZZ
