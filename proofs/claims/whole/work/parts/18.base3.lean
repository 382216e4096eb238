theorem g_perm {D : va_G} {A : Nat → Prop} {H0 : Heap} {ws ws' : va_W} {H : Heap} {locs : List Loc} (hw : gW D A H0 ws H locs) (is : List Nat) (hn : va_nd is = true) (hs : is.map (fun i => ws[i]?) = ws'.map some) : gW D A H0 ws' H locs :=
  ⟨g_subP hw.1 is hs, hw.2.1.sub is hn hs, hw.2.2.1, hw.2.2.2⟩
theorem g_eqW {D : va_G} {A : Nat → Prop} {H0 : Heap} {ws ws' : va_W} {H : Heap} {locs : List Loc} (hw : gW D A H0 ws H locs) (he : ws = ws') : gW D A H0 ws' H locs := he ▸ hw
theorem bI_z (P : Prop) {d : Decidable P} : iI (bI P) = iI 0 ∨ iI (bI P) = iI 1 := by
  by_cases h : P
  · exact Or.inr (by rw [bI_t h])
  · exact Or.inl (by rw [bI_f h])
abbrev oX0 (h : Nat) (a : Nat → Nat) (cn ul rw : Int) : Nat × va_E := cO h 0 [.int (iI cn), .ref ((a 1)), .ref ((a 2)), .ref ((a 3)), .ref ((a 4)), .ref ((a 5)), .ref ((a 6)), .int (iI ul), .ref ((a 8)), .ref ((a 9)), .int (iI rw), .ref ((a 11)), .ref ((a 12)), .ref ((a 13))]
abbrev oX1 (h : Nat) (a : Nat → Nat) (rc : Int) : Nat × va_E := cO h 1 [.int (iI rc), .ref ((a 1)), .ref ((a 2)), .ref ((a 3))]
abbrev oX2 (h : Nat) (a : Nat → Nat) (la : Int) : Nat × va_E := cO h 2 [.int (iI la), .ref ((a 1))]
abbrev oX3 (h : Nat) (a : Nat → Nat) (sp ce da : Int) : Nat × va_E := cO h 3 [.ref ((a 0)), .int (iI sp), .int (iI ce), .int (iI da)]
abbrev oX4 (h : Nat) (a : Nat → Nat) (cn : Int) : Nat × va_E := cO h 4 [.int (iI cn), .ref ((a 1)), .ref ((a 2))]
abbrev oX5 (h : Nat) (a : Nat → Nat) (tr lf : Int) : Nat × va_E := cO h 5 [.ref ((a 0)), .ref ((a 1)), .ref ((a 2)), .ref ((a 3)), .ref ((a 4)), .ref ((a 5)), .ref ((a 6)), .int (iI tr), .int (iI lf)]
abbrev oX6 (h : Nat) (a : Nat → Nat) (ft pn ra rm rP rS rD rQ al rw rc tr : Int) : Nat × va_E := cO h 6 [.int (iI ft), .int (iI pn), .ref ((a 2)), .ref ((a 3)), .int (iI ra), .int (iI rm), .ref ((a 6)), .ref ((a 7)), .long (lI (rP)), .long (lI (rS)), .long (lI (rD)), .long (lI (rQ)), .int (iI al), .ref ((a 13)), .ref ((a 14)), .ref ((a 15)), .ref ((a 16)), .ref ((a 17)), .ref ((a 18)), .ref ((a 19)), .int (iI rw), .int (iI rc), .ref ((a 22)), .ref ((a 23)), .ref ((a 24)), .ref ((a 25)), .ref ((a 26)), .ref ((a 27)), .ref ((a 28)), .int (iI tr)]
