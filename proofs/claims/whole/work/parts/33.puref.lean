/-! texts -/
abbrev pyT : Type := Int × List Int
def cdF (ce : Int → Int) (f n x : Int) : Int := if x < n then ce (f + x) else -9
def vlD (stp c : Int) : Int := if stp = 4 then -(c - 48) else c - 48
def stD (c stp kn : Int) (vs : List Int) (acc : List pyT) : Option (Int × Int × List Int × List pyT) :=
  if stp = 0 then (if c = 112 then some (1, 0, [], acc) else none)
  else if stp = 1 then (if c = 59 ∧ acc.length < 4 then some (2, 0, [], acc) else none)
  else if stp = 2 then (if c = 112 then some (3, 0, [], acc) else if c = 109 then some (3, 1, [], acc) else if c = 115 then some (3, 2, [], acc) else none)
  else if stp = 3 ∧ c = 45 then some (4, kn, vs, acc)
  else if 48 ≤ c ∧ c ≤ 57 then (if vs.length = 2 then some (1, 0, [], acc ++ [(kn, vs ++ [vlD stp c])]) else some (3, kn, vs ++ [vlD stp c], acc))
  else none
def runD (cd : Int → Int) (n : Int) : Nat → Int → Int → Int → List Int → List pyT → Int × List pyT
  | 0, _, stp, _, _, acc => if stp = 1 ∧ 0 < acc.length then (-9, acc) else (n, acc)
  | f + 1, at_, stp, kn, vs, acc => match stD (cd at_) stp kn vs acc with
    | none => (at_, acc)
    | some q => runD cd n f (at_ + 1) q.1 q.2.1 q.2.2.1 q.2.2.2
def RUN (cd : Int → Int) (n at_ stp kn : Int) (vs : List Int) (acc : List pyT) : Int × List pyT := runD cd n (n - at_).toNat at_ stp kn vs acc
theorem RUN_n {cd : Int → Int} {n at_ stp kn : Int} {vs : List Int} {acc : List pyT} (h : at_ < n) (hs : stD (cd at_) stp kn vs acc = none) : RUN cd n at_ stp kn vs acc = (at_, acc) := by
  unfold RUN
  rw [show (n - at_).toNat = (n - (at_ + 1)).toNat + 1 by omega, runD, hs]
theorem RUN_s {cd : Int → Int} {n at_ stp kn stp2 kn2 : Int} {vs vs2 : List Int} {acc acc2 : List pyT} (h : at_ < n) (hs : stD (cd at_) stp kn vs acc = some (stp2, kn2, vs2, acc2)) : RUN cd n at_ stp kn vs acc = RUN cd n (at_ + 1) stp2 kn2 vs2 acc2 := by
  unfold RUN
  rw [show (n - at_).toNat = (n - (at_ + 1)).toNat + 1 by omega, runD, hs]
theorem RUN_e {cd : Int → Int} {n stp kn : Int} {vs : List Int} {acc : List pyT} : RUN cd n n stp kn vs acc = if stp = 1 ∧ 0 < acc.length then (-9, acc) else (n, acc) := by
  unfold RUN
  rw [show (n - n).toNat = 0 by omega, runD]
/-- rows that hold polynomials -/
def hasP (rk rt : Int → Int) (acc : List pyT) : Prop := ∀ (j : Nat) (x : pyT), acc[j]? = some x → rk j = x.1 ∧ (0 ≤ x.1 ∧ x.1 ≤ 2) ∧ x.2 = [rt (3 * j), rt (3 * j + 1), rt (3 * j + 2)]
theorem hasP_0 (rk rt : Int → Int) : hasP rk rt [] := by intro j x h; simp at h
theorem hasP_push {rk rt rk2 rt2 : Int → Int} {acc : List pyT} {kn v0 v1 v2 : Int} (h : hasP rk rt acc) (hk : 0 ≤ kn ∧ kn ≤ 2) (h1 : ∀ j, j < (acc.length : Int) → rk2 j = rk j) (h2 : rk2 acc.length = kn) (h3 : ∀ j, j < 3 * (acc.length : Int) → rt2 j = rt j)
    (h4 : rt2 (3 * acc.length) = v0) (h5 : rt2 (3 * acc.length + 1) = v1) (h6 : rt2 (3 * acc.length + 2) = v2) : hasP rk2 rt2 (acc ++ [(kn, [v0, v1, v2])]) := by
  intro j x hx
  rcases Nat.lt_trichotomy j acc.length with q | q | q
  · rw [List.getElem?_append_left q] at hx
    obtain ⟨a1, a2, a3⟩ := h j x hx
    refine ⟨by rw [h1 j (by omega)]; exact a1, a2, ?_⟩
    rw [h3 _ (by omega), h3 _ (by omega), h3 _ (by omega)]
    exact a3
  · subst q
    rw [List.getElem?_append_right (Nat.le_refl _), Nat.sub_self] at hx
    cases hx
    exact ⟨h2, hk, by rw [h4, h5, h6]⟩
  · rw [List.getElem?_eq_none (by simp; omega)] at hx
    cases hx
noncomputable def P_st (k lane : Int) : Int := if ¬ (0 ≤ k ∧ k ≤ 3) then -1 else if ¬ (0 ≤ lane ∧ lane ≤ 2) then -2 else 0
def PRS (ce : Int → Int) (f n : Int) : Int × List pyT := RUN (cdF ce f n) n 0 0 0 [] []
noncomputable def R_pol (sz ln ce : Int → Int) (k lane i n : Int) : Int := if ¬ P_st k lane = 0 then P_st k lane else if ¬ barC sz ln k lane i n = 0 then -10 - barC sz ln k lane i n else if (PRS ce (60 * k + i) n).1 = -9 then (PRS ce (60 * k + i) n).2.length else -100 - (PRS ce (60 * k + i) n).1
noncomputable def F_pol (sz ln : Int → Int) (k lane i n : Int) : Int := if ¬ P_st k lane = 0 then 0 else barC sz ln k lane i n
/-- a text is taken -/
def okP (sz ln ce : Int → Int) (k lane i n : Int) : Prop := P_st k lane = 0 ∧ barC sz ln k lane i n = 0 ∧ (PRS ce (60 * k + i) n).1 = -9
theorem R_pol_1 {sz ln ce : Int → Int} {k lane i n : Int} (h : ¬ P_st k lane = 0) : R_pol sz ln ce k lane i n = P_st k lane ∧ F_pol sz ln k lane i n = 0 ∧ ¬ okP sz ln ce k lane i n := ⟨if_pos h, if_pos h, fun q => h q.1⟩
theorem R_pol_2 {sz ln ce : Int → Int} {k lane i n : Int} (h0 : P_st k lane = 0) (h : ¬ barC sz ln k lane i n = 0) : R_pol sz ln ce k lane i n = -10 - barC sz ln k lane i n ∧ F_pol sz ln k lane i n = barC sz ln k lane i n ∧ ¬ okP sz ln ce k lane i n := by
  unfold R_pol F_pol
  rw [if_neg (fun q => q h0), if_pos h, if_neg (fun q => q h0)]
  exact ⟨rfl, rfl, fun q => h q.2.1⟩
theorem R_pol_3 {sz ln ce : Int → Int} {k lane i n : Int} (h0 : P_st k lane = 0) (h : barC sz ln k lane i n = 0) (h2 : ¬ (PRS ce (60 * k + i) n).1 = -9) : R_pol sz ln ce k lane i n = -100 - (PRS ce (60 * k + i) n).1 ∧ F_pol sz ln k lane i n = 0 ∧ ¬ okP sz ln ce k lane i n := by
  unfold R_pol F_pol
  rw [if_neg (fun q => q h0), if_neg (fun q => q h), if_neg h2, if_neg (fun q => q h0)]
  exact ⟨rfl, h, fun q => h2 q.2.2⟩
theorem R_pol_4 {sz ln ce : Int → Int} {k lane i n : Int} (h0 : P_st k lane = 0) (h : barC sz ln k lane i n = 0) (h2 : (PRS ce (60 * k + i) n).1 = -9) : R_pol sz ln ce k lane i n = (PRS ce (60 * k + i) n).2.length ∧ F_pol sz ln k lane i n = 0 ∧ okP sz ln ce k lane i n := by
  unfold R_pol F_pol
  rw [if_neg (fun q => q h0), if_neg (fun q => q h), if_pos h2, if_neg (fun q => q h0)]
  exact ⟨rfl, h, h0, h, h2⟩
def nuP (cd : Int → Int) (n ra rm kk : Int) (rt : Int → Int) (ok ra2 : Int) (rt2 : Int → Int) : Prop :=
  (ok = 1 ∧ ra < ra2 ∧ ra2 ≤ n ∧ ∃ v, (-9 ≤ v ∧ v ≤ 9) ∧ rt2 = up rt (3 * rm + kk) v ∧ ∀ (kn : Int) (vs : List Int) (acc : List pyT), (vs.length : Int) = kk → RUN cd n ra 3 kn vs acc = if kk = 2 then RUN cd n ra2 1 0 [] (acc ++ [(kn, vs ++ [v])]) else RUN cd n ra2 3 kn (vs ++ [v]) acc)
  ∨ (ok = 0 ∧ ra ≤ ra2 ∧ ra2 ≤ n ∧ rt2 = rt ∧ ∀ (kn : Int) (vs : List Int) (acc : List pyT), (vs.length : Int) = kk → RUN cd n ra 3 kn vs acc = (ra2, acc))
theorem stD_45 {c kn : Int} {vs : List Int} {acc : List pyT} (h : c = 45) : stD c 3 kn vs acc = some (4, kn, vs, acc) := by
  unfold stD
  rw [if_neg (by decide), if_neg (by decide), if_neg (by decide), if_pos ⟨rfl, h⟩]
theorem stD_dg {c stp kn : Int} {vs : List Int} {acc : List pyT} (hs : stp = 3 ∨ stp = 4) (h : ¬ (stp = 3 ∧ c = 45)) (hd : 0 ≤ c - 48 ∧ c - 48 ≤ 9) : stD c stp kn vs acc = if vs.length = 2 then some (1, 0, [], acc ++ [(kn, vs ++ [vlD stp c])]) else some (3, kn, vs ++ [vlD stp c], acc) := by
  unfold stD
  rw [if_neg (by omega), if_neg (by omega), if_neg (by omega), if_neg h, if_pos (by omega)]
theorem stD_nd {c stp kn : Int} {vs : List Int} {acc : List pyT} (hs : stp = 3 ∨ stp = 4) (h : ¬ (stp = 3 ∧ c = 45)) (hd : ¬ (0 ≤ c - 48 ∧ c - 48 ≤ 9)) : stD c stp kn vs acc = none := by
  unfold stD
  rw [if_neg (by omega), if_neg (by omega), if_neg (by omega), if_neg h, if_neg (by omega)]
theorem RUN_dg {cd : Int → Int} {n ra stp kn : Int} {vs : List Int} {acc : List pyT} (h : ra < n) (hs : stp = 3 ∨ stp = 4) (h4 : ¬ (stp = 3 ∧ cd ra = 45)) (hd : 0 ≤ cd ra - 48 ∧ cd ra - 48 ≤ 9) :
    RUN cd n ra stp kn vs acc = if (vs.length : Int) = 2 then RUN cd n (ra + 1) 1 0 [] (acc ++ [(kn, vs ++ [vlD stp (cd ra)])]) else RUN cd n (ra + 1) 3 kn (vs ++ [vlD stp (cd ra)]) acc := by
  have e := stD_dg (kn := kn) (vs := vs) (acc := acc) hs h4 hd
  by_cases q : vs.length = 2
  · rw [if_pos q] at e
    rw [RUN_s h e, if_pos (by omega)]
  · rw [if_neg q] at e
    rw [RUN_s h e, if_neg (by omega)]
theorem RUN_nd {cd : Int → Int} {n ra stp kn : Int} {vs : List Int} {acc : List pyT} (h : ra ≤ n) (hs : stp = 3 ∨ stp = 4) (h4 : ¬ (stp = 3 ∧ cd ra = 45)) (hd : ¬ (0 ≤ cd ra - 48 ∧ cd ra - 48 ≤ 9)) : RUN cd n ra stp kn vs acc = (ra, acc) := by
  by_cases q : ra = n
  · subst q
    rw [RUN_e, if_neg (by omega)]
  · exact RUN_n (by omega) (stD_nd hs h4 hd)
theorem pn_A {cd : Int → Int} {n ra rm kk : Int} {rt : Int → Int} (h1 : ¬ cd ra = 45) (h2 : 0 ≤ cd ra - 48 ∧ cd ra - 48 ≤ 9) (h3 : ra < n) : nuP cd n ra rm kk rt 1 (ra + 1) (up rt (3 * rm + kk) (cd ra - 48)) := by
  refine Or.inl ⟨rfl, by omega, by omega, cd ra - 48, by omega, rfl, fun kn vs acc hv => ?_⟩
  rw [RUN_dg h3 (Or.inl rfl) (fun q => h1 q.2) h2, hv]
  rfl
theorem pn_C {cd : Int → Int} {n ra rm kk : Int} {rt : Int → Int} (h1 : cd ra = 45) (h2 : 0 ≤ cd (ra + 1) - 48 ∧ cd (ra + 1) - 48 ≤ 9) (h3 : ra + 1 < n) : nuP cd n ra rm kk rt 1 (ra + 1 + 1) (up rt (3 * rm + kk) (-(cd (ra + 1) - 48))) := by
  refine Or.inl ⟨rfl, by omega, by omega, -(cd (ra + 1) - 48), by omega, rfl, fun kn vs acc hv => ?_⟩
  rw [RUN_s (by omega) (stD_45 h1), RUN_dg h3 (Or.inr rfl) (by omega) h2, hv]
  rfl
theorem pn_B {cd : Int → Int} {n ra rm kk : Int} {rt : Int → Int} (h1 : ¬ cd ra = 45) (h2 : ¬ (0 ≤ cd ra - 48 ∧ cd ra - 48 ≤ 9)) (h3 : ra ≤ n) : nuP cd n ra rm kk rt 0 ra rt :=
  Or.inr ⟨rfl, by omega, by omega, rfl, fun _ _ _ _ => RUN_nd h3 (Or.inl rfl) (fun q => h1 q.2) h2⟩
theorem pn_D {cd : Int → Int} {n ra rm kk : Int} {rt : Int → Int} (h1 : cd ra = 45) (h2 : ¬ (0 ≤ cd (ra + 1) - 48 ∧ cd (ra + 1) - 48 ≤ 9)) (h3 : ra < n) : nuP cd n ra rm kk rt 0 (ra + 1) rt := by
  refine Or.inr ⟨rfl, by omega, by omega, rfl, fun kn vs acc _ => ?_⟩
  rw [RUN_s h3 (stD_45 h1), RUN_nd (by omega) (Or.inr rfl) (by omega) h2]
/-- one polynomial is read -/
def onP (cd : Int → Int) (n ra rm : Int) (rk rt : Int → Int) (ok ra2 rm2 : Int) (rk2 rt2 : Int → Int) : Prop :=
  (ok = 1 ∧ rm2 = rm + 1 ∧ rm < 4 ∧ ra < ra2 ∧ ra2 ≤ n ∧ ∃ kn v0 v1 v2 : Int, (0 ≤ kn ∧ kn ≤ 2) ∧ rk2 = up rk rm kn ∧ rt2 = up (up (up rt (3 * rm) v0) (3 * rm + 1) v1) (3 * rm + 2) v2 ∧ ∀ acc : List pyT, (acc.length : Int) = rm → RUN cd n ra 1 0 [] acc = RUN cd n ra2 1 0 [] (acc ++ [(kn, [v0, v1, v2])]))
  ∨ (ok = 0 ∧ ra ≤ ra2 ∧ ra2 ≤ n ∧ rm2 = rm ∧ ∀ acc : List pyT, (acc.length : Int) = rm → RUN cd n ra 1 0 [] acc = (ra2, acc))
def wr48 (c : Int) : Int := if c < -2147483600 then c - 48 + 4294967296 else c - 48
theorem iI_wrap (a : Int) : iI (a + 4294967296) = iI a := by
  show Int32.ofInt (a + 4294967296) = Int32.ofInt a
  rw [← Int32.toInt_inj, Int32.toInt_ofInt, Int32.toInt_ofInt]
  exact Int.add_bmod_right a _
theorem wr48_i (c : Int) : iI (c - 48) = iI (wr48 c) := by
  unfold wr48
  split
  · exact (iI_wrap _).symm
  · rfl
theorem wr48_p {c : Int} (h : -2147483648 ≤ c ∧ c ≤ 2147483647) : (-2147483648 ≤ wr48 c ∧ wr48 c ≤ 2147483647) ∧ (0 ≤ wr48 c ∧ wr48 c ≤ 9 → wr48 c = c - 48) ∧ (0 ≤ c - 48 ∧ c - 48 ≤ 9 → wr48 c = c - 48) := by
  unfold wr48
  split <;> omega
theorem on_go {cd : Int → Int} {n ra rm kn : Int} (h59 : cd ra = 59) (hrm : rm < 4) (hr : ra + 1 < n) (hl : (cd (ra + 1) = 112 ∧ kn = 0) ∨ (cd (ra + 1) = 109 ∧ kn = 1) ∨ (cd (ra + 1) = 115 ∧ kn = 2)) (acc : List pyT) (ha : (acc.length : Int) = rm) : RUN cd n ra 1 0 [] acc = RUN cd n (ra + 1 + 1) 3 kn [] acc := by
  have e1 : stD (cd ra) 1 0 [] acc = some (2, 0, [], acc) := by
    unfold stD
    rw [if_neg (by decide), if_pos rfl, if_pos ⟨h59, by omega⟩]
  have e2 : stD (cd (ra + 1)) 2 0 [] acc = some (3, kn, [], acc) := by
    unfold stD
    rw [if_neg (by decide), if_neg (by decide), if_pos rfl]
    rcases hl with ⟨h, rfl⟩ | ⟨h, rfl⟩ | ⟨h, rfl⟩
    · rw [if_pos h]
    · rw [if_neg (by omega), if_pos h]
    · rw [if_neg (by omega), if_neg (by omega), if_pos h]
  rw [RUN_s (by omega) e1, RUN_s hr e2]
theorem on_f0 {cd : Int → Int} {n ra rm : Int} {rk rt : Int → Int} (h : rm = 4 ∨ ¬ cd ra = 59) (hp : rm < 1 ∨ ra < n) (hr : ra ≤ n) : onP cd n ra rm rk rt 0 ra rm rk rt := by
  refine Or.inr ⟨rfl, by omega, hr, rfl, fun acc ha => ?_⟩
  by_cases q : ra = n
  · subst q
    rw [RUN_e, if_neg (by omega)]
  · refine RUN_n (by omega) ?_
    unfold stD
    rw [if_neg (by decide), if_pos rfl, if_neg (by omega)]
theorem on_f1 {cd : Int → Int} {n ra rm : Int} {rk rt : Int → Int} (h59 : cd ra = 59) (hrm : rm < 4) (hr : ra < n) (hl : ¬ cd (ra + 1) = 112 ∧ ¬ cd (ra + 1) = 109 ∧ ¬ cd (ra + 1) = 115) : onP cd n ra rm rk rt 0 (ra + 1) rm rk rt := by
  refine Or.inr ⟨rfl, by omega, by omega, rfl, fun acc ha => ?_⟩
  have e1 : stD (cd ra) 1 0 [] acc = some (2, 0, [], acc) := by
    unfold stD
    rw [if_neg (by decide), if_pos rfl, if_pos ⟨h59, by omega⟩]
  rw [RUN_s hr e1]
  by_cases q : ra + 1 = n
  · rw [q, RUN_e, if_neg (by omega)]
  · refine RUN_n (by omega) ?_
    unfold stD
    rw [if_neg (by decide), if_neg (by decide), if_pos rfl, if_neg hl.1, if_neg hl.2.1, if_neg hl.2.2]
theorem nuP_1 {cd : Int → Int} {n ra rm kk : Int} {rt : Int → Int} {ra2 : Int} {rt2 : Int → Int} {ok : Int} (h : nuP cd n ra rm kk rt ok ra2 rt2) : (ok = 0 ∨ ok = 1) ∧ ra ≤ ra2 ∧ ra2 ≤ n := by
  rcases h with ⟨h, h1, h2, -⟩ | ⟨h, h1, h2, -⟩ <;> omega
theorem nuOK_of {cd : Int → Int} {n ra rm kk : Int} {rt : Int → Int} {ra2 : Int} {rt2 : Int → Int} {ok : Int} (h : nuP cd n ra rm kk rt ok ra2 rt2) (hr : nuOK rt) : nuOK rt2 := by
  rcases h with ⟨-, -, -, v, hv, e, -⟩ | ⟨-, -, -, e, -⟩
  · rw [e]; exact nuOK_up hr hv
  · rw [e]; exact hr
theorem on_n {cd : Int → Int} {n ra rm kn : Int} {rk rt rk2 rt1 rt2 rt3 : Int → Int} {o1 o2 o3 r1 r2 r3 : Int} (h59 : cd ra = 59) (hrm : rm < 4) (hr : ra + 1 < n) (hl : (cd (ra + 1) = 112 ∧ kn = 0) ∨ (cd (ra + 1) = 109 ∧ kn = 1) ∨ (cd (ra + 1) = 115 ∧ kn = 2))
    (h1 : nuP cd n (ra + 1 + 1) rm 0 rt o1 r1 rt1) :
    (o1 = 0 → onP cd n ra rm rk rt 0 r1 rm rk2 rt1) ∧ (∀ _ : nuP cd n r1 rm 1 rt1 o2 r2 rt2, ¬ o1 = 0 → (o2 = 0 → onP cd n ra rm rk rt 0 r2 rm rk2 rt2) ∧ (∀ _ : nuP cd n r2 rm 2 rt2 o3 r3 rt3, ¬ o2 = 0 → (o3 = 0 → onP cd n ra rm rk rt 0 r3 rm rk2 rt3) ∧ (¬ o3 = 0 → rk2 = up rk rm kn → onP cd n ra rm rk rt 1 r3 (rm + 1) rk2 rt3))) := by
  have hk : 0 ≤ kn ∧ kn ≤ 2 := by omega
  refine ⟨fun z1 => ?_, fun h2 z1 => ⟨fun z2 => ?_, fun h3 z2 => ⟨fun z3 => ?_, fun z3 ek => ?_⟩⟩⟩
  · rcases h1 with ⟨q, -⟩ | ⟨-, a1, a2, -, a3⟩
    · omega
    · exact Or.inr ⟨rfl, by omega, a2, rfl, fun acc ha => by rw [on_go h59 hrm hr hl acc ha]; exact a3 kn [] acc rfl⟩
  · rcases h1 with ⟨-, b1, b2, v, hv, e, b3⟩ | ⟨q, -⟩
    · rcases h2 with ⟨q, -⟩ | ⟨-, a1, a2, -, a3⟩
      · omega
      · exact Or.inr ⟨rfl, by omega, a2, rfl, fun acc ha => by rw [on_go h59 hrm hr hl acc ha, b3 kn [] acc rfl, if_neg (by decide)]; exact a3 kn [v] acc rfl⟩
    · omega
  · rcases h1 with ⟨-, b1, b2, v, hv, e, b3⟩ | ⟨q, -⟩
    · rcases h2 with ⟨-, d1, d2, w, hw, e2, d3⟩ | ⟨q, -⟩
      · rcases h3 with ⟨q, -⟩ | ⟨-, a1, a2, -, a3⟩
        · omega
        · exact Or.inr ⟨rfl, by omega, a2, rfl, fun acc ha => by rw [on_go h59 hrm hr hl acc ha, b3 kn [] acc rfl, if_neg (by decide), d3 kn ([] ++ [v]) acc rfl, if_neg (by decide)]; exact a3 kn [v, w] acc rfl⟩
      · omega
    · omega
  · rcases h1 with ⟨-, b1, b2, v, hv, e, b3⟩ | ⟨q, -⟩
    · rcases h2 with ⟨-, d1, d2, w, hw, e2, d3⟩ | ⟨q, -⟩
      · rcases h3 with ⟨-, a1, a2, x, hx, e3, a3⟩ | ⟨q, -⟩
        · refine Or.inl ⟨rfl, rfl, hrm, by omega, a2, kn, v, w, x, hk, ek, ?_, fun acc ha => ?_⟩
          · rw [e3, e2, e, show 3 * rm + 0 = 3 * rm by omega]
          · rw [on_go h59 hrm hr hl acc ha, b3 kn [] acc rfl, if_neg (by decide), d3 kn ([] ++ [v]) acc rfl, if_neg (by decide), a3 kn ([] ++ [v] ++ [w]) acc rfl, if_pos rfl]
            rfl
        · omega
      · omega
    · omega
theorem on_N1 {cd : Int → Int} {n ra rm ok r1 rm2 : Int} {rk rk2 rt rt1 : Int → Int} (h59 : cd ra = 59) (hrm : rm < 4) (hr : ra + 1 < n) (hl : cd (ra + 1) = 112 ∨ cd (ra + 1) = 109 ∨ cd (ra + 1) = 115) (h1 : nuP cd n (ra + 1 + 1) rm 0 rt ok r1 rt1) (z : ok = 0) (hm : rm2 = rm + 0) : onP cd n ra rm rk rt ok r1 rm2 rk2 rt1 := by
  subst z
  rw [hm, show rm + 0 = rm by omega]
  rcases hl with h | h | h
  · exact (on_n (kn := 0) (o2 := 0) (o3 := 0) (r2 := 0) (r3 := 0) (rt2 := rt) (rt3 := rt) h59 hrm hr (Or.inl ⟨h, rfl⟩) h1).1 rfl
  · exact (on_n (kn := 1) (o2 := 0) (o3 := 0) (r2 := 0) (r3 := 0) (rt2 := rt) (rt3 := rt) h59 hrm hr (Or.inr (Or.inl ⟨h, rfl⟩)) h1).1 rfl
  · exact (on_n (kn := 2) (o2 := 0) (o3 := 0) (r2 := 0) (r3 := 0) (rt2 := rt) (rt3 := rt) h59 hrm hr (Or.inr (Or.inr ⟨h, rfl⟩)) h1).1 rfl
theorem on_N2 {cd : Int → Int} {n ra rm ok o1 r1 r2 rm2 : Int} {rk rk2 rt rt1 rt2 : Int → Int} (h59 : cd ra = 59) (hrm : rm < 4) (hr : ra + 1 < n) (hl : cd (ra + 1) = 112 ∨ cd (ra + 1) = 109 ∨ cd (ra + 1) = 115) (h2 : nuP cd n r1 rm 1 rt1 ok r2 rt2) (h1 : nuP cd n (ra + 1 + 1) rm 0 rt o1 r1 rt1) (z1 : ¬ o1 = 0) (z : ok = 0) (hm : rm2 = rm + 0) : onP cd n ra rm rk rt ok r2 rm2 rk2 rt2 := by
  subst z
  rw [hm, show rm + 0 = rm by omega]
  rcases hl with h | h | h
  · exact ((on_n (kn := 0) (o3 := 0) (r3 := 0) (rt3 := rt) h59 hrm hr (Or.inl ⟨h, rfl⟩) h1).2 h2 z1).1 rfl
  · exact ((on_n (kn := 1) (o3 := 0) (r3 := 0) (rt3 := rt) h59 hrm hr (Or.inr (Or.inl ⟨h, rfl⟩)) h1).2 h2 z1).1 rfl
  · exact ((on_n (kn := 2) (o3 := 0) (r3 := 0) (rt3 := rt) h59 hrm hr (Or.inr (Or.inr ⟨h, rfl⟩)) h1).2 h2 z1).1 rfl
theorem on_N3 {cd : Int → Int} {n ra rm ok o1 o2 r1 r2 r3 rm2 : Int} {rk rk2 rt rt1 rt2 rt3 : Int → Int} (h59 : cd ra = 59) (hrm : rm < 4) (hr : ra + 1 < n) (hl : cd (ra + 1) = 112 ∨ cd (ra + 1) = 109 ∨ cd (ra + 1) = 115) (h3 : nuP cd n r2 rm 2 rt2 ok r3 rt3) (h2 : nuP cd n r1 rm 1 rt1 o2 r2 rt2) (h1 : nuP cd n (ra + 1 + 1) rm 0 rt o1 r1 rt1) (z1 : ¬ o1 = 0) (z2 : ¬ o2 = 0) (z : ok = 0) (hm : rm2 = rm + 0) : onP cd n ra rm rk rt ok r3 rm2 rk2 rt3 := by
  subst z
  rw [hm, show rm + 0 = rm by omega]
  rcases hl with h | h | h
  · exact (((on_n (kn := 0) h59 hrm hr (Or.inl ⟨h, rfl⟩) h1).2 h2 z1).2 h3 z2).1 rfl
  · exact (((on_n (kn := 1) h59 hrm hr (Or.inr (Or.inl ⟨h, rfl⟩)) h1).2 h2 z1).2 h3 z2).1 rfl
  · exact (((on_n (kn := 2) h59 hrm hr (Or.inr (Or.inr ⟨h, rfl⟩)) h1).2 h2 z1).2 h3 z2).1 rfl
theorem on_N4 {cd : Int → Int} {n ra rm kn ok o1 o2 r1 r2 r3 : Int} {rk rt rt1 rt2 rt3 : Int → Int} (h59 : cd ra = 59) (hrm : rm < 4) (hr : ra + 1 < n) (hl : (cd (ra + 1) = 112 ∧ kn = 0) ∨ (cd (ra + 1) = 109 ∧ kn = 1) ∨ (cd (ra + 1) = 115 ∧ kn = 2)) (h3 : nuP cd n r2 rm 2 rt2 ok r3 rt3) (h2 : nuP cd n r1 rm 1 rt1 o2 r2 rt2) (h1 : nuP cd n (ra + 1 + 1) rm 0 rt o1 r1 rt1) (z1 : ¬ o1 = 0) (z2 : ¬ o2 = 0) (z : ¬ ok = 0) : onP cd n ra rm rk rt ok r3 (rm + 1) (up rk rm kn) rt3 := by
  have h := (((on_n (rk := rk) (kn := kn) h59 hrm hr hl h1).2 h2 z1).2 h3 z2).2 z rfl
  have e := nuP_1 h3
  rw [show ok = 1 by omega]
  exact h
def lpP (cd : Int → Int) (n si ra rm : Int) (rk rt : Int → Int) : Prop := ((0 ≤ ra ∧ ra ≤ n) ∧ (0 ≤ rm ∧ rm ≤ 4)) ∧ ((si = 1 ∧ ∃ acc : List pyT, (acc.length : Int) = rm ∧ hasP rk rt acc ∧ RUN cd n 0 0 0 [] [] = RUN cd n ra 1 0 [] acc) ∨ (si = 0 ∧ ∃ acc : List pyT, RUN cd n 0 0 0 [] [] = (ra, acc)))
def alP (cd : Int → Int) (n ok ra rm : Int) (rk rt : Int → Int) : Prop := (ok = 1 ∧ ∃ acc : List pyT, RUN cd n 0 0 0 [] [] = (-9, acc) ∧ (acc.length : Int) = rm ∧ (1 ≤ rm ∧ rm ≤ 4) ∧ hasP rk rt acc) ∨ (ok = 0 ∧ (0 ≤ ra ∧ ra ≤ n) ∧ ∃ acc : List pyT, RUN cd n 0 0 0 [] [] = (ra, acc))
theorem lp_init {cd : Int → Int} {n : Int} {rk rt : Int → Int} (h : cd 0 = 112) (hn : 0 < n) : lpP cd n 1 1 0 rk rt := by
  refine ⟨by omega, Or.inl ⟨rfl, [], rfl, hasP_0 _ _, ?_⟩⟩
  exact RUN_s hn (by unfold stD; rw [if_pos rfl, if_pos h])
theorem al_f0 {cd : Int → Int} {n rm : Int} {rk rt : Int → Int} (h : ¬ cd 0 = 112) (hn : 0 ≤ n) : alP cd n 0 0 rm rk rt := by
  refine Or.inr ⟨rfl, by omega, [], ?_⟩
  by_cases q : n = 0
  · subst q
    rw [RUN_e, if_neg (by omega)]
  · exact RUN_n (by omega) (by unfold stD; rw [if_pos rfl, if_neg h])
theorem lp_step {cd : Int → Int} {n si ra rm ok ra2 rm2 : Int} {rk rt rk2 rt2 : Int → Int} (h : lpP cd n si ra rm rk rt) (hs : ¬ si = 0) (ho : onP cd n ra rm rk rt ok ra2 rm2 rk2 rt2) : lpP cd n ok ra2 rm2 rk2 rt2 := by
  obtain ⟨hb, ⟨-, acc, hl, hp, hr⟩ | ⟨q, -⟩⟩ := h
  · rcases ho with ⟨rfl, h1, h2, h3, h4, kn, v0, v1, v2, hk, e1, e2, e3⟩ | ⟨rfl, h1, h2, h3, h4⟩
    · refine ⟨by omega, Or.inl ⟨rfl, acc ++ [(kn, [v0, v1, v2])], by rw [List.length_append, List.length_singleton]; omega, ?_, ?_⟩⟩
      · subst e1; subst e2
        rw [← hl]
        refine hasP_push hp hk (fun j hj => up_n (by omega)) up_s (fun j hj => by rw [up_n (by omega), up_n (by omega), up_n (by omega)]) ?_ ?_ ?_
        · rw [up_n (by omega), up_n (by omega), up_s]
        · rw [up_n (by omega), up_s]
        · rw [up_s]
      · rw [hr]; exact e3 acc hl
    · exact ⟨by omega, Or.inr ⟨rfl, acc, by rw [hr]; exact h4 acc hl⟩⟩
  · exact absurd q hs
theorem lp_end1 {cd : Int → Int} {n si ra rm : Int} {rk rt : Int → Int} (h : lpP cd n si ra rm rk rt) (hs : si = 0) : alP cd n si ra rm rk rt := by
  obtain ⟨hb, ⟨q, -⟩ | ⟨q, h2⟩⟩ := h
  · omega
  · exact Or.inr ⟨hs, hb.1, h2⟩
theorem lp_end2 {cd : Int → Int} {n si ra rm : Int} {rk rt : Int → Int} (h : lpP cd n si ra rm rk rt) (hs : ¬ si = 0) (hm : ¬ rm < 1) (hr : n ≤ ra) : alP cd n si ra rm rk rt := by
  obtain ⟨hb, ⟨q, acc, hl, hp, hr2⟩ | ⟨q, -⟩⟩ := h
  · refine Or.inl ⟨q, acc, ?_, hl, by omega, hp⟩
    rw [hr2, show ra = n by omega, RUN_e, if_pos ⟨rfl, by omega⟩]
  · exact absurd q hs
theorem lp_r {cd : Int → Int} {n si ra rm : Int} {rk rt : Int → Int} (h : lpP cd n si ra rm rk rt) : (si = 0 ∨ si = 1) ∧ (0 ≤ ra ∧ ra ≤ n) ∧ (0 ≤ rm ∧ rm ≤ 4) := by
  obtain ⟨hb, ⟨q, -⟩ | ⟨q, -⟩⟩ := h <;> omega
theorem al_r {cd : Int → Int} {n ok ra rm : Int} {rk rt : Int → Int} (h : alP cd n ok ra rm rk rt) : (ok = 0 ∨ ok = 1) ∧ (ok = 1 → 1 ≤ rm ∧ rm ≤ 4) ∧ (ok = 0 → 0 ≤ ra ∧ ra ≤ n) := by
  rcases h with ⟨h, acc, -, -, h2, -⟩ | ⟨h, h2, -⟩ <;> omega
theorem hasP_eq {rk rt rk2 rt2 : Int → Int} {acc : List pyT} (h : hasP rk rt acc) (h1 : ∀ j, 0 ≤ j → j < (acc.length : Int) → rk2 j = rk j) (h2 : ∀ j, 0 ≤ j → j < 3 * (acc.length : Int) → rt2 j = rt j) : hasP rk2 rt2 acc := by
  intro j x hx
  have hj := (List.getElem?_eq_some_iff.mp hx).1
  obtain ⟨a1, a2, a3⟩ := h j x hx
  refine ⟨by rw [h1 _ (by omega) (by omega)]; exact a1, a2, ?_⟩
  rw [h2 _ (by omega) (by omega), h2 _ (by omega) (by omega), h2 _ (by omega) (by omega)]
  exact a3
