/-! whole numbers behind ints and longs -/
def iI (z : Int) : Int32 := Int32.ofInt z
def lI (z : Int) : Int64 := Int64.ofInt z
theorem iI_add (a b : Int) : iI a + iI b = iI (a + b) := (Int32.ofInt_add a b).symm
theorem iI_sub (a b : Int) : iI a - iI b = iI (a - b) := (Int32.ofInt_sub a b).symm
theorem iI_mul (a b : Int) : iI a * iI b = iI (a * b) := (Int32.ofInt_mul a b).symm
theorem iI_neg (a : Int) : -iI a = iI (-a) := (Int32.ofInt_neg a).symm
theorem lI_add (a b : Int) : lI a + lI b = lI (a + b) := (Int64.ofInt_add a b).symm
theorem lI_sub (a b : Int) : lI a - lI b = lI (a - b) := (Int64.ofInt_sub a b).symm
theorem lI_mul (a b : Int) : lI a * lI b = lI (a * b) := (Int64.ofInt_mul a b).symm
theorem lI_neg (a : Int) : -lI a = lI (-a) := (Int64.ofInt_neg a).symm
theorem iI_toInt {z : Int} (h : -2147483648 ≤ z ∧ z ≤ 2147483647) : (iI z).toInt = z := Int32.toInt_ofInt_of_le (by omega) (by omega)
theorem lI_toInt {z : Int} (h : -9223372036854775808 ≤ z ∧ z ≤ 9223372036854775807) : (lI z).toInt = z := Int64.toInt_ofInt_of_le (by omega) (by omega)
theorem iI_lt {a b : Int} (ha : -2147483648 ≤ a ∧ a ≤ 2147483647) (hb : -2147483648 ≤ b ∧ b ≤ 2147483647) : iI a < iI b ↔ a < b := by
  rw [Int32.lt_iff_toInt_lt, iI_toInt ha, iI_toInt hb]
theorem iI_le {a b : Int} (ha : -2147483648 ≤ a ∧ a ≤ 2147483647) (hb : -2147483648 ≤ b ∧ b ≤ 2147483647) : iI a ≤ iI b ↔ a ≤ b := by
  rw [Int32.le_iff_toInt_le, iI_toInt ha, iI_toInt hb]
theorem iI_eq {a b : Int} (ha : -2147483648 ≤ a ∧ a ≤ 2147483647) (hb : -2147483648 ≤ b ∧ b ≤ 2147483647) : iI a = iI b ↔ a = b := by
  rw [← Int32.toInt_inj, iI_toInt ha, iI_toInt hb]
theorem lI_lt {a b : Int} (ha : -9223372036854775808 ≤ a ∧ a ≤ 9223372036854775807) (hb : -9223372036854775808 ≤ b ∧ b ≤ 9223372036854775807) : lI a < lI b ↔ a < b := by
  rw [Int64.lt_iff_toInt_lt, lI_toInt ha, lI_toInt hb]
theorem lI_le {a b : Int} (ha : -9223372036854775808 ≤ a ∧ a ≤ 9223372036854775807) (hb : -9223372036854775808 ≤ b ∧ b ≤ 9223372036854775807) : lI a ≤ lI b ↔ a ≤ b := by
  rw [Int64.le_iff_toInt_le, lI_toInt ha, lI_toInt hb]
theorem lI_eq {a b : Int} (ha : -9223372036854775808 ≤ a ∧ a ≤ 9223372036854775807) (hb : -9223372036854775808 ≤ b ∧ b ≤ 9223372036854775807) : lI a = lI b ↔ a = b := by
  rw [← Int64.toInt_inj, lI_toInt ha, lI_toInt hb]
theorem iI_of (x : Int32) : x = iI x.toInt := (Int32.ofInt_toInt x).symm
theorem iI_rg (x : Int32) : -2147483648 ≤ x.toInt ∧ x.toInt ≤ 2147483647 := ⟨x.le_toInt, by have := x.toInt_lt; omega⟩
theorem iI_0 : iI 0 = 0 := by decide +kernel
theorem iI_l {z : Int} (h : -2147483648 ≤ z ∧ z ≤ 2147483647) : (iI z).toInt64 = lI z := by
  rw [← Int64.toInt_inj, Int32.toInt_toInt64, iI_toInt h, lI_toInt (by omega)]
theorem lI_i (z : Int) : (lI z).toInt32 = iI z := Int64.toInt32_ofInt
theorem iI_clamp {z : Int} (h : 0 ≤ z ∧ z ≤ 2147483647) : (iI z).toNatClampNeg = z.toNat := by
  have e : (iI z).toInt = z := iI_toInt (by omega)
  show (iI z).toInt.toNat = z.toNat
  rw [e]
theorem iI_in {z : Int} {n : Nat} (h : 0 ≤ z ∧ z < n) (hn : n ≤ 2147483647) : vp_in (iI z) n := by
  have e : (iI z).toInt = z := iI_toInt (by omega)
  rw [vp_in_iff, e]
  exact h
theorem iI_div {a b : Int} (ha : -2147483647 ≤ a ∧ a ≤ 2147483647) (hb : 0 < b ∧ b ≤ 2147483647) : iI a / iI b = iI (a.tdiv b) := by
  have h1 : (iI b) ≠ -1 := by
    intro h
    have : (iI b).toInt = (-1 : Int32).toInt := by rw [h]
    rw [iI_toInt (by omega)] at this
    have e : (-1 : Int32).toInt = -1 := by decide +kernel
    omega
  have h2 : -2147483648 ≤ a.tdiv b ∧ a.tdiv b ≤ 2147483647 := by
    have q1 := Int.natAbs_tdiv_le_natAbs a b
    omega
  rw [← Int32.toInt_inj, Int32.toInt_div_of_ne_right _ _ h1, iI_toInt (by omega : -2147483648 ≤ a ∧ a ≤ 2147483647), iI_toInt (by omega), iI_toInt h2]
theorem lI_div {a b : Int} (ha : -9223372036854775807 ≤ a ∧ a ≤ 9223372036854775807) (hb : 0 < b ∧ b ≤ 9223372036854775807) : lI a / lI b = lI (a.tdiv b) := by
  have h1 : (lI b) ≠ -1 := by
    intro h
    have : (lI b).toInt = (-1 : Int64).toInt := by rw [h]
    rw [lI_toInt (by omega)] at this
    have e : (-1 : Int64).toInt = -1 := by decide +kernel
    omega
  have h2 : -9223372036854775808 ≤ a.tdiv b ∧ a.tdiv b ≤ 9223372036854775807 := by
    have q1 := Int.natAbs_tdiv_le_natAbs a b
    omega
  rw [← Int64.toInt_inj, Int64.toInt_div_of_ne_right _ _ h1, lI_toInt (by omega : -9223372036854775808 ≤ a ∧ a ≤ 9223372036854775807), lI_toInt (by omega), lI_toInt h2]
/-! rows of numbers -/
def aI (g : Int → Int) : Nat → Int32 := fun k => iI (g (k : Int))
def aL (g : Int → Int) : Nat → Int64 := fun k => lI (g (k : Int))
def up (g : Int → Int) (z v : Int) : Int → Int := fun j => if j = z then v else g j
theorem aI_at {g : Int → Int} {z : Int} (h : 0 ≤ z) : aI g z.toNat = iI (g z) := by
  show iI (g (z.toNat : Int)) = _
  rw [Int.toNat_of_nonneg h]
theorem aL_at {g : Int → Int} {z : Int} (h : 0 ≤ z) : aL g z.toNat = lI (g z) := by
  show lI (g (z.toNat : Int)) = _
  rw [Int.toNat_of_nonneg h]
theorem aI_up {g : Int → Int} {z v : Int} (h : 0 ≤ z) : upd (aI g) z.toNat (iI v) = aI (up g z v) := by
  funext j
  by_cases hj : j = z.toNat
  · subst hj
    rw [pk_us, aI_at h]
    simp [up]
  · rw [pk_un hj]
    have : ¬ (j : Int) = z := by omega
    simp [aI, up, this]
theorem aL_up {g : Int → Int} {z v : Int} (h : 0 ≤ z) : vp_updL (aL g) z.toNat (lI v) = aL (up g z v) := by
  funext j
  by_cases hj : j = z.toNat
  · subst hj
    rw [pk_uLs, aL_at h]
    simp [up]
  · rw [pk_uLn hj]
    have : ¬ (j : Int) = z := by omega
    simp [aL, up, this]
theorem up_s {g : Int → Int} {z v : Int} : up g z v z = v := by simp [up]
theorem up_n {g : Int → Int} {z v j : Int} (h : ¬ j = z) : up g z v j = g j := by simp [up, h]
def bI (c : Prop) [Decidable c] : Int := if c then 1 else 0
theorem bI_t {c : Prop} [Decidable c] (h : c) : bI c = 1 := if_pos h
theorem bI_f {c : Prop} [Decidable c] (h : ¬ c) : bI c = 0 := if_neg h
theorem bI_r (c : Prop) [Decidable c] : 0 ≤ bI c ∧ bI c ≤ 1 := by unfold bI; split <;> omega
theorem bI_1 {c : Prop} [Decidable c] : bI c = 1 ↔ c := by unfold bI; split <;> simp_all
theorem bI_0 {c : Prop} [Decidable c] : bI c = 0 ↔ ¬ c := by unfold bI; split <;> simp_all
/-! worlds, contexts, contracts -/
abbrev gT : Type := ClassId × ClassId × ClassId
abbrev tyG (G : gT) : List (ClassId × FieldType) := [(G.1, .int), (G.2.1, .long), (G.2.2, .object "RootSigns$Sheet")]
abbrev cO (a ci : Nat) (fs : List Value) : Nat × va_E := (a, .inr (ci, fs))
abbrev cA (G : gT) (a n : Nat) (g : Int → Int) : Nat × va_E := (a, .inl (G.1, n, .inl (aI g)))
abbrev cJ (G : gT) (a n : Nat) (g : Int → Int) : Nat × va_E := (a, .inl (G.2.1, n, .inr (.inl (aL g))))
abbrev cQ (G : gT) (a n : Nat) (f : Nat → Option Nat) : Nat × va_E := (a, .inl (G.2.2, n, .inr (.inr (.inr (.inr f)))))
def gC (D : va_G) (G : gT) (Ts : List Cond) (own : String) (cc : ByteArray) (nL : Nat) (p : Program) (s : State) (m : MethodId) (args : Array Value) (meth : Method) (c : Code) : Prop :=
  (p.tables.exec = Jvm.exec ∧ c.code = cc ∧ c.maxLocals = nL ∧ s.vm.findClass own = some m.cls ∧ ∀ w ∈ Ts, w.before args s = true) ∧ va_K D vwCl (tyG G) s ∧ meth.locks = false
def gW (D : va_G) (A : Nat → Prop) (H0 : Heap) (ws : va_W) (H : Heap) (locs : List Loc) : Prop :=
  va_P D vwCl ws H ∧ va_D A ws ∧ va_S A H0 H locs ∧ ∀ q, H0.size ≤ q → A q
def gPre (D : va_G) (G : gT) (w0 : va_W) (sz : Nat) : State → Prop := fun U => U.heap.size = sz ∧ va_P D vwCl w0 U.heap ∧ va_K D vwCl (tyG G) U ∧ va_D (fun _ => True) w0
def gB (D : va_G) (G : gT) (A : Nat → Prop) (w1 : va_W) (t : State) : Prop := va_P D vwCl w1 t.heap ∧ va_K D vwCl (tyG G) t ∧ va_D A w1
def gMi (l : Launch) (y : MethodName) (ws : List Cond) (rm : Room) (D : va_G) (G : gT) (av : List Value) (w0 : va_W) (mc ms : Nat) (post : Int32 → va_W → Prop) : Prop :=
  ∀ sz : Nat, Met l y ws rm (va_Pc av (gPre D G w0 sz)) (va_Qi post (gB D G (va_A w0 sz)) (va_A w0 sz)) mc ms (va_A w0 sz)
def gMl (l : Launch) (y : MethodName) (ws : List Cond) (rm : Room) (D : va_G) (G : gT) (av : List Value) (w0 : va_W) (mc ms : Nat) (post : Int64 → va_W → Prop) : Prop :=
  ∀ sz : Nat, Met l y ws rm (va_Pc av (gPre D G w0 sz)) (va_Ql post (gB D G (va_A w0 sz)) (va_A w0 sz)) mc ms (va_A w0 sz)
def gMv (l : Launch) (y : MethodName) (ws : List Cond) (rm : Room) (D : va_G) (G : gT) (av : List Value) (w0 : va_W) (mc ms : Nat) (post : va_W → Prop) : Prop :=
  ∀ sz : Nat, Met l y ws rm (va_Pc av (gPre D G w0 sz)) (va_Qv post (gB D G (va_A w0 sz)) (va_A w0 sz)) mc ms (va_A w0 sz)
