/-! readings, sets, odds -/
def shM (E : Int → Int → Int) (t : Int) : Nat → Int32
  | 0 => iI 0
  | p + 1 => if ¬ noB E p = true ∧ sRt E t p = 0 then shM E t p ||| (iI 1 <<< (iI p &&& 31)) else shM E t p
theorem shM_s {E : Int → Int → Int} {t p : Int} (hp : 0 ≤ p) : shM E t (p + 1).toNat = if ¬ noB E p = true ∧ sRt E t p = 0 then shM E t p.toNat ||| (iI 1 <<< (iI p &&& 31)) else shM E t p.toNat := by
  rw [show (p + 1).toNat = p.toNat + 1 by omega, shM, show ((p.toNat : Nat) : Int) = p by omega]
theorem or_i0 (x : Int32) : x ||| iI 0 = x := by
  rw [iI_0]
  exact Int32.or_zero
def R_sha (n : Int) (E : Int → Int → Int) (L : List Int) (k : Int) : Int32 := if n = 0 then iI (-3) else if ¬ (0 ≤ k ∧ k < L.length) then iI (-1) else shM E (L.getD k.toNat 0) n.toNat
def R_line (n : Int) (E : Int → Int → Int) (L : List Int) (w : Int) : Int := if ¬ (0 ≤ w ∧ w ≤ 2) then -2 else if n = 0 then -3 else if w = 0 then L.length else if w = 1 then 2 * L.length + 1 else (fsL E L n (2 * L.length + 1)).length
def R_sin (n : Int) (E : Int → Int → Int) (L : List Int) (k p : Int) : Int := if (0 ≤ p ∧ p < n) ∧ (0 ≤ k ∧ k ≤ 2 * L.length) then sSp E L k p + 1 else -1
def R_row (n : Int) (E : Int → Int → Int) (L : List Int) (r w : Int) : Int :=
  if n = 0 then -1 else if ¬ (0 ≤ r ∧ r < (fsL E L n (2 * L.length + 1)).length) then -1
  else if 10 ≤ w ∧ w ≤ 13 then (if w - 10 < n then sSp E L ((fsL E L n (2 * L.length + 1)).getD r.toNat 0) (w - 10) + 1 else -9)
  else if w = 0 then (fsL E L n (2 * L.length + 1)).getD r.toNat 0
  else if w = 1 then cnF (fun k => rwN E L n k == rwN E L n ((fsL E L n (2 * L.length + 1)).getD r.toNat 0)) (2 * L.length + 1)
  else -2
def rdOK (n rc : Int) (r1 r2 r3 : Int → Int) : Prop := (0 ≤ rc ∧ rc ≤ 8) ∧ ∀ x, 0 ≤ x → x < rc → (0 ≤ r1 x ∧ r1 x ≤ 20) ∧ (0 ≤ r2 x ∧ r2 x < n) ∧ (0 ≤ r3 x ∧ r3 x ≤ 2)
def soP (E : Int → Int → Int) (L : List Int) (r1 r2 r3 : Int → Int) (x : Int) : Bool := decide (r1 x ≤ 2 * L.length ∧ sSp E L (r1 x) (r2 x) + 1 = r3 x)
def soB (E : Int → Int → Int) (n rc : Int) (r1 r2 r3 : Int → Int) : Bool := allB (soP E (ALn E n.toNat) r1 r2 r3) rc.toNat
theorem soP_t {E : Int → Int → Int} {L : List Int} {r1 r2 r3 : Int → Int} {x : Int} (h : r1 x ≤ 2 * L.length ∧ sSp E L (r1 x) (r2 x) + 1 = r3 x) : soP E L r1 r2 r3 x = true := decide_eq_true h
theorem soP_f {E : Int → Int → Int} {L : List Int} {r1 r2 r3 : Int → Int} {x : Int} (h : ¬ (r1 x ≤ 2 * L.length ∧ sSp E L (r1 x) (r2 x) + 1 = r3 x)) : soP E L r1 r2 r3 x = false := decide_eq_false h
def seM (P : Nat → Bool) : Nat → Int32
  | 0 => iI 0
  | k + 1 => if P k then seM P k ||| (iI 1 <<< (iI k &&& 31)) else seM P k
theorem seM_s {P : Nat → Bool} {k : Int} (hk : 0 ≤ k) : seM P (k + 1).toNat = if P k.toNat then seM P k.toNat ||| (iI 1 <<< (iI k &&& 31)) else seM P k.toNat := by
  rw [show (k + 1).toNat = k.toNat + 1 by omega, seM, show ((k.toNat : Nat) : Int) = k by omega]
theorem up_id (f : Int → Int) (z : Int) : up f z (f z) = f := by
  funext j
  unfold up
  split
  next h => rw [h]
  next => rfl
theorem up_up (f : Int → Int) (z v w : Int) : up (up f z v) z w = up f z w := by
  funext j
  unfold up
  split <;> rfl
noncomputable def R_kin (n : Int) (kd nu : Int → Int) (rc : Int) (r1 r2 r3 : Int → Int) (p : Int) : Int32 := if ¬ (0 ≤ p ∧ p < n) then iI (-1) else seM (fun k => soB (exT n (up kd p k) nu) n rc r1 r2 r3) 3
noncomputable def R_low (n : Int) (kd nu : Int → Int) (rc : Int) (r1 r2 r3 : Int → Int) (p : Int) : Int32 := if ¬ (0 ≤ p ∧ p < n) then iI (-1) else seM (fun k => soB (exT n kd (up nu (3 * p) ((k : Int) - 9))) n rc r1 r2 r3) 19
def R_shr (u d w : Int) : Int := (if w = 0 then u else d) / (Nat.gcd u.toNat d.toNat : Int)
def R_odd (n : Int) (E : Int → Int → Int) (L : List Int) (p s w : Int) : Int := if ¬ ((0 ≤ p ∧ p < n) ∧ (0 ≤ s ∧ s ≤ 2) ∧ (0 ≤ w ∧ w ≤ 1)) then -9223372036854775808 else R_shr (cnF (fun k => sSp E L k p + 1 == s) (2 * L.length + 1)) (2 * L.length + 1) w
def trT (tr kd : Int) : Int := if kd = 0 then 31 * tr + 1 else if kd = 1 then 31 * (31 * tr + 2) + 1 else 31 * (31 * (31 * (31 * tr + 3) + 2) + 1) + 1
def R_tel (n : Int) (kd : Int → Int) (E : Int → Int → Int) (p : Int) : Int := if ¬ (0 ≤ p ∧ p < n) then -1 else if kd p = 0 then nR E p else if kd p = 1 then nR E p + 100 else 2 * nR E p + 100
def T_tel (n : Int) (kd : Int → Int) (tr p : Int) : Int := if ¬ (0 ≤ p ∧ p < n) then tr else trT tr (kd p)
def R_call (n : Int) (kd : Int → Int) (p : Int) : Int := if ¬ (0 ≤ p ∧ p < n) then -1 else if kd p = 2 then 60 else p
def T_call (n : Int) (kd : Int → Int) (tr p : Int) : Int := if ¬ (0 ≤ p ∧ p < n) then tr else 31 * tr + (if kd p = 2 then 5 else 4)
def R_as (n : Int) (kd : Int → Int) (p k : Int) : Int := if ¬ (0 ≤ p ∧ p < n) then -1 else if ¬ (0 ≤ k ∧ k ≤ 2) then -2 else if k ≤ kd p then 1 else -12
def F_as (n : Int) (kd : Int → Int) (p k : Int) : Int := if (0 ≤ p ∧ p < n) ∧ (0 ≤ k ∧ k ≤ 2) ∧ ¬ k ≤ kd p then 2 else 0
def R_rdg (n rc k p s : Int) : Int := if ¬ (0 ≤ p ∧ p < n) then -1 else if ¬ ((0 ≤ k ∧ k ≤ 20) ∧ (0 ≤ s ∧ s ≤ 2)) then -2 else if rc = 8 then -4 else rc
def rdP (n rc k p s : Int) : Prop := (0 ≤ p ∧ p < n) ∧ ((0 ≤ k ∧ k ≤ 20) ∧ (0 ≤ s ∧ s ≤ 2)) ∧ ¬ rc = 8
