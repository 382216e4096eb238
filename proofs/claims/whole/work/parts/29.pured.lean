/-! sheets -/
def cuB (v : Int) : Int := ((iI v).toInt8.toInt32).toInt
def cuS (v : Int) : Int := ((iI v).toInt16.toInt32).toInt
def cutF (lane v : Int) : Int := if lane = 0 then cuB v else if lane = 1 then cuS v else v
def shOK (sz ln ce : Int → Int) : Prop := (∀ k, -1 ≤ sz k ∧ sz k ≤ 60) ∧ (∀ k, 0 ≤ ln k ∧ ln k ≤ 2) ∧ ∀ j, -2147483648 ≤ ce j ∧ ce j ≤ 2147483647
def barC (sz ln : Int → Int) (k lane i n : Int) : Int := if 0 ≤ sz k ∧ ¬ ln k = lane then 2 else if sz k < 0 then 1 else if n < 0 then 4 else if i < 0 ∨ n < 0 ∨ sz k < i + n then 3 else 0
theorem barC_r (sz ln : Int → Int) (k lane i n : Int) : 0 ≤ barC sz ln k lane i n ∧ barC sz ln k lane i n ≤ 4 := by
  unfold barC
  (repeat' split) <;> omega
def R_bar (sz ln : Int → Int) (k lane i n : Int) : Int := if barC sz ln k lane i n = 0 then 0 else -10 - barC sz ln k lane i n
def F_bar (sz ln : Int → Int) (ft k lane i n : Int) : Int := if barC sz ln k lane i n = 0 then ft else barC sz ln k lane i n
def R_she (k lane n : Int) : Int := if ¬ (0 ≤ k ∧ k ≤ 3) then -1 else if ¬ (0 ≤ lane ∧ lane ≤ 2) ∨ 60 < n then -2 else if n < 0 then -14 else 1
def F_she (k lane n : Int) : Int := if R_she k lane n = -14 then 4 else 0
def zfF (ce : Int → Int) (b n : Int) : Int → Int := fun j => if b ≤ j ∧ j < b + n then 0 else ce j
theorem zfF_0 (ce : Int → Int) (b : Int) : zfF ce b 0 = ce := by
  funext j
  unfold zfF
  rw [if_neg (by omega)]
theorem zfF_s {ce : Int → Int} {b i : Int} (hi : 0 ≤ i) : up (zfF ce b i) (b + i) 0 = zfF ce b (i + 1) := by
  funext j
  unfold up zfF
  by_cases hj : j = b + i
  · rw [if_pos hj, if_pos (by omega)]
  · rw [if_neg hj]
    by_cases h : b ≤ j ∧ j < b + i
    · rw [if_pos h, if_pos (by omega)]
    · rw [if_neg h, if_neg (by omega)]
def R_lose (sz : Int → Int) (k : Int) : Int := if ¬ (0 ≤ k ∧ k ≤ 3) then -1 else if sz k < 0 then 0 else 1
def noC (sz : Int → Int) (k i : Int) : Int := if sz k < 0 then 1 else if 0 ≤ i ∧ i < sz k then 0 else 3
def R_put (sz : Int → Int) (k i : Int) : Int := if ¬ (0 ≤ k ∧ k ≤ 3) then -1 else if noC sz k i = 0 then 1 else -10 - noC sz k i
def F_put (sz : Int → Int) (k i : Int) : Int := if ¬ (0 ≤ k ∧ k ≤ 3) then 0 else noC sz k i
def C_cel (sz ln : Int → Int) (k i lane : Int) : Int := if 0 ≤ sz k ∧ ¬ ln k = lane then 2 else noC sz k i
def R_cel (sz ln ce : Int → Int) (k i lane : Int) : Int := if ¬ ((0 ≤ k ∧ k ≤ 3) ∧ (0 ≤ lane ∧ lane ≤ 2)) then -9223372036854775808 else if C_cel sz ln k i lane = 0 then ce (60 * k + i) else -9223372036854775808
def F_cel (sz ln : Int → Int) (k i lane : Int) : Int := if ¬ ((0 ≤ k ∧ k ≤ 3) ∧ (0 ≤ lane ∧ lane ≤ 2)) then 0 else C_cel sz ln k i lane
def C_cpy (sz ln : Int → Int) (k i o j n : Int) : Int := if sz k < 0 ∨ sz o < 0 then 1 else if ¬ ln k = ln o then 2 else if (i < 0 ∨ n < 0 ∨ sz k < i + n) ∨ (j < 0 ∨ n < 0 ∨ sz o < j + n) then 3 else 0
def R_cpy (sz ln : Int → Int) (k i o j n : Int) : Int := if ¬ ((0 ≤ k ∧ k ≤ 3) ∧ (0 ≤ o ∧ o ≤ 3)) then -1 else if C_cpy sz ln k i o j n = 0 then n else -10 - C_cpy sz ln k i o j n
def F_cpy (sz ln : Int → Int) (k i o j n : Int) : Int := if ¬ ((0 ≤ k ∧ k ≤ 3) ∧ (0 ≤ o ∧ o ≤ 3)) then 0 else C_cpy sz ln k i o j n
def mvF (hd ce : Int → Int) (b n : Int) : Int → Int := fun j => if b ≤ j ∧ j < b + n then hd (j - b) else ce j
theorem mvF_0 (hd ce : Int → Int) (b : Int) : mvF hd ce b 0 = ce := by
  funext j
  unfold mvF
  rw [if_neg (by omega)]
theorem mvF_s {hd ce : Int → Int} {b i : Int} (hi : 0 ≤ i) : up (mvF hd ce b i) (b + i) (hd i) = mvF hd ce b (i + 1) := by
  funext j
  unfold up mvF
  by_cases hj : j = b + i
  · rw [if_pos hj, if_pos (by omega), show j - b = i by omega]
  · rw [if_neg hj]
    by_cases h : b ≤ j ∧ j < b + i
    · rw [if_pos h, if_pos (by omega)]
    · rw [if_neg h, if_neg (by omega)]
theorem mvF_eq {hd f ce : Int → Int} {b n : Int} (h : ∀ j, 0 ≤ j → j < n → hd j = f j) : mvF hd ce b n = mvF f ce b n := by
  funext j
  unfold mvF
  split
  next q => exact h _ (by omega) (by omega)
  next => rfl
