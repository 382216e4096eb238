/-! what is told counts below n only -/
theorem R_ofp_cg {n : Int} {kd km nu nm : Int → Int} (hek : ∀ q, 0 ≤ q → q < n → km q = kd q) (hen : ∀ j, 0 ≤ j → j < 3 * n → nm j = nu j) (p w : Int) : R_ofp n km nm p w = R_ofp n kd nu p w := by
  unfold R_ofp
  rw [exT_cg hek hen]
  by_cases hp : 0 ≤ p ∧ p < n
  · have hnn : ¬ ¬ (0 ≤ p ∧ p < n) := fun q => q hp
    rw [if_neg hnn, if_neg hnn, hek p hp.1 hp.2]
    by_cases hw : 10 ≤ w ∧ w ≤ 12
    · rw [hen (3 * p + (w - 10)) (by omega) (by omega)]
    · rw [if_neg hw, if_neg hw]
  · rw [if_pos hp, if_pos hp]
theorem R_val_cg {n : Int} {kd km nu nm : Int → Int} (hek : ∀ q, 0 ≤ q → q < n → km q = kd q) (hen : ∀ j, 0 ≤ j → j < 3 * n → nm j = nu j) (p w : Int) : R_val n km nm p w = R_val n kd nu p w := by
  unfold R_val
  rw [exT_cg hek hen]
theorem R_kin_cg {n : Int} {kd km nu nm : Int → Int} (hek : ∀ q, 0 ≤ q → q < n → km q = kd q) (hen : ∀ j, 0 ≤ j → j < 3 * n → nm j = nu j) (rc : Int) (r1 r2 r3 : Int → Int) (p : Int) : R_kin n km nm rc r1 r2 r3 p = R_kin n kd nu rc r1 r2 r3 p := by
  unfold R_kin
  have e : (fun k : Nat => soB (exT n (up km p k) nm) n rc r1 r2 r3) = (fun k : Nat => soB (exT n (up kd p k) nu) n rc r1 r2 r3) := by
    funext k
    rw [exT_cg (n := n) (kd := up km p k) (kd2 := up kd p k) (nu := nm) (nu2 := nu) (fun q h1 h2 => by unfold up; split; rfl; exact hek q h1 h2) hen]
  rw [e]
theorem R_low_cg {n : Int} {kd km nu nm : Int → Int} (hek : ∀ q, 0 ≤ q → q < n → km q = kd q) (hen : ∀ j, 0 ≤ j → j < 3 * n → nm j = nu j) (rc : Int) (r1 r2 r3 : Int → Int) (p : Int) : R_low n km nm rc r1 r2 r3 p = R_low n kd nu rc r1 r2 r3 p := by
  unfold R_low
  have e : (fun k : Nat => soB (exT n km (up nm (3 * p) ((k : Int) - 9))) n rc r1 r2 r3) = (fun k : Nat => soB (exT n kd (up nu (3 * p) ((k : Int) - 9))) n rc r1 r2 r3) := by
    funext k
    rw [exT_cg (n := n) (kd := km) (kd2 := kd) (nu := up nm (3 * p) ((k : Int) - 9)) (nu2 := up nu (3 * p) ((k : Int) - 9)) hek (fun q h1 h2 => by unfold up; split; rfl; exact hen q h1 h2)]
  rw [e]
theorem R_tel_cg {n : Int} {kd km nu nm : Int → Int} (hek : ∀ q, 0 ≤ q → q < n → km q = kd q) (hen : ∀ j, 0 ≤ j → j < 3 * n → nm j = nu j) (p : Int) : R_tel n km (exT n km nm) p = R_tel n kd (exT n kd nu) p := by
  unfold R_tel
  rw [exT_cg hek hen]
  by_cases hp : 0 ≤ p ∧ p < n
  · rw [hek p hp.1 hp.2]
  · rw [if_pos hp, if_pos hp]
theorem tuF_cg {n : Int} {nu nm : Int → Int} (hen : ∀ j, 0 ≤ j → j < 3 * n → nm j = nu j) (p k v : Int) : ∀ j, 0 ≤ j → j < 3 * n → tuF n nm p k v j = tuF n nu p k v j := by
  intro j h1 h2
  unfold tuF
  split
  · unfold up
    split
    · rfl
    · exact hen j h1 h2
  · exact hen j h1 h2
theorem dyF_cg {n : Int} {nu nm : Int → Int} (hen : ∀ j, 0 ≤ j → j < 3 * n → nm j = nu j) (ce : Int → Int) (f : Int) : ∀ (x : Nat) (j : Int), 0 ≤ j → j < 3 * n → dyF n nm ce f x j = dyF n nu ce f x j := by
  intro x
  induction x with
  | zero => exact hen
  | succ x ih => unfold dyF; exact tuF_cg ih _ _ _
theorem R_tune_cg {n : Int} {nu nm : Int → Int} (hen : ∀ j, 0 ≤ j → j < 3 * n → nm j = nu j) (p k v : Int) : R_tune n nm p k v = R_tune n nu p k v := by
  unfold R_tune
  by_cases hp : 0 ≤ p ∧ p < n
  · have hnn : ¬ ¬ (0 ≤ p ∧ p < n) := fun q => q hp
    rw [if_neg hnn, if_neg hnn]
    by_cases hk : (0 ≤ k ∧ k ≤ 2) ∧ (-9 ≤ v ∧ v ≤ 9)
    · rw [hen (3 * p + k) (by omega) (by omega)]
    · rw [if_pos hk, if_pos hk]
  · rw [if_pos hp, if_pos hp]
theorem R_day_cg {n : Int} {kd km nu nm : Int → Int} (hek : ∀ q, 0 ≤ q → q < n → km q = kd q) (hen : ∀ j, 0 ≤ j → j < 3 * n → nm j = nu j) (sz ln ce : Int → Int) (k lane i m w : Int) : R_day n km nm sz ln ce k lane i m w = R_day n kd nu sz ln ce k lane i m w := by
  unfold R_day R_dyo
  rw [exT_cg (n := n) (kd := km) (kd2 := kd) (nu := dyF n nm ce (60 * k + i) m.toNat) (nu2 := dyF n nu ce (60 * k + i) m.toNat) hek (dyF_cg hen ce (60 * k + i) m.toNat)]
theorem T_tel_cg {n : Int} {kd km : Int → Int} (hek : ∀ q, 0 ≤ q → q < n → km q = kd q) (tr p : Int) : T_tel n km tr p = T_tel n kd tr p := by
  unfold T_tel
  by_cases hp : 0 ≤ p ∧ p < n
  · rw [hek p hp.1 hp.2]
  · rw [if_pos hp, if_pos hp]
theorem R_call_cg {n : Int} {kd km : Int → Int} (hek : ∀ q, 0 ≤ q → q < n → km q = kd q) (p : Int) : R_call n km p = R_call n kd p := by
  unfold R_call
  by_cases hp : 0 ≤ p ∧ p < n
  · rw [hek p hp.1 hp.2]
  · rw [if_pos hp, if_pos hp]
theorem T_call_cg {n : Int} {kd km : Int → Int} (hek : ∀ q, 0 ≤ q → q < n → km q = kd q) (tr p : Int) : T_call n km tr p = T_call n kd tr p := by
  unfold T_call
  by_cases hp : 0 ≤ p ∧ p < n
  · rw [hek p hp.1 hp.2]
  · rw [if_pos hp, if_pos hp]
theorem R_as_cg {n : Int} {kd km : Int → Int} (hek : ∀ q, 0 ≤ q → q < n → km q = kd q) (p k : Int) : R_as n km p k = R_as n kd p k := by
  unfold R_as
  by_cases hp : 0 ≤ p ∧ p < n
  · rw [hek p hp.1 hp.2]
  · rw [if_pos hp, if_pos hp]
theorem F_as_cg {n : Int} {kd km : Int → Int} (hek : ∀ q, 0 ≤ q → q < n → km q = kd q) (p k : Int) : F_as n km p k = F_as n kd p k := by
  unfold F_as
  by_cases hp : 0 ≤ p ∧ p < n
  · rw [hek p hp.1 hp.2]
  · rw [if_neg (fun q => hp q.1), if_neg (fun q => hp q.1)]

theorem rd_s {n rc : Int} {r1 r2 r3 : Int → Int} (h : rdOK n rc r1 r2 r3) {k p s : Int} (hq : 0 ≤ R_rdg n rc k p s) : rdOK n (rc + 1) (up r1 rc k) (up r2 rc p) (up r3 rc s) := by
  obtain ⟨h1, h2⟩ := h
  have hb : (0 ≤ p ∧ p < n) ∧ ((0 ≤ k ∧ k ≤ 20) ∧ (0 ≤ s ∧ s ≤ 2)) ∧ ¬ rc = 8 := by
    unfold R_rdg at hq
    by_cases q1 : 0 ≤ p ∧ p < n
    · rw [if_neg (fun q => q q1)] at hq
      by_cases q2 : (0 ≤ k ∧ k ≤ 20) ∧ (0 ≤ s ∧ s ≤ 2)
      · rw [if_neg (fun q => q q2)] at hq
        by_cases q3 : rc = 8
        · rw [if_pos q3] at hq; omega
        · exact ⟨q1, q2, q3⟩
      · rw [if_pos q2] at hq; omega
    · rw [if_pos q1] at hq; omega
  refine ⟨by omega, fun x a1 a2 => ?_⟩
  by_cases e : x = rc
  · subst e
    rw [up_s, up_s, up_s]
    exact ⟨hb.2.1.1, hb.1, hb.2.1.2⟩
  · rw [up_n e, up_n e, up_n e]
    exact h2 x a1 (by omega)
theorem rd_back {n rc : Int} {r1 r2 r3 : Int → Int} (h : rdOK n rc r1 r2 r3) (y : Int) : rdOK n (if 0 ≤ y ∧ y ≤ rc then rc - y else rc) r1 r2 r3 := by
  obtain ⟨h1, h2⟩ := h
  split
  · exact ⟨by omega, fun x a1 a2 => h2 x a1 (by omega)⟩
  · exact ⟨h1, h2⟩
theorem hasP_ag {k1 n1 k2 n2 : Int → Int} {L : List pyT} (h1 : hasP k1 n1 L) (h2 : hasP k2 n2 L) : (∀ q, 0 ≤ q → q < (L.length : Int) → k1 q = k2 q) ∧ ∀ j, 0 ≤ j → j < 3 * (L.length : Int) → n1 j = n2 j := by
  have key : ∀ q : Nat, q < L.length → k1 q = k2 q ∧ n1 (3 * q) = n2 (3 * q) ∧ n1 (3 * q + 1) = n2 (3 * q + 1) ∧ n1 (3 * q + 2) = n2 (3 * q + 2) := by
    intro q hq
    obtain ⟨a1, -, a3⟩ := h1 q _ (List.getElem?_eq_getElem hq)
    obtain ⟨b1, -, b3⟩ := h2 q _ (List.getElem?_eq_getElem hq)
    rw [a3] at b3
    injection b3 with c1 c2
    injection c2 with c2 c3
    injection c3 with c3 c4
    exact ⟨by rw [a1, b1], c1, c2, c3⟩
  refine ⟨fun q a1 a2 => ?_, fun j a1 a2 => ?_⟩
  · have := (key q.toNat (by omega)).1
    rw [show ((q.toNat : Nat) : Int) = q by omega] at this
    exact this
  · have hk := key (j / 3).toNat (by omega)
    rw [show (((j / 3).toNat : Nat) : Int) = j / 3 by omega] at hk
    rcases (by omega : j = 3 * (j / 3) ∨ j = 3 * (j / 3) + 1 ∨ j = 3 * (j / 3) + 2) with e | e | e
    · rw [e]; have : 3 * (j / 3) / 3 = j / 3 := by omega
      exact hk.2.1
    · rw [e]; exact hk.2.2.1
    · rw [e]; exact hk.2.2.2
