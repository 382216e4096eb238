theorem upS_comm {st : Nat → Option shE} {j k : Nat} (h : ¬ j = k) (u v : Option shE) : upS (upS st j u) k v = upS (upS st k v) j u := by
  funext t
  unfold upS
  by_cases e1 : t = j
  · rw [if_pos e1, if_neg (by omega), if_pos e1]
  · rw [if_neg e1, if_neg e1]
