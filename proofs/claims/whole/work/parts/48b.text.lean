theorem lo_n {i : Nat} (hi : i < 4) : leastS (nI i) = nI (loN i) := by
  rcases (show i = 0 ∨ i = 1 ∨ i = 2 ∨ i = 3 by omega) with q | q | q | q <;> subst q <;> decide +kernel
theorem hi_n {i : Nat} (hi : i < 4) : mostS (nI i) = nI (hiN i) := by
  rcases (show i = 0 ∨ i = 1 ∨ i = 2 ∨ i = 3 by omega) with q | q | q | q <;> subst q <;> decide +kernel
theorem lo_r (i : Nat) : loN i ≤ 10000 := by unfold loN; split <;> omega
theorem hi_r (i : Nat) : hiN i ≤ 10000 := by unfold hiN; split; omega; split <;> omega
