def khS (a : Nat → Nat) (n p : Nat) : Nat → Nat → Int32
  | 0, _ => -1
  | m + 1, k => if Wd a n p (wdW (kwI k)) = true then nI k else khS a n p m (k + 1)
def seH (a : Nat → Nat) (n p : Nat) : Nat → Nat → Int32
  | 0, _ => -1
  | m + 1, k => if Wd a n p (wdW (10 + k)) = true then nI k else seH a n p m (k + 1)
theorem kh_c (a : Nat → Nat) (n p : Nat) (d : Nat → Int32) : ∀ m k, (khS a n p m k = -1 ∧ rK a n p d m k = rS a n p d 4 0) ∨ ∃ j, j < k + m ∧ khS a n p m k = nI j ∧ rK a n p d m k = rRes a n (nI j) p d ∧ tT a n p = 1
  | 0, k => Or.inl ⟨rfl, rfl⟩
  | m + 1, k => by
    unfold khS rK
    by_cases h : Wd a n p (wdW (kwI k)) = true
    · rw [if_pos h, if_pos h]
      exact Or.inr ⟨k, by omega, rfl, rfl, (Wd_i.mp h).1⟩
    · rw [if_neg h, if_neg h]
      rcases kh_c a n p d m (k + 1) with q | ⟨j, q1, q2⟩
      · exact Or.inl q
      · exact Or.inr ⟨j, by omega, q2⟩
theorem se_c (a : Nat → Nat) (n p : Nat) (d : Nat → Int32) : ∀ m k, (seH a n p m k = -1 ∧ rS a n p d m k = rS a n p d 0 4) ∨ ∃ j, j < k + m ∧ seH a n p m k = nI j ∧ rS a n p d m k = rSet a n j p d ∧ tT a n p = 1
  | 0, k => Or.inl ⟨rfl, rfl⟩
  | m + 1, k => by
    unfold seH
    rw [show rS a n p d (m + 1) k = if Wd a n p (wdW (10 + k)) = true then rSet a n k p d else rS a n p d m (k + 1) from rfl]
    by_cases h : Wd a n p (wdW (10 + k)) = true
    · rw [if_pos h, if_pos h]
      exact Or.inr ⟨k, by omega, rfl, rfl, (Wd_i.mp h).1⟩
    · rw [if_neg h, if_neg h]
      rcases se_c a n p d m (k + 1) with q | ⟨j, q1, q2⟩
      · exact Or.inl q
      · exact Or.inr ⟨j, by omega, q2⟩
