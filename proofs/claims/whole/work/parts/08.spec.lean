/-! ints -/
theorem le_n {a b : Nat} (ha : a < 2 ^ 31) (hb : b < 2 ^ 31) : nI a ≤ nI b ↔ a ≤ b := nI_leI ha hb
theorem lt_n {a b : Nat} (ha : a < 2 ^ 31) (hb : b < 2 ^ 31) : nI a < nI b ↔ a < b := nI_ltI ha hb
def wiS (v a b : Int32) : Int32 := if a ≤ v ∧ v ≤ b then 1 else 0
def bitS (s n : Int32) : Int32 := (s >>> (n &&& 31)) &&& 1
def isS (s n : Int32) : Int32 := if 0 ≤ n ∧ bitS s n = 1 then 1 else 0
def leastS (a : Int32) : Int32 := if a = 3 then 1 else 0
def mostS (a : Int32) : Int32 := if a = 2 then 8 else if a = 3 then 12 else 20
def fitS (a v : Int32) : Int32 := if wiS a 0 3 = 1 ∧ wiS v (leastS a) (mostS a) = 1 then 1 else 0
def aboveS (k : Int32) : Int32 := if k = 1 ∨ k = 2 ∨ k = 5 then 0 else if k = 3 then 2 else if k = 4 then 3 else if k = 6 then 1 else -1
def undL : Nat → Int32 → Int32 → Int32
  | 0, _, _ => 0
  | n + 1, t, a => if t = -1 then 0 else if t = a then 1 else undL n (aboveS t) a
def powL (b : Int32) : Nat → Int64
  | 0 => 1
  | n + 1 => powL b n * b.toInt64
theorem wiS_1 {v a b : Int32} : wiS v a b = 1 ↔ a ≤ v ∧ v ≤ b := by unfold wiS; split <;> simp [*]
theorem wiS_0 {v a b : Int32} : wiS v a b = 0 ↔ ¬ (a ≤ v ∧ v ≤ b) := by unfold wiS; split <;> simp [*]
theorem isS_1 {s n : Int32} : isS s n = 1 ↔ 0 ≤ n ∧ bitS s n = 1 := by unfold isS; split <;> simp [*]
theorem isS_0 {s n : Int32} : isS s n = 0 ↔ ¬ (0 ≤ n ∧ bitS s n = 1) := by unfold isS; split <;> simp [*]
