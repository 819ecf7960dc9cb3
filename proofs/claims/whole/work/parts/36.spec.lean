/-! the model: draws, odds, the tape, sheets -/
theorem upd_over {D : Nat → Int32} {a : Nat} {x r y : Int32} (h : a ≠ 2) : upd (upd (upd D 2 x) a r) 2 y = upd (upd D a r) 2 y := by
  funext j
  simp only [upd]
  by_cases h1 : j = 2
  · rw [if_pos h1, if_pos h1]
  · rw [if_neg h1, if_neg h1, if_neg h1]
theorem md_cd {μ : Me} {D : Nat → Int32} : up (up (up (up (ua μ 1 D) 1 2 (zS (D 2))) 1 (7 + s6 (D 1)) (rmS (drS (zS (D 2))) 256)) 1 2 (zS (zS (D 2)))) 1 6 (1 + rmS (drS (zS (zS (D 2)))) 12) = ua μ 1 (cdD D) := by
  simp only [up_ua]
  rw [upd_over (by omega)]
  rfl
theorem is_bit {s : Int32} {k : Nat} (hk : k < 2 ^ 31) : isS s (nI k) = bitS s (nI k) := by
  rcases bit01 s (nI k) with h | h
  · rw [h]; exact is_nb (bit_0n h)
  · rw [h]; exact isS_1.mpr ⟨nI_pos' hk, h⟩
theorem oc_s {f : Nat → Int32} {c : Int32} {n : Nat} {k i : Nat} (hk : k < 2 ^ 31) : ocL f c n (nI k) i + bitS (seL f c (nI i) n).2 (nI k) = ocL f c n (nI k) (i + 1) := by
  simp only [ocL]
  rw [is_bit hk]
  rcases bit01 (seL f c (nI i) n).2 (nI k) with h | h
  · rw [h, if_pos rfl]; simp
  · rw [h, if_neg (by decide)]
def bbS (b : Int32) (c i : Nat) : Int32 := (b >>> ((8 * (nI c - nI (i + 1))) &&& 31)).toInt8.toInt32
def fdB (μ : Me) (t : Nat) (b : Int32) (c : Nat) : Nat → Me
  | 0 => μ
  | i + 1 => up (up (fdB μ t b c i) 6 (t + i) (bbS b c i)) 0 7 (nI (t + i + 1))
theorem fdB_len {μ : Me} {t : Nat} {b : Int32} {c : Nat} (h : μ.1 0 7 = nI t) : ∀ i, (fdB μ t b c i).1 0 7 = nI (t + i)
  | 0 => h
  | i + 1 => by simp only [fdB]; rw [up_s]; rfl
def shZ (f : Nat → Int32) (s i : Nat) : Nat → Int32 := fun j => if 40 * s ≤ j ∧ j < 40 * s + i then 0 else f j
theorem shZ_0 (f : Nat → Int32) (s : Nat) : shZ f s 0 = f := by funext j; simp only [shZ]; rw [if_neg (by omega)]
theorem shZ_s (f : Nat → Int32) (s i : Nat) : upd (shZ f s i) (40 * s + i) 0 = shZ f s (i + 1) := by
  funext j
  simp only [upd, shZ]
  by_cases h : j = 40 * s + i
  · rw [if_pos h, if_pos (by omega)]
  · rw [if_neg h]
    by_cases h2 : 40 * s ≤ j ∧ j < 40 * s + i
    · rw [if_pos h2, if_pos (by omega)]
    · rw [if_neg h2, if_neg (by omega)]
def shW (μ : Me) (s : Nat) (b n : Int32) : Me := up (up μ 7 s b) 8 s (if b = 0 then 0 else n)
theorem i40 (s i : Nat) : 40 * nI s + nI i = nI (40 * s + i) := by
  show nI 40 * nI s + nI i = _
  rw [pk_mul, nI_add]
theorem i40_2 (s f i : Nat) : 40 * nI s + nI f + nI i = nI (40 * s + f + i) := by rw [i40, nI_add]
def cpP (f g : Nat → Int32) (a i : Nat) : Nat → Int32 := fun j => if j < i then f (a + j) else g j
theorem cpP_0 (f g : Nat → Int32) (a : Nat) : cpP f g a 0 = g := by funext j; simp only [cpP]; rw [if_neg (by omega)]
theorem cpP_s (f g : Nat → Int32) (a i : Nat) : upd (cpP f g a i) i (f (a + i)) = cpP f g a (i + 1) := by
  funext j
  simp only [upd, cpP]
  by_cases h : j = i
  · subst h; rw [if_pos rfl, if_pos (by omega)]
  · rw [if_neg h]
    by_cases h2 : j < i
    · rw [if_pos h2, if_pos (by omega)]
    · rw [if_neg h2, if_neg (by omega)]
def cpN (f g : Nat → Int32) (b i : Nat) : Nat → Int32 := fun j => if b ≤ j ∧ j < b + i then f (j - b) else g j
theorem cpN_0 (f g : Nat → Int32) (b : Nat) : cpN f g b 0 = g := by funext j; simp only [cpN]; rw [if_neg (by omega)]
theorem cpN_s (f g : Nat → Int32) (b i : Nat) : upd (cpN f g b i) (b + i) (f i) = cpN f g b (i + 1) := by
  funext j
  simp only [upd, cpN]
  by_cases h : j = b + i
  · rw [if_pos h, if_pos (by omega)]; congr 1; omega
  · rw [if_neg h]
    by_cases h2 : b ≤ j ∧ j < b + i
    · rw [if_pos h2, if_pos (by omega)]
    · rw [if_neg h2, if_neg (by omega)]
def IvZ (μ : Me) : Prop := ∀ s, s < 4 → Le (μ.1 8 s) 40
def hrM (z f n : Int32) : Prop := 0 ≤ f ∧ 0 ≤ n ∧ f.toInt64 + n.toInt64 ≤ z.toInt64
def cpM (μ : Me) (s f t g n : Nat) : Me := ua (ua μ 10 (cpP (μ.1 9) (μ.1 10) (40 * s + f) n)) 9 (cpN (cpP (μ.1 9) (μ.1 10) (40 * s + f) n) (μ.1 9) (40 * t + g) n)
theorem cm_iv {d : Nat → Int32} (hI : IvD d) : ∀ i, IvD (cmD i d) ∧ dn (cmD i d) = dn d ∧ cmD i d 5 = d 5
  | 0 => ⟨hI, rfl, rfl⟩
  | i + 1 => by
    obtain ⟨a, b, c⟩ := cm_iv hI i
    have h1 := IvD_cd a
    exact ⟨IvD_su h1, (suM_dn h1).trans ((cd_dn a).trans b), (suM_o h1 (by decide) (Or.inl (by decide))).trans ((cd_5 a).trans c)⟩
theorem ua_same {M : Me} {k : Nat} {f : Nat → Int32} (h : f = M.1 k) : M = ua M k f := by rw [h, ua_self]
theorem i64_add {f n z : Int32} (hf : 0 ≤ f) (hn : 0 ≤ n) : f.toInt64 + n.toInt64 ≤ z.toInt64 ↔ f.toInt + n.toInt ≤ z.toInt := by
  have r1 := Int32.toInt_lt f
  have r2 := Int32.toInt_lt n
  have p1 : 0 ≤ f.toInt := by simpa using Int32.le_iff_toInt_le.mp hf
  have p2 : 0 ≤ n.toInt := by simpa using Int32.le_iff_toInt_le.mp hn
  rw [Int64.le_iff_toInt_le, Int64.toInt_add, Int32.toInt_toInt64, Int32.toInt_toInt64, Int32.toInt_toInt64]
  rw [Int.bmod_eq_of_le (by omega) (by omega)]
theorem hr_m {z f n : Int32} {Z : Nat} (hZ : Z ≤ 40) (hz : z = nI Z) (hf : 0 ≤ f) (hn : 0 ≤ n) : hrS z f n = 0 ↔ ¬ f.toInt64 + n.toInt64 ≤ z.toInt64 := by
  subst hz
  rw [i64_add hf hn]
  unfold hrS
  have p1 : 0 ≤ f.toInt := by simpa using Int32.le_iff_toInt_le.mp hf
  have p2 : 0 ≤ n.toInt := by simpa using Int32.le_iff_toInt_le.mp hn
  have eZ : (nI Z).toInt = Z := nI_toInt (by omega)
  by_cases q : n ≤ nI Z
  · have q' := Int32.le_iff_toInt_le.mp q
    obtain ⟨k, hk, e⟩ := Le_of hn q (by omega)
    subst e
    have ek : (nI k).toInt = k := nI_toInt (by omega)
    have es : (nI Z - nI k).toInt = (Z : Int) - k := pk_sub_toInt (by omega) (by omega)
    by_cases q2 : f ≤ nI Z - nI k
    · rw [if_pos ⟨hn, q, hf, q2⟩]
      have := Int32.le_iff_toInt_le.mp q2
      simp only [show ((1 : Int32) = 0) = False by simp, false_iff, Decidable.not_not]
      omega
    · rw [if_neg (fun h => q2 h.2.2.2)]
      have : ¬ f.toInt ≤ (nI Z - nI k).toInt := fun h => q2 (Int32.le_iff_toInt_le.mpr h)
      simp only [true_iff]
      omega
  · rw [if_neg (fun h => q h.2.1)]
    have : ¬ n.toInt ≤ (nI Z).toInt := fun h => q (Int32.le_iff_toInt_le.mpr h)
    simp only [true_iff]
    omega
theorem hr_0f {z f n : Int32} (h : f < 0) : hrS z f n = 0 := if_neg (fun q => Int32.not_le.mpr h q.2.2.1)
theorem hr_0n {z f n : Int32} (h : n < 0) : hrS z f n = 0 := if_neg (fun q => Int32.not_le.mpr h q.1)
def ldD (f d : Nat → Int32) (n : Nat) : Nat → Int32 := fun j => if 7 ≤ j ∧ j < 7 + n then f (j - 7) else d j
theorem ldD_0 (f d : Nat → Int32) : ldD f d 0 = d := by funext j; simp only [ldD]; rw [if_neg (by omega)]
theorem ldD_s (f d : Nat → Int32) (n : Nat) : upd (ldD f d n) (7 + n) (f n) = ldD f d (n + 1) := by
  funext j
  simp only [upd, ldD]
  by_cases h : j = 7 + n
  · rw [if_pos h, if_pos (by omega)]; congr 1; omega
  · rw [if_neg h]
    by_cases h2 : 7 ≤ j ∧ j < 7 + n
    · rw [if_pos h2, if_pos (by omega)]
    · rw [if_neg h2, if_neg (by omega)]
