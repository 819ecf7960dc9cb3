/-! nest mates' words -/
def Nx (w : WC) : Prop := ∀ U, w_X w U → va_Nw (.methodLinkNest RX0 54 yX4_within "SundayVisits") U ∧ va_Nw (.methodLinkNest RX0 82 yX4_isIn "SundayVisits") U ∧ va_Nw (.methodLinkNest RX3 121 yX4_within "SundayVisits") U ∧ va_Nw (.methodLinkNest RX3 91 yX4_leastSetting "SundayVisits") U ∧ va_Nw (.methodLinkNest RX3 94 yX4_mostSetting "SundayVisits") U
theorem nw_X0_54 {w : WC} (h : Nx w) {U : State} (hu : w_X w U) : va_Nw (.methodLinkNest RX0 54 yX4_within "SundayVisits") U := (h U hu).1
theorem nw_X0_82 {w : WC} (h : Nx w) {U : State} (hu : w_X w U) : va_Nw (.methodLinkNest RX0 82 yX4_isIn "SundayVisits") U := (h U hu).2.1
theorem nw_X3_121 {w : WC} (h : Nx w) {U : State} (hu : w_X w U) : va_Nw (.methodLinkNest RX3 121 yX4_within "SundayVisits") U := (h U hu).2.2.1
theorem nw_X3_91 {w : WC} (h : Nx w) {U : State} (hu : w_X w U) : va_Nw (.methodLinkNest RX3 91 yX4_leastSetting "SundayVisits") U := (h U hu).2.2.2.1
theorem nw_X3_94 {w : WC} (h : Nx w) {U : State} (hu : w_X w U) : va_Nw (.methodLinkNest RX3 94 yX4_mostSetting "SundayVisits") U := (h U hu).2.2.2.2
/-! a home, in numbers: what loops over residents come to -/
theorem is_t {s : Int32} {i : Nat} (hi : i < 2 ^ 31) (h : ¬ isS s (nI i) = 0) : bitS s (nI i) = 1 := by
  have h1 := mt isS_0.mpr h
  exact (Decidable.not_not.mp h1).2
theorem is_f {s : Int32} {i : Nat} (hi : i < 2 ^ 31) (h : isS s (nI i) = 0) : ¬ bitS s (nI i) = 1 := fun hb => isS_0.mp h ⟨nI_pos' hi, hb⟩
abbrev bitN (i : Nat) : Int32 := 1 <<< (nI i &&& 31)
def bgS (μ : Me) (c : Nat) (a : Int32) : Me := up (up (up (up (up μ c 0 a) c 1 50) c 2 (-1)) c 3 0) c 4 0
def ffS (z r t v : Int32) : Int32 := if t = 0 then wiS v 0 6 else if t = 1 then wiS v 0 99 else if t = 2 then (if v = -1 ∨ (¬ wiS v 0 (z - 1) = 0 ∧ ¬ v = r) then 1 else 0) else if t = 3 ∨ t = 4 then wiS v 0 9999 else 0
def zS (z : Int32) : Int32 := z * 1103515245 + 12345
def drS (z : Int32) : Int32 := (z.toUInt32 >>> ((8 : Int32).toUInt32 &&& Int32.toUInt32 31)).toInt32
def lwL (f : Nat → Int32) (s : Int32) : Nat → Int32 × Int32
  | 0 => (-1, -1)
  | i + 1 => if bitS s (nI i) = 0 ∧ (lwL f s i).2 < f i then (nI i, f i) else lwL f s i
theorem lwL_y {f : Nat → Int32} {s : Int32} {i : Nat} (h1 : bitS s (nI i) = 0) (h2 : (lwL f s i).2 < f i) : lwL f s (i + 1) = (nI i, f i) := if_pos ⟨h1, h2⟩
theorem lwL_n1 {f : Nat → Int32} {s : Int32} {i : Nat} (h1 : ¬ bitS s (nI i) = 0) : lwL f s (i + 1) = lwL f s i := if_neg (fun h => h1 h.1)
theorem lwL_n2 {f : Nat → Int32} {s : Int32} {i : Nat} (h2 : ¬ (lwL f s i).2 < f i) : lwL f s (i + 1) = lwL f s i := if_neg (fun h => h2 h.2)
def smL (f : Nat → Int32) : Nat → Int32
  | 0 => 0
  | i + 1 => smL f i + f i
def loL (f : Nat → Int32) : Nat → Int32
  | 0 => 99
  | i + 1 => if f i < loL f i then f i else loL f i
def weL (f : Nat → Int32) : Nat → Int32
  | 0 => 0
  | i + 1 => if 60 ≤ f i then weL f i ||| bitN i else weL f i
theorem weL_y {f : Nat → Int32} {i : Nat} (h : ¬ wellS (f i) = 0) : weL f (i + 1) = weL f i ||| bitN i := by
  unfold wellS at h
  by_cases h2 : 60 ≤ f i
  · exact if_pos h2
  · rw [if_neg h2] at h; exact absurd rfl h
theorem weL_n {f : Nat → Int32} {i : Nat} (h : wellS (f i) = 0) : weL f (i + 1) = weL f i := by
  unfold wellS at h
  by_cases h2 : 60 ≤ f i
  · rw [if_pos h2] at h; exact absurd h (by decide)
  · exact if_neg h2
def heL (f : Nat → Int32) : Nat → Int32
  | 0 => 0
  | i + 1 => if f i = -1 then heL f i else heL f i + 1
def kaL (f : Nat → Int32) (a : Int32) (n : Nat) : Nat → Int32 := fun j => if j < n then f j &&& (a ^^^ (-1)) else f j
def seL (f : Nat → Int32) (c v : Int32) : Nat → Int32 × Int32
  | 0 => (c, 0)
  | i + 1 => if bitS v (nI i) = 1 ∧ seatsS (f i) ≤ (seL f c v i).1 then ((seL f c v i).1 - seatsS (f i), (seL f c v i).2 ||| bitN i) else seL f c v i
def shL (kd md fr : Nat → Int32) (v : Int32) : Nat → Int32
  | 0 => 0
  | i + 1 => if ¬ bitS v (nI i) = 1 ∧ ¬ isS v (fr i) = 0 ∧ sharesS (kd i) (md i) = 1 then shL kd md fr v i ||| bitN i else shL kd md fr v i
theorem seL_y {f : Nat → Int32} {c v : Int32} {i : Nat} (h1 : bitS v (nI i) = 1) (h2 : seatsS (f i) ≤ (seL f c v i).1) : seL f c v (i + 1) = ((seL f c v i).1 - seatsS (f i), (seL f c v i).2 ||| bitN i) := if_pos ⟨h1, h2⟩
theorem seL_n1 {f : Nat → Int32} {c v : Int32} {i : Nat} (h1 : ¬ bitS v (nI i) = 1) : seL f c v (i + 1) = seL f c v i := if_neg (fun h => h1 h.1)
theorem seL_n2 {f : Nat → Int32} {c v : Int32} {i : Nat} (h2 : ¬ seatsS (f i) ≤ (seL f c v i).1) : seL f c v (i + 1) = seL f c v i := if_neg (fun h => h2 h.2)
theorem sh_01 {k m : Int32} : ¬ sharesS k m = 0 ↔ sharesS k m = 1 := by
  unfold sharesS
  split
  · simp
  · split
    · simp
    · split <;> simp
theorem shL_y {kd md fr : Nat → Int32} {v : Int32} {i : Nat} (h1 : ¬ bitS v (nI i) = 1) (h2 : ¬ isS v (fr i) = 0) (h3 : ¬ sharesS (kd i) (md i) = 0) : shL kd md fr v (i + 1) = shL kd md fr v i ||| bitN i := if_pos ⟨h1, h2, sh_01.mp h3⟩
theorem shL_n1 {kd md fr : Nat → Int32} {v : Int32} {i : Nat} (h1 : bitS v (nI i) = 1) : shL kd md fr v (i + 1) = shL kd md fr v i := if_neg (fun h => h.1 h1)
theorem shL_n2 {kd md fr : Nat → Int32} {v : Int32} {i : Nat} (h2 : isS v (fr i) = 0) : shL kd md fr v (i + 1) = shL kd md fr v i := if_neg (fun h => h.2.1 h2)
theorem shL_n3 {kd md fr : Nat → Int32} {v : Int32} {i : Nat} (h3 : sharesS (kd i) (md i) = 0) : shL kd md fr v (i + 1) = shL kd md fr v i := if_neg (fun h => absurd (h3.symm.trans h.2.2) (by decide))
def voL (f : Nat → Int32) (n : Nat) (s : Int32) : Nat → Int32
  | 0 => 0
  | j + 1 => if (lwL f (s ||| voL f n s j) n).1 = -1 then voL f n s j else voL f n s j ||| (1 <<< ((lwL f (s ||| voL f n s j) n).1 &&& 31))
theorem voL_stop {f : Nat → Int32} {n : Nat} {s : Int32} {j : Nat} (h : (lwL f (s ||| voL f n s j) n).1 = -1) : ∀ d, voL f n s (j + d) = voL f n s j
  | 0 => rfl
  | d + 1 => by
    have ih := voL_stop h d
    show voL f n s ((j + d) + 1) = _
    rw [voL, ih, if_pos h]
theorem kaL_0 (f : Nat → Int32) (a : Int32) : kaL f a 0 = f := by funext j; simp [kaL]
theorem kaL_s (f : Nat → Int32) (a : Int32) (n : Nat) : upd (kaL f a n) n (kaL f a n n &&& (a ^^^ (-1))) = kaL f a (n + 1) := by
  funext j
  simp only [upd, kaL]
  by_cases h : j = n
  · subst h; simp
  · rw [if_neg h]
    by_cases h2 : j < n
    · rw [if_pos h2, if_pos (by omega)]
    · rw [if_neg h2, if_neg (by omega)]
theorem ua_ua (μ : Me) (k : Nat) (f g : Nat → Int32) : ua (ua μ k f) k g = ua μ k g := by
  unfold ua
  congr 1
  funext a
  by_cases h : a = k <;> simp [h]
theorem ua_self (μ : Me) (k : Nat) : ua μ k (μ.1 k) = μ := by
  unfold ua
  ext1
  · funext a
    by_cases h : a = k <;> simp [h]
  · rfl
theorem up_ua (μ : Me) (k : Nat) (f : Nat → Int32) (i : Nat) (v : Int32) : up (ua μ k f) k i v = ua μ k (upd f i v) := by
  unfold up
  rw [ua_s, ua_ua]
