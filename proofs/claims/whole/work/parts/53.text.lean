/-! the model's tape -/
theorem lN_int {n : Nat} (h : n < 2 ^ 63) : (lN n).toInt = (n : Int) := lg_ofNat_toInt h
theorem lN_le6 {a b : Nat} (ha : a < 2 ^ 63) (hb : b < 2 ^ 63) : lN a ≤ lN b ↔ a ≤ b := by
  rw [Int64.le_iff_toInt_le, lN_int ha, lN_int hb]; omega
theorem lN_lt6 {a b : Nat} (ha : a < 2 ^ 63) (hb : b < 2 ^ 63) : lN a < lN b ↔ a < b := by
  rw [Int64.lt_iff_toInt_lt, lN_int ha, lN_int hb]; omega
theorem lN_eq6 {a b : Nat} (ha : a < 2 ^ 63) (hb : b < 2 ^ 63) : lN a = lN b ↔ a = b := by
  rw [← Int64.toInt_inj, lN_int ha, lN_int hb]; omega
theorem up_self (μ : Me) {k i : Nat} {v : Int32} (h : μ.1 k i = v) : up μ k i v = μ := by
  subst h
  unfold up
  have : upd (μ.1 k) i (μ.1 k i) = μ.1 k := by
    funext x
    simp only [upd]
    by_cases h : x = i <;> simp [h]
  rw [this, ua_self]
def Zm (μ : Me) (a : Nat → Nat) (n : Nat) : Prop := μ.1 0 7 = nI n ∧ n ≤ 120 ∧ ∀ i, i < n → nb (μ.1 6 i) = a i
def Tm (μ : Me) (a : Nat → Nat) (n p : Nat) : Prop := μ.1 0 10 = nI (tB a n p) ∧ μ.1 0 9 = nI (tT a n p) ∧ (tT a n p ≠ 4 → μ.1 0 8 = nI (tE a n p)) ∧ (tT a n p = 2 → μ.2 = lN (nvM a (tB a n p) (tE a n p - tB a n p))) ∧ (tT a n p = 1 → μ.2 = lN (wv a (tB a n p) (tE a n p - tB a n p)))
def Fm (μ u : Me) : Prop := (∀ k, k ≠ 0 → u.1 k = μ.1 k) ∧ ∀ j, j ≠ 8 → j ≠ 9 → j ≠ 10 → u.1 0 j = μ.1 0 j
def m4 (μ : Me) (t b e : Int32) (v : Int64) : Me := ul (ua μ 0 (fun x => if x = 9 then t else if x = 10 then b else if x = 8 then e else μ.1 0 x)) v
theorem m4_9 (μ : Me) (t b e : Int32) (v : Int64) : (m4 μ t b e v).1 0 9 = t := by unfold m4 ul ua; simp
theorem m4_10 (μ : Me) (t b e : Int32) (v : Int64) : (m4 μ t b e v).1 0 10 = b := by unfold m4 ul ua; simp
theorem m4_8 (μ : Me) (t b e : Int32) (v : Int64) : (m4 μ t b e v).1 0 8 = e := by unfold m4 ul ua; simp
theorem m4_j (μ : Me) (t b e : Int32) (v : Int64) {j : Nat} (h8 : j ≠ 8) (h9 : j ≠ 9) (h10 : j ≠ 10) : (m4 μ t b e v).1 0 j = μ.1 0 j := by
  unfold m4 ul ua
  simp [h8, h9, h10]
theorem m4_o (μ : Me) (t b e : Int32) (v : Int64) {k : Nat} (h : k ≠ 0) : (m4 μ t b e v).1 k = μ.1 k := ua_n _ _ h
theorem m4_Fm (μ : Me) (t b e : Int32) (v : Int64) : Fm μ (m4 μ t b e v) := ⟨fun k h => m4_o _ _ _ _ _ h, fun j x y z => m4_j _ _ _ _ _ x y z⟩
theorem m4_mk (μ : Me) (t b e : Int32) (v : Int64) : up (ul (up (up μ 0 8 e) 0 10 b) v) 0 9 t = m4 μ t b e v := by
  unfold up m4 ul
  simp only [ua_s, ua_ua]
  unfold ua
  simp only
  congr 1
  funext a
  by_cases h : a = 0
  · subst h
    simp only [if_true]
    funext x
    simp only [upd]
    try (by_cases h9 : x = 9 <;> by_cases h10 : x = 10 <;> by_cases h8 : x = 8 <;> simp_all)
  · simp [h]
theorem m4_e (μ : Me) (t b e e' : Int32) (v : Int64) : up (m4 μ t b e v) 0 8 e' = m4 μ t b e' v := by
  unfold up m4 ul ua
  simp only
  congr 1
  funext a
  by_cases h : a = 0
  · subst h
    simp only [if_true]
    funext x
    simp only [upd]
    by_cases h9 : x = 9 <;> by_cases h10 : x = 10 <;> by_cases h8 : x = 8 <;> simp_all
  · simp [h]
theorem m4_v (μ : Me) (t b e : Int32) (v v' : Int64) : ul (m4 μ t b e v) v' = m4 μ t b e v' := rfl
def aX (a : Nat → Nat) (n i : Nat) : Nat := if i < n then a i else 128
def bA (μ : Me) (n i : Nat) : Int32 := if i < n then μ.1 6 i else -1
theorem bA_n {μ : Me} {a : Nat → Nat} {n i : Nat} (hz : Zm μ a n) : nb (bA μ n i) = aX a n i := by
  unfold bA aX
  by_cases h : i < n
  · rw [if_pos h, if_pos h]; exact hz.2.2 i h
  · rw [if_neg h, if_neg h]; decide +kernel
theorem aX_y {a : Nat → Nat} {n i : Nat} {c : Nat} (hc : c < 128) (h : aX a n i = c) : i < n ∧ a i = c := by
  unfold aX at h
  by_cases q : i < n
  · rw [if_pos q] at h; exact ⟨q, h⟩
  · rw [if_neg q] at h; omega
def leN (c : Nat) : Nat := if ty c = 1 then c - 96 else 0
theorem le_s {v : Int32} (h1 : 97 ≤ v) (h2 : v ≤ 122) : v - 97 + 1 = nI (leN (nb v)) := by
  have h := (nb_r (v := v) (c := 97) (d := 122) (by decide) (by decide) (by decide)).mp ⟨h1, h2⟩
  have e : leN (nb v) = nb v - 96 := if_pos (ty_1.mpr h)
  rcases nb_c v with ⟨q, e2⟩ | ⟨q, _⟩
  · rw [e]
    generalize nb v = c at *
    subst e2
    show nI c - nI 97 + nI 1 = _
    rw [sub_n h.1, nI_add]
    congr 1; omega
  · omega
theorem le_0 {v : Int32} (h : ¬ (97 ≤ v ∧ v ≤ 122)) : (0 : Int32) = nI (leN (nb v)) := by
  have e : leN (nb v) = 0 := if_neg (fun q => h ((nb_r (v := v) (c := 97) (d := 122) (by decide) (by decide) (by decide)).mpr (ty_1.mp q)))
  rw [e]; rfl
theorem le_z {c : Nat} (hc : c ≤ 128) : nI (leN c) ≤ 0 ↔ ty c ≠ 1 := by
  unfold leN
  by_cases h : ty c = 1
  · rw [if_pos h]
    have := ty_1.mp h
    exact ⟨fun q => absurd q (nI_nle (by omega) (by omega)), fun q => absurd h q⟩
  · rw [if_neg h]
    exact ⟨fun _ => h, fun _ => by decide⟩
theorem nb_128 (v : Int32) : nb v ≤ 128 := by rcases nb_c v with ⟨h, _⟩ | ⟨h, _⟩ <;> omega
def diS (v : Int32) : Int32 := if ty (nb v) = 2 then 1 else 0
theorem di_i {v : Int32} : (48 ≤ v ∧ v ≤ 57) ↔ ty (nb v) = 2 := (nb_r (v := v) (c := 48) (d := 57) (by decide) (by decide) (by decide)).trans ty_2.symm
/-- what a word's or a number's loop keeps -/
def Mq (a : Nat → Nat) (n p b t e : Nat) : Prop := tB a n p = b ∧ tT a n p = t ∧ b ≤ e ∧ ∀ i, b ≤ i → i < e → ty (a i) = t
theorem Mq_s {a : Nat → Nat} {n p b t e : Nat} (h : Mq a n p b t e) (ht : ty (a e) = t) : Mq a n p b t (e + 1) := by
  obtain ⟨g1, g2, g3, g4⟩ := h
  refine ⟨g1, g2, by omega, fun i x y => ?_⟩
  by_cases z : i = e
  · subst z; exact ht
  · exact g4 i x (by omega)
theorem Mq_e {a : Nat → Nat} {n p b t e : Nat} (hn : n ≤ 120) (h : Mq a n p b t e) (ht : t ≠ 3) (he : e ≤ n) (hx : ¬ (e < n ∧ ty (a e) = t)) : tE a n p = e := by
  obtain ⟨g1, g2, g3, g4⟩ := h
  subst g1 g2
  refine tE_u hn ht g3 he g4 ?_
  by_cases q : e < n
  · exact Or.inr (fun z => hx ⟨q, z⟩)
  · exact Or.inl (by omega)
theorem Tm_1 {μ : Me} {a : Nat → Nat} {n p b e : Nat} (hn : n ≤ 120) (h : Mq a n p b 1 e) (he : e ≤ n) (hx : ¬ (e < n ∧ ty (a e) = 1)) : Tm (m4 μ 1 (nI b) (nI e) (lN (wv a b (e - b)))) a n p := by
  have e0 := Mq_e hn h (by decide) he hx
  obtain ⟨g1, g2, g3, g4⟩ := h
  refine ⟨by rw [m4_10, g1], by rw [m4_9, g2]; rfl, fun _ => by rw [m4_8, e0], fun q => by omega, fun _ => ?_⟩
  rw [e0, g1]; rfl
theorem Tm_2 {μ : Me} {a : Nat → Nat} {n p b e : Nat} (hn : n ≤ 120) (h : Mq a n p b 2 e) (he : e ≤ n) (hx : ¬ (e < n ∧ ty (a e) = 2)) : Tm (m4 μ 2 (nI b) (nI e) (lN (nvM a b (e - b)))) a n p := by
  have e0 := Mq_e hn h (by decide) he hx
  obtain ⟨g1, g2, g3, g4⟩ := h
  refine ⟨by rw [m4_10, g1], by rw [m4_9, g2]; rfl, fun _ => by rw [m4_8, e0], fun _ => ?_, fun q => by omega⟩
  rw [e0, g1]; rfl
theorem wv_up {a : Nat → Nat} {b e : Nat} (h : b ≤ e) : wv a b (e + 1 - b) = if 100000000000000000 < wv a b (e - b) then wv a b (e - b) else wv a b (e - b) * 27 + (a e - 96) := by
  rw [show e + 1 - b = (e - b) + 1 by omega, wv, show b + (e - b) = e by omega]
theorem nv_up {a : Nat → Nat} {b e : Nat} (h : b ≤ e) : nvM a b (e + 1 - b) = if 9999 < nvM a b (e - b) then nvM a b (e - b) else nvM a b (e - b) * 10 + (a e - 48) := by
  rw [show e + 1 - b = (e - b) + 1 by omega, nvM, show b + (e - b) = e by omega]
theorem Mq_w {a : Nat → Nat} {n p b e : Nat} (h : Mq a n p b 1 e) : wv a b (e - b) ≤ 2700000000000000026 := wv_r (fun i hi => by have := ty_1.mp (h.2.2.2 (b + i) (by omega) (by omega)); omega)
theorem Mq_n {a : Nat → Nat} {n p b e : Nat} (h : Mq a n p b 2 e) : nvM a b (e - b) ≤ 99999 := (nvM_r (fun i hi => by have := ty_2.mp (h.2.2.2 (b + i) (by omega) (by omega)); omega)).1
/-- a word of the model is a word of the class -/
def wnC (c : Nat) : Nat := wn (fun j => (wdW c).getD j 0) (wdW c).length
theorem wnC_r0 : (List.range 15).all (fun c => decide (wnC c ≤ 100000000000000000)) = true := by decide +kernel
theorem wnC_r {c : Nat} (hc : c < 15) : wnC c ≤ 100000000000000000 := decide_eq_true_iff.mp (List.all_eq_true.mp wnC_r0 c (List.mem_range.mpr hc))
theorem Wm_i {μ : Me} {a : Nat → Nat} {n p c : Nat} (hn : n ≤ 120) (hp : p ≤ n) (hk : Tm μ a n p) (hc : c < 15) : (μ.1 0 9 = 1 ∧ μ.2 = lN (wnC c)) ↔ Wd a n p (wdW c) = true := by
  have hE := tE_s (a := a) hn hp
  have hl := wd_ty hc
  have h4 := tT_r a n p
  have hr := wnC_r hc
  rw [Wd_i]
  constructor
  · intro ⟨h1, h2⟩
    rw [hk.2.1] at h1
    have t1 : tT a n p = 1 := (eq_n (a := tT a n p) (b := 1) (by omega) (by decide)).mp h1
    rw [hk.2.2.2.2 t1] at h2
    have ht := hE.2.2.2 (by omega)
    rw [t1] at ht
    have hw : wv a (tB a n p) (tE a n p - tB a n p) ≤ 2700000000000000026 := wv_r (fun i hi => by have := ty_1.mp (ht (tB a n p + i) (by omega) (by omega)); omega)
    have h3 := (lN_eq6 (by omega) (by omega)).mp h2
    obtain ⟨i1, i2⟩ := wv_i (fun i hi => ht (tB a n p + i) (by omega) (by omega)) hl.2 hr h3
    exact ⟨t1, i1, fun j hj => i2 j (by omega)⟩
  · intro ⟨t1, h2, h3⟩
    refine ⟨by rw [hk.2.1, t1]; rfl, ?_⟩
    rw [hk.2.2.2.2 t1, h2]
    congr 1
    exact wv_w h3 hr
theorem m4_m3 (μ : Me) (b e : Int32) (v : Int64) : ul (up (up μ 0 8 e) 0 10 b) v = m4 μ (μ.1 0 9) b e v := by
  rw [← m4_mk]
  symm
  apply up_self
  show (up (up μ 0 8 e) 0 10 b).1 0 9 = _
  rw [up_i _ _ _ (by decide), up_i _ _ _ (by decide)]
theorem m4_t (μ : Me) (t b e t' : Int32) (v : Int64) : up (m4 μ t b e v) 0 9 t' = m4 μ t' b e v := by
  unfold up m4 ul ua
  simp only
  congr 1
  funext a
  by_cases h : a = 0
  · subst h
    simp only [if_true]
    funext x
    simp only [upd]
    by_cases h9 : x = 9 <;> by_cases h10 : x = 10 <;> by_cases h8 : x = 8 <;> simp_all
  · simp [h]
theorem ax_t {a : Nat → Nat} {n i t : Nat} (ht : t ≠ 4) (h : ty (aX a n i) = t) : i < n ∧ ty (a i) = t := by
  unfold aX at h
  by_cases q : i < n
  · rw [if_pos q] at h; exact ⟨q, h⟩
  · rw [if_neg q] at h
    exact absurd h.symm (by rw [show ty 128 = 4 by decide +kernel]; exact ht)
theorem ax_n {a : Nat → Nat} {n i t : Nat} (h : ¬ ty (aX a n i) = t) : ¬ (i < n ∧ ty (a i) = t) := fun ⟨q, e⟩ => h (by unfold aX; rw [if_pos q]; exact e)
theorem ax_i {a : Nat → Nat} {n i : Nat} (h : i < n) : aX a n i = a i := if_pos h
theorem Tm_0 {μ : Me} {a : Nat → Nat} {n p : Nat} {v : Int64} (hn : n ≤ 120) (hB : tB a n p = n) : Tm (m4 μ 0 (nI n) (nI n) v) a n p := by
  have hT : tT a n p = 0 := by unfold tT; rw [hB, if_neg (by omega)]
  have hE : tE a n p = n := tE_u hn (by omega) (by omega) (Nat.le_refl _) (fun i x y => by omega) (Or.inl rfl)
  exact ⟨by rw [m4_10, hB], by rw [m4_9, hT]; rfl, fun _ => by rw [m4_8, hE], fun q => by omega, fun q => by omega⟩
theorem Tm_3 {μ : Me} {a : Nat → Nat} {n p b : Nat} {v : Int64} (hB : tB a n p = b) (hT : tT a n p = 3) : Tm (m4 μ 3 (nI b) (nI (b + 1)) v) a n p := by
  have hE : tE a n p = b + 1 := by unfold tE; rw [if_pos hT, hB]
  exact ⟨by rw [m4_10, hB], by rw [m4_9, hT]; rfl, fun _ => by rw [m4_8, hE], fun q => by omega, fun q => by omega⟩
theorem Tm_4 {μ : Me} {a : Nat → Nat} {n p b : Nat} {e : Int32} {v : Int64} (hB : tB a n p = b) (hT : tT a n p = 4) : Tm (m4 μ 4 (nI b) e v) a n p :=
  ⟨by rw [m4_10, hB], by rw [m4_9, hT]; rfl, fun q => absurd hT q, fun q => by omega, fun q => by omega⟩
theorem le_ax {a : Nat → Nat} {n i : Nat} (h : i < n) (ht : ty (a i) = 1) : leN (aX a n i) = a i - 96 := by rw [ax_i h]; exact if_pos ht
theorem val_1 {w c k : Nat} (hc : k = c - 96) (hk : c ≤ 122) : lN w * 27 + (nI k).toInt64 = lN (w * 27 + (c - 96)) := by
  show lN w * lN 27 + _ = _
  rw [nI_l (by omega), lN_mul, lN_add, hc]
theorem val_2 {w c : Nat} (h : 48 ≤ c) (hk : c ≤ 57) : lN w * 10 + (nI c).toInt64 - 48 = lN (w * 10 + (c - 48)) := by
  show lN w * lN 10 + _ - lN 48 = _
  rw [nI_l (by omega), lN_mul, lN_add, lN_sub (by omega)]
  congr 1; omega
theorem Fm_Zm {μ u : Me} {a : Nat → Nat} {n : Nat} (h : Fm μ u) (hz : Zm μ a n) : Zm u a n := ⟨(h.2 7 (by decide) (by decide) (by decide)).trans hz.1, hz.2.1, fun i hi => by rw [h.1 6 (by decide)]; exact hz.2.2 i hi⟩
theorem bA_m {μ u : Me} {n i : Nat} (h : u.1 6 = μ.1 6) : bA u n i = bA μ n i := by unfold bA; rw [h]
theorem ty4 {c : Nat} (h1 : ¬ ty c = 1) (h2 : ¬ ty c = 2) (h3 : ¬ c = 59) : ty c = 4 := by
  unfold ty at h1 h2 ⊢
  by_cases q1 : 97 ≤ c ∧ c ≤ 122
  · rw [if_pos q1] at h1; exact absurd rfl h1
  · by_cases q2 : 48 ≤ c ∧ c ≤ 57
    · rw [if_neg q1, if_pos q2] at h2; exact absurd rfl h2
    · rw [if_neg q1, if_neg q2, if_neg h3]
def wrS (μ : Me) : Me := if μ.1 0 12 < 0 then up μ 0 12 (μ.1 0 10) else μ
