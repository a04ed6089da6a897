/-! Ranges: the class's first cells beside the reference's FIRST -/
section XRG
/-- first cells are given out; each cell that is given out has a first one below it, and all between them are given out -/
def x_rg (G F : Nat → Bool) : Prop := (∀ k, F k = true → G k = true) ∧ ∀ i, i < 256 → G i = true → F (x_rf F i) = true ∧ ∀ k, x_rf F i ≤ k → k ≤ i → G k = true
theorem x_rf_F (F : Nat → Bool) : ∀ i, F (x_rf F i) = true ∨ x_rf F i = 0
  | 0 => Or.inr rfl
  | i + 1 => by
    show F (if F (i + 1) = true then i + 1 else x_rf F i) = true ∨ (if F (i + 1) = true then i + 1 else x_rf F i) = 0
    by_cases h : F (i + 1) = true
    · rw [if_pos h]; exact Or.inl h
    · rw [if_neg h]; exact x_rf_F F i
theorem x_rf_gap (F : Nat → Bool) : ∀ i k, x_rf F i < k → k ≤ i → F k = false
  | 0, k, h1, h2 => by
    have e : x_rf F 0 = 0 := rfl
    omega
  | i + 1, k, h1, h2 => by
    have e : x_rf F (i + 1) = if F (i + 1) = true then i + 1 else x_rf F i := rfl
    rw [e] at h1
    by_cases h : F (i + 1) = true
    · rw [if_pos h] at h1; omega
    · rw [if_neg h] at h1
      by_cases hk : k = i + 1
      · subst hk; exact Bool.eq_false_iff.mpr h
      · exact x_rf_gap F i k h1 (by omega)
theorem x_rf_eq {F : Nat → Bool} {i a : Nat} (h1 : a ≤ i) (h2 : F a = true ∨ a = 0) (h3 : ∀ k, a < k → k ≤ i → F k = false) : x_rf F i = a := by
  rcases Nat.lt_trichotomy (x_rf F i) a with q | q | q
  · rcases h2 with h | h
    · have := x_rf_gap F i a q h1
      rw [h] at this; cases this
    · omega
  · exact q
  · have h4 := h3 _ q (x_rf_le F i)
    rcases x_rf_F F i with h | h
    · rw [h] at h4; cases h4
    · omega
theorem x_rt_sp (G F : Nat → Bool) : ∀ m t, t ≤ x_rt G F m t ∧ (∀ k, t ≤ k → k < x_rt G F m t → G k = true ∧ F k = false) ∧ (x_rt G F m t = t + m ∨ ¬ (G (x_rt G F m t) = true ∧ F (x_rt G F m t) = false))
  | 0, t => ⟨Nat.le_refl _, fun k h1 h2 => absurd h2 (Nat.not_lt.mpr h1), Or.inl rfl⟩
  | m + 1, t => by
    have e : x_rt G F (m + 1) t = if G t = true ∧ F t = false then x_rt G F m (t + 1) else t := rfl
    by_cases h : G t = true ∧ F t = false
    · rw [e, if_pos h]
      obtain ⟨h1, h2, h3⟩ := x_rt_sp G F m (t + 1)
      refine ⟨by omega, fun k hk1 hk2 => ?_, ?_⟩
      · by_cases hk : k = t
        · subst hk; exact h
        · exact h2 k (by omega) hk2
      · rcases h3 with h3 | h3
        · exact Or.inl (by omega)
        · exact Or.inr h3
    · rw [e, if_neg h]
      exact ⟨Nat.le_refl _, fun k h1 h2 => absurd h2 (Nat.not_lt.mpr h1), Or.inr h⟩
theorem x_acc_int (a b : Nat) (hab : a ≤ b) : ∀ n, x_acc (fun i => xb (decide (a ≤ i ∧ i < b))) 0 n = nI (min n b - min n a)
  | 0 => by simp [x_acc, nI_0]
  | n + 1 => by
    show x_acc _ 0 n + xb (decide (a ≤ 0 + n ∧ 0 + n < b)) = _
    rw [x_acc_int a b hab n, Nat.zero_add]
    by_cases h : a ≤ n ∧ n < b
    · rw [decide_eq_true h, show xb true = 1 from rfl, nI_1]
      congr 1
      omega
    · rw [decide_eq_false h, show xb false = 0 from rfl, Int32.add_zero]
      congr 1
      omega
theorem x_fi_eq {G F : Nat → Bool} {i a : Nat} (hi : i < 256) (ha : a < 256) : x_fi G F i = nI a ↔ (G i = true ∧ x_rf F i = a) := by
  unfold x_fi
  by_cases h : G i = true
  · rw [if_pos h]
    have := x_rf_le F i
    rw [nI_eq (by omega) (by omega)]
    exact ⟨fun q => ⟨h, q⟩, fun q => q.2⟩
  · rw [if_neg h]
    constructor
    · intro q
      have q2 := congrArg Int32.toInt q
      rw [nI_toInt (by omega)] at q2
      have e : (-4 : Int32).toInt = -4 := rfl
      omega
    · exact fun q => absurd q.1 h
/-- a range's cells are those whose FIRST is its first -/
theorem x_rg_iff {G F : Nat → Bool} (hr : x_rg G F) {a : Nat} (ha : a < 256) (hg : G a = true) (hf : F a = true) {i : Nat} (hi : i < 256) : x_fi G F i = nI a ↔ (a ≤ i ∧ i < x_rt G F (255 - a) (a + 1)) := by
  obtain ⟨s1, s2, s3⟩ := x_rt_sp G F (255 - a) (a + 1)
  rw [x_fi_eq hi ha]
  constructor
  · rintro ⟨h1, h2⟩
    obtain ⟨h3, h4⟩ := hr.2 i hi h1
    have h5 := x_rf_le F i
    rw [h2] at h4 h5
    refine ⟨h5, ?_⟩
    rcases Nat.lt_or_ge i (x_rt G F (255 - a) (a + 1)) with q | q
    · exact q
    · exfalso
      rcases s3 with s3 | s3
      · omega
      · exact s3 ⟨h4 _ (by omega) q, x_rf_gap F i _ (by rw [h2]; omega) q⟩
  · rintro ⟨h1, h2⟩
    have hG : G i = true := by
      by_cases q : i = a
      · rw [q]; exact hg
      · exact (s2 i (by omega) h2).1
    exact ⟨hG, x_rf_eq h1 (Or.inl hf) (fun k hk1 hk2 => (s2 k (by omega) (by omega)).2)⟩
theorem x_rs_eq {G F : Nat → Bool} (hr : x_rg G F) {a : Nat} (ha : a < 256) (hg : G a = true) (hf : F a = true) : x_rs G F (nI a) = nI (x_rt G F (255 - a) (a + 1) - a) := by
  have s1 := (x_rt_sp G F (255 - a) (a + 1)).1
  have s2 := x_rt_le G F (255 - a) (a + 1)
  unfold x_rs
  rw [x_acc_congr (g := fun i => xb (decide (a ≤ i ∧ i < x_rt G F (255 - a) (a + 1)))) 0 256 (fun i _ hi => congrArg xb (decide_eq_decide.mpr (x_rg_iff hr ha hg hf (by omega)))), x_acc_int _ _ (by omega)]
  congr 1
  omega
theorem x_rg_f {G F : Nat → Bool} (hr : x_rg G F) {a : Nat} (ha : a < 256) : x_fi G F a = nI a ↔ (G a = true ∧ F a = true) := by
  rw [x_fi_eq ha ha]
  constructor
  · rintro ⟨h1, h2⟩
    have := (hr.2 a ha h1).1
    rw [h2] at this
    exact ⟨h1, this⟩
  · rintro ⟨h1, h2⟩
    exact ⟨h1, x_rf_eq (Nat.le_refl a) (Or.inl h2) (fun k h3 h4 => by omega)⟩
theorem m_isr {G F : Nat → Bool} (hr : x_rg G F) {f t : Nat} (hft : f < t) (ht : t ≤ 256) : (x_fi G F f = nI f ∧ x_rs G F (nI f) = nI t - nI f) ↔ x_isr G F f t = true := by
  have hf : f < 256 := by omega
  have s2 := x_rt_le G F (255 - f) (f + 1)
  have s1 := (x_rt_sp G F (255 - f) (f + 1)).1
  rw [x_rg_f hr hf]
  unfold x_isr
  rw [Bool.and_eq_true, Bool.and_eq_true, decide_eq_true_eq]
  constructor
  · rintro ⟨⟨h1, h2⟩, h3⟩
    rw [x_rs_eq hr hf h1 h2, pk_sub (by omega), nI_eq (by omega) (by omega)] at h3
    exact ⟨h1, h2, by omega⟩
  · rintro ⟨h1, h2, h3⟩
    refine ⟨⟨h1, h2⟩, ?_⟩
    rw [x_rs_eq hr hf h1 h2, pk_sub (by omega), h3]
theorem x_rt_skip (G F : Nat → Bool) : ∀ (d m t : Nat), d ≤ m → (∀ k, t ≤ k → k < t + d → G k = true ∧ F k = false) → x_rt G F m t = x_rt G F (m - d) (t + d)
  | 0, m, t, _, _ => rfl
  | d + 1, 0, t, h, _ => absurd h (by omega)
  | d + 1, m + 1, t, h, hk => by
    have e : x_rt G F (m + 1) t = if G t = true ∧ F t = false then x_rt G F m (t + 1) else t := rfl
    rw [e, if_pos (hk t (Nat.le_refl t) (by omega)), x_rt_skip G F d m (t + 1) (by omega) (fun k h1 h2 => hk k (by omega) (by omega))]
    congr 1
    · omega
    · omega
/-- range() : the reference's answer is the class's -/
theorem m_range {v : xV} (hr : x_rg v.2.2.2.1 v.2.2.2.2.2.2.1) (i what : Int32) : mp_range v i what = sp_range v i what := by
  unfold mp_range sp_range
  have hw : xi what 2 = true ↔ (¬ what < 0 ∧ what ≤ 1) := by
    unfold xi
    rw [decide_eq_true_eq, Int32.lt_iff_toInt_lt, Int32.le_iff_toInt_le]
    have e0 : (0 : Int32).toInt = 0 := rfl
    have e1 : (1 : Int32).toInt = 1 := rfl
    omega
  by_cases h : xi i 256 = true ∧ xi what 2 = true
  · rw [if_pos h, if_pos (show xi i 256 = true ∧ ¬ what < 0 ∧ what ≤ 1 from ⟨h.1, hw.mp h.2⟩)]
    obtain ⟨k, hk, rfl⟩ := xi_of h.1
    rw [xN_nI (by omega)]
    by_cases hg : v.2.2.2.1 k = true
    · obtain ⟨h1, h2⟩ := hr.2 k hk hg
      have h3 := x_rf_le v.2.2.2.2.2.2.1 k
      have e : x_fi v.2.2.2.1 v.2.2.2.2.2.2.1 k = nI (x_rf v.2.2.2.2.2.2.1 k) := if_pos hg
      have hne : ¬ nI (x_rf v.2.2.2.2.2.2.1 k) = -4 := fun q => by
        have q2 := congrArg Int32.toInt q
        rw [nI_toInt (by omega)] at q2
        have e4 : (-4 : Int32).toInt = -4 := rfl
        omega
      rw [e, if_neg hne, if_pos hg]
      by_cases h0 : what = 0
      · rw [if_pos h0, if_pos h0]
      · rw [if_neg h0, if_neg h0, x_rs_eq hr (by omega) (h2 _ (Nat.le_refl _) h3) h1]
        have s1 := (x_rt_sp v.2.2.2.1 v.2.2.2.2.2.2.1 (255 - x_rf v.2.2.2.2.2.2.1 k) (x_rf v.2.2.2.2.2.2.1 k + 1)).1
        have sk := x_rt_skip v.2.2.2.1 v.2.2.2.2.2.2.1 (k - x_rf v.2.2.2.2.2.2.1 k) (255 - x_rf v.2.2.2.2.2.2.1 k) (x_rf v.2.2.2.2.2.2.1 k + 1) (by omega) (fun j h4 h5 => ⟨h2 j (by omega) (by omega), x_rf_gap _ k j (by omega) (by omega)⟩)
        rw [show 255 - x_rf v.2.2.2.2.2.2.1 k - (k - x_rf v.2.2.2.2.2.2.1 k) = 255 - k by omega, show x_rf v.2.2.2.2.2.2.1 k + 1 + (k - x_rf v.2.2.2.2.2.2.1 k) = k + 1 by omega] at sk
        rw [sk] at s1 ⊢
        rw [pk_sub (by omega)]
    · have e : x_fi v.2.2.2.1 v.2.2.2.2.2.2.1 k = -4 := if_neg hg
      rw [e, if_pos rfl, if_neg hg]
  · rw [if_neg h, if_neg (show ¬ (xi i 256 = true ∧ ¬ what < 0 ∧ what ≤ 1) from fun z => h ⟨z.1, hw.mpr z.2⟩)]
end XRG
