section XM2
theorem x_any_iff (g : Nat → Bool) (a : Nat) : ∀ n, x_any g a n = true ↔ ∃ k, a ≤ k ∧ k < a + n ∧ g k = true
  | 0 => ⟨fun h => (by cases h), fun ⟨k, h1, h2, _⟩ => (by omega)⟩
  | n + 1 => by
    show (x_any g a n || g (a + n)) = true ↔ _
    rw [Bool.or_eq_true, x_any_iff g a n]
    constructor
    · rintro (⟨k, h1, h2, h3⟩ | h)
      · exact ⟨k, h1, by omega, h3⟩
      · exact ⟨a + n, by omega, by omega, h⟩
    · rintro ⟨k, h1, h2, h3⟩
      by_cases hk : k < a + n
      · exact Or.inl ⟨k, h1, hk, h3⟩
      · obtain rfl : k = a + n := by omega
        exact Or.inr h3
theorem xs_c_pos (S : Nat → Bool) : ∀ n, 0 < xs_c S n ↔ ∃ k, k < n ∧ S k = true
  | 0 => ⟨fun h => absurd h (Nat.lt_irrefl 0), fun ⟨k, h, _⟩ => absurd h (Nat.not_lt_zero k)⟩
  | n + 1 => by
    show 0 < xs_c S n + (if S n = true then 1 else 0) ↔ _
    constructor
    · intro h
      by_cases hs : S n = true
      · exact ⟨n, by omega, hs⟩
      · rw [if_neg hs] at h
        obtain ⟨k, h1, h2⟩ := (xs_c_pos S n).mp (by omega)
        exact ⟨k, by omega, h2⟩
    · rintro ⟨k, h1, h2⟩
      by_cases hk : k < n
      · have := (xs_c_pos S n).mpr ⟨k, hk, h2⟩
        omega
      · obtain rfl : k = n := by omega
        rw [if_pos h2]
        omega
theorem x_st_eq (X : Nat → Bool) {w : xw} (hw : xw_ok2 w) : x_stale X w = x_any X (xw_f w) (xw_t w - xw_f w) := by
  apply Bool.eq_iff_iff.mpr
  rw [x_any_iff]
  unfold x_stale xs_w
  rw [Bool.and_eq_true, decide_eq_true_eq, xs_c_pos]
  constructor
  · rintro ⟨hp, k, h1, h2⟩
    obtain ⟨-, h3, h4, -⟩ := xw_ok2_p hw hp
    simp only [Bool.and_eq_true, decide_eq_true_eq] at h2
    exact ⟨k, h2.2.1, by omega, h2.1⟩
  · rintro ⟨k, h1, h2, h3⟩
    have hp : xw_p w = true := by
      obtain ⟨a, o⟩ := w
      cases o with
      | none =>
        have e1 : xw_f ((a, none) : xw) = 0 := rfl
        have e2 : xw_t ((a, none) : xw) = 0 := rfl
        omega
      | some q => rfl
    obtain ⟨-, h4, h5, -⟩ := xw_ok2_p hw hp
    refine ⟨hp, k, by omega, ?_⟩
    simp only [Bool.and_eq_true, decide_eq_true_eq]
    exact ⟨h3, h1, by omega⟩
theorem xw_ft {w : xw} (hw : xw_ok2 w) : xw_f w ≤ xw_t w ∧ xw_t w ≤ 256 := by
  obtain ⟨a, o⟩ := w
  cases o with
  | none => exact ⟨Nat.le_refl 0, Nat.zero_le _⟩
  | some q =>
    obtain ⟨f, t, r⟩ := q
    obtain ⟨h1, h2, h3⟩ := hw
    exact ⟨Nat.le_of_lt h1, h2⟩
theorem xw_tp {w : xw} {i : Nat} (h : i < xw_t w) : xw_p w = true := by
  obtain ⟨a, o⟩ := w
  cases o with
  | none => exact absurd h (Nat.not_lt_zero _)
  | some q => rfl
theorem x_any_0 (g : Nat → Bool) (a : Nat) : (0 : Int32) = xb (x_any g a (a - a)) := by rw [Nat.sub_self]; rfl
theorem x_any_y {g : Nat → Bool} {a i : Nat} (h : a ≤ i) (c : ¬ xb (x_any g a (i - a)) = 0) : (1 : Int32) = xb (x_any g a (i + 1 - a)) := by rw [← x_any_s g h, xb_ne c, Bool.true_or]; rfl
theorem x_any_g {g : Nat → Bool} {a i : Nat} (h : a ≤ i) (c : xb (g i) = 1) : (1 : Int32) = xb (x_any g a (i + 1 - a)) := by
  have : g i = true := by cases hg : g i with
    | false => rw [hg] at c; exact absurd c (by decide)
    | true => rfl
  rw [← x_any_s g h, this, Bool.or_true]
  rfl
theorem x_any_n {g : Nat → Bool} {a i : Nat} (h : a ≤ i) (c : xb (x_any g a (i - a)) = 0) (c2 : ¬ xb (g i) = 1) : (0 : Int32) = xb (x_any g a (i + 1 - a)) := by
  have : g i = false := by cases hg : g i with
    | true => rw [hg] at c2; exact absurd rfl c2
    | false => rfl
  rw [← x_any_s g h, this, xb_eq c]
  rfl
theorem xb_one {b : Bool} : xb b = 1 ↔ b = true := by cases b <;> decide
end XM2
