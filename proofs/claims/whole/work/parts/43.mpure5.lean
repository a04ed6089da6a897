/-! The reference's answers: counts, and what told() says -/
section XM5
theorem x_acc0_s (f : Nat → Int32) (i : Nat) : x_acc f 0 i + f i = x_acc f 0 (i + 1) := by
  show _ = x_acc f 0 i + f (0 + i)
  rw [Nat.zero_add]
theorem x_acc0_t {f : Nat → Int32} {g : Nat → Bool} (hf : ∀ k, f k = xb (g k)) {i : Nat} (h : g i = true) : x_acc f 0 i + 1 = x_acc f 0 (i + 1) := by rw [← x_acc0_s, hf, h]; rfl
theorem x_acc0_f {f : Nat → Int32} {g : Nat → Bool} (hf : ∀ k, f k = xb (g k)) {i : Nat} (h : g i = false) : x_acc f 0 i + 0 = x_acc f 0 (i + 1) := by rw [← x_acc0_s, hf, h]; rfl
def x_rs (G F : Nat → Bool) (fi : Int32) : Int32 := x_acc (fun i => xb (decide (x_fi G F i = fi))) 0 256
def x_all (g : Nat → Bool) : Nat → Bool
  | 0 => true
  | n + 1 => x_all g n && g n
theorem x_all_iff (g : Nat → Bool) : ∀ n, x_all g n = true ↔ ∀ k, k < n → g k = true
  | 0 => ⟨fun _ k h => absurd h (Nat.not_lt_zero k), fun _ => rfl⟩
  | n + 1 => by
    show (x_all g n && g n) = true ↔ _
    rw [Bool.and_eq_true, x_all_iff g n]
    constructor
    · rintro ⟨h1, h2⟩ k hk
      by_cases h : k < n
      · exact h1 k h
      · obtain rfl : k = n := by omega
        exact h2
    · intro h
      exact ⟨fun k hk => h k (by omega), h n (by omega)⟩
theorem x_all_seen {seen : Nat} (h : seen ≤ 16) : x_all (fun p => decide (p < seen)) 16 = decide (16 ≤ seen) := by
  apply Bool.eq_iff_iff.mpr
  rw [x_all_iff, decide_eq_true_eq]
  constructor
  · intro h2
    have := of_decide_eq_true (h2 15 (by decide))
    omega
  · intro h2 k hk
    exact decide_eq_true (by omega)
theorem x_told_lt (X : Nat → Bool) (w : xw) (use : Int32) {k : Nat} (hk : k < 5) : x_told X w use (nI k) = wc w k := by
  match k, hk with
  | 0, _ => rfl
  | 1, _ => rfl
  | 2, _ => rfl
  | 3, _ => rfl
  | 4, _ => rfl
theorem x_told_5 (X : Nat → Bool) (w : xw) (use : Int32) : x_told X w use (nI 5) = use := rfl
theorem x_told_6 (X : Nat → Bool) (w : xw) (use : Int32) : x_told X w use (nI 6) = xb (x_stale X w) := rfl
theorem x_told_bad (X : Nat → Bool) (w : xw) (use : Int32) {x : Int32} (h : xi x 7 = false) : x_told X w use x = -1000000001 := by
  have hn : ∀ k, k < 7 → ¬ x = nI k := fun k hk q => by rw [q, xi_nI hk (by decide)] at h; cases h
  unfold x_told
  rw [if_neg (show ¬ x = 0 from hn 0 (by decide)), if_neg (show ¬ x = 1 from hn 1 (by decide)), if_neg (show ¬ x = 2 from hn 2 (by decide)), if_neg (show ¬ x = 3 from hn 3 (by decide)), if_neg (show ¬ x = 4 from hn 4 (by decide)), if_neg (show ¬ x = 5 from hn 5 (by decide)), if_neg (show ¬ x = 6 from hn 6 (by decide))]
theorem m_told_w {v : xV} {wh i what : Int32} (h : xi wh 2 = false) : (-1000000001 : Int32) = sp_told v wh i what := by
  have h0 : ¬ wh = 0 := fun q => by rw [q] at h; exact absurd h (by decide)
  have h1 : ¬ wh = 1 := fun q => by rw [q] at h; exact absurd h (by decide)
  unfold sp_told
  rw [if_neg (fun z => h0 z.1), if_neg (fun z => h1 z.1)]
theorem m_wh1 {wh : Int32} (h : xi wh 2 = true) (h0 : ¬ wh = 0) : wh = 1 := by
  obtain ⟨k, hk, rfl⟩ := xi_of h
  match k, hk with
  | 0, _ => exact absurd rfl h0
  | 1, _ => rfl
end XM5
