/-! page() and count(): the reference's answers are the class's -/
section XPC
theorem x_xu1 {G Q : Nat → Bool} (k : Nat) : decide (xu G Q k = 1) = G k := by
  unfold xu
  cases hg : G k with
  | true => simp
  | false =>
    cases hq : Q k with
    | true => simp
    | false => simp
theorem x_xu2 {G Q : Nat → Bool} (h : ∀ k, G k = true → Q k = false) (k : Nat) : decide (xu G Q k = 2) = Q k := by
  unfold xu
  cases hg : G k with
  | true => rw [h k hg]; simp
  | false =>
    cases hq : Q k with
    | true => simp
    | false => simp
theorem x_xu0 {G Q : Nat → Bool} (h : ∀ k, G k = true → Q k = false) (k : Nat) : xb (decide (xu G Q k = 0)) + xb (G k) + xb (Q k) = 1 := by
  unfold xu
  cases hg : G k with
  | true => rw [h k hg]; rfl
  | false =>
    cases hq : Q k with
    | true => rfl
    | false => rfl
theorem x_alc (a b c : Int32) : a + (b + c) = b + (a + c) := by rw [← Int32.add_assoc, Int32.add_comm a b, Int32.add_assoc]
theorem x_i3 (a b c x y z : Int32) : (a + x) + (b + y) + (c + z) = (a + b + c) + (x + y + z) := by
  simp only [Int32.add_assoc, Int32.add_comm, x_alc]
theorem x_sum0 {G Q : Nat → Bool} (h : ∀ k, G k = true → Q k = false) : ∀ n, x_acc (fun i => xb (decide (xu G Q i = 0))) 0 n + x_acc (fun i => xb (G i)) 0 n + x_acc (fun i => xb (Q i)) 0 n = nI n
  | 0 => rfl
  | n + 1 => by
    rw [← x_acc0_s, ← x_acc0_s, ← x_acc0_s, x_i3, x_sum0 h n, x_xu0 h, nI_1]
theorem x_sub3 {a b c d : Int32} (h : a + b + c = d) : a = d - b - c := by
  rw [← h, show a + b + c = a + c + b from by rw [Int32.add_assoc, Int32.add_comm b c, ← Int32.add_assoc], Int32.add_sub_cancel, Int32.add_sub_cancel]
theorem m_page {v : xV} (h : x_inv v) (pg what : Int32) : mp_page v pg what = sp_page v pg what := by
  unfold mp_page sp_page
  by_cases hp : xi pg 16 = true
  · by_cases hw : xi what 5 = true
    · rw [if_pos ⟨hp, hw⟩, if_pos hp]
      obtain ⟨p, hp2, rfl⟩ := xi_of hp
      obtain ⟨k, hk, rfl⟩ := xi_of hw
      rw [xN_nI (by omega)]
      match k, hk with
      | 0, _ => rfl
      | 1, _ => rfl
      | 2, _ => rfl
      | 3, _ =>
        show x_acc (mp_pf v (nI 3)) (16 * p) (16 * p + 16 - 16 * p) = nI (xs_w v.2.2.2.1 (16 * p) (16 * p + 16))
        rw [show 16 * p + 16 - 16 * p = 16 by omega, ← x_acc_w v.2.2.2.1 (16 * p) 16 (by omega)]
        exact x_acc_congr _ _ (fun i _ _ => congrArg xb (x_xu1 i))
      | 4, _ =>
        show x_acc (mp_pf v (nI 4)) (16 * p) (16 * p + 16 - 16 * p) = nI (xs_w v.2.2.2.2.1 (16 * p) (16 * p + 16))
        rw [show 16 * p + 16 - 16 * p = 16 by omega, ← x_acc_w v.2.2.2.2.1 (16 * p) 16 (by omega)]
        exact x_acc_congr _ _ (fun i _ _ => congrArg xb (x_xu2 h.2.2.2.2.1 i))
    · rw [if_neg (fun z => hw z.2), if_pos hp]
      have hn : ∀ k, k < 5 → ¬ what = nI k := fun k hk q => by rw [q, xi_nI hk (by decide)] at hw; exact hw rfl
      rw [if_neg (show ¬ what = 0 from hn 0 (by decide)), if_neg (show ¬ what = 1 from hn 1 (by decide)), if_neg (show ¬ what = 2 from hn 2 (by decide)), if_neg (show ¬ what = 3 from hn 3 (by decide)), if_neg (show ¬ what = 4 from hn 4 (by decide))]
  · rw [if_neg (fun z => hp z.1), if_neg hp]
theorem m_count {v : xV} (h : x_inv v) (sz : Nat) (what : Int32) : mp_count v sz what = sp_count v sz what := by
  have hx : xin what.toInt64 5 11 = true ↔ (¬ what < 5 ∧ ¬ 12 ≤ what) := by
    rw [xin_i, decide_eq_true_eq, Int32.lt_iff_toInt_lt, Int32.le_iff_toInt_le]
    have e5 : (5 : Int64).toInt = 5 := rfl
    have e11 : (11 : Int64).toInt = 11 := rfl
    have e5' : (5 : Int32).toInt = 5 := rfl
    have e12' : (12 : Int32).toInt = 12 := rfl
    omega
  unfold mp_count sp_count
  by_cases h5 : ¬ what < 5 ∧ ¬ 12 ≤ what
  · have hn : ∀ k : Int32, (k < 5 ∨ 12 ≤ k) → ¬ what = k := fun k hk q => by
      rw [q] at h5
      rcases hk with hk | hk
      · exact h5.1 hk
      · exact h5.2 hk
    rw [if_pos h5, if_neg (hn 0 (Or.inl (by decide))), if_neg (hn 1 (Or.inl (by decide))), if_neg (hn 2 (Or.inl (by decide))), if_neg (hn 3 (Or.inl (by decide))), if_neg (hn 4 (Or.inl (by decide))), if_neg (hn 12 (Or.inr (by decide))), if_neg (hn 13 (Or.inr (by decide))), if_pos (hx.mpr h5)]
  · rw [if_neg h5]
    by_cases h0 : what = 0
    · subst h0
      rw [if_pos rfl, if_pos rfl]
      refine x_sub3 ?_
      rw [← x_acc_w v.2.2.2.1 0 256 (by decide), ← x_acc_w v.2.2.2.2.1 0 256 (by decide)]
      exact x_sum0 h.2.2.2.2.1 256
    rw [if_neg h0, if_neg h0]
    by_cases h1 : what = 1
    · subst h1
      rw [if_pos rfl, if_pos rfl]
      rw [← x_acc_w v.2.2.2.1 0 256 (by decide)]
      exact x_acc_congr _ _ (fun i _ _ => congrArg xb (x_xu1 i))
    rw [if_neg h1, if_neg h1]
    by_cases h2 : what = 2
    · subst h2
      rw [if_pos rfl, if_pos rfl]
      rw [← x_acc_w v.2.2.2.2.1 0 256 (by decide)]
      exact x_acc_congr _ _ (fun i _ _ => congrArg xb (x_xu2 h.2.2.2.2.1 i))
    rw [if_neg h2, if_neg h2]
    by_cases h3 : what = 3
    · rw [if_pos h3, if_pos h3]
      exact x_acc_w v.2.2.2.2.2.1 0 256 (by decide)
    rw [if_neg h3, if_neg h3]
    by_cases h4 : what = 4
    · rw [if_pos h4, if_pos h4]
      rw [← x_acc_w v.2.2.2.2.2.2.1 0 256 (by decide)]
      refine x_acc_congr _ _ (fun i _ hi => congrArg xb ?_)
      apply Bool.eq_iff_iff.mpr
      rw [decide_eq_true_eq, x_rg_f h.2.2.2.2.2.2 (by omega)]
      exact ⟨fun z => z.2, fun z => ⟨h.2.2.2.2.2.2.1 i z, z⟩⟩
    rw [if_neg h4, if_neg h4]
    by_cases h12 : what = 12
    · rw [if_pos h12, if_pos h12]
    rw [if_neg h12, if_neg h12]
    by_cases h13 : what = 13
    · rw [if_pos h13, if_pos h13]
    rw [if_neg h13, if_neg h13, if_neg (fun z => h5 (hx.mp z))]
end XPC
