section XQ4
theorem x_1n {n M : Int32} {m : Nat} (hM : M.toInt = m) (h1 : ¬ n < 1) (h2 : n ≤ M) : ∃ k, 1 ≤ k ∧ k ≤ m ∧ n = nI k ∧ xN n = k := by
  rw [Int32.lt_iff_toInt_lt] at h1
  rw [Int32.le_iff_toInt_le] at h2
  have e : (1 : Int32).toInt = 1 := rfl
  have hl := n.toInt_lt
  refine ⟨n.toInt.toNat, by omega, by omega, ?_, rfl⟩
  apply Int32.toInt_inj.mp
  rw [nI_toInt (by omega)]
  omega
theorem x_0n {n M : Int32} {m : Nat} (hM : M.toInt = m) (h1 : ¬ n < 0) (h2 : n ≤ M) : ∃ k, k ≤ m ∧ n = nI k := by
  rw [Int32.lt_iff_toInt_lt] at h1
  rw [Int32.le_iff_toInt_le] at h2
  have e : (0 : Int32).toInt = 0 := rfl
  have hl := n.toInt_lt
  refine ⟨n.toInt.toNat, by omega, ?_⟩
  apply Int32.toInt_inj.mp
  rw [nI_toInt (by omega)]
  omega
theorem x_ffr_at (u : Nat → Int32) (nk : Nat) (hn : 1 ≤ nk) (hn2 : nk ≤ 64) : ∀ (m c j : Nat), c + m = 256 → j ≤ c → j < nk → x_ffr u (nI nk) m c (nI j) < 0 ∨ ∃ f, f + nk ≤ 256 ∧ x_ffr u (nI nk) m c (nI j) = nI f
  | 0, c, j, _, _, _ => Or.inl (by show (-1 : Int32) < 0; decide)
  | m + 1, c, j, hc, hj, hjn => by
    show (if (if u c = 0 then nI j + 1 else 0) = nI nk then nI c - nI nk + 1 else x_ffr u (nI nk) m (c + 1) (if u c = 0 then nI j + 1 else 0)) < 0 ∨ ∃ f, f + nk ≤ 256 ∧ (if (if u c = 0 then nI j + 1 else 0) = nI nk then nI c - nI nk + 1 else x_ffr u (nI nk) m (c + 1) (if u c = 0 then nI j + 1 else 0)) = nI f
    by_cases h : u c = 0
    · rw [if_pos h, nI_1]
      by_cases h2 : nI (j + 1) = nI nk
      · have h3 : j + 1 = nk := (nI_eq (by omega) (by omega)).mp h2
        rw [if_pos h2]
        refine Or.inr ⟨c + 1 - nk, by omega, ?_⟩
        rw [show nI c - nI nk + 1 = (nI c + 1) - nI nk by rw [Int32.sub_eq_add_neg, Int32.sub_eq_add_neg, Int32.add_assoc, Int32.add_assoc, Int32.add_comm (-nI nk) 1], nI_1, pk_sub (by omega)]
      · rw [if_neg h2]
        have h3 : j + 1 ≠ nk := fun q => h2 (by rw [q])
        exact x_ffr_at u nk hn hn2 m (c + 1) (j + 1) (by omega) (by omega) (by omega)
    · rw [if_neg h]
      have h2 : ¬ (0 : Int32) = nI nk := fun q => by
        have := (nI_eq (a := 0) (b := nk) (by decide) (by omega)).mp q
        omega
      rw [if_neg h2]
      exact x_ffr_at u nk hn hn2 m (c + 1) 0 (by omega) (by omega) (by omega)
theorem x_ffr_in {u : Nat → Int32} {n : Int32} {nk : Nat} (en : n = nI nk) (hn : 1 ≤ nk) (hn2 : nk ≤ 64) (h : 0 ≤ x_ffr u n 256 0 0) : ∃ f, f + nk ≤ 256 ∧ x_ffr u n 256 0 0 = nI f := by
  subst en
  rcases x_ffr_at u nk hn hn2 256 0 0 rfl (Nat.le_refl 0) (by omega) with q | q
  · exact absurd h (Int32.not_le.mpr q)
  · exact q
theorem x_cov0 {w : xw} {n : Int32} (h : xw_ok2 w) (hp : xw_p w = true) (hc : xw_cov w 0 n = true) (hn : ¬ n < 1) : ∃ ak nk, w.1 = nI ak ∧ n = nI nk ∧ 1 ≤ nk ∧ ak + nk ≤ 256 ∧ xN n = nk ∧ xN w.1 = ak := by
  obtain ⟨-, h1, h2, h3⟩ := xw_ok2_p h hp
  have h4 := of_decide_eq_true hc
  rw [Int32.lt_iff_toInt_lt] at hn
  have e : (1 : Int32).toInt = 1 := rfl
  have e0 : (0 : Int32).toInt = 0 := rfl
  refine ⟨w.1.toInt.toNat, n.toInt.toNat, ?_, ?_, by omega, by omega, rfl, rfl⟩
  · apply Int32.toInt_inj.mp
    rw [nI_toInt (by omega)]
    omega
  · apply Int32.toInt_inj.mp
    rw [nI_toInt (by omega)]
    omega
theorem x_and4 {r : Nat} (hr : r < 4) {k : Int32} (h1 : ¬ k < 0) (h2 : k ≤ 3) : ∃ j, j < 4 ∧ nI r &&& k = nI j ∧ xN (nI r &&& k) = j := by
  obtain ⟨kk, hk, rfl⟩ := x_0n (M := 3) (m := 3) rfl h1 h2
  have h3 : r &&& kk < 4 := Nat.and_lt_two_pow (n := 2) _ (by omega)
  refine ⟨r &&& kk, h3, nx_and r kk, ?_⟩
  rw [nx_and, xN_nI (by omega)]
theorem x_fault_p {w : xw} {right d n : Int32} (h : x_fault w right d n = 0) : xw_p w = true ∧ xw_cov w d n = true ∧ ¬ nI (xw_r w) &&& right = 0 := by
  unfold x_fault at h
  split at h
  · split at h
    · exact absurd h (by decide)
    · split at h
      · exact ⟨by assumption, by assumption, by assumption⟩
      · exact absurd h (by decide)
  · exact absurd h (by decide)
theorem x_fault0 {w : xw} {right d n : Int32} {nk : Nat} (hw : xw_ok2 w) (h : x_fault w right d n = 0) (hn : n = nI nk) (hk : nk < 2 ^ 31) : ∃ ck, w.1 + d = nI ck ∧ ck + nk ≤ 256 ∧ xN (w.1 + d) = ck := by
  obtain ⟨hp, hc, -⟩ := x_fault_p h
  obtain ⟨-, h1, h2, h3⟩ := xw_ok2_p hw hp
  have h4 := of_decide_eq_true hc
  rw [hn, nI_toInt hk] at h4
  have e : (w.1 + d).toInt = w.1.toInt + d.toInt := by
    rw [Int32.toInt_add, Int.bmod_eq_of_le (by omega) (by omega)]
  refine ⟨(w.1 + d).toInt.toNat, ?_, by omega, rfl⟩
  apply Int32.toInt_inj.mp
  rw [nI_toInt (by omega), e]
  omega
theorem x_ge0 {x : Int32} (h : 0 ≤ x) : ¬ x < 0 := Int32.not_lt.mpr h
theorem x_lt0 {x : Int32} (h : ¬ 0 ≤ x) : x < 0 := Int32.not_le.mp h
end XQ4
