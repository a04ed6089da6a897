section XFL5
theorem x_ffr_free (u : Nat → Int32) (nk : Nat) (hn : 1 ≤ nk) (hn2 : nk ≤ 64) : ∀ (m q j f : Nat), q + m = 256 → j ≤ q → j < nk → (∀ k, q - j ≤ k → k < q → u k = 0) → f + nk ≤ 256 → x_ffr u (nI nk) m q (nI j) = nI f → ∀ k, f ≤ k → k < f + nk → u k = 0
  | 0, q, j, f, _, _, _, _, hf, h => by
    have h2 := congrArg Int32.toInt h
    rw [nI_toInt (by omega)] at h2
    have e : (x_ffr u (nI nk) 0 q (nI j)).toInt = -1 := rfl
    omega
  | m + 1, q, j, f, hc, hj, hjn, hfr, hf, h => by
    have e : x_ffr u (nI nk) (m + 1) q (nI j) = (if (if u q = 0 then nI j + 1 else 0) = nI nk then nI q - nI nk + 1 else x_ffr u (nI nk) m (q + 1) (if u q = 0 then nI j + 1 else 0)) := rfl
    rw [e] at h
    by_cases h1 : u q = 0
    · rw [if_pos h1, nI_1] at h
      by_cases h2 : nI (j + 1) = nI nk
      · have h3 : j + 1 = nk := (nI_eq (by omega) (by omega)).mp h2
        rw [if_pos h2, show nI q - nI nk + 1 = (nI q + 1) - nI nk by rw [Int32.sub_eq_add_neg, Int32.sub_eq_add_neg, Int32.add_assoc, Int32.add_assoc, Int32.add_comm (-nI nk) 1], nI_1, pk_sub (by omega), nI_eq (by omega) (by omega)] at h
        intro k hk1 hk2
        by_cases hk : k = q
        · rw [hk]; exact h1
        · exact hfr k (by omega) (by omega)
      · rw [if_neg h2] at h
        have h3 : j + 1 ≠ nk := fun z => h2 (by rw [z])
        exact x_ffr_free u nk hn hn2 m (q + 1) (j + 1) f (by omega) (by omega) (by omega) (fun k hk1 hk2 => by
          by_cases hk : k = q
          · rw [hk]; exact h1
          · exact hfr k (by omega) (by omega)) hf h
    · have h2 : ¬ (0 : Int32) = nI nk := fun z => by
        have := (nI_eq (a := 0) (b := nk) (by decide) (by omega)).mp z
        omega
      rw [if_neg h1, if_neg h2] at h
      exact x_ffr_free u nk hn hn2 m (q + 1) 0 f (by omega) (by omega) (by omega) (fun k hk1 hk2 => by omega) hf h
theorem xu_free {G Q : Nat → Bool} {k : Nat} (h : xu G Q k = 0) : G k = false ∧ Q k = false := by
  unfold xu at h
  cases hg : G k with
  | true => rw [hg, if_pos rfl] at h; exact absurd h (by decide)
  | false =>
    rw [hg, if_neg (by decide)] at h
    cases hq : Q k with
    | true => rw [hq, if_pos rfl] at h; exact absurd h (by decide)
    | false => exact ⟨rfl, rfl⟩
def x_gvi (v : xV) (a i : Nat) : xV := (x_clr v.1 a i, v.2.1, v.2.2.1, x_add v.2.2.2.1 a i, v.2.2.2.2.1, v.2.2.2.2.2.1, va_up v.2.2.2.2.2.2.1 a true, v.2.2.2.2.2.2.2.1, v.2.2.2.2.2.2.2.2.1, v.2.2.2.2.2.2.2.2.2)
theorem m_gv0 (v : xV) (hr : x_rg v.2.2.2.1 v.2.2.2.2.2.2.1) {a : Nat} (ha : v.2.2.2.1 a = false) : xf v = xf (x_gvi v a a) := by
  have e1 : x_clr v.1 a a = v.1 := x_clr_0 _ _
  have e2 : x_add v.2.2.2.1 a a = v.2.2.2.1 := x_add_0 _ _
  unfold x_gvi
  rw [e1, e2]
  refine xf_congr (fun _ _ => rfl) (fun _ _ => rfl) (fun _ _ => rfl) (fun _ _ => rfl) (fun _ _ => rfl) (fun k hk => ?_) rfl (fun _ _ => rfl) (fun _ _ => rfl)
  show x_fi v.2.2.2.1 v.2.2.2.2.2.2.1 k = x_fi v.2.2.2.1 (va_up v.2.2.2.2.2.2.1 a true) k
  unfold x_fi
  by_cases hg : v.2.2.2.1 k = true
  · rw [if_pos hg, if_pos hg]
    obtain ⟨h1, h2⟩ := hr.2 k hk hg
    have hne : x_rf v.2.2.2.2.2.2.1 k ≠ a := fun q => by
      have := h2 _ (Nat.le_refl _) (x_rf_le v.2.2.2.2.2.2.1 k)
      rw [q, ha] at this; cases this
    rw [x_rf_eq (F := va_up v.2.2.2.2.2.2.1 a true) (x_rf_le v.2.2.2.2.2.2.1 k) (Or.inl (by rw [va_up_ne _ _ hne]; exact h1)) (fun j h4 h5 => by
      have hj : j ≠ a := fun q => by
        have := h2 j (by omega) h5
        rw [q, ha] at this; cases this
      rw [va_up_ne _ _ hj]; exact x_rf_gap _ k j h4 h5)]
  · rw [if_neg hg, if_neg hg]
theorem m_gvs (v : xV) (hr : x_rg v.2.2.2.1 v.2.2.2.2.2.2.1) {a i n : Nat} (hai : a ≤ i) (hin : i < a + n) (h256 : a + n ≤ 256) (hfree : ∀ k, a ≤ k → k < a + n → v.2.2.2.1 k = false ∧ v.2.2.2.2.1 k = false) : u5 (upd (upd (xf (x_gvi v a i)) (1320 + i) 1) (1832 + i) (nI a)) (5 * i) 0 0 0 0 0 = xf (x_gvi v a (i + 1)) := by
  have eg := x_add_s v.2.2.2.1 hai
  have hF : x_rf (va_up v.2.2.2.2.2.2.1 a true) i = a := x_rf_eq hai (Or.inl (va_up_self _ _ _)) (fun k h1 h2 => by
    rw [va_up_ne _ _ (by omega)]
    cases hf : v.2.2.2.2.2.2.1 k with
    | false => rfl
    | true =>
      have h3 := hr.1 k hf
      rw [(hfree k (by omega) (by omega)).1] at h3
      cases h3)
  have e := m_sf (x_gvi v a i) (by omega : i < 256) (x_add v.2.2.2.1 a (i + 1)) v.2.2.2.2.1 (x := 1) (y := nI a) (fun k hk => by rw [← eg, va_up_ne _ _ hk]; rfl) (fun k hk => rfl) (by rw [← eg]; unfold xu; rw [va_up_self]; rfl) (by rw [← eg]; unfold x_fi; rw [va_up_self]; exact congrArg nI hF)
  rw [e, m_utz _ (by omega)]
  have ec := x_clr_s v.1 hai
  show xf (va_up (x_clr v.1 a i) i (0, none), v.2.1, v.2.2.1, x_add v.2.2.2.1 a (i + 1), v.2.2.2.2.1, v.2.2.2.2.2.1, va_up v.2.2.2.2.2.2.1 a true, v.2.2.2.2.2.2.2.1, v.2.2.2.2.2.2.2.2.1, v.2.2.2.2.2.2.2.2.2) = xf (x_clr v.1 a (i + 1), v.2.1, v.2.2.1, x_add v.2.2.2.1 a (i + 1), v.2.2.2.2.1, v.2.2.2.2.2.1, va_up v.2.2.2.2.2.2.1 a true, v.2.2.2.2.2.2.2.1, v.2.2.2.2.2.2.2.2.1, v.2.2.2.2.2.2.2.2.2)
  rw [← ec]
end XFL5
