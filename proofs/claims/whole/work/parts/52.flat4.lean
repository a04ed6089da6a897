section XFL4
def x_gq (v : xV) (G2 Q2 : Nat → Bool) : xV := (v.1, v.2.1, v.2.2.1, G2, Q2, v.2.2.2.2.2.1, v.2.2.2.2.2.2.1, v.2.2.2.2.2.2.2.1, v.2.2.2.2.2.2.2.2.1, v.2.2.2.2.2.2.2.2.2)
/-- a write of STATE and FIRST at one cell -/
theorem m_sf (v : xV) {i : Nat} (hi : i < 256) (G2 Q2 : Nat → Bool) {x y : Int32} (hG : ∀ k, k ≠ i → G2 k = v.2.2.2.1 k) (hQ : ∀ k, k ≠ i → Q2 k = v.2.2.2.2.1 k) (hx : xu G2 Q2 i = x) (hy : x_fi G2 v.2.2.2.2.2.2.1 i = y) : upd (upd (xf v) (1320 + i) x) (1832 + i) y = xf (x_gq v G2 Q2) := by
  funext j
  unfold upd
  by_cases h1 : j = 1832 + i
  · rw [if_pos h1, h1, xf_f _ hi]
    exact hy.symm
  · rw [if_neg h1]
    by_cases h2 : j = 1320 + i
    · rw [if_pos h2, h2, xf_u _ hi]
      exact hx.symm
    · rw [if_neg h2]
      by_cases q2 : j < 1320
      · unfold xf
        by_cases q1 : j < 1280
        · rw [if_pos q1, if_pos q1]
          rfl
        · rw [if_neg q1, if_neg q1, if_pos q2, if_pos q2]
          rfl
      · by_cases q3 : j < 1576
        · obtain ⟨k, hk, rfl⟩ : ∃ k, k < 256 ∧ j = 1320 + k := ⟨j - 1320, by omega, by omega⟩
          rw [xf_u _ hk, xf_u _ hk]
          show xu v.2.2.2.1 v.2.2.2.2.1 k = xu G2 Q2 k
          unfold xu
          rw [hG k (by omega), hQ k (by omega)]
        · by_cases q4 : j < 1832
          · obtain ⟨k, hk, rfl⟩ : ∃ k, k < 256 ∧ j = 1576 + k := ⟨j - 1576, by omega, by omega⟩
            rw [xf_x _ hk, xf_x _ hk]
            rfl
          · by_cases q5 : j < 2088
            · obtain ⟨k, hk, rfl⟩ : ∃ k, k < 256 ∧ j = 1832 + k := ⟨j - 1832, by omega, by omega⟩
              rw [xf_f _ hk, xf_f _ hk]
              show x_fi v.2.2.2.1 v.2.2.2.2.2.2.1 k = x_fi G2 v.2.2.2.2.2.2.1 k
              unfold x_fi
              rw [hG k (by omega)]
            · unfold xf
              simp only [show ¬ j < 1280 by omega, show ¬ j < 1320 by omega, q3, q4, q5, if_false]
              rfl
def x_bki (v : xV) (a i : Nat) : xV := x_gq v (x_sub v.2.2.2.1 a i) (x_add v.2.2.2.2.1 a i)
theorem x_bki_0 (v : xV) (a : Nat) : x_bki v a a = v := by unfold x_bki; rw [x_sub_0, x_add_0]; rfl
theorem m_bki (v : xV) {a i : Nat} (ha : a ≤ i) (hi : i < 256) : upd (upd (xf (x_bki v a i)) (1320 + i) 2) (1832 + i) (-4) = xf (x_bki v a (i + 1)) := by
  have eg := x_sub_s v.2.2.2.1 ha
  have eq := x_add_s v.2.2.2.2.1 ha
  have e := m_sf (x_bki v a i) hi (x_sub v.2.2.2.1 a (i + 1)) (x_add v.2.2.2.2.1 a (i + 1)) (x := 2) (y := -4) (fun k hk => by rw [← eg, va_up_ne _ _ hk]; rfl) (fun k hk => by rw [← eq, va_up_ne _ _ hk]; rfl) (by rw [← eg, ← eq]; unfold xu; rw [va_up_self, va_up_self]; rfl) (by rw [← eg]; unfold x_fi; rw [va_up_self]; rfl)
  rw [e]
  rfl
theorem m_bak (v : xV) (hr : x_rg v.2.2.2.1 v.2.2.2.2.2.2.1) {a t : Nat} (hat : a < t) (ht : t ≤ 256) (h : x_isr v.2.2.2.1 v.2.2.2.2.2.2.1 a t = true) : xf (x_bki v a t) = xf (x_bak v a t) := by
  unfold x_isr at h
  rw [Bool.and_eq_true, Bool.and_eq_true, decide_eq_true_eq] at h
  obtain ⟨h1, h2, h3⟩ := h
  refine xf_congr (fun _ _ => rfl) (fun _ _ => rfl) (fun _ _ => rfl) (fun _ _ => rfl) (fun _ _ => rfl) (fun k hk => ?_) rfl (fun _ _ => rfl) (fun _ _ => rfl)
  show x_fi (x_sub v.2.2.2.1 a t) v.2.2.2.2.2.2.1 k = x_fi (x_sub v.2.2.2.1 a t) (va_up v.2.2.2.2.2.2.1 a false) k
  unfold x_fi
  by_cases hg : x_sub v.2.2.2.1 a t k = true
  · rw [if_pos hg, if_pos hg]
    simp only [x_sub, Bool.and_eq_true, Bool.not_eq_true', Bool.and_eq_false_iff, decide_eq_false_iff_not] at hg
    have hne : x_rf v.2.2.2.2.2.2.1 k ≠ a := fun q => by
      have := (x_rg_iff hr (by omega) h1 h2 hk).mp ((x_fi_eq hk (by omega)).mpr ⟨hg.1, q⟩)
      rw [h3] at this
      omega
    have hF := (hr.2 k hk hg.1).1
    rw [x_rf_eq (F := va_up v.2.2.2.2.2.2.1 a false) (x_rf_le v.2.2.2.2.2.2.1 k) (Or.inl (by rw [va_up_ne _ _ hne]; exact hF)) (fun j h4 h5 => by
      by_cases hj : j = a
      · rw [hj, va_up_self]
      · rw [va_up_ne _ _ hj]; exact x_rf_gap _ k j h4 h5)]
  · rw [if_neg hg, if_neg hg]
end XFL4
