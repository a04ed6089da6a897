section XFL6
def x_sn (v : xV) (i : Nat) : xV := (v.1, v.2.1, v.2.2.1, v.2.2.2.1, v.2.2.2.2.1, v.2.2.2.2.2.1, v.2.2.2.2.2.2.1, v.2.2.2.2.2.2.2.1, i, v.2.2.2.2.2.2.2.2.2)
theorem xf_us (v : xV) {i : Nat} (hi : i < 16) (hs : v.2.2.2.2.2.2.2.2.1 = i) : upd (xf v) (2088 + i) 1 = xf (x_sn v (i + 1)) := by
  refine xf_upd ?_ (fun j hj => ?_)
  · rw [xf_s _ hi]
    show xb (decide (i < i + 1)) = 1
    rw [decide_eq_true (by omega)]
    rfl
  · by_cases h1 : 2088 ≤ j ∧ j < 2104
    · obtain ⟨k, hk, rfl⟩ : ∃ k, k < 16 ∧ j = 2088 + k := ⟨j - 2088, by omega, by omega⟩
      rw [xf_s _ hk, xf_s _ hk]
      show xb (decide (k < v.2.2.2.2.2.2.2.2.1)) = xb (decide (k < i + 1))
      rw [hs]
      congr 1
      exact decide_eq_decide.mpr (by omega)
    · unfold xf
      by_cases h2 : j < 2088
      · simp only [h2, if_true]
        rfl
      · simp only [show ¬ j < 1280 by omega, show ¬ j < 1320 by omega, show ¬ j < 1576 by omega, show ¬ j < 1832 by omega, h2, show ¬ j < 2104 by omega, if_false]
        rfl
def x_sti (v : xV) (i : Nat) : xV := (x_cl v.2.2.2.2.2.1 v.1 (16 * v.2.2.2.2.2.2.2.2.1) (16 * i), v.2.1, upd v.2.2.1 4 (v.2.2.1 4 + nI (i - v.2.2.2.2.2.2.2.2.1)), v.2.2.2.1, v.2.2.2.2.1, v.2.2.2.2.2.1, v.2.2.2.2.2.2.1, v.2.2.2.2.2.2.2.1, i, v.2.2.2.2.2.2.2.2.2)
theorem x_sti_0 (v : xV) : x_sti v v.2.2.2.2.2.2.2.2.1 = v := by
  have e : upd v.2.2.1 4 (v.2.2.1 4 + nI (v.2.2.2.2.2.2.2.2.1 - v.2.2.2.2.2.2.2.2.1)) = v.2.2.1 := upd_id (by rw [Nat.sub_self, nI_0, Int32.add_zero])
  unfold x_sti
  rw [x_cl_0, e]
theorem x_sti_s (v : xV) {i : Nat} (h : v.2.2.2.2.2.2.2.2.1 ≤ i) : x_tal (x_sn (x_clm (x_sti v i) (16 * i) (16 * i + 16)) (i + 1)) 4 ((x_sti v i).2.2.1 4 + 1) = x_sti v (i + 1) := by
  have e1 : x_cl v.2.2.2.2.2.1 (x_cl v.2.2.2.2.2.1 v.1 (16 * v.2.2.2.2.2.2.2.2.1) (16 * i)) (16 * i) (16 * i + 16) = x_cl v.2.2.2.2.2.1 v.1 (16 * v.2.2.2.2.2.2.2.2.1) (16 * (i + 1)) := x_cl_app _ _ (by omega) (by omega)
  have e2 : upd (upd v.2.2.1 4 (v.2.2.1 4 + nI (i - v.2.2.2.2.2.2.2.2.1))) 4 (upd v.2.2.1 4 (v.2.2.1 4 + nI (i - v.2.2.2.2.2.2.2.2.1)) 4 + 1) = upd v.2.2.1 4 (v.2.2.1 4 + nI (i + 1 - v.2.2.2.2.2.2.2.2.1)) := by
    funext j
    by_cases hj : j = 4
    · subst hj
      simp only [upd, if_true]
      rw [Int32.add_assoc, nI_1, show i - v.2.2.2.2.2.2.2.2.1 + 1 = i + 1 - v.2.2.2.2.2.2.2.2.1 by omega]
    · simp only [upd, hj, if_false]
  show (x_cl v.2.2.2.2.2.1 (x_cl v.2.2.2.2.2.1 v.1 (16 * v.2.2.2.2.2.2.2.2.1) (16 * i)) (16 * i) (16 * i + 16), v.2.1, upd (upd v.2.2.1 4 (v.2.2.1 4 + nI (i - v.2.2.2.2.2.2.2.2.1))) 4 (upd v.2.2.1 4 (v.2.2.1 4 + nI (i - v.2.2.2.2.2.2.2.2.1)) 4 + 1), v.2.2.2.1, v.2.2.2.2.1, v.2.2.2.2.2.1, v.2.2.2.2.2.2.1, v.2.2.2.2.2.2.2.1, i + 1, v.2.2.2.2.2.2.2.2.2) = (x_cl v.2.2.2.2.2.1 v.1 (16 * v.2.2.2.2.2.2.2.2.1) (16 * (i + 1)), v.2.1, upd v.2.2.1 4 (v.2.2.1 4 + nI (i + 1 - v.2.2.2.2.2.2.2.2.1)), v.2.2.2.1, v.2.2.2.2.1, v.2.2.2.2.2.1, v.2.2.2.2.2.2.1, v.2.2.2.2.2.2.2.1, i + 1, v.2.2.2.2.2.2.2.2.2)
  rw [e1, e2]
theorem x_sti_e (v : xV) {n i : Nat} (hi : x_stop v.2.2.2.2.2.2.2.2.1 n = i) (hse : v.2.2.2.2.2.2.2.2.1 ≤ i) : x_tal (x_sti v i) 0 ((x_sti v i).2.2.1 0 + x_cn v.2.2.2.2.2.1 v.1 (16 * v.2.2.2.2.2.2.2.2.1) (16 * i)) = x_stp v n := by
  unfold x_stp x_pt
  rw [hi, pk_sub hse]
  rfl
end XFL6
