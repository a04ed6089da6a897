section XFL7
/-- behind the dirty pages below i -/
def x_edi (v : xV) (i : Nat) : xV := (x_dm v.2.2.2.2.2.1 v.2.2.2.2.2.2.2.2.2 v.1 i, v.2.1, x_dt v.2.2.2.2.2.1 v.2.2.2.2.2.2.2.2.2 v.1 v.2.2.1 i, v.2.2.2.1, v.2.2.2.2.1, v.2.2.2.2.2.1, v.2.2.2.2.2.2.1, v.2.2.2.2.2.2.2.1, v.2.2.2.2.2.2.2.2.1, v.2.2.2.2.2.2.2.2.2)
theorem x_edi_0 (v : xV) : x_edi v 0 = v := by unfold x_edi; rw [x_dm_0, x_dt_0]
theorem x_edi_n (v : xV) {i : Nat} (h : xb (v.2.2.2.2.2.2.2.2.2 i) = 0) : x_edi v i = x_edi v (i + 1) := by unfold x_edi; rw [x_dm_n v.1 h, x_dt_n v.1 v.2.2.1 h]
theorem x_edi_y (v : xV) {i : Nat} (h : ¬ xb (v.2.2.2.2.2.2.2.2.2 i) = 0) : x_tal (x_tal (x_clm (x_edi v i) (16 * i) (16 * i + 16)) 1 ((x_edi v i).2.2.1 1 + x_cn v.2.2.2.2.2.1 (x_edi v i).1 (16 * i) (16 * i + 16))) 5 ((x_tal (x_clm (x_edi v i) (16 * i) (16 * i + 16)) 1 ((x_edi v i).2.2.1 1 + x_cn v.2.2.2.2.2.1 (x_edi v i).1 (16 * i) (16 * i + 16))).2.2.1 5 + 1) = x_edi v (i + 1) := by
  show (x_cl v.2.2.2.2.2.1 (x_dm v.2.2.2.2.2.1 v.2.2.2.2.2.2.2.2.2 v.1 i) (16 * i) (16 * i + 16), v.2.1, upd (upd (x_dt v.2.2.2.2.2.1 v.2.2.2.2.2.2.2.2.2 v.1 v.2.2.1 i) 1 (x_dt v.2.2.2.2.2.1 v.2.2.2.2.2.2.2.2.2 v.1 v.2.2.1 i 1 + x_cn v.2.2.2.2.2.1 (x_dm v.2.2.2.2.2.1 v.2.2.2.2.2.2.2.2.2 v.1 i) (16 * i) (16 * i + 16))) 5 (upd (x_dt v.2.2.2.2.2.1 v.2.2.2.2.2.2.2.2.2 v.1 v.2.2.1 i) 1 (x_dt v.2.2.2.2.2.1 v.2.2.2.2.2.2.2.2.2 v.1 v.2.2.1 i 1 + x_cn v.2.2.2.2.2.1 (x_dm v.2.2.2.2.2.1 v.2.2.2.2.2.2.2.2.2 v.1 i) (16 * i) (16 * i + 16)) 5 + 1), v.2.2.2.1, v.2.2.2.2.1, v.2.2.2.2.2.1, v.2.2.2.2.2.2.1, v.2.2.2.2.2.2.2.1, v.2.2.2.2.2.2.2.2.1, v.2.2.2.2.2.2.2.2.2) = (x_dm v.2.2.2.2.2.1 v.2.2.2.2.2.2.2.2.2 v.1 (i + 1), v.2.1, x_dt v.2.2.2.2.2.1 v.2.2.2.2.2.2.2.2.2 v.1 v.2.2.1 (i + 1), v.2.2.2.1, v.2.2.2.2.1, v.2.2.2.2.2.1, v.2.2.2.2.2.2.1, v.2.2.2.2.2.2.2.1, v.2.2.2.2.2.2.2.2.1, v.2.2.2.2.2.2.2.2.2)
  rw [x_dm_y v.1 h, x_dt_y v.1 v.2.2.1 h]
theorem x_edi_ok {v : xV} (h : ∀ k, xw_ok2 (v.1 k)) (i : Nat) : ∀ k, xw_ok2 ((x_edi v i).1 k) := by
  intro k
  show xw_ok2 (x_dm v.2.2.2.2.2.1 v.2.2.2.2.2.2.2.2.2 v.1 i k)
  simp only [x_dm]
  split
  · unfold x_lk
    split
    · trivial
    · exact h k
  · exact h k
/-- the tallies and registers behind the words -/
def x_er (v : xV) : xV := (x_dm v.2.2.2.2.2.1 v.2.2.2.2.2.2.2.2.2 v.1 16, x_cl v.2.2.2.2.2.1 v.2.1 0 8, upd (x_dt v.2.2.2.2.2.1 v.2.2.2.2.2.2.2.2.2 v.1 v.2.2.1 16) 2 (x_dt v.2.2.2.2.2.1 v.2.2.2.2.2.2.2.2.2 v.1 v.2.2.1 16 2 + x_cn v.2.2.2.2.2.1 v.2.1 0 8), v.2.2.2.1, v.2.2.2.2.1, v.2.2.2.2.2.1, v.2.2.2.2.2.2.1, v.2.2.2.2.2.2.2.1, v.2.2.2.2.2.2.2.2.1, v.2.2.2.2.2.2.2.2.2)
theorem x_er_eq (v : xV) : x_tal (x_clr_ (x_edi v 16) 0 (0 + 8)) 2 ((x_edi v 16).2.2.1 2 + x_cn v.2.2.2.2.2.1 (x_edi v 16).2.1 0 (0 + 8)) = x_er v := rfl
/-- behind the cells below i -/
def x_efi (v : xV) (i : Nat) : xV := (v.1, v.2.1, v.2.2.1, v.2.2.2.1, fun k => v.2.2.2.2.1 k && !(v.2.2.2.2.2.1 k && decide (k < i)), fun k => v.2.2.2.2.2.1 k && !decide (k < i), v.2.2.2.2.2.2.1, v.2.2.2.2.2.2.2.1, v.2.2.2.2.2.2.2.2.1, v.2.2.2.2.2.2.2.2.2)
theorem x_efi_0 (v : xV) : x_efi v 0 = v := by
  have e1 : (fun k => v.2.2.2.2.1 k && !(v.2.2.2.2.2.1 k && decide (k < 0))) = v.2.2.2.2.1 := by funext k; simp
  have e2 : (fun k => v.2.2.2.2.2.1 k && !decide (k < 0)) = v.2.2.2.2.2.1 := by funext k; simp
  unfold x_efi
  rw [e1, e2]
theorem x_efi_n (v : xV) {i : Nat} (h : v.2.2.2.2.2.1 i = false) : x_efi v i = x_efi v (i + 1) := by
  have e1 : (fun k => v.2.2.2.2.1 k && !(v.2.2.2.2.2.1 k && decide (k < i))) = (fun k => v.2.2.2.2.1 k && !(v.2.2.2.2.2.1 k && decide (k < i + 1))) := by
    funext k
    by_cases hk : k = i
    · subst hk; simp [h]
    · by_cases h2 : k < i
      · simp [h2, show k < i + 1 by omega]
      · simp [h2, show ¬ k < i + 1 by omega]
  have e2 : (fun k => v.2.2.2.2.2.1 k && !decide (k < i)) = (fun k => v.2.2.2.2.2.1 k && !decide (k < i + 1)) := by
    funext k
    by_cases hk : k = i
    · subst hk; simp [h]
    · by_cases h2 : k < i
      · simp [h2, show k < i + 1 by omega]
      · simp [h2, show ¬ k < i + 1 by omega]
  unfold x_efi
  rw [e1, e2]
theorem m_efi (v : xV) {i : Nat} (hi : i < 256) (hx : v.2.2.2.2.2.1 i = true) (hg : v.2.2.2.1 i = false) : upd (upd (xf (x_efi v i)) (1320 + i) 0) (1576 + i) 0 = xf (x_efi v (i + 1)) := by
  funext j
  unfold upd
  by_cases h1 : j = 1576 + i
  · rw [if_pos h1, h1, xf_x _ hi]
    show _ = xb (v.2.2.2.2.2.1 i && !decide (i < i + 1))
    rw [decide_eq_true (show i < i + 1 by omega), Bool.not_true, Bool.and_false]
    rfl
  · rw [if_neg h1]
    by_cases h2 : j = 1320 + i
    · rw [if_pos h2, h2, xf_u _ hi]
      show _ = xu v.2.2.2.1 (fun k => v.2.2.2.2.1 k && !(v.2.2.2.2.2.1 k && decide (k < i + 1))) i
      unfold xu
      simp [hg, hx]
    · rw [if_neg h2]
      by_cases q2 : j < 1320
      · unfold xf
        by_cases q1 : j < 1280
        · rw [if_pos q1, if_pos q1]
          rfl
        · rw [if_neg q1, if_neg q1, if_pos q2, if_pos q2]
          rfl
      · by_cases q3 : j < 1576
        · obtain ⟨k, hk, rfl⟩ : ∃ k, k < 256 ∧ j = 1320 + k := ⟨j - 1320, by omega, by omega⟩
          rw [xf_u _ hk, xf_u _ hk]
          show xu v.2.2.2.1 (fun k => v.2.2.2.2.1 k && !(v.2.2.2.2.2.1 k && decide (k < i))) k = xu v.2.2.2.1 (fun k => v.2.2.2.2.1 k && !(v.2.2.2.2.2.1 k && decide (k < i + 1))) k
          have e : decide (k < i) = decide (k < i + 1) := decide_eq_decide.mpr (by omega)
          simp only [xu, e]
        · by_cases q4 : j < 1832
          · obtain ⟨k, hk, rfl⟩ : ∃ k, k < 256 ∧ j = 1576 + k := ⟨j - 1576, by omega, by omega⟩
            rw [xf_x _ hk, xf_x _ hk]
            show xb (v.2.2.2.2.2.1 k && !decide (k < i)) = xb (v.2.2.2.2.2.1 k && !decide (k < i + 1))
            rw [show decide (k < i) = decide (k < i + 1) from decide_eq_decide.mpr (by omega)]
          · unfold xf
            simp only [show ¬ j < 1280 by omega, q2, q3, q4, if_false]
            rfl
def x_z (f : Nat → Int32) (i : Nat) : Nat → Int32 := fun j => if (2088 ≤ j ∧ j < 2088 + i) ∨ (2104 ≤ j ∧ j < 2104 + i) then 0 else f j
theorem x_z_0 (f : Nat → Int32) : x_z f 0 = f := by
  funext j
  simp only [x_z]
  rw [if_neg (by omega)]
theorem x_z_s (f : Nat → Int32) {i : Nat} (hi : i < 16) : upd (upd (x_z f i) (2088 + i) 0) (2104 + i) 0 = x_z f (i + 1) := by
  funext j
  simp only [upd, x_z]
  by_cases h1 : j = 2104 + i
  · rw [if_pos h1, if_pos (by omega)]
  · rw [if_neg h1]
    by_cases h2 : j = 2088 + i
    · rw [if_pos h2, if_pos (by omega)]
    · rw [if_neg h2]
      by_cases h3 : (2088 ≤ j ∧ j < 2088 + i) ∨ (2104 ≤ j ∧ j < 2104 + i)
      · rw [if_pos h3, if_pos (by omega)]
      · rw [if_neg h3, if_neg (by omega)]
def x_zv (v : xV) : xV := (v.1, v.2.1, v.2.2.1, v.2.2.2.1, v.2.2.2.2.1, v.2.2.2.2.2.1, v.2.2.2.2.2.2.1, v.2.2.2.2.2.2.2.1, 0, fun _ => false)
theorem x_z_16 (v : xV) : x_z (xf v) 16 = xf (x_zv v) := by
  funext j
  simp only [x_z]
  by_cases h1 : 2088 ≤ j ∧ j < 2104
  · obtain ⟨k, hk, rfl⟩ : ∃ k, k < 16 ∧ j = 2088 + k := ⟨j - 2088, by omega, by omega⟩
    rw [if_pos (by omega), xf_s _ hk]
    show _ = xb (decide (k < 0))
    rw [decide_eq_false (Nat.not_lt_zero k)]
    rfl
  · by_cases h2 : 2104 ≤ j ∧ j < 2120
    · obtain ⟨k, hk, rfl⟩ : ∃ k, k < 16 ∧ j = 2104 + k := ⟨j - 2104, by omega, by omega⟩
      rw [if_pos (by omega), xf_d _ hk]
      rfl
    · rw [if_neg (by omega)]
      unfold xf
      by_cases h3 : j < 2088
      · simp only [h3, if_true]
        rfl
      · simp only [show ¬ j < 1280 by omega, show ¬ j < 1320 by omega, show ¬ j < 1576 by omega, show ¬ j < 1832 by omega, h3, show ¬ j < 2104 by omega, show ¬ j < 2120 by omega, if_false]
        rfl
theorem m_end (v : xV) : xf (x_tal (x_on (x_zv (x_efi (x_er v) 256)) false) 6 ((x_er v).2.2.1 6 + 1)) = xf (x_end v) := by
  refine xf_congr (fun _ _ => rfl) (fun _ _ => rfl) (fun _ _ => rfl) (fun k hk => ?_) (fun k hk => ?_) (fun _ _ => rfl) rfl (fun _ _ => rfl) (fun _ _ => rfl)
  · show xu v.2.2.2.1 (fun k => v.2.2.2.2.1 k && !(v.2.2.2.2.2.1 k && decide (k < 256))) k = xu v.2.2.2.1 (fun i => v.2.2.2.2.1 i && !v.2.2.2.2.2.1 i) k
    have e : decide (k < 256) = true := decide_eq_true hk
    simp only [xu, e, Bool.and_true]
  · show (v.2.2.2.2.2.1 k && !decide (k < 256)) = (v.2.2.2.2.2.1 k && !v.2.2.2.2.2.1 k)
    rw [decide_eq_true hk]
    cases v.2.2.2.2.2.1 k <;> rfl
end XFL7
