section XV1
theorem x_v0_inv : x_inv x_v0 := by
  refine ⟨⟨fun k => trivial, fun k => trivial, Nat.zero_le _⟩, fun _ k => rfl, fun _ => rfl, fun _ k => rfl, fun k _ => rfl, fun k h => absurd h (by show ¬ false = true; decide), fun k h => absurd h (by show ¬ false = true; decide), fun i _ h => absurd h (by show ¬ false = true; decide)⟩
/-- the reference's row while its constructor fills it -/
def x_f4 (i : Nat) : Nat → Int32 := fun j => if 1832 ≤ j ∧ j < 1832 + i then -4 else 0
theorem x_f4_0 : (fun _ => 0 : Nat → Int32) = x_f4 0 := by
  funext j
  unfold x_f4
  rw [if_neg (by omega)]
theorem x_f4_s (i : Nat) : upd (x_f4 i) (1832 + i) (-4) = x_f4 (i + 1) := by
  funext j
  unfold upd x_f4
  by_cases h : j = 1832 + i
  · rw [if_pos h, if_pos (by omega)]
  · rw [if_neg h]
    by_cases h2 : 1832 ≤ j ∧ j < 1832 + i
    · rw [if_pos h2, if_pos (by omega)]
    · rw [if_neg h2, if_neg (by omega)]
theorem x_v0_wc (k : Nat) : wc (0, none) k = 0 := by
  unfold wc
  repeat' split
  all_goals rfl
theorem x_f4_v0 : ∀ j, j < 2128 → x_f4 256 j = xf x_v0 j := by
  intro j hj
  unfold x_f4 xf
  by_cases h1 : j < 1280
  · rw [if_pos h1, if_neg (by omega)]
    exact (x_v0_wc _).symm
  · rw [if_neg h1]
    by_cases h2 : j < 1320
    · rw [if_pos h2, if_neg (by omega)]
      exact (x_v0_wc _).symm
    · rw [if_neg h2]
      by_cases h3 : j < 1576
      · rw [if_pos h3, if_neg (by omega)]
        rfl
      · rw [if_neg h3]
        by_cases h4 : j < 1832
        · rw [if_pos h4, if_neg (by omega)]
          rfl
        · rw [if_neg h4]
          by_cases h5 : j < 2088
          · rw [if_pos h5, if_pos (by omega)]
            rfl
          · rw [if_neg h5, if_neg (by omega)]
            by_cases h6 : j < 2104
            · rw [if_pos h6]
              show (0 : Int32) = xb (decide (j - 2088 < 0))
              rw [decide_eq_false (by omega)]
              rfl
            · rw [if_neg h6]
              by_cases h7 : j < 2120
              · rw [if_pos h7]
                rfl
              · rw [if_neg h7]
                by_cases h8 : j < 2121
                · rw [if_pos h8]
                  rfl
                · rw [if_neg h8, if_pos hj]
                  rfl
end XV1
