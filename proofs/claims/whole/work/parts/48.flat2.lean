/-! More of the flat picture: states that agree where it looks; single marks; counts as sizes -/
section XFL2
theorem upd_id {f : Nat → Int32} {k : Nat} {x : Int32} (h : f k = x) : upd f k x = f := by
  funext j
  unfold upd
  by_cases hj : j = k
  · rw [if_pos hj, hj, h]
  · rw [if_neg hj]
/-- two states that agree on what the picture shows -/
theorem xf_congr {v v2 : xV} (h1 : ∀ k, k < 256 → v.1 k = v2.1 k) (h2 : ∀ k, k < 8 → v.2.1 k = v2.2.1 k) (h3 : ∀ k, k < 7 → v.2.2.1 k = v2.2.2.1 k) (h4 : ∀ k, k < 256 → xu v.2.2.2.1 v.2.2.2.2.1 k = xu v2.2.2.2.1 v2.2.2.2.2.1 k) (h5 : ∀ k, k < 256 → v.2.2.2.2.2.1 k = v2.2.2.2.2.2.1 k) (h6 : ∀ k, k < 256 → x_fi v.2.2.2.1 v.2.2.2.2.2.2.1 k = x_fi v2.2.2.2.1 v2.2.2.2.2.2.2.1 k) (h7 : v.2.2.2.2.2.2.2.1 = v2.2.2.2.2.2.2.2.1) (h8 : ∀ k, k < 16 → decide (k < v.2.2.2.2.2.2.2.2.1) = decide (k < v2.2.2.2.2.2.2.2.2.1)) (h9 : ∀ k, k < 16 → v.2.2.2.2.2.2.2.2.2 k = v2.2.2.2.2.2.2.2.2.2 k) : xf v = xf v2 := by
  funext j
  by_cases q1 : j < 1280
  · obtain ⟨i, k, hi, hk, rfl⟩ : ∃ i k, i < 256 ∧ k < 5 ∧ j = 5 * i + k := ⟨j / 5, j % 5, by omega, by omega, by omega⟩
    rw [xf_m _ hi hk, xf_m _ hi hk, h1 i hi]
  · by_cases q2 : j < 1320
    · obtain ⟨i, k, hi, hk, rfl⟩ : ∃ i k, i < 8 ∧ k < 5 ∧ j = 1280 + 5 * i + k := ⟨(j - 1280) / 5, (j - 1280) % 5, by omega, by omega, by omega⟩
      rw [xf_r _ hi hk, xf_r _ hi hk, h2 i hi]
    · by_cases q3 : j < 1576
      · obtain ⟨i, hi, rfl⟩ : ∃ i, i < 256 ∧ j = 1320 + i := ⟨j - 1320, by omega, by omega⟩
        rw [xf_u _ hi, xf_u _ hi, h4 i hi]
      · by_cases q4 : j < 1832
        · obtain ⟨i, hi, rfl⟩ : ∃ i, i < 256 ∧ j = 1576 + i := ⟨j - 1576, by omega, by omega⟩
          rw [xf_x _ hi, xf_x _ hi, h5 i hi]
        · by_cases q5 : j < 2088
          · obtain ⟨i, hi, rfl⟩ : ∃ i, i < 256 ∧ j = 1832 + i := ⟨j - 1832, by omega, by omega⟩
            rw [xf_f _ hi, xf_f _ hi, h6 i hi]
          · by_cases q6 : j < 2104
            · obtain ⟨i, hi, rfl⟩ : ∃ i, i < 16 ∧ j = 2088 + i := ⟨j - 2088, by omega, by omega⟩
              rw [xf_s _ hi, xf_s _ hi, h8 i hi]
            · by_cases q7 : j < 2120
              · obtain ⟨i, hi, rfl⟩ : ∃ i, i < 16 ∧ j = 2104 + i := ⟨j - 2104, by omega, by omega⟩
                rw [xf_d _ hi, xf_d _ hi, h9 i hi]
              · by_cases q8 : j < 2121
                · obtain rfl : j = 2120 := by omega
                  rw [xf_o, xf_o, h7]
                · by_cases q9 : j < 2128
                  · obtain ⟨i, hi, rfl⟩ : ∃ i, i < 7 ∧ j = 2121 + i := ⟨j - 2121, by omega, by omega⟩
                    rw [xf_t _ hi, xf_t _ hi, h3 i hi]
                  · unfold xf
                    simp only [q1, q2, q3, q4, q5, q6, q7, q8, q9, if_false]
/-- a write at one place, by what every other place shows -/
theorem xf_upd {v v2 : xV} {k : Nat} {x : Int32} (hx : xf v2 k = x) (ho : ∀ j, j ≠ k → xf v j = xf v2 j) : upd (xf v) k x = xf v2 := by
  funext j
  unfold upd
  by_cases hj : j = k
  · rw [if_pos hj, hj, hx]
  · rw [if_neg hj, ho j hj]
def x_dom (v : xV) (i : Nat) (b : Bool) : xV := (v.1, v.2.1, v.2.2.1, v.2.2.2.1, v.2.2.2.2.1, va_up v.2.2.2.2.2.1 i b, v.2.2.2.2.2.2.1, v.2.2.2.2.2.2.2.1, v.2.2.2.2.2.2.2.2.1, v.2.2.2.2.2.2.2.2.2)
theorem xf_ux (v : xV) {i : Nat} (hi : i < 256) (b : Bool) : upd (xf v) (1576 + i) (xb b) = xf (x_dom v i b) := by
  refine xf_upd ?_ (fun j hj => ?_)
  · rw [xf_x _ hi]
    show xb (va_up v.2.2.2.2.2.1 i b i) = _
    rw [va_up_self]
  · unfold xf
    by_cases h2 : j < 1576
    · simp only [h2, if_true]
      rfl
    · by_cases h3 : j < 1832
      · simp only [show ¬ j < 1280 by omega, show ¬ j < 1320 by omega, h2, h3, if_false, if_true]
        rw [show (x_dom v i b).2.2.2.2.2.1 = va_up v.2.2.2.2.2.1 i b from rfl, va_up_ne _ _ (by omega)]
      · simp only [h3, if_false]
        rfl
/-- a sum of marks is a size -/
theorem x_acc_w (S : Nat → Bool) (a : Nat) : ∀ n, a + n ≤ 256 → x_acc (fun i => xb (S i)) a n = nI (xs_w S a (a + n))
  | 0, _ => by
    show (0 : Int32) = nI (xs_c (fun k => S k && (decide (a ≤ k) && decide (k < a + 0))) 256)
    have e : xs_c (fun k => S k && (decide (a ≤ k) && decide (k < a + 0))) 256 = 0 := by
      rcases Nat.eq_zero_or_pos (xs_c (fun k => S k && (decide (a ≤ k) && decide (k < a + 0))) 256) with q | q
      · exact q
      · obtain ⟨k, -, hk⟩ := (xs_c_pos _ _).mp q
        simp only [Bool.and_eq_true, decide_eq_true_eq] at hk
        omega
    rw [e]
    rfl
  | n + 1, h => by
    show x_acc (fun i => xb (S i)) a n + xb (S (a + n)) = _
    rw [x_acc_w S a n (by omega)]
    have e : xs_w S a (a + (n + 1)) = xs_w S a (a + n) + (if S (a + n) = true then 1 else 0) := by
      unfold xs_w
      have key : ∀ m, xs_c (fun k => S k && (decide (a ≤ k) && decide (k < a + (n + 1)))) m = xs_c (fun k => S k && (decide (a ≤ k) && decide (k < a + n))) m + (if a + n < m ∧ S (a + n) = true then 1 else 0) := by
        intro m
        induction m with
        | zero => rfl
        | succ m ih =>
          show xs_c _ m + (if (S m && (decide (a ≤ m) && decide (m < a + (n + 1)))) = true then 1 else 0) = xs_c _ m + (if (S m && (decide (a ≤ m) && decide (m < a + n))) = true then 1 else 0) + _
          rw [ih]
          simp only [Bool.and_eq_true, decide_eq_true_eq]
          rcases Nat.lt_trichotomy m (a + n) with q | q | q
          · rw [if_neg (c := a + n < m ∧ S (a + n) = true) (by omega), if_neg (c := a + n < m + 1 ∧ S (a + n) = true) (by omega)]
            by_cases hs : S m = true ∧ a ≤ m
            · rw [if_pos ⟨hs.1, hs.2, by omega⟩, if_pos ⟨hs.1, hs.2, q⟩]
            · rw [if_neg (fun z => hs ⟨z.1, z.2.1⟩), if_neg (fun z => hs ⟨z.1, z.2.1⟩)]
          · subst q
            rw [if_neg (c := a + n < a + n ∧ S (a + n) = true) (by omega), if_neg (c := S (a + n) = true ∧ a ≤ a + n ∧ a + n < a + n) (by omega)]
            by_cases hs : S (a + n) = true
            · rw [if_pos ⟨hs, by omega, by omega⟩, if_pos ⟨by omega, hs⟩]
            · rw [if_neg (fun z => hs z.1), if_neg (fun z => hs z.2)]
          · rw [if_neg (c := S m = true ∧ a ≤ m ∧ m < a + (n + 1)) (by omega), if_neg (c := S m = true ∧ a ≤ m ∧ m < a + n) (by omega)]
            by_cases hs : S (a + n) = true
            · rw [if_pos ⟨q, hs⟩, if_pos ⟨by omega, hs⟩]
            · rw [if_neg (fun z => hs z.2), if_neg (fun z => hs z.2)]
      rw [key 256]
      by_cases hs : S (a + n) = true
      · rw [if_pos ⟨by omega, hs⟩, if_pos hs]
      · rw [if_neg (fun z => hs z.2), if_neg hs]
    rw [e]
    cases S (a + n) with
    | false => rw [show xb false = 0 from rfl, Int32.add_zero, if_neg (by decide), Nat.add_zero]
    | true => rw [show xb true = 1 from rfl, nI_1, if_pos rfl]
end XFL2
