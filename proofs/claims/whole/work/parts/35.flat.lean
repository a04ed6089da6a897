/-! The reference's flat picture of a state: what it holds where, and what a write there does to the state -/
section XFL
def xf (v : xV) (k : Nat) : Int32 :=
  if k < 1280 then wc (v.1 (k / 5)) (k % 5) else if k < 1320 then wc (v.2.1 ((k - 1280) / 5)) ((k - 1280) % 5) else if k < 1576 then xu v.2.2.2.1 v.2.2.2.2.1 (k - 1320) else if k < 1832 then xb (v.2.2.2.2.2.1 (k - 1576)) else if k < 2088 then x_fi v.2.2.2.1 v.2.2.2.2.2.2.1 (k - 1832) else if k < 2104 then xb (decide (k - 2088 < v.2.2.2.2.2.2.2.2.1)) else if k < 2120 then xb (v.2.2.2.2.2.2.2.2.2 (k - 2104)) else if k < 2121 then xb v.2.2.2.2.2.2.2.1 else if k < 2128 then v.2.2.1 (k - 2121) else 0
theorem xf_m (v : xV) {i k : Nat} (hi : i < 256) (hk : k < 5) : xf v (5 * i + k) = wc (v.1 i) k := by
  unfold xf
  rw [if_pos (by omega), show (5 * i + k) / 5 = i by omega, show (5 * i + k) % 5 = k by omega]
theorem xf_r (v : xV) {i k : Nat} (hi : i < 8) (hk : k < 5) : xf v (1280 + 5 * i + k) = wc (v.2.1 i) k := by
  unfold xf
  rw [if_neg (by omega), if_pos (by omega), show (1280 + 5 * i + k - 1280) / 5 = i by omega, show (1280 + 5 * i + k - 1280) % 5 = k by omega]
theorem xf_u (v : xV) {i : Nat} (hi : i < 256) : xf v (1320 + i) = xu v.2.2.2.1 v.2.2.2.2.1 i := by
  unfold xf
  rw [if_neg (by omega), if_neg (by omega), if_pos (by omega), show 1320 + i - 1320 = i by omega]
theorem xf_x (v : xV) {i : Nat} (hi : i < 256) : xf v (1576 + i) = xb (v.2.2.2.2.2.1 i) := by
  unfold xf
  rw [if_neg (by omega), if_neg (by omega), if_neg (by omega), if_pos (by omega), show 1576 + i - 1576 = i by omega]
theorem xf_f (v : xV) {i : Nat} (hi : i < 256) : xf v (1832 + i) = x_fi v.2.2.2.1 v.2.2.2.2.2.2.1 i := by
  unfold xf
  rw [if_neg (by omega), if_neg (by omega), if_neg (by omega), if_neg (by omega), if_pos (by omega), show 1832 + i - 1832 = i by omega]
theorem xf_s (v : xV) {i : Nat} (hi : i < 16) : xf v (2088 + i) = xb (decide (i < v.2.2.2.2.2.2.2.2.1)) := by
  unfold xf
  rw [if_neg (by omega), if_neg (by omega), if_neg (by omega), if_neg (by omega), if_neg (by omega), if_pos (by omega), show 2088 + i - 2088 = i by omega]
theorem xf_d (v : xV) {i : Nat} (hi : i < 16) : xf v (2104 + i) = xb (v.2.2.2.2.2.2.2.2.2 i) := by
  unfold xf
  rw [if_neg (by omega), if_neg (by omega), if_neg (by omega), if_neg (by omega), if_neg (by omega), if_neg (by omega), if_pos (by omega), show 2104 + i - 2104 = i by omega]
theorem xf_o (v : xV) : xf v 2120 = xb v.2.2.2.2.2.2.2.1 := by
  unfold xf
  rw [if_neg (by omega), if_neg (by omega), if_neg (by omega), if_neg (by omega), if_neg (by omega), if_neg (by omega), if_neg (by omega), if_pos (by omega)]
theorem xf_t (v : xV) {i : Nat} (hi : i < 7) : xf v (2121 + i) = v.2.2.1 i := by
  unfold xf
  rw [if_neg (by omega), if_neg (by omega), if_neg (by omega), if_neg (by omega), if_neg (by omega), if_neg (by omega), if_neg (by omega), if_neg (by omega), if_pos (by omega), show 2121 + i - 2121 = i by omega]
theorem u5_w (f : Nat → Int32) (k : Nat) (w : xw) (j : Nat) : u5 f k (wc w 0) (wc w 1) (wc w 2) (wc w 3) (wc w 4) j = if k ≤ j ∧ j < k + 5 then wc w (j - k) else f j := by
  unfold u5 upd
  by_cases h4 : j = k + 4
  · subst h4; rw [if_pos rfl, if_pos (by omega), show k + 4 - k = 4 by omega]
  · rw [if_neg h4]
    by_cases h3 : j = k + 3
    · subst h3; rw [if_pos rfl, if_pos (by omega), show k + 3 - k = 3 by omega]
    · rw [if_neg h3]
      by_cases h2 : j = k + 2
      · subst h2; rw [if_pos rfl, if_pos (by omega), show k + 2 - k = 2 by omega]
      · rw [if_neg h2]
        by_cases h1 : j = k + 1
        · subst h1; rw [if_pos rfl, if_pos (by omega), show k + 1 - k = 1 by omega]
        · rw [if_neg h1]
          by_cases h0 : j = k
          · subst h0; rw [if_pos rfl, if_pos (by omega), Nat.sub_self]
          · rw [if_neg h0, if_neg (by omega)]
def x_mem (v : xV) (i : Nat) (w : xw) : xV := (va_up v.1 i w, v.2.1, v.2.2.1, v.2.2.2.1, v.2.2.2.2.1, v.2.2.2.2.2.1, v.2.2.2.2.2.2.1, v.2.2.2.2.2.2.2.1, v.2.2.2.2.2.2.2.2.1, v.2.2.2.2.2.2.2.2.2)
def x_tal (v : xV) (i : Nat) (x : Int32) : xV := (v.1, v.2.1, upd v.2.2.1 i x, v.2.2.2.1, v.2.2.2.2.1, v.2.2.2.2.2.1, v.2.2.2.2.2.2.1, v.2.2.2.2.2.2.2.1, v.2.2.2.2.2.2.2.2.1, v.2.2.2.2.2.2.2.2.2)
def x_drt (v : xV) (i : Nat) (b : Bool) : xV := (v.1, v.2.1, v.2.2.1, v.2.2.2.1, v.2.2.2.2.1, v.2.2.2.2.2.1, v.2.2.2.2.2.2.1, v.2.2.2.2.2.2.2.1, v.2.2.2.2.2.2.2.2.1, va_up v.2.2.2.2.2.2.2.2.2 i b)
def x_on (v : xV) (b : Bool) : xV := (v.1, v.2.1, v.2.2.1, v.2.2.2.1, v.2.2.2.2.1, v.2.2.2.2.2.1, v.2.2.2.2.2.2.1, b, v.2.2.2.2.2.2.2.2.1, v.2.2.2.2.2.2.2.2.2)
theorem xf_um (v : xV) {i : Nat} (hi : i < 256) (w : xw) : u5 (xf v) (5 * i) (wc w 0) (wc w 1) (wc w 2) (wc w 3) (wc w 4) = xf (x_mem v i w) := by
  funext j
  rw [u5_w]
  by_cases h : 5 * i ≤ j ∧ j < 5 * i + 5
  · rw [if_pos h]
    obtain ⟨k, rfl⟩ : ∃ k, j = 5 * i + k := ⟨j - 5 * i, by omega⟩
    rw [xf_m _ hi (by omega), show 5 * i + k - 5 * i = k by omega]
    show _ = wc (va_up v.1 i w i) k
    rw [va_up_self]
  · rw [if_neg h]
    unfold xf
    by_cases h2 : j < 1280
    · rw [if_pos h2, if_pos h2]
      show _ = wc (va_up v.1 i w (j / 5)) (j % 5)
      rw [va_up_ne v.1 w (by omega)]
    · rw [if_neg h2, if_neg h2]
      rfl
theorem xf_ur (v : xV) {i : Nat} (hi : i < 8) (w : xw) : u5 (xf v) (1280 + 5 * i) (wc w 0) (wc w 1) (wc w 2) (wc w 3) (wc w 4) = xf (x_reg v i w) := by
  funext j
  rw [u5_w]
  by_cases h : 1280 + 5 * i ≤ j ∧ j < 1280 + 5 * i + 5
  · rw [if_pos h]
    obtain ⟨k, rfl⟩ : ∃ k, j = 1280 + 5 * i + k := ⟨j - (1280 + 5 * i), by omega⟩
    rw [xf_r _ hi (by omega), show 1280 + 5 * i + k - (1280 + 5 * i) = k by omega]
    show _ = wc (va_up v.2.1 i w i) k
    rw [va_up_self]
  · rw [if_neg h]
    unfold xf
    by_cases h2 : j < 1280
    · rw [if_pos h2, if_pos h2]
      rfl
    · rw [if_neg h2, if_neg h2]
      by_cases h3 : j < 1320
      · rw [if_pos h3, if_pos h3]
        show _ = wc (va_up v.2.1 i w ((j - 1280) / 5)) ((j - 1280) % 5)
        rw [va_up_ne v.2.1 w (by omega)]
      · rw [if_neg h3, if_neg h3]
        rfl
theorem xf_ut (v : xV) {i : Nat} (hi : i < 7) (x : Int32) : upd (xf v) (2121 + i) x = xf (x_tal v i x) := by
  funext j
  unfold upd
  by_cases h : j = 2121 + i
  · subst h
    rw [if_pos rfl, xf_t _ hi]
    show _ = upd v.2.2.1 i x i
    simp [upd]
  · rw [if_neg h]
    unfold xf
    by_cases h2 : j < 2121
    · simp only [h2, if_true]
      rfl
    · by_cases h3 : j < 2128
      · have e : upd v.2.2.1 i x (j - 2121) = v.2.2.1 (j - 2121) := by unfold upd; rw [if_neg (by omega)]
        simp only [show ¬ j < 1280 by omega, show ¬ j < 1320 by omega, show ¬ j < 1576 by omega, show ¬ j < 1832 by omega, show ¬ j < 2088 by omega, show ¬ j < 2104 by omega, show ¬ j < 2120 by omega, h2, h3, if_false, if_true]
        rw [show (x_tal v i x).2.2.1 = upd v.2.2.1 i x from rfl, e]
      · simp only [h3, if_false]
        rfl
theorem xf_ud (v : xV) {i : Nat} (hi : i < 16) (b : Bool) : upd (xf v) (2104 + i) (xb b) = xf (x_drt v i b) := by
  funext j
  unfold upd
  by_cases h : j = 2104 + i
  · subst h
    rw [if_pos rfl, xf_d _ hi]
    show _ = xb (va_up v.2.2.2.2.2.2.2.2.2 i b i)
    rw [va_up_self]
  · rw [if_neg h]
    unfold xf
    by_cases h2 : 2104 ≤ j
    · have e : va_up v.2.2.2.2.2.2.2.2.2 i b (j - 2104) = v.2.2.2.2.2.2.2.2.2 (j - 2104) := va_up_ne _ _ (by omega)
      by_cases h4 : j < 2120
      · simp only [show ¬ j < 1280 by omega, show ¬ j < 1320 by omega, show ¬ j < 1576 by omega, show ¬ j < 1832 by omega, show ¬ j < 2088 by omega, show ¬ j < 2104 by omega, h4, if_false, if_true]
        rw [show (x_drt v i b).2.2.2.2.2.2.2.2.2 = va_up v.2.2.2.2.2.2.2.2.2 i b from rfl, e]
      · simp only [h4, if_false]
        rfl
    · have h3 : j < 2104 := by omega
      simp only [h3, if_true]
      rfl
theorem xf_uo (v : xV) (b : Bool) : upd (xf v) 2120 (xb b) = xf (x_on v b) := by
  funext j
  unfold upd
  by_cases h : j = 2120
  · subst h
    rw [if_pos rfl, xf_o]
    rfl
  · rw [if_neg h]
    unfold xf
    by_cases h2 : j < 2120
    · simp only [h2, if_true]
      rfl
    · have h3 : ¬ j < 2121 := by omega
      simp only [h3, if_false]
      rfl
end XFL
