/-! The reference's flat picture of a state -/
section XM
def xin (x lo hi : Int64) : Bool := decide (lo ≤ x ∧ x ≤ hi)
theorem xin_lt {x lo hi : Int64} (c : lg_cmp x lo < 0) : xin x lo hi = false := by
  rw [lg_cmp_lt] at c
  exact decide_eq_false (fun q => absurd q.1 (Int64.not_le.mpr c))
theorem xin_gt {x lo hi : Int64} (c : 0 < lg_cmp x hi) : xin x lo hi = false := by
  rw [lg_cmp_gt] at c
  exact decide_eq_false (fun q => absurd q.2 (Int64.not_le.mpr c))
theorem xin_in {x lo hi : Int64} (c : ¬ lg_cmp x lo < 0) (c2 : ¬ 0 < lg_cmp x hi) : xin x lo hi = true := by
  rw [lg_cmp_lt] at c
  rw [lg_cmp_gt] at c2
  exact decide_eq_true ⟨Int64.not_lt.mp c, Int64.not_lt.mp c2⟩
theorem xin_i (x : Int32) (lo hi : Int64) : xin x.toInt64 lo hi = decide (lo.toInt ≤ x.toInt ∧ x.toInt ≤ hi.toInt) := by
  unfold xin
  simp only [Int64.le_iff_toInt_le, x_l2]
theorem xin_xi (x : Int32) {hi : Int64} {n : Nat} (hh : hi.toInt + 1 = n) : xin x.toInt64 0 hi = xi x n := by
  rw [xin_i]
  unfold xi
  have e : (0 : Int64).toInt = 0 := rfl
  apply Bool.eq_iff_iff.mpr
  simp only [decide_eq_true_eq]
  omega
def wc (w : xw) (k : Nat) : Int32 := match k with
  | 0 => xb (xw_p w)
  | 1 => w.1
  | 2 => nI (xw_f w)
  | 3 => nI (xw_t w)
  | _ => nI (xw_r w)
def x_fi (G F : Nat → Bool) (i : Nat) : Int32 := if G i = true then nI (x_rf F i) else -4
def u5 (f : Nat → Int32) (k : Nat) (a0 a1 a2 a3 a4 : Int32) : Nat → Int32 := upd (upd (upd (upd (upd f k a0) (k + 1) a1) (k + 2) a2) (k + 3) a3) (k + 4) a4
/-- the first n of f, then g -/
def x_cp (f g : Nat → Int32) (n : Nat) : Nat → Int32 := fun j => if j < n then f j else g j
theorem x_cp_0 (f g : Nat → Int32) : x_cp f g 0 = g := by funext j; simp [x_cp]
theorem x_cp_s (f g : Nat → Int32) (n : Nat) : upd (x_cp f g n) n (f n) = x_cp f g (n + 1) := by
  funext j
  by_cases h : j = n
  · subst h; simp [upd, x_cp]
  · by_cases h2 : j < n
    · simp [upd, x_cp, h, h2, show j < n + 1 by omega]
    · simp [upd, x_cp, h, h2, show ¬ j < n + 1 by omega]
theorem x_cp_all (f g : Nat → Int32) (n j : Nat) (h : j < n) : x_cp f g n j = f j := by simp [x_cp, h]
/-- g with n of f from a on -/
def x_pt5 (f g : Nat → Int32) (a n : Nat) : Nat → Int32 := fun j => if a ≤ j ∧ j < a + n then f (j - a) else g j
theorem x_pt5_0 (f g : Nat → Int32) (a : Nat) : x_pt5 f g a 0 = g := by
  funext j
  simp only [x_pt5]
  rw [if_neg (by omega)]
theorem x_pt5_s (f g : Nat → Int32) (a n : Nat) : upd (x_pt5 f g a n) (a + n) (f n) = x_pt5 f g a (n + 1) := by
  funext j
  by_cases h : j = a + n
  · subst h
    simp only [upd, x_pt5, if_true]
    rw [if_pos (by omega), show a + n - a = n by omega]
  · simp only [upd, x_pt5, h, if_false]
    by_cases h2 : a ≤ j ∧ j < a + n
    · rw [if_pos h2, if_pos (by omega)]
    · rw [if_neg h2, if_neg (by omega)]
def x_sh (g : Nat → Int32) (n : Nat) : Nat → Int32 := fun j => if j < n then g (j + 2128) else g j
theorem x_sh_0 (g : Nat → Int32) : x_sh g 0 = g := by funext j; simp [x_sh]
theorem x_sh_s (g : Nat → Int32) (n : Nat) : upd (x_sh g n) n (x_sh g n (n + 2128)) = x_sh g (n + 1) := by
  funext j
  by_cases h : j = n
  · subst h
    simp only [upd, x_sh, if_true]
    rw [if_neg (by omega), if_pos (by omega)]
  · simp only [upd, x_sh, h, if_false]
    by_cases h2 : j < n
    · rw [if_pos h2, if_pos (by omega)]
    · rw [if_neg h2, if_neg (by omega)]
def x_any (g : Nat → Bool) (a : Nat) : Nat → Bool
  | 0 => false
  | n + 1 => x_any g a n || g (a + n)
theorem x_any_s (g : Nat → Bool) {a i : Nat} (h : a ≤ i) : (x_any g a (i - a) || g i) = x_any g a (i + 1 - a) := by
  have e : i + 1 - a = (i - a) + 1 := by omega
  rw [e]
  show _ = (x_any g a (i - a) || g (a + (i - a)))
  rw [show a + (i - a) = i by omega]
theorem m_reg {k : Nat} : (1280 : Int32) + 5 * nI k = nI (1280 + 5 * k) := by
  rw [show (1280 : Int32) = nI 1280 from rfl, show (5 : Int32) = nI 5 from rfl, pk_mul, nI_add]
end XM
