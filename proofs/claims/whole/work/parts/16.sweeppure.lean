/-! The sweeper, as functions -/
section XSW
/-- behind the dirty pages below i -/
def x_dm (X : Nat → Bool) (dy : Nat → Bool) (f : Nat → xw) (i : Nat) : Nat → xw := fun k => if k < 16 * i ∧ dy (k / 16) = true then x_lk X (f k) else f k
def x_dc (X : Nat → Bool) (dy : Nat → Bool) (f : Nat → xw) : Nat → Int32
  | 0 => 0
  | i + 1 => if dy i = true then x_dc X dy f i + x_cn X f (16 * i) (16 * i + 16) else x_dc X dy f i
def x_dp (dy : Nat → Bool) : Nat → Int32
  | 0 => 0
  | i + 1 => if dy i = true then x_dp dy i + 1 else x_dp dy i
def x_dt (X : Nat → Bool) (dy : Nat → Bool) (f : Nat → xw) (tal : Nat → Int32) (i : Nat) : Nat → Int32 := upd (upd tal 1 (tal 1 + x_dc X dy f i)) 5 (tal 5 + x_dp dy i)
theorem x_dm_0 (X dy : Nat → Bool) (f : Nat → xw) : x_dm X dy f 0 = f := by
  funext k
  simp only [x_dm]
  rw [if_neg (by omega)]
theorem x_dt_0 (X dy : Nat → Bool) (f : Nat → xw) (tal : Nat → Int32) : x_dt X dy f tal 0 = tal := by
  funext k
  simp only [x_dt, x_dc, x_dp, upd, Int32.add_zero]
  by_cases h : k = 5
  · subst h; simp
  · by_cases h1 : k = 1
    · subst h1; simp
    · simp [h, h1]
theorem x_dm_n {X dy : Nat → Bool} (f : Nat → xw) {i : Nat} (h : xb (dy i) = 0) : x_dm X dy f (i + 1) = x_dm X dy f i := by
  funext k
  simp only [x_dm]
  by_cases h1 : k < 16 * i
  · by_cases h2 : dy (k / 16) = true
    · rw [if_pos ⟨by omega, h2⟩, if_pos ⟨h1, h2⟩]
    · rw [if_neg (fun q => h2 q.2), if_neg (fun q => h2 q.2)]
  · rw [if_neg (c := k < 16 * i ∧ dy (k / 16) = true) (fun q => h1 q.1)]
    rw [if_neg]
    intro q
    have : k / 16 = i := by omega
    rw [this, xb_eq h] at q
    exact absurd q.2 (by decide)
theorem x_dt_n {X dy : Nat → Bool} (f : Nat → xw) (tal : Nat → Int32) {i : Nat} (h : xb (dy i) = 0) : x_dt X dy f tal (i + 1) = x_dt X dy f tal i := by
  have h2 : ¬ dy i = true := by rw [xb_eq h]; decide
  unfold x_dt
  rw [show x_dc X dy f (i + 1) = x_dc X dy f i from if_neg h2, show x_dp dy (i + 1) = x_dp dy i from if_neg h2]
theorem x_dm_y {X dy : Nat → Bool} (f : Nat → xw) {i : Nat} (h : ¬ xb (dy i) = 0) : x_cl X (x_dm X dy f i) (16 * i) (16 * i + 16) = x_dm X dy f (i + 1) := by
  have h2 := xb_ne h
  funext k
  simp only [x_dm, x_cl]
  by_cases h1 : 16 * i ≤ k ∧ k < 16 * i + 16
  · have e : k / 16 = i := by omega
    rw [if_pos h1, if_neg (by omega), if_pos ⟨by omega, by rw [e]; exact h2⟩]
  · rw [if_neg h1]
    by_cases h3 : k < 16 * i ∧ dy (k / 16) = true
    · rw [if_pos h3, if_pos ⟨by omega, h3.2⟩]
    · rw [if_neg h3, if_neg (fun q => h3 ⟨by omega, q.2⟩)]
theorem x_dm_c {X dy : Nat → Bool} (f : Nat → xw) (i : Nat) : x_cn X (x_dm X dy f i) (16 * i) (16 * i + 16) = x_cn X f (16 * i) (16 * i + 16) := by
  unfold x_cn
  apply x_acc_congr
  intro k h1 h2
  simp only [x_dm]
  rw [if_neg (by omega)]
theorem x_dt_y {X dy : Nat → Bool} (f : Nat → xw) (tal : Nat → Int32) {i : Nat} (h : ¬ xb (dy i) = 0) :
    upd (upd (x_dt X dy f tal i) 1 (x_dt X dy f tal i 1 + x_cn X (x_dm X dy f i) (16 * i) (16 * i + 16))) 5 (upd (x_dt X dy f tal i) 1 (x_dt X dy f tal i 1 + x_cn X (x_dm X dy f i) (16 * i) (16 * i + 16)) 5 + 1) = x_dt X dy f tal (i + 1) := by
  have h2 := xb_ne h
  rw [x_dm_c]
  have e1 : x_dc X dy f (i + 1) = x_dc X dy f i + x_cn X f (16 * i) (16 * i + 16) := if_pos h2
  have e2 : x_dp dy (i + 1) = x_dp dy i + 1 := if_pos h2
  funext k
  simp only [x_dt, upd, e1, e2]
  by_cases h5 : k = 5
  · subst h5; simp [Int32.add_assoc]
  · by_cases h1 : k = 1
    · subst h1; simp [Int32.add_assoc]
    · simp [h5, h1]
theorem x_dm_ok {X dy : Nat → Bool} {f : Nat → xw} (h : ∀ k, xw_ok (f k)) (i k : Nat) : xw_ok (x_dm X dy f i k) := by
  simp only [x_dm]
  split
  · exact x_lk_ok (h k)
  · exact h k
def x_stop (seen n : Nat) : Nat := min 16 (seen + n)
theorem x_stop_min {seen n : Nat} (hs : seen ≤ 16) (hn : n ≤ 16) : (if nI seen + nI n < 16 then nI seen + nI n else 16) = nI (x_stop seen n) := by
  rw [nI_add]
  unfold x_stop
  by_cases h : seen + n < 16
  · rw [if_pos (show nI (seen + n) < 16 from nI_lt (b := 16) h (by decide)), Nat.min_eq_right (by omega)]
  · rw [if_neg (show ¬ nI (seen + n) < 16 from nI_nlt (b := 16) (by omega) (by omega)), Nat.min_eq_left (by omega)]
    rfl
/-- what THE END does to the tallies -/
def x_et (X dy : Nat → Bool) (f g : Nat → xw) (tal : Nat → Int32) : Nat → Int32 :=
  upd (upd (x_dt X dy f tal 16) 2 (x_dt X dy f tal 16 2 + x_cn X g 0 8)) 6 (upd (x_dt X dy f tal 16) 2 (x_dt X dy f tal 16 2 + x_cn X g 0 8) 6 + 1)
/-- what STEPS do to the tallies -/
def x_pt (X : Nat → Bool) (f : Nat → xw) (seen n : Nat) (tal : Nat → Int32) : Nat → Int32 :=
  upd (upd tal 4 (tal 4 + (nI (x_stop seen n) - nI seen))) 0 (upd tal 4 (tal 4 + (nI (x_stop seen n) - nI seen)) 0 + x_cn X f (16 * seen) (16 * x_stop seen n))
end XSW
