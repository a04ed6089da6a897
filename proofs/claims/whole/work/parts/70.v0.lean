/-! The state at the start, on both sides -/
section XV0
def x_v0 : xV := (fun _ => (0, none), fun _ => (0, none), fun _ => 0, fun _ => false, fun _ => false, fun _ => false, fun _ => false, false, 0, fun _ => false)
theorem x_v0_w : xw_arr (fun _ => ((0 : Int32), (none : Option (Nat × Nat × Nat)))) = fun _ => (0 : Int64) := by
  funext i
  show lN (uI 0) = 0
  rfl
theorem x_v0_n (b : Nat) : ∀ n, xs_n (fun _ => false) b n = 0
  | 0 => rfl
  | n + 1 => by
    show xs_n (fun _ => false) b n + (if (false : Bool) = true then 2 ^ n else 0) = 0
    rw [x_v0_n b n]
    rfl
theorem x_v0_r : xs_rows (fun _ => false) = fun _ => (0 : Int64) := by
  funext j
  show lN (xs_n (fun _ => false) (64 * j) 64) = 0
  rw [x_v0_n]
  rfl
theorem x_v0_d : xd (fun _ => false) = 0 := by
  show nI (xs_n (fun _ => false) 0 16) = 0
  rw [x_v0_n]
  rfl
theorem x_v0_st (cI cJ : ClassId) (ad : Nat → Nat) : xst cI cJ ad x_v0 = [((ad 0), .inr (2, [.ref (ad 1), .ref (ad 2), .ref (ad 3), .ref (ad 4), .ref (ad 6), .ref (ad 8), .ref (ad 10), .int 0, .int 0, .int 0])), ((ad 1), .inl (cJ, 256, .inr (.inl (fun _ => 0)))), ((ad 2), .inl (cJ, 8, .inr (.inl (fun _ => 0)))), ((ad 3), .inl (cI, 7, .inl (fun _ => 0))), ((ad 4), .inr (0, [.ref (ad 5)])), ((ad 5), .inl (cJ, 4, .inr (.inl (fun _ => 0)))), ((ad 6), .inr (0, [.ref (ad 7)])), ((ad 7), .inl (cJ, 4, .inr (.inl (fun _ => 0)))), ((ad 8), .inr (0, [.ref (ad 9)])), ((ad 9), .inl (cJ, 4, .inr (.inl (fun _ => 0)))), ((ad 10), .inr (0, [.ref (ad 11)])), ((ad 11), .inl (cJ, 4, .inr (.inl (fun _ => 0))))] := by
  unfold xst x_v0
  dsimp only
  rw [x_v0_w, x_v0_r, x_v0_d]
  rfl
/-- the pool while History's constructor makes it -/
theorem xpl_upa (cI cJ : ClassId) (ads : Nat → Nat → Nat) (vs : Nat → xV) (k : Nat) (f : Nat → Nat) : ∀ n, n ≤ k → xpl cI cJ (va_up ads k f) vs n = xpl cI cJ ads vs n
  | 0, _ => rfl
  | n + 1, h => by
    show xpl cI cJ (va_up ads k f) vs n ++ xst cI cJ (va_up ads k f n) (vs n) = _
    rw [xpl_upa cI cJ ads vs k f n (by omega), va_up_ne ads f (by omega)]
    rfl
def x_fk (ads : Nat → Nat → Nat) (i : Nat) : Nat → Option Nat := fun k => if k < i then some (ads k 0) else none
theorem x_fk_0 (ads : Nat → Nat → Nat) : (fun _ => none : Nat → Option Nat) = x_fk ads 0 := by
  funext k
  unfold x_fk
  rw [if_neg (by omega)]
theorem x_fk_s (ads : Nat → Nat → Nat) (i : Nat) (f : Nat → Nat) : va_up (x_fk ads i) i (some (f 0)) = x_fk (va_up ads i f) (i + 1) := by
  funext k
  unfold x_fk
  by_cases h : k = i
  · subst h
    rw [va_up_self, va_up_self, if_pos (by omega)]
  · rw [va_up_ne _ _ h, va_up_ne _ _ h]
    by_cases h2 : k < i
    · rw [if_pos h2, if_pos (by omega)]
    · rw [if_neg h2, if_neg (by omega)]
theorem x_fk_at (ads : Nat → Nat → Nat) (n : Nat) : ∀ i, i < n → x_fk ads n i = some (ads i 0) := fun i h => by
  unfold x_fk
  rw [if_pos h]
end XV0
