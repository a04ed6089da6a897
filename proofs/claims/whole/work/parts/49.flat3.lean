section XFL3
def x_swx (v : xV) (i : Nat) : xV := (v.1, v.2.1, v.2.2.1, v.2.2.2.1, v.2.2.2.2.1, fun k => if k < i then decide (xu v.2.2.2.1 v.2.2.2.2.1 k = 2) else v.2.2.2.2.2.1 k, v.2.2.2.2.2.2.1, v.2.2.2.2.2.2.2.1, v.2.2.2.2.2.2.2.2.1, v.2.2.2.2.2.2.2.2.2)
theorem x_swx_0 (v : xV) : x_swx v 0 = v := by
  have e : (fun k => if k < 0 then decide (xu v.2.2.2.1 v.2.2.2.2.1 k = 2) else v.2.2.2.2.2.1 k) = v.2.2.2.2.2.1 := by funext k; rw [if_neg (by omega)]
  unfold x_swx
  rw [e]
theorem x_swx_up (v : xV) (i : Nat) (b : Bool) (h : decide (xu v.2.2.2.1 v.2.2.2.2.1 i = 2) = b) : x_dom (x_swx v i) i b = x_swx v (i + 1) := by
  have e : va_up (fun k => if k < i then decide (xu v.2.2.2.1 v.2.2.2.2.1 k = 2) else v.2.2.2.2.2.1 k) i b = (fun k => if k < i + 1 then decide (xu v.2.2.2.1 v.2.2.2.2.1 k = 2) else v.2.2.2.2.2.1 k) := by
    funext k
    by_cases hk : k = i
    · subst hk; simp only [va_up, if_true]; rw [if_pos (by omega), h]
    · simp only [va_up, hk, if_false]
      by_cases h2 : k < i
      · rw [if_pos h2, if_pos (by omega)]
      · rw [if_neg h2, if_neg (by omega)]
  show (v.1, v.2.1, v.2.2.1, v.2.2.2.1, v.2.2.2.2.1, va_up (fun k => if k < i then decide (xu v.2.2.2.1 v.2.2.2.2.1 k = 2) else v.2.2.2.2.2.1 k) i b, v.2.2.2.2.2.2.1, v.2.2.2.2.2.2.2.1, v.2.2.2.2.2.2.2.2.1, v.2.2.2.2.2.2.2.2.2) = _
  rw [e]
  rfl
theorem m_use2 {G Q : Nat → Bool} (h : ∀ k, G k = true → Q k = false) (k : Nat) : decide (xu G Q k = 2) = Q k := by
  unfold xu
  cases hg : G k with
  | true => rw [if_pos rfl, h k hg]; rfl
  | false =>
    rw [if_neg (by decide)]
    cases Q k <;> rfl
theorem m_use1 (G Q : Nat → Bool) (k : Nat) : decide (xu G Q k = 1) = G k := by
  unfold xu
  cases G k with
  | true => rfl
  | false => cases Q k <;> rfl
theorem m_swp (v : xV) (h : ∀ k, v.2.2.2.1 k = true → v.2.2.2.2.1 k = false) : xf (x_on (x_swx v 256) true) = xf (x_swp v) := by
  refine xf_congr (fun _ _ => rfl) (fun _ _ => rfl) (fun _ _ => rfl) (fun _ _ => rfl) (fun k hk => ?_) (fun _ _ => rfl) rfl (fun _ _ => rfl) (fun _ _ => rfl)
  show (if k < 256 then decide (xu v.2.2.2.1 v.2.2.2.2.1 k = 2) else v.2.2.2.2.2.1 k) = v.2.2.2.2.1 k
  rw [if_pos hk, m_use2 h]
theorem m_swn (v : xV) (h : ∀ k, v.2.2.2.1 k = true → v.2.2.2.2.1 k = false) : x_acc (fun k => xb (decide (xu v.2.2.2.1 v.2.2.2.2.1 k = 2))) 0 256 = nI (xs_w v.2.2.2.2.1 0 256) := by
  rw [x_acc_congr (g := fun k => xb (v.2.2.2.2.1 k)) 0 256 (fun k _ _ => by rw [m_use2 h])]
  exact x_acc_w v.2.2.2.2.1 0 256 (by decide)
theorem xb_n1 {b : Bool} (h : ¬ xb b = 1) : b = false := by
  cases b
  · rfl
  · exact absurd rfl h
end XFL3
