/-! The reference's world; single writes as states -/
section XM4
def xm (cI : ClassId) (m0 ms mb mw mm : Nat) (v : xV) (b w mi : Nat → Int32) (kp : Nat) : va_W := [(m0, .inr (4, [.ref ms, .ref mb, .int (nI kp), .ref mw, .ref mm])), (ms, .inl (cI, 2128, .inl (xf v))), (mb, .inl (cI, 2128, .inl b)), (mw, .inl (cI, 51072, .inl w)), (mm, .inl (cI, 320, .inl mi))]
def xmo (cI : ClassId) (m0 ms mb mw mm : Nat) (v : xV) (b w mi : Nat → Int32) (kp : Nat) (o : Option xV) : va_W := match o with
  | none => xm cI m0 ms mb mw mm v b w mi kp
  | some v' => xm cI m0 ms mb mw mm v' (xf v) (m_was (xf v) w kp) mi (m_kp kp)
theorem m_num (v : xV) {r : Nat} (hr : r < 8) (x : Int32) : u5 (xf v) (1280 + 5 * r) 0 x 0 0 0 = xf (x_reg v r (x, none)) := xf_ur v hr (x, none)
theorem m_ptr (v : xV) {r : Nat} (hr : r < 8) (x : Int32) (f t g : Nat) : u5 (xf v) (1280 + 5 * r) 1 x (nI f) (nI t) (nI g) = xf (x_reg v r (x, some (f, t, g))) := xf_ur v hr (x, some (f, t, g))
theorem u5_id (f : Nat → Int32) (k : Nat) (x : Int32) : upd f (k + 1) x = u5 f k (f k) x (f (k + 2)) (f (k + 3)) (f (k + 4)) := by
  funext j
  unfold u5 upd
  by_cases h4 : j = k + 4
  · subst h4; simp
  · by_cases h3 : j = k + 3
    · subst h3; simp
    · by_cases h2 : j = k + 2
      · subst h2; simp
      · by_cases h1 : j = k + 1
        · subst h1; simp
        · by_cases h0 : j = k
          · subst h0; simp
          · simp [h0, h1, h2, h3, h4]
theorem m_mov (v : xV) {r : Nat} (hr : r < 8) (hp : xw_p (v.2.1 r) = true) (x : Int32) : upd (xf v) (1280 + 5 * r + 1) x = xf (x_reg v r (x, some (xw_f (v.2.1 r), xw_t (v.2.1 r), xw_r (v.2.1 r)))) := by
  have e0 : xf v (1280 + 5 * r) = wc (v.2.1 r) 0 := xf_r v hr (k := 0) (by decide)
  rw [u5_id, e0, xf_r v hr (by decide), xf_r v hr (by decide), xf_r v hr (by decide), ← xf_ur v hr]
  show u5 (xf v) (1280 + 5 * r) (xb (xw_p (v.2.1 r))) x _ _ _ = _
  rw [hp]
  rfl
theorem m_lay (v : xV) (k : Nat) (w : xw) : x_ldy (x_mem v k w) k = x_lay v k w := by
  unfold x_ldy
  rw [show (x_mem v k w).1 k = w from va_up_self v.1 k w]
  rfl
theorem m_nc1 {w : xw} {n : Int32} (hw : xw_ok w) (c : w.1 < nI (xw_f w)) : xw_cov w 0 n = false := by
  rw [Int32.lt_iff_toInt_lt, nI_toInt (by have := xw_f_le hw; omega)] at c
  have e0 : (0 : Int32).toInt = 0 := rfl
  exact decide_eq_false (by omega)
theorem m_nc2 {w : xw} {n : Int32} (hw : xw_ok w) (c : 0 < lg_cmp (w.1.toInt64 + n.toInt64) (nI (xw_t w)).toInt64) : xw_cov w 0 n = false := by
  have r1 := x_lrange w.1
  have r3 := x_lrange n
  rw [lg_cmp_gt, Int64.lt_iff_toInt_lt, x_ladd (by rw [x_l2]; omega) (by rw [x_l2]; omega) (by rw [x_l2]; omega) (by rw [x_l2]; omega), x_l2, x_l2, x_l2, nI_toInt (by have := xw_t_le hw; omega)] at c
  have e0 : (0 : Int32).toInt = 0 := rfl
  exact decide_eq_false (by omega)
theorem m_nc3 {w : xw} {n : Int32} (hw : xw_ok w) (c : ¬ w.1 < nI (xw_f w)) (c2 : ¬ 0 < lg_cmp (w.1.toInt64 + n.toInt64) (nI (xw_t w)).toInt64) : xw_cov w 0 n = true := by
  have r1 := x_lrange w.1
  have r3 := x_lrange n
  rw [Int32.lt_iff_toInt_lt, nI_toInt (by have := xw_f_le hw; omega)] at c
  rw [lg_cmp_gt, Int64.lt_iff_toInt_lt, x_ladd (by rw [x_l2]; omega) (by rw [x_l2]; omega) (by rw [x_l2]; omega) (by rw [x_l2]; omega), x_l2, x_l2, x_l2, nI_toInt (by have := xw_t_le hw; omega)] at c2
  have e0 : (0 : Int32).toInt = 0 := rfl
  exact decide_eq_true (by omega)
theorem m_k4 {k : Int32} : xin k.toInt64 0 3 = true ↔ (¬ k < 0 ∧ k ≤ 3) := by
  rw [xin_i]
  have e0 : (0 : Int64).toInt = 0 := rfl
  have e3 : (3 : Int64).toInt = 3 := rfl
  have e : (0 : Int32).toInt = 0 := rfl
  have e' : (3 : Int32).toInt = 3 := rfl
  rw [decide_eq_true_eq, Int32.lt_iff_toInt_lt, Int32.le_iff_toInt_le]
  omega
theorem m_1n {n : Int32} {hi : Int64} {M : Int32} (hM : hi.toInt = M.toInt) : xin n.toInt64 1 hi = true ↔ (¬ n < 1 ∧ n ≤ M) := by
  rw [xin_i]
  have e0 : (1 : Int64).toInt = 1 := rfl
  have e : (1 : Int32).toInt = 1 := rfl
  rw [decide_eq_true_eq, Int32.lt_iff_toInt_lt, Int32.le_iff_toInt_le]
  omega
end XM4
