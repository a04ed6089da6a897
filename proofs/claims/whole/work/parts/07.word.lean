/-! A word: a number, or a pointer (AT, and FROM, TO, RIGHTS); how the class packs it into a long -/
section XW
abbrev xw : Type := Int32 × Option (Nat × Nat × Nat)
def xb (b : Bool) : Int32 := if b = true then 1 else 0
def uI (v : Int32) : Nat := v.toBitVec.toNat
theorem uI_lt (v : Int32) : uI v < 4294967296 := v.toBitVec.isLt
def xw_n (w : xw) : Nat := match w.2 with
  | none => uI w.1
  | some (f, t, r) => uI w.1 + f * 4294967296 + t * 2199023255552 + r * 1125899906842624 + 4503599627370496
def xw_enc (w : xw) : Int64 := lN (xw_n w)
def xw_ok (w : xw) : Prop := match w.2 with
  | none => True
  | some (f, t, r) => f < 512 ∧ t < 512 ∧ r < 4
def xw_p (w : xw) : Bool := w.2.isSome
def xw_f (w : xw) : Nat := match w.2 with
  | none => 0
  | some (f, _, _) => f
def xw_t (w : xw) : Nat := match w.2 with
  | none => 0
  | some (_, t, _) => t
def xw_r (w : xw) : Nat := match w.2 with
  | none => 0
  | some (_, _, r) => r
theorem xw_n_lt {w : xw} (h : xw_ok w) : xw_n w < 2 ^ 53 := by
  obtain ⟨v, o⟩ := w
  have h1 := uI_lt v
  cases o with
  | none => show uI v < 2 ^ 53; omega
  | some q =>
    obtain ⟨f, t, r⟩ := q
    obtain ⟨h2, h3, h4⟩ := h
    show uI v + f * 4294967296 + t * 2199023255552 + r * 1125899906842624 + 4503599627370496 < 2 ^ 53
    omega
theorem xw_parts {w : xw} (h : xw_ok w) : xw_n w % 4294967296 = uI w.1 ∧ xw_n w / 4294967296 % 512 = xw_f w ∧ xw_n w / 2199023255552 % 512 = xw_t w ∧ xw_n w / 1125899906842624 % 4 = xw_r w ∧ (xw_n w / 4503599627370496 = if xw_p w = true then 1 else 0) := by
  obtain ⟨v, o⟩ := w
  have h1 := uI_lt v
  cases o with
  | none =>
    refine ⟨?_, ?_, ?_, ?_, ?_⟩
    · show uI v % 4294967296 = uI v; omega
    · show uI v / 4294967296 % 512 = 0; omega
    · show uI v / 2199023255552 % 512 = 0; omega
    · show uI v / 1125899906842624 % 4 = 0; omega
    · show uI v / 4503599627370496 = 0; omega
  | some q =>
    obtain ⟨f, t, r⟩ := q
    obtain ⟨h2, h3, h4⟩ := h
    have e : xw_n (v, some (f, t, r)) = uI v + f * 4294967296 + t * 2199023255552 + r * 1125899906842624 + 4503599627370496 := rfl
    rw [e]
    refine ⟨?_, ?_, ?_, ?_, ?_⟩
    · show _ = uI v; omega
    · show _ = f; omega
    · show _ = t; omega
    · show _ = r; omega
    · show _ = 1; omega
theorem xw_uN (v : Int32) : uN v.toInt64 % 4294967296 = uI v := by
  show (v.toBitVec.signExtend 64).toNat % 4294967296 = v.toBitVec.toNat
  have hl := v.toBitVec.isLt
  rw [BitVec.toNat_signExtend, BitVec.toNat_setWidth]
  split <;> omega
theorem xw_ofN (v : Int32) : v.toInt64 &&& 4294967295 = xw_enc (v, none) := by
  apply uN_inj
  rw [uN_lo, xw_uN]
  show uI v = (lN (uI v)).toBitVec.toNat
  rw [wb_tn (by have := uI_lt v; omega)]
theorem xw_nI (n : Nat) (v : Int32) (h : n % 4294967296 = uI v) : nI n = v := by
  apply Int32.toBitVec_inj.mp
  apply BitVec.eq_of_toNat_eq
  show (BitVec.ofNat 32 n).toNat = v.toBitVec.toNat
  rw [BitVec.toNat_ofNat]
  exact h
theorem xw_at {w : xw} (h : xw_ok w) : (xw_enc w).toInt32 = w.1 := by
  unfold xw_enc
  rw [lN_i]
  exact xw_nI _ _ (xw_parts h).1
theorem xw_shr {w : xw} (h : xw_ok w) {k : Nat} (hk : k < 64) : ((xw_enc w).toUInt64 >>> ((nI k).toInt64.toUInt64 &&& Int64.toUInt64 63)).toInt64 = lN (xw_n w / 2 ^ k) := wb_shr (Nat.lt_trans (xw_n_lt h) (by decide)) hk
theorem xw_mask {n k : Nat} (m : Int32) (hn : n < 2 ^ 32) (hm : m.toBitVec.toNat = 2 ^ k - 1) : (lN n).toInt32 &&& m = nI (n % 2 ^ k) := by
  rw [lN_i]
  exact pk_andN hn k hm
theorem xw_from {w : xw} (h : xw_ok w) : ((xw_enc w).toUInt64 >>> ((32 : Int32).toInt64.toUInt64 &&& Int64.toUInt64 63)).toInt64.toInt32 &&& 511 = nI (xw_f w) := by
  have e := xw_shr h (k := 32) (by decide)
  have e2 : (32 : Int32) = nI 32 := rfl
  rw [e2, e, xw_mask (k := 9) 511 (by have := xw_n_lt h; omega) (by decide)]
  exact congrArg nI (xw_parts h).2.1
theorem xw_to {w : xw} (h : xw_ok w) : ((xw_enc w).toUInt64 >>> ((41 : Int32).toInt64.toUInt64 &&& Int64.toUInt64 63)).toInt64.toInt32 &&& 511 = nI (xw_t w) := by
  have e := xw_shr h (k := 41) (by decide)
  have e2 : (41 : Int32) = nI 41 := rfl
  rw [e2, e, xw_mask (k := 9) 511 (by have := xw_n_lt h; omega) (by decide)]
  exact congrArg nI (xw_parts h).2.2.1
theorem xw_rights {w : xw} (h : xw_ok w) : ((xw_enc w).toUInt64 >>> ((50 : Int32).toInt64.toUInt64 &&& Int64.toUInt64 63)).toInt64.toInt32 &&& 3 = nI (xw_r w) := by
  have e := xw_shr h (k := 50) (by decide)
  have e2 : (50 : Int32) = nI 50 := rfl
  rw [e2, e, xw_mask (k := 2) 3 (by have := xw_n_lt h; omega) (by decide)]
  exact congrArg nI (xw_parts h).2.2.2.1
theorem xw_isP {w : xw} (h : xw_ok w) : lg_cmp ((xw_enc w).toUInt64 >>> ((52 : Int32).toInt64.toUInt64 &&& Int64.toUInt64 63)).toInt64 0 = 0 ↔ xw_p w = false := by
  have e := xw_shr h (k := 52) (by decide)
  have e2 : (52 : Int32) = nI 52 := rfl
  have e3 := (xw_parts h).2.2.2.2
  rw [e2, e, show (2 : Nat) ^ 52 = 4503599627370496 from by decide, e3]
  cases xw_p w with
  | false => simp [lg_cmp, lN]
  | true => decide
theorem xw_ofP (at_ : Int32) {f t r : Nat} (hf : f < 512) (ht : t < 512) (hr : r < 4) : ((((xw_enc (at_, none)) ||| ((nI f).toInt64 <<< ((32 : Int32).toInt64 &&& 63))) ||| ((nI t).toInt64 <<< ((41 : Int32).toInt64 &&& 63))) ||| ((nI r).toInt64 <<< ((50 : Int32).toInt64 &&& 63))) ||| 4503599627370496 = xw_enc (at_, some (f, t, r)) := by
  have hu := uI_lt at_
  rw [nI_l (n := f) (by omega), nI_l (n := t) (by omega), nI_l (n := r) (by omega)]
  rw [show (32 : Int32) = nI 32 from rfl, show (41 : Int32) = nI 41 from rfl, show (50 : Int32) = nI 50 from rfl, wb_shl f (by decide), wb_shl t (by decide), wb_shl r (by decide)]
  have e0 : xw_enc (at_, none) = lN (uI at_) := rfl
  have e4 : (4503599627370496 : Int64) = lN (1 * 4503599627370496) := rfl
  rw [e0, e4, g_or' (k := 32) rfl (by omega) (by omega), g_or' (k := 41) rfl (by omega) (by omega), g_or' (k := 50) rfl (by omega) (by omega), g_or' (k := 52) (p := 4503599627370496) (by decide) (by omega) (by omega)]
  rfl
def xw_arr (m : Nat → xw) : Nat → Int64 := fun i => xw_enc (m i)
theorem xw_upd (m : Nat → xw) (k : Nat) (w : xw) : vp_updL (xw_arr m) k (xw_enc w) = xw_arr (va_up m k w) := by
  funext j
  by_cases h : j = k
  · subst h; simp [vp_updL, xw_arr, va_up]
  · simp [vp_updL, xw_arr, va_up, h]
theorem x_l2 (x : Int32) : (x.toInt64).toInt = x.toInt := by simp
theorem x_lrange (x : Int32) : -2147483648 ≤ x.toInt ∧ x.toInt < 2147483648 := ⟨x.le_toInt, x.toInt_lt⟩
theorem x_ladd {a b : Int64} (h1 : -4611686018427387904 ≤ a.toInt) (h2 : a.toInt < 4611686018427387904) (h3 : -4611686018427387904 ≤ b.toInt) (h4 : b.toInt < 4611686018427387904) : (a + b).toInt = a.toInt + b.toInt := by
  rw [Int64.toInt_add, Int.bmod_eq_of_le (by omega) (by omega)]
def xw_cov (w : xw) (d n : Int32) : Bool := decide ((xw_f w : Int) ≤ w.1.toInt + d.toInt ∧ w.1.toInt + d.toInt + n.toInt ≤ (xw_t w : Int))
theorem xb_t : xb true = 1 := rfl
theorem xb_f : xb false = 0 := rfl
theorem xb_nar (b : Bool) : narrow .boolean (.int (xb b)) = .int (xb b) := by cases b <;> rfl
theorem xb_0 {b : Bool} : xb b = 0 ↔ b = false := by cases b <;> decide
end XW
section XI
abbrev xt (cI cJ cS : ClassId) : List (ClassId × FieldType) := [(cI, .int), (cJ, .long), (cS, .object RX2)]
def xi (x : Int32) (n : Nat) : Bool := decide (0 ≤ x.toInt ∧ x.toInt < n)
theorem xi_nI {k n : Nat} (h : k < n) (hn : n < 2 ^ 31) : xi (nI k) n = true := by
  unfold xi
  rw [nI_toInt (Nat.lt_trans h hn)]
  exact decide_eq_true ⟨by omega, by omega⟩
theorem xi_lt {x : Int32} {n : Nat} (h : x < 0) : xi x n = false := by
  have := Int32.lt_iff_toInt_lt.mp h
  have e : (0 : Int32).toInt = 0 := rfl
  exact decide_eq_false (by omega)
theorem xi_ge {x N : Int32} {n : Nat} (hN : N.toInt = n) (h : N ≤ x) : xi x n = false := by
  have := Int32.le_iff_toInt_le.mp h
  exact decide_eq_false (by omega)
theorem xi_in {x N : Int32} {n : Nat} (hN : N.toInt = n) (h1 : ¬ x < 0) (h2 : ¬ N ≤ x) : xi x n = true := by
  rw [Int32.lt_iff_toInt_lt] at h1
  rw [Int32.le_iff_toInt_le] at h2
  have e : (0 : Int32).toInt = 0 := rfl
  exact decide_eq_true (by omega)
theorem xi_of {x : Int32} {n : Nat} (h : xi x n = true) : ∃ k, k < n ∧ x = nI k := by
  have h1 := of_decide_eq_true h
  refine ⟨x.toInt.toNat, by omega, ?_⟩
  apply Int32.toInt_inj.mp
  have h2 := x.toInt_lt
  rw [nI_toInt (by omega)]
  omega
theorem xb_p0 {P : Prop} {b : Bool} (h : P ↔ b = false) (c : P) : (0 : Int32) = xb b := by rw [h.mp c]; rfl
theorem xb_p1 {P : Prop} {b : Bool} (h : P ↔ b = false) (c : ¬ P) : (1 : Int32) = xb b := by
  cases b
  · exact absurd (h.mpr rfl) c
  · rfl
theorem xb_q1 {P : Prop} {b : Bool} (h : P ↔ b = true) (c : P) : (1 : Int32) = xb b := by rw [h.mp c]; rfl
theorem xb_q0 {P : Prop} {b : Bool} (h : P ↔ b = true) (c : ¬ P) : (0 : Int32) = xb b := by
  cases b
  · rfl
  · exact absurd (h.mpr rfl) c
theorem xb_1 {b : Bool} (h : b = true) : (1 : Int32) = xb b := by rw [h]; rfl
theorem xb_00 {b : Bool} (h : b = false) : (0 : Int32) = xb b := by rw [h]; rfl
theorem x_shr6 {k : Nat} (h : k < 2 ^ 31) : nI k >>> ((6 : Int32) &&& 31) = nI (k / 64) := pk_shrN h _ 6 (by decide)
theorem x_and63 {k : Nat} (h : k < 2 ^ 31) : nI k &&& 63 = nI (k % 64) := pk_andN (Nat.lt_trans h (by decide)) 6 (by decide)
theorem xw_cov_lt {w : xw} {d n : Int32} (hw : xw_ok w) (c : lg_cmp (w.1.toInt64 + d.toInt64) (nI (xw_f w)).toInt64 < 0) : xw_cov w d n = false := by
  rw [lg_cmp_lt, Int64.lt_iff_toInt_lt, x_ladd (by rw [x_l2]; have := x_lrange w.1; omega) (by rw [x_l2]; have := x_lrange w.1; omega) (by rw [x_l2]; have := x_lrange d; omega) (by rw [x_l2]; have := x_lrange d; omega), x_l2, x_l2, x_l2] at c
  rw [nI_toInt (by have h := (xw_parts hw).2.1; omega)] at c
  exact decide_eq_false (by omega)
theorem xw_cov_gt {w : xw} {d n : Int32} (hw : xw_ok w) (c : 0 < lg_cmp (w.1.toInt64 + d.toInt64 + n.toInt64) (nI (xw_t w)).toInt64) : xw_cov w d n = false := by
  have r1 := x_lrange w.1
  have r2 := x_lrange d
  have r3 := x_lrange n
  have e1 : (w.1.toInt64 + d.toInt64).toInt = w.1.toInt + d.toInt := by rw [x_ladd (by rw [x_l2]; omega) (by rw [x_l2]; omega) (by rw [x_l2]; omega) (by rw [x_l2]; omega), x_l2, x_l2]
  rw [lg_cmp_gt, Int64.lt_iff_toInt_lt, x_ladd (by rw [e1]; omega) (by rw [e1]; omega) (by rw [x_l2]; omega) (by rw [x_l2]; omega), e1, x_l2, x_l2] at c
  rw [nI_toInt (by have h := (xw_parts hw).2.2.1; omega)] at c
  exact decide_eq_false (by omega)
theorem xw_cov_in {w : xw} {d n : Int32} (hw : xw_ok w) (c : ¬ lg_cmp (w.1.toInt64 + d.toInt64) (nI (xw_f w)).toInt64 < 0) (c2 : ¬ 0 < lg_cmp (w.1.toInt64 + d.toInt64 + n.toInt64) (nI (xw_t w)).toInt64) : xw_cov w d n = true := by
  have r1 := x_lrange w.1
  have r2 := x_lrange d
  have r3 := x_lrange n
  have e1 : (w.1.toInt64 + d.toInt64).toInt = w.1.toInt + d.toInt := by rw [x_ladd (by rw [x_l2]; omega) (by rw [x_l2]; omega) (by rw [x_l2]; omega) (by rw [x_l2]; omega), x_l2, x_l2]
  rw [lg_cmp_gt, Int64.lt_iff_toInt_lt, x_ladd (by rw [e1]; omega) (by rw [e1]; omega) (by rw [x_l2]; omega) (by rw [x_l2]; omega), e1, x_l2, x_l2] at c2
  rw [lg_cmp_lt, Int64.lt_iff_toInt_lt, e1, x_l2] at c
  rw [nI_toInt (by have h := (xw_parts hw).2.1; omega)] at c
  rw [nI_toInt (by have h := (xw_parts hw).2.2.1; omega)] at c2
  exact decide_eq_true (by omega)
end XI
