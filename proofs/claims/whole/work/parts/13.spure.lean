/-! What the methods of State do, as functions of what its cells hold -/
section XST
def xu (G Q : Nat → Bool) (k : Nat) : Int32 := if G k = true then 1 else if Q k = true then 2 else 0
theorem xb_ne {b : Bool} (h : ¬ xb b = 0) : b = true := by
  cases b
  · exact absurd rfl h
  · rfl
theorem xb_eq {b : Bool} (h : xb b = 0) : b = false := xb_0.mp h
theorem xu_1 {G Q : Nat → Bool} {k : Nat} (h : ¬ xb (G k) = 0) : (1 : Int32) = xu G Q k := by unfold xu; rw [if_pos (xb_ne h)]
theorem xu_2 {G Q : Nat → Bool} {k : Nat} (h : xb (G k) = 0) (h2 : ¬ xb (Q k) = 0) : (2 : Int32) = xu G Q k := by unfold xu; rw [if_neg (by rw [xb_eq h]; decide), if_pos (xb_ne h2)]
theorem xu_0 {G Q : Nat → Bool} {k : Nat} (h : xb (G k) = 0) (h2 : xb (Q k) = 0) : (0 : Int32) = xu G Q k := by unfold xu; rw [if_neg (by rw [xb_eq h]; decide), if_neg (by rw [xb_eq h2]; decide)]
/-- the first row of n free cells, from cell c on, m cells being left, free of them before it -/
def x_ffr (u : Nat → Int32) (n : Int32) : Nat → Nat → Int32 → Int32
  | 0, _, _ => -1
  | m + 1, c, fr => if (if u c = 0 then fr + 1 else 0) = n then nI c - n + 1 else x_ffr u n m (c + 1) (if u c = 0 then fr + 1 else 0)
def x_add (G : Nat → Bool) (a b : Nat) : Nat → Bool := fun k => G k || (decide (a ≤ k) && decide (k < b))
def x_sub (G : Nat → Bool) (a b : Nat) : Nat → Bool := fun k => G k && !(decide (a ≤ k) && decide (k < b))
def x_clr (f : Nat → xw) (a b : Nat) : Nat → xw := fun k => if a ≤ k ∧ k < b then (0, none) else f k
theorem x_add_0 (G : Nat → Bool) (a : Nat) : x_add G a a = G := by
  funext k
  simp only [x_add]
  by_cases h : a ≤ k
  · simp [show ¬ k < a by omega]
  · simp [h]
theorem x_sub_0 (G : Nat → Bool) (a : Nat) : x_sub G a a = G := by
  funext k
  simp only [x_sub]
  by_cases h : a ≤ k
  · simp [show ¬ k < a by omega]
  · simp [h]
theorem x_clr_0 (f : Nat → xw) (a : Nat) : x_clr f a a = f := by
  funext k
  simp only [x_clr]
  rw [if_neg (by omega)]
theorem x_add_s (G : Nat → Bool) {a i : Nat} (h : a ≤ i) : va_up (x_add G a i) i true = x_add G a (i + 1) := by
  funext k
  by_cases hk : k = i
  · subst hk; simp [va_up, x_add, h]
  · simp only [va_up, x_add, hk, if_false]
    congr 2
    by_cases h2 : k < i
    · simp [h2, show k < i + 1 by omega]
    · simp [h2, show ¬ k < i + 1 by omega]
theorem x_sub_s (G : Nat → Bool) {a i : Nat} (h : a ≤ i) : va_up (x_sub G a i) i false = x_sub G a (i + 1) := by
  funext k
  by_cases hk : k = i
  · subst hk; simp [va_up, x_sub, h]
  · simp only [va_up, x_sub, hk, if_false]
    congr 3
    by_cases h2 : k < i
    · simp [h2, show k < i + 1 by omega]
    · simp [h2, show ¬ k < i + 1 by omega]
theorem x_clr_s (f : Nat → xw) {a i : Nat} (h : a ≤ i) : va_up (x_clr f a i) i (0, none) = x_clr f a (i + 1) := by
  funext k
  by_cases hk : k = i
  · subst hk; simp [va_up, x_clr, h]
  · simp only [va_up, x_clr, hk, if_false]
    by_cases h2 : a ≤ k ∧ k < i
    · rw [if_pos h2, if_pos (by omega)]
    · rw [if_neg h2, if_neg (by omega)]
def x_rf (F : Nat → Bool) : Nat → Nat
  | 0 => 0
  | k + 1 => if F (k + 1) = true then k + 1 else x_rf F k
def x_rt (G F : Nat → Bool) : Nat → Nat → Nat
  | 0, t => t
  | m + 1, t => if G t = true ∧ F t = false then x_rt G F m (t + 1) else t
theorem x_rt_le (G F : Nat → Bool) : ∀ m t, x_rt G F m t ≤ t + m
  | 0, t => Nat.le_refl _
  | m + 1, t => by
    have := x_rt_le G F m (t + 1)
    show (if G t = true ∧ F t = false then x_rt G F m (t + 1) else t) ≤ _
    split <;> omega
theorem x_rf_le (F : Nat → Bool) : ∀ k, x_rf F k ≤ k
  | 0 => Nat.le_refl _
  | k + 1 => by
    have := x_rf_le F k
    show (if F (k + 1) = true then k + 1 else x_rf F k) ≤ _
    split <;> omega
def x_acc (f : Nat → Int32) (a : Nat) : Nat → Int32
  | 0 => 0
  | n + 1 => x_acc f a n + f (a + n)
def xd (dy : Nat → Bool) : Int32 := nI (xs_n dy 0 16)
theorem xd_is (dy : Nat → Bool) {k : Nat} (hk : k < 16) : (xd dy >>> (nI k &&& 31)) &&& 1 = 0 ↔ dy k = false := by
  have hl := xs_n_lt dy 0 16
  have e1 : nI (xs_n dy 0 16) >>> (nI k &&& 31) = nI (xs_n dy 0 16 / 2 ^ k) := pk_shrN (by omega) _ k (s_l k (by omega))
  have h2 : xs_n dy 0 16 / 2 ^ k < 2 ^ 32 := Nat.lt_of_le_of_lt (Nat.div_le_self _ _) (by omega)
  unfold xd
  rw [e1, pk_andN h2 1 (by decide)]
  have h3 : xs_n dy 0 16 / 2 ^ k % 2 ^ 1 = ((xs_n dy 0 16).testBit k).toNat := by
    rw [Nat.pow_one, Nat.testBit_eq_decide_div_mod_eq]
    rcases Nat.mod_two_eq_zero_or_one (xs_n dy 0 16 / 2 ^ k) with h | h <;> simp [h]
  rw [h3, xs_n_bit]
  simp only [hk, decide_true, Bool.true_and, Nat.zero_add]
  cases dy k <;> decide
theorem xd_add (dy : Nat → Bool) {k : Nat} (hk : k < 16) : xd dy ||| (1 <<< (nI k &&& 31)) = xd (va_up dy k true) := by
  have hl := xs_n_lt dy 0 16
  have e1 : (1 : Int32) <<< (nI k &&& 31) = nI (2 ^ k) := by
    have := pk_shlN (n := 1) (nI k &&& 31) k (s_l k (by omega)) (by rw [Nat.one_mul]; exact Nat.pow_lt_pow_right (by decide) (by omega))
    rw [Nat.one_mul] at this
    exact this
  have hp : 2 ^ k < 2 ^ 16 := Nat.pow_lt_pow_right (by decide) hk
  unfold xd
  rw [e1]
  apply Int32.toBitVec_inj.mp
  apply BitVec.eq_of_toNat_eq
  rw [Int32.toBitVec_or, BitVec.toNat_or]
  have t1 : ∀ x, x < 2 ^ 16 → (nI x).toBitVec.toNat = x := fun x hx => pk_tn (by omega)
  rw [t1 _ hl, t1 _ hp, t1 _ (xs_n_lt _ _ _)]
  apply Nat.eq_of_testBit_eq
  intro q
  rw [Nat.testBit_or, xs_n_bit, xs_n_bit, Nat.testBit_two_pow]
  simp only [Nat.zero_add, va_up]
  by_cases hq : q = k
  · subst hq; simp [hk]
  · simp [hq, show ¬ k = q from fun e => hq e.symm]
def x_stale (X : Nat → Bool) (w : xw) : Bool := xw_p w && decide (0 < xs_w X (xw_f w) (xw_t w))
theorem x_stale_np {X : Nat → Bool} {w : xw} (h : xb (xw_p w) = 0) : (0 : Int32) = xb (x_stale X w) := by unfold x_stale; rw [xb_eq h]; rfl
theorem xs_w_le (S : Nat → Bool) (a b : Nat) : xs_w S a b ≤ 256 := xs_c_le _ _
theorem x_stale_no {X : Nat → Bool} {w : xw} (h : nI (xs_w X (xw_f w) (xw_t w)) ≤ 0) : (0 : Int32) = xb (x_stale X w) := by
  have h1 := xs_w_le X (xw_f w) (xw_t w)
  have h2 : ¬ 0 < xs_w X (xw_f w) (xw_t w) := fun q => nI_nle q (by omega) h
  unfold x_stale
  rw [decide_eq_false h2, Bool.and_false]
  rfl
theorem x_stale_yes {X : Nat → Bool} {w : xw} (hp : ¬ xb (xw_p w) = 0) (h : ¬ nI (xs_w X (xw_f w) (xw_t w)) ≤ 0) : (1 : Int32) = xb (x_stale X w) := by
  have h2 : 0 < xs_w X (xw_f w) (xw_t w) := by
    rcases Nat.eq_zero_or_pos (xs_w X (xw_f w) (xw_t w)) with q | q
    · rw [q] at h; exact absurd (by decide) h
    · exact q
  unfold x_stale
  rw [decide_eq_true h2, xb_ne hp]
  rfl
def x_lk (X : Nat → Bool) (w : xw) : xw := if x_stale X w = true then (w.1, none) else w
theorem x_lk_ok {X : Nat → Bool} {w : xw} (h : xw_ok w) : xw_ok (x_lk X w) := by
  unfold x_lk
  split
  · exact trivial
  · exact h
def x_tk (X : Nat → Bool) (w : xw) (tal : Nat → Int32) : Nat → Int32 := if x_stale X w = true then upd tal 3 (tal 3 + 1) else tal
def x_dk (seen : Nat) (w : xw) (k : Nat) (dy : Nat → Bool) : Nat → Bool := if xw_p w = true ∧ k / 16 < seen then va_up dy (k / 16) true else dy
def x_cl (X : Nat → Bool) (f : Nat → xw) (a b : Nat) : Nat → xw := fun k => if a ≤ k ∧ k < b then x_lk X (f k) else f k
theorem x_cl_0 (X : Nat → Bool) (f : Nat → xw) (a : Nat) : x_cl X f a a = f := by
  funext k
  simp only [x_cl]
  rw [if_neg (by omega)]
theorem x_cl_t (X : Nat → Bool) (f : Nat → xw) {a i : Nat} (h : a ≤ i) (hs : x_stale X (f i) = true) : va_up (x_cl X f a i) i ((f i).1, none) = x_cl X f a (i + 1) := by
  funext k
  by_cases hk : k = i
  · subst hk; simp [va_up, x_cl, h, x_lk, hs]
  · simp only [va_up, x_cl, hk, if_false]
    by_cases h2 : a ≤ k ∧ k < i
    · rw [if_pos h2, if_pos (by omega)]
    · rw [if_neg h2, if_neg (by omega)]
theorem x_cl_f (X : Nat → Bool) (f : Nat → xw) {a i : Nat} (hs : x_stale X (f i) = false) : x_cl X f a i = x_cl X f a (i + 1) := by
  funext k
  simp only [x_cl]
  by_cases hk : k = i
  · subst hk
    rw [if_neg (by omega)]
    by_cases h2 : a ≤ k
    · rw [if_pos (by omega)]; simp [x_lk, hs]
    · rw [if_neg (by omega)]
  · by_cases h2 : a ≤ k ∧ k < i
    · rw [if_pos h2, if_pos (by omega)]
    · rw [if_neg h2, if_neg (by omega)]
theorem x_cl_at (X : Nat → Bool) (f : Nat → xw) (a i : Nat) : x_cl X f a i i = f i := by
  simp only [x_cl]
  rw [if_neg (by omega)]
theorem x_cl_ok {X : Nat → Bool} {f : Nat → xw} (h : ∀ k, xw_ok (f k)) (a b k : Nat) : xw_ok (x_cl X f a b k) := by
  simp only [x_cl]
  split
  · exact x_lk_ok (h k)
  · exact h k
theorem x_nI1 (k : Nat) : nI k + 1 = nI (k + 1) := nI_1 k
theorem xn_ge {a b : Nat} (hb : b < 2 ^ 31) (h : b ≤ a) (ha : a < 2 ^ 31) : nI b ≤ nI a := nI_le h ha
theorem xn_le_of {a b : Nat} (ha : a < 2 ^ 31) (hb : b < 2 ^ 31) (h : nI a ≤ nI b) : a ≤ b := (nI_leI ha hb).mp h
theorem xn_lt_of {a b : Nat} (ha : a < 2 ^ 31) (hb : b < 2 ^ 31) (h : ¬ nI a ≤ nI b) : b < a := by
  rcases Nat.lt_or_ge b a with q | q
  · exact q
  · exact absurd ((nI_leI ha hb).mpr q) h
end XST
section XST2
def x_isr (G F : Nat → Bool) (f t : Nat) : Bool := G f && (F f && decide (x_rt G F (255 - f) (f + 1) = t))
theorem x_isr_g {G F : Nat → Bool} {f t : Nat} (h : xb (G f) = 0) : (0 : Int32) = xb (x_isr G F f t) := by unfold x_isr; rw [xb_eq h]; rfl
theorem x_isr_f {G F : Nat → Bool} {f t : Nat} (h : xb (F f) = 0) : (0 : Int32) = xb (x_isr G F f t) := by unfold x_isr; rw [xb_eq h, Bool.false_and, Bool.and_false]; rfl
theorem x_isr_n {G F : Nat → Bool} {f t : Nat} (h : ¬ nI (x_rt G F (255 - f) (f + 1)) = nI t) : (0 : Int32) = xb (x_isr G F f t) := by
  unfold x_isr
  rw [decide_eq_false (fun q => h (by rw [q])), Bool.and_false, Bool.and_false]
  rfl
theorem x_isr_y {G F : Nat → Bool} {f t : Nat} (hf : f < 256) (ht : t < 512) (h1 : ¬ xb (G f) = 0) (h2 : ¬ xb (F f) = 0) (h : nI (x_rt G F (255 - f) (f + 1)) = nI t) : (1 : Int32) = xb (x_isr G F f t) := by
  have h3 := x_rt_le G F (255 - f) (f + 1)
  unfold x_isr
  rw [xb_ne h1, xb_ne h2, decide_eq_true ((nI_eq (by omega) (by omega)).mp h)]
  rfl
theorem x_acc_s (f : Nat → Int32) {a i : Nat} (h : a ≤ i) : x_acc f a (i - a) + f i = x_acc f a (i + 1 - a) := by
  have e : i + 1 - a = (i - a) + 1 := by omega
  rw [e]
  show _ = x_acc f a (i - a) + f (a + (i - a))
  rw [show a + (i - a) = i by omega]
theorem x_acc_0 (f : Nat → Int32) (a : Nat) : (0 : Int32) = x_acc f a (a - a) := by rw [Nat.sub_self]; rfl
theorem x_acc_congr {f g : Nat → Int32} (a : Nat) : ∀ n, (∀ k, a ≤ k → k < a + n → f k = g k) → x_acc f a n = x_acc g a n
  | 0, _ => rfl
  | n + 1, h => by
    show x_acc f a n + f (a + n) = x_acc g a n + g (a + n)
    rw [x_acc_congr a n (fun k h1 h2 => h k h1 (by omega)), h (a + n) (by omega) (by omega)]
theorem x_acc_app (f : Nat → Int32) (a b : Nat) : ∀ n, x_acc f a b + x_acc f (a + b) n = x_acc f a (b + n)
  | 0 => by show x_acc f a b + 0 = x_acc f a b; exact Int32.add_zero _
  | n + 1 => by
    show x_acc f a b + (x_acc f (a + b) n + f (a + b + n)) = x_acc f a (b + n) + f (a + (b + n))
    rw [← x_acc_app f a b n, Nat.add_assoc a b n, Int32.add_assoc]
def x_cn (X : Nat → Bool) (f : Nat → xw) (a b : Nat) : Int32 := x_acc (fun k => xb (x_stale X (f k))) a (b - a)
theorem x_cl_app (X : Nat → Bool) (f : Nat → xw) {a b c : Nat} (h1 : a ≤ b) (h2 : b ≤ c) : x_cl X (x_cl X f a b) b c = x_cl X f a c := by
  funext k
  simp only [x_cl]
  by_cases h3 : b ≤ k ∧ k < c
  · rw [if_pos h3, if_neg (by omega), if_pos (by omega)]
  · rw [if_neg h3]
    by_cases h4 : a ≤ k ∧ k < b
    · rw [if_pos h4, if_pos (by omega)]
    · rw [if_neg h4, if_neg (by omega)]
theorem x_cn_app (X : Nat → Bool) (f : Nat → xw) {a b c : Nat} (h1 : a ≤ b) (h2 : b ≤ c) : x_cn X f a b + x_cn X (x_cl X f a b) b c = x_cn X f a c := by
  unfold x_cn
  rw [x_acc_congr (g := fun k => xb (x_stale X (f k))) b (c - b) (fun k h3 h4 => by simp only [x_cl]; rw [if_neg (by omega)])]
  have e := x_acc_app (fun k => xb (x_stale X (f k))) a (b - a) (c - b)
  rw [show a + (b - a) = b by omega, show b - a + (c - b) = c - a by omega] at e
  exact e
theorem x_lk_f {X : Nat → Bool} {w : xw} (h : xb (x_stale X w) = 0) : x_lk X w = w := by unfold x_lk; rw [if_neg (by rw [xb_eq h]; decide)]
theorem x_lk_t {X : Nat → Bool} {w : xw} (h : ¬ xb (x_stale X w) = 0) : x_lk X w = (w.1, none) := by unfold x_lk; rw [if_pos (xb_ne h)]
theorem x_tk_f {X : Nat → Bool} {w : xw} {tal : Nat → Int32} (h : xb (x_stale X w) = 0) : x_tk X w tal = tal := by unfold x_tk; rw [if_neg (by rw [xb_eq h]; decide)]
theorem x_tk_t {X : Nat → Bool} {w : xw} {tal : Nat → Int32} (h : ¬ xb (x_stale X w) = 0) : x_tk X w tal = upd tal 3 (tal 3 + 1) := by unfold x_tk; rw [if_pos (xb_ne h)]
theorem x_dk_p {seen k : Nat} {w : xw} {dy : Nat → Bool} (h : xb (xw_p w) = 0) : x_dk seen w k dy = dy := by unfold x_dk; rw [if_neg (fun q => by rw [xb_eq h] at q; exact absurd q.1 (by decide))]
theorem x_dk_s {seen k : Nat} {w : xw} {dy : Nat → Bool} (h : xb (decide (k / 16 < seen)) = 0) : x_dk seen w k dy = dy := by unfold x_dk; rw [if_neg (fun q => of_decide_eq_false (xb_eq h) q.2)]
theorem x_dk_t {seen k : Nat} {w : xw} {dy : Nat → Bool} (h : ¬ xb (xw_p w) = 0) (h2 : ¬ xb (decide (k / 16 < seen)) = 0) : x_dk seen w k dy = va_up dy (k / 16) true := by unfold x_dk; rw [if_pos ⟨xb_ne h, of_decide_eq_true (xb_ne h2)⟩]
theorem xb_fit (b : Bool) : fits .boolean (.int (xb b)) = true := by cases b <;> rfl
theorem x_div16 {k : Nat} (h : k < 256) : nI k / 16 = nI (k / 16) := pk_div (d := 16) (by omega) (by decide) (by decide)
theorem xw_f_le {w : xw} (h : xw_ok w) : xw_f w ≤ 512 := by have := (xw_parts h).2.1; omega
theorem xw_t_le {w : xw} (h : xw_ok w) : xw_t w ≤ 512 := by have := (xw_parts h).2.2.1; omega
theorem x_seen_f {k seen : Nat} (hs : seen < 2 ^ 31) (hk : k < 2 ^ 31) (h : nI seen ≤ nI k) : (0 : Int32) = xb (decide (k < seen)) := by
  have := xn_le_of hs hk h
  rw [decide_eq_false (by omega)]
  rfl
theorem x_seen_t {k seen : Nat} (hs : seen < 2 ^ 31) (hk : k < 2 ^ 31) (h : ¬ nI seen ≤ nI k) : (1 : Int32) = xb (decide (k < seen)) := by
  have := xn_lt_of hs hk h
  rw [decide_eq_true this]
  rfl
end XST2
