/-! A set of cells as rows of 64 bits; how many of them lie in a stretch -/
section XS
def xs_n (S : Nat → Bool) (b : Nat) : Nat → Nat
  | 0 => 0
  | n + 1 => xs_n S b n + (if S (b + n) = true then 2 ^ n else 0)
theorem xs_n_lt (S : Nat → Bool) (b : Nat) : ∀ n, xs_n S b n < 2 ^ n
  | 0 => by simp [xs_n]
  | n + 1 => by
    have := xs_n_lt S b n
    show xs_n S b n + (if S (b + n) = true then 2 ^ n else 0) < 2 ^ (n + 1)
    rw [Nat.pow_succ]
    split <;> omega
theorem xs_n_bit (S : Nat → Bool) (b : Nat) : ∀ n k, (xs_n S b n).testBit k = (decide (k < n) && S (b + k))
  | 0, k => by simp [xs_n]
  | n + 1, k => by
    have hl := xs_n_lt S b n
    have ih := xs_n_bit S b n k
    show (xs_n S b n + (if S (b + n) = true then 2 ^ n else 0)).testBit k = _
    by_cases hS : S (b + n) = true
    · rw [if_pos hS, Nat.add_comm]
      rcases Nat.lt_trichotomy k n with h | h | h
      · rw [Nat.testBit_two_pow_add_gt h, ih]
        simp [h, Nat.lt_succ_of_lt h]
      · subst h
        rw [Nat.testBit_two_pow_add_eq, ih]
        simp [hS]
      · rw [Nat.testBit_lt_two_pow (Nat.lt_of_lt_of_le (show 2 ^ n + xs_n S b n < 2 ^ (n + 1) by rw [Nat.pow_succ]; omega) (Nat.pow_le_pow_right (by decide) h))]
        simp [show ¬ k < n + 1 by omega]
    · rw [if_neg hS, Nat.add_zero, ih]
      by_cases h : k < n
      · simp [h, Nat.lt_succ_of_lt h]
      · by_cases h2 : k = n
        · subst h2
          simp [Bool.not_eq_true] at hS
          simp [hS]
        · simp [h, show ¬ k < n + 1 by omega]
def xs_rows (S : Nat → Bool) : Nat → Int64 := fun j => lN (xs_n S (64 * j) 64)
theorem xs_ext {a b : Nat} (ha : a < 2 ^ 64) (hb : b < 2 ^ 64) (h : ∀ k, k < 64 → a.testBit k = b.testBit k) : a = b := by
  apply Nat.eq_of_testBit_eq
  intro k
  by_cases hk : k < 64
  · exact h k hk
  · rw [Nat.testBit_lt_two_pow (Nat.lt_of_lt_of_le ha (Nat.pow_le_pow_right (by decide) (by omega))), Nat.testBit_lt_two_pow (Nat.lt_of_lt_of_le hb (Nat.pow_le_pow_right (by decide) (by omega)))]
theorem xs_one {k : Nat} (hk : k < 64) : (1 : Int64) <<< ((nI k).toInt64 &&& 63) = lN (2 ^ k) := by
  have := wb_shl 1 hk
  rw [Nat.one_mul] at this
  exact this
theorem xs_and2 (x k : Nat) : x &&& 2 ^ k = if x.testBit k = true then 2 ^ k else 0 := by
  apply Nat.eq_of_testBit_eq
  intro i
  rw [Nat.testBit_and, Nat.testBit_two_pow]
  by_cases h : k = i
  · subst h
    cases x.testBit k
    · simp
    · simp
  · simp only [h, decide_false, Bool.and_false]
    split
    · rw [Nat.testBit_two_pow]; simp [h]
    · simp
theorem xs_has (S : Nat → Bool) {j k : Nat} (hk : k < 64) : lg_cmp (xs_rows S j &&& ((1 : Int64) <<< ((nI k).toInt64 &&& 63))) 0 = 0 ↔ S (64 * j + k) = false := by
  rw [xs_one hk]
  show lg_cmp (lN (xs_n S (64 * j) 64) &&& lN (2 ^ k)) 0 = 0 ↔ _
  have hl := xs_n_lt S (64 * j) 64
  have hp : 2 ^ k < 2 ^ 64 := wb_lt2 hk
  rw [wb_and hl hp, xs_and2, xs_n_bit]
  simp only [hk, decide_true, Bool.true_and]
  cases S (64 * j + k) with
  | false => simp [lg_cmp, lN]
  | true =>
    rw [if_pos rfl]
    constructor
    · intro h
      exfalso
      have h2 : lN (2 ^ k) = 0 := by
        unfold lg_cmp at h
        split at h
        · exact absurd h (by decide)
        · split at h
          · assumption
          · exact absurd h (by decide)
      have h3 := congrArg (fun x : Int64 => x.toBitVec.toNat) h2
      simp only [wb_tn hp] at h3
      have h4 : 0 < 2 ^ k := Nat.two_pow_pos k
      have h5 : (0 : Int64).toBitVec.toNat = 0 := by decide
      omega
    · intro h; cases h
theorem xs_add (S : Nat → Bool) {j k : Nat} (hk : k < 64) : vp_updL (xs_rows S) j (xs_rows S j ||| ((1 : Int64) <<< ((nI k).toInt64 &&& 63))) = xs_rows (va_up S (64 * j + k) true) := by
  funext i
  by_cases hi : i = j
  · subst hi
    rw [xs_one hk]
    simp only [vp_updL, if_pos]
    have hl := xs_n_lt S (64 * i) 64
    have hp : 2 ^ k < 2 ^ 64 := wb_lt2 hk
    show lN (xs_n S (64 * i) 64) ||| lN (2 ^ k) = lN (xs_n (va_up S (64 * i + k) true) (64 * i) 64)
    rw [wb_or hl hp]
    congr 1
    apply xs_ext (Nat.or_lt_two_pow hl hp) (xs_n_lt _ _ _)
    intro q hq
    rw [Nat.testBit_or, xs_n_bit, xs_n_bit, Nat.testBit_two_pow]
    by_cases hqk : k = q
    · subst hqk; simp [va_up, hq]
    · simp [va_up, hq, hqk, show ¬ q = k from fun e => hqk e.symm]
  · simp only [vp_updL, hi, if_false]
    show lN _ = lN _
    congr 1
    apply xs_ext (xs_n_lt _ _ _) (xs_n_lt _ _ _)
    intro q hq
    rw [xs_n_bit, xs_n_bit]
    simp only [va_up]
    rw [if_neg (by omega)]
theorem xs_not (n : Nat) (hn : n < 2 ^ 64) : lN n ^^^ (-1) = lN (2 ^ 64 - 1 - n) := by
  have e : (-1 : Int64) = lN (2 ^ 64 - 1) := by decide
  rw [e, lN_xor]
  congr 1
  apply xs_ext (Nat.xor_lt_two_pow hn (by decide)) (by omega)
  intro q hq
  rw [show 2 ^ 64 - 1 - n = 2 ^ 64 - (n + 1) by omega, Nat.testBit_xor, Nat.testBit_two_pow_sub_one, Nat.testBit_two_pow_sub_succ hn]
  simp [hq]
theorem xs_drop (S : Nat → Bool) {j k : Nat} (hk : k < 64) : vp_updL (xs_rows S) j (xs_rows S j &&& (((1 : Int64) <<< ((nI k).toInt64 &&& 63)) ^^^ (-1))) = xs_rows (va_up S (64 * j + k) false) := by
  funext i
  by_cases hi : i = j
  · subst hi
    have hl := xs_n_lt S (64 * i) 64
    have hp : 2 ^ k < 2 ^ 64 := wb_lt2 hk
    have hq : 2 ^ 64 - 1 - 2 ^ k < 2 ^ 64 := Nat.lt_of_le_of_lt (Nat.sub_le _ _) (by decide)
    rw [xs_one hk, xs_not _ hp]
    simp only [vp_updL, if_pos]
    show lN (xs_n S (64 * i) 64) &&& lN _ = lN (xs_n (va_up S (64 * i + k) false) (64 * i) 64)
    rw [wb_and hl hq]
    congr 1
    apply xs_ext (Nat.and_lt_two_pow _ hq) (xs_n_lt _ _ _)
    intro q hq
    rw [Nat.testBit_and, xs_n_bit, xs_n_bit, show 2 ^ 64 - 1 - 2 ^ k = 2 ^ 64 - (2 ^ k + 1) by omega, Nat.testBit_two_pow_sub_succ hp, Nat.testBit_two_pow]
    by_cases hqk : k = q
    · subst hqk; simp [va_up, hq]
    · simp [va_up, hq, hqk, show ¬ q = k from fun e => hqk e.symm]
  · simp only [vp_updL, hi, if_false]
    show lN _ = lN _
    congr 1
    apply xs_ext (xs_n_lt _ _ _) (xs_n_lt _ _ _)
    intro q hq
    rw [xs_n_bit, xs_n_bit]
    simp only [va_up]
    rw [if_neg (by omega)]
theorem xs_andn (S U : Nat → Bool) (j : Nat) : xs_rows S j &&& (xs_rows U j ^^^ (-1)) = xs_rows (fun i => S i && !U i) j := by
  have h1 := xs_n_lt S (64 * j) 64
  have h2 := xs_n_lt U (64 * j) 64
  show lN _ &&& (lN _ ^^^ (-1)) = lN _
  rw [xs_not _ h2, wb_and h1 (by omega)]
  congr 1
  apply xs_ext (Nat.and_lt_two_pow _ (by omega)) (xs_n_lt _ _ _)
  intro q hq
  rw [Nat.testBit_and, xs_n_bit, xs_n_bit, show 2 ^ 64 - 1 - xs_n U (64 * j) 64 = 2 ^ 64 - (xs_n U (64 * j) 64 + 1) by omega, Nat.testBit_two_pow_sub_succ h2, xs_n_bit]
  simp [hq]
/-- how many of the first n cells are in S -/
def xs_c (S : Nat → Bool) : Nat → Nat
  | 0 => 0
  | n + 1 => xs_c S n + (if S n = true then 1 else 0)
theorem xs_c_le (S : Nat → Bool) : ∀ n, xs_c S n ≤ n
  | 0 => Nat.le_refl 0
  | n + 1 => by
    have := xs_c_le S n
    show xs_c S n + (if S n = true then 1 else 0) ≤ n + 1
    split <;> omega
theorem xs_c_congr {S U : Nat → Bool} : ∀ n, (∀ k, k < n → S k = U k) → xs_c S n = xs_c U n
  | 0, _ => rfl
  | n + 1, h => by
    show xs_c S n + _ = xs_c U n + _
    rw [xs_c_congr n (fun k hk => h k (by omega)), h n (by omega)]
theorem xs_c_add (S : Nat → Bool) (a : Nat) : ∀ n, xs_c S (a + n) = xs_c S a + xs_c (fun k => S (a + k)) n
  | 0 => rfl
  | n + 1 => by
    have e1 : xs_c S (a + (n + 1)) = xs_c S (a + n) + (if S (a + n) = true then 1 else 0) := rfl
    have e2 : xs_c (fun k => S (a + k)) (n + 1) = xs_c (fun k => S (a + k)) n + (if S (a + n) = true then 1 else 0) := rfl
    rw [e1, e2, xs_c_add S a n, Nat.add_assoc]
theorem xs_pc : ∀ (k n : Nat), xp_pc k n = xs_c (fun i => n.testBit i) k
  | 0, n => rfl
  | k + 1, n => by
    have e := xs_c_add (fun i => n.testBit i) 1 k
    rw [Nat.add_comm 1 k] at e
    show n % 2 + xp_pc k (n / 2) = _
    rw [e, xs_pc k (n / 2)]
    congr 1
    · show _ = 0 + (if n.testBit 0 = true then 1 else 0)
      rw [Nat.testBit_zero]
      rcases Nat.mod_two_eq_zero_or_one n with h | h <;> simp [h]
    · apply xs_c_congr
      intro i _
      rw [Nat.testBit_div_two, Nat.add_comm]
end XS
section XS2
theorem xs_has' (S : Nat → Bool) {k : Nat} (hk : k < 256) : lg_cmp (xs_rows S (k / 64) &&& ((1 : Int64) <<< ((nI k &&& 63).toInt64 &&& 63))) 0 = 0 ↔ S k = false := by
  rw [x_and63 (by omega), xs_has S (Nat.mod_lt _ (by decide)), Nat.div_add_mod]
theorem xs_add' (S : Nat → Bool) {k : Nat} (hk : k < 256) : vp_updL (xs_rows S) (k / 64) (xs_rows S (k / 64) ||| ((1 : Int64) <<< ((nI k &&& 63).toInt64 &&& 63))) = xs_rows (va_up S k true) := by
  rw [x_and63 (by omega), xs_add S (Nat.mod_lt _ (by decide)), Nat.div_add_mod]
theorem xs_drop' (S : Nat → Bool) {k : Nat} (hk : k < 256) : vp_updL (xs_rows S) (k / 64) (xs_rows S (k / 64) &&& (((1 : Int64) <<< ((nI k &&& 63).toInt64 &&& 63)) ^^^ (-1))) = xs_rows (va_up S k false) := by
  rw [x_and63 (by omega), xs_drop S (Nat.mod_lt _ (by decide)), Nat.div_add_mod]
/-- the lowest bits -/
def xs_bc (x : Int32) : Nat := min 64 x.toInt.toNat
def xs_bb (x : Int32) : Int64 := lN (2 ^ xs_bc x - 1)
theorem xs_bb0 {x : Int32} (h : ¬ 0 < x) : (0 : Int64) = xs_bb x := by
  rw [Int32.lt_iff_toInt_lt] at h
  have e : (0 : Int32).toInt = 0 := rfl
  have : xs_bc x = 0 := by unfold xs_bc; omega
  unfold xs_bb
  rw [this]
  rfl
theorem xs_bb64 {x : Int32} (h : 64 ≤ x) : (-1 : Int64) = xs_bb x := by
  rw [Int32.le_iff_toInt_le] at h
  have e : (64 : Int32).toInt = 64 := rfl
  have : xs_bc x = 64 := by unfold xs_bc; omega
  unfold xs_bb
  rw [this]
  decide
theorem xs_bbm {x : Int32} (h : 0 < x) (h2 : ¬ 64 ≤ x) : ((1 : Int64) <<< (x.toInt64 &&& 63)) - 1 = xs_bb x := by
  rw [Int32.lt_iff_toInt_lt] at h
  rw [Int32.le_iff_toInt_le] at h2
  have e : (0 : Int32).toInt = 0 := rfl
  have e2 : (64 : Int32).toInt = 64 := rfl
  obtain ⟨k, hk, rfl⟩ := xi_of (x := x) (n := 64) (decide_eq_true (by omega))
  rw [xs_one hk]
  have h3 : xs_bc (nI k) = k := by unfold xs_bc; rw [nI_toInt (by omega)]; omega
  unfold xs_bb
  rw [h3]
  have := lN_sub (a := 2 ^ k) (b := 1) (Nat.two_pow_pos k)
  exact this
/-- how many of S from a on, below b -/
def xs_w (S : Nat → Bool) (a b : Nat) : Nat := xs_c (fun k => S k && (decide (a ≤ k) && decide (k < b))) 256
theorem xs_row (S : Nat → Bool) {a b : Nat} (j : Nat) (ha : a ≤ 512) (hb : b ≤ 512) (hj : j < 4) : ∃ n, n < 18446744073709551616 ∧ (xs_rows S j &&& xs_bb (nI b - nI (64 * j))) &&& (xs_bb (nI a - nI (64 * j)) ^^^ (-1)) = lN n ∧ xp_pc 64 n = xs_c (fun k => (fun k => S k && (decide (a ≤ k) && decide (k < b))) (64 * j + k)) 64 := by
  have h1 := xs_n_lt S (64 * j) 64
  have hp : ∀ x : Int32, 2 ^ xs_bc x - 1 < 2 ^ 64 := fun x => by
    have h2 : xs_bc x ≤ 64 := Nat.min_le_left _ _
    have h3 : 2 ^ xs_bc x ≤ 2 ^ 64 := Nat.pow_le_pow_right (by decide) h2
    have h4 := Nat.two_pow_pos (xs_bc x)
    omega
  have bt : ∀ (c : Nat), c ≤ 512 → ∀ k, k < 64 → (2 ^ xs_bc (nI c - nI (64 * j)) - 1).testBit k = decide (64 * j + k < c) := by
    intro c hc k hk
    rw [Nat.testBit_two_pow_sub_one]
    have e : (nI c - nI (64 * j)).toInt = (c : Int) - ((64 * j : Nat) : Int) := pk_sub_toInt (by omega) (by omega)
    have e2 : xs_bc (nI c - nI (64 * j)) = min 64 (c - 64 * j) := by unfold xs_bc; rw [e]; omega
    rw [e2]
    apply Bool.eq_iff_iff.mpr
    simp only [decide_eq_true_eq]
    omega
  have hx := hp (nI a - nI (64 * j))
  have hy := hp (nI b - nI (64 * j))
  have hz : 2 ^ 64 - 1 - (2 ^ xs_bc (nI a - nI (64 * j)) - 1) < 2 ^ 64 := Nat.lt_of_le_of_lt (Nat.sub_le _ _) (by decide)
  refine ⟨(xs_n S (64 * j) 64 &&& (2 ^ xs_bc (nI b - nI (64 * j)) - 1)) &&& (2 ^ 64 - 1 - (2 ^ xs_bc (nI a - nI (64 * j)) - 1)), Nat.and_lt_two_pow (n := 64) _ hz, ?_, ?_⟩
  · show (lN _ &&& lN _) &&& (lN _ ^^^ (-1)) = lN _
    rw [xs_not _ hx, wb_and h1 hy, wb_and (Nat.and_lt_two_pow _ hy) hz]
  · rw [xs_pc]
    apply xs_c_congr
    intro k hk
    rw [Nat.testBit_and, Nat.testBit_and, xs_n_bit, show 2 ^ 64 - 1 - (2 ^ xs_bc (nI a - nI (64 * j)) - 1) = 2 ^ 64 - ((2 ^ xs_bc (nI a - nI (64 * j)) - 1) + 1) by omega, Nat.testBit_two_pow_sub_succ hx, bt a ha k hk, bt b hb k hk]
    simp only [hk, decide_true, Bool.true_and]
    by_cases h5 : 64 * j + k < a
    · simp [h5, show ¬ a ≤ 64 * j + k by omega]
    · simp [h5, show a ≤ 64 * j + k by omega]
theorem xs_w4 (S : Nat → Bool) (a b : Nat) : xs_w S a b = xs_c (fun k => (fun k => S k && (decide (a ≤ k) && decide (k < b))) (64 * 0 + k)) 64 + xs_c (fun k => (fun k => S k && (decide (a ≤ k) && decide (k < b))) (64 * 1 + k)) 64 + xs_c (fun k => (fun k => S k && (decide (a ≤ k) && decide (k < b))) (64 * 2 + k)) 64 + xs_c (fun k => (fun k => S k && (decide (a ≤ k) && decide (k < b))) (64 * 3 + k)) 64 := by
  unfold xs_w
  generalize (fun k => S k && (decide (a ≤ k) && decide (k < b))) = U
  rw [show 256 = 192 + 64 from rfl, xs_c_add U 192 64, show 192 = 128 + 64 from rfl, xs_c_add U 128 64, show 128 = 64 + 64 from rfl, xs_c_add U 64 64]
  simp only [Nat.mul_zero, Nat.zero_add]
end XS2
