/-! Long.bitCount, as numbers: the number of ones -/
section XP
/-- ones among the lowest k bits of n -/
def xp_pc : Nat → Nat → Nat
  | 0, _ => 0
  | k + 1, n => n % 2 + xp_pc k (n / 2)
def xp_mk (d : Nat) : Nat → Nat
  | 0 => 0
  | k + 1 => d + 256 * xp_mk d k
def xp_bm (g : Nat → Nat) : Nat → Nat → Nat
  | 0, _ => 0
  | k + 1, n => g (n % 256) + 256 * xp_bm g k (n / 256)
theorem xp_land (x y r t : Nat) (hr : r < 256) (ht : t < 256) : (r + 256 * x) &&& (t + 256 * y) = (r &&& t) + 256 * (x &&& y) := by
  apply Nat.eq_of_testBit_eq
  intro i
  have h1 : ∀ (r x : Nat), r < 256 → (r + 256 * x).testBit i = if i < 8 then r.testBit i else x.testBit (i - 8) := by
    intro r x h
    rw [Nat.add_comm]
    exact Nat.testBit_two_pow_mul_add x (i := 8) h i
  have h2 : r &&& t < 256 := Nat.and_lt_two_pow (n := 8) _ ht
  rw [Nat.testBit_and, h1 r x hr, h1 t y ht, h1 _ _ h2]
  split
  · rw [Nat.testBit_and]
  · rw [Nat.testBit_and]
theorem xp_bm_lt {g : Nat → Nat} (hg : ∀ r, r < 256 → g r < 256) : ∀ (k n : Nat), xp_bm g k n < 256 ^ k
  | 0, n => by simp [xp_bm]
  | k + 1, n => by
    have h1 := xp_bm_lt hg k (n / 256)
    have h2 := hg (n % 256) (Nat.mod_lt _ (by decide))
    show g (n % 256) + 256 * xp_bm g k (n / 256) < 256 ^ (k + 1)
    rw [Nat.pow_succ]
    omega
theorem xp_bm_bm {g h : Nat → Nat} (hg : ∀ r, r < 256 → g r < 256) : ∀ (k n : Nat), xp_bm h k (xp_bm g k n) = xp_bm (fun r => h (g r)) k n
  | 0, n => rfl
  | k + 1, n => by
    have h2 := hg (n % 256) (Nat.mod_lt _ (by decide))
    have e1 : xp_bm g (k + 1) n = g (n % 256) + 256 * xp_bm g k (n / 256) := rfl
    have e2 : xp_bm g (k + 1) n % 256 = g (n % 256) := by rw [e1]; omega
    have e3 : xp_bm g (k + 1) n / 256 = xp_bm g k (n / 256) := by rw [e1]; omega
    show h (xp_bm g (k + 1) n % 256) + 256 * xp_bm h k (xp_bm g (k + 1) n / 256) = h (g (n % 256)) + 256 * xp_bm (fun r => h (g r)) k (n / 256)
    rw [e2, e3, xp_bm_bm hg k (n / 256)]
theorem xp_bm_69 {g : Nat → Nat} (hg : ∀ r, r < 256 → g r < 69) : ∀ (k n : Nat), xp_bm g (k + 1) n < 69 * 256 ^ k
  | 0, n => by
    have h2 := hg (n % 256) (Nat.mod_lt _ (by decide))
    show g (n % 256) + 256 * 0 < 69 * 256 ^ 0
    omega
  | k + 1, n => by
    have h1 := xp_bm_69 hg k (n / 256)
    have h2 := hg (n % 256) (Nat.mod_lt _ (by decide))
    show g (n % 256) + 256 * xp_bm g (k + 1) (n / 256) < 69 * 256 ^ (k + 1)
    rw [Nat.pow_succ]
    omega
def xp_g1 (r : Nat) : Nat := r - (r / 2 &&& 85)
def xp_g2 (r : Nat) : Nat := (r &&& 51) + (r / 4 &&& 51)
theorem xp_k1 : ∀ r, r < 256 → ∀ b, b < 2 → (r / 2 + 128 * b) &&& 85 = r / 2 &&& 85 := by decide +kernel
theorem xp_k2 : ∀ r, r < 256 → ∀ b, b < 4 → (r / 4 + 64 * b) &&& 51 = r / 4 &&& 51 := by decide +kernel
theorem xp_k3 : ∀ r, r < 256 → r &&& 15 = r % 16 := by decide +kernel
theorem xp_g1_lt : ∀ r, r < 256 → xp_g1 r < 256 ∧ (r / 2 &&& 85) ≤ r := by decide +kernel
theorem xp_g21 : ∀ r, r < 256 → xp_g2 (xp_g1 r) < 69 ∧ xp_g2 (xp_g1 r) % 16 < 5 := by decide +kernel
theorem xp_c : ∀ r, r < 256 → (xp_g2 (xp_g1 r) + xp_g2 (xp_g1 r) / 16) % 16 = xp_pc 8 r := by decide +kernel
theorem xp_pc8 : ∀ r, r < 256 → xp_pc 8 r ≤ 8 := by decide +kernel
theorem xp_s1 : ∀ (k n : Nat), n < 256 ^ k → (n / 2 &&& xp_mk 85 k) ≤ n ∧ n - (n / 2 &&& xp_mk 85 k) = xp_bm xp_g1 k n
  | 0, n, h => by
    have : n = 0 := by omega
    subst this
    simp [xp_mk, xp_bm]
  | k + 1, n, h => by
    have hq : n / 256 < 256 ^ k := by rw [Nat.pow_succ] at h; omega
    obtain ⟨i1, i2⟩ := xp_s1 k (n / 256) hq
    have hr : n % 256 < 256 := Nat.mod_lt _ (by decide)
    have e1 : n / 2 = (n % 256 / 2 + 128 * (n / 256 % 2)) + 256 * (n / 256 / 2) := by omega
    have e4 : n / 2 &&& xp_mk 85 (k + 1) = (n % 256 / 2 &&& 85) + 256 * (n / 256 / 2 &&& xp_mk 85 k) := by
      rw [e1]
      show _ &&& (85 + 256 * xp_mk 85 k) = _
      rw [xp_land _ _ _ _ (by omega) (by decide), xp_k1 _ hr _ (Nat.mod_lt _ (by decide))]
    obtain ⟨g1, g2⟩ := xp_g1_lt _ hr
    rw [e4]
    show _ ∧ _ = xp_g1 (n % 256) + 256 * xp_bm xp_g1 k (n / 256)
    rw [← i2]
    unfold xp_g1
    omega
theorem xp_s2 : ∀ (k n : Nat), n < 256 ^ k → (n &&& xp_mk 51 k) + (n / 4 &&& xp_mk 51 k) = xp_bm xp_g2 k n
  | 0, n, h => by simp [xp_mk, xp_bm]
  | k + 1, n, h => by
    have hq : n / 256 < 256 ^ k := by rw [Nat.pow_succ] at h; omega
    have i2 := xp_s2 k (n / 256) hq
    have hr : n % 256 < 256 := Nat.mod_lt _ (by decide)
    have e1 : n / 4 = (n % 256 / 4 + 64 * (n / 256 % 4)) + 256 * (n / 256 / 4) := by omega
    have e4 : n / 4 &&& xp_mk 51 (k + 1) = (n % 256 / 4 &&& 51) + 256 * (n / 256 / 4 &&& xp_mk 51 k) := by
      rw [e1]
      show _ &&& (51 + 256 * xp_mk 51 k) = _
      rw [xp_land _ _ _ _ (by omega) (by decide), xp_k2 _ hr _ (Nat.mod_lt _ (by decide))]
    have e5 : n &&& xp_mk 51 (k + 1) = (n % 256 &&& 51) + 256 * (n / 256 &&& xp_mk 51 k) := by
      have e6 : n = n % 256 + 256 * (n / 256) := by omega
      conv => lhs; rw [e6]
      show _ &&& (51 + 256 * xp_mk 51 k) = _
      rw [xp_land _ _ _ _ hr (by decide)]
    rw [e4, e5]
    show _ = xp_g2 (n % 256) + 256 * xp_bm xp_g2 k (n / 256)
    rw [← i2]
    unfold xp_g2
    omega
theorem xp_s3 {h : Nat → Nat} (hh : ∀ r, r < 256 → h r < 69 ∧ h r % 16 < 5) : ∀ (k n : Nat), (xp_bm h k n + xp_bm h k n / 16) &&& xp_mk 15 k = xp_bm (fun r => (h r + h r / 16) % 16) k n ∧ xp_bm h k n % 16 < 5
  | 0, n => by simp [xp_mk, xp_bm]
  | k + 1, n => by
    obtain ⟨i1, i2⟩ := xp_s3 hh k (n / 256)
    obtain ⟨g1, g2⟩ := hh (n % 256) (Nat.mod_lt _ (by decide))
    have e1 : xp_bm h (k + 1) n = h (n % 256) + 256 * xp_bm h k (n / 256) := rfl
    have e2 : xp_bm h (k + 1) n + xp_bm h (k + 1) n / 16 = (h (n % 256) + h (n % 256) / 16 + 16 * (xp_bm h k (n / 256) % 16)) + 256 * (xp_bm h k (n / 256) + xp_bm h k (n / 256) / 16) := by rw [e1]; omega
    refine ⟨?_, by rw [e1]; omega⟩
    rw [e2]
    show _ &&& (15 + 256 * xp_mk 15 k) = (h (n % 256) + h (n % 256) / 16) % 16 + 256 * xp_bm (fun r => (h r + h r / 16) % 16) k (n / 256)
    rw [xp_land _ _ _ _ (by omega) (by decide), i1, xp_k3 _ (by omega)]
    omega
theorem xp_bm_congr {g h : Nat → Nat} (hg : ∀ r, r < 256 → g r = h r) : ∀ (k n : Nat), xp_bm g k n = xp_bm h k n
  | 0, n => rfl
  | k + 1, n => by
    show g (n % 256) + 256 * xp_bm g k (n / 256) = h (n % 256) + 256 * xp_bm h k (n / 256)
    rw [hg _ (Nat.mod_lt _ (by decide)), xp_bm_congr hg k (n / 256)]
theorem xp_pc_add : ∀ (a k n : Nat), xp_pc (a + k) n = xp_pc a (n % 2 ^ a) + xp_pc k (n / 2 ^ a)
  | 0, k, n => by simp [xp_pc]
  | a + 1, k, n => by
    have e0 : a + 1 + k = (a + k) + 1 := by omega
    rw [e0]
    show n % 2 + xp_pc (a + k) (n / 2) = (n % 2 ^ (a + 1) % 2 + xp_pc a (n % 2 ^ (a + 1) / 2)) + xp_pc k (n / 2 ^ (a + 1))
    have e1 : n % 2 ^ (a + 1) % 2 = n % 2 := Nat.mod_mod_of_dvd n (by rw [Nat.pow_succ]; exact Nat.dvd_mul_left 2 _)
    have e2 : n % 2 ^ (a + 1) / 2 = n / 2 % 2 ^ a := by
      rw [Nat.pow_succ, Nat.mul_comm, Nat.mod_mul_right_div_self]
    have e3 : n / 2 ^ (a + 1) = n / 2 / 2 ^ a := by
      rw [Nat.pow_succ, Nat.mul_comm, Nat.div_div_eq_div_mul]
    rw [e1, e2, e3, xp_pc_add a k (n / 2)]
    omega
theorem xp_pc_bytes : ∀ (n : Nat), xp_pc 64 n = xp_pc 8 (n % 256) + xp_pc 8 (n / 256 % 256) + xp_pc 8 (n / 256 / 256 % 256) + xp_pc 8 (n / 256 / 256 / 256 % 256) + xp_pc 8 (n / 256 / 256 / 256 / 256 % 256) + xp_pc 8 (n / 256 / 256 / 256 / 256 / 256 % 256) + xp_pc 8 (n / 256 / 256 / 256 / 256 / 256 / 256 % 256) + xp_pc 8 (n / 256 / 256 / 256 / 256 / 256 / 256 / 256 % 256) := by
  intro n
  have st : ∀ k n, xp_pc (8 + k) n = xp_pc 8 (n % 256) + xp_pc k (n / 256) := fun k n => xp_pc_add 8 k n
  rw [show 64 = 8 + (8 + (8 + (8 + (8 + (8 + (8 + (8 + 0))))))) from rfl, st, st, st, st, st, st, st, st]
  rw [show ∀ m, xp_pc 0 m = 0 from fun _ => rfl]
  generalize xp_pc 8 (n % 256) = a0
  omega
theorem xp_bm_s (g : Nat → Nat) (k n : Nat) : xp_bm g (k + 1) n = g (n % 256) + 256 * xp_bm g k (n / 256) := rfl
theorem xp_bm_z (g : Nat → Nat) (n : Nat) : xp_bm g 0 n = 0 := rfl
theorem xp_dv {a r : Nat} (h : a < 256) : (a + 256 * r) / 256 = r := by omega
end XP
