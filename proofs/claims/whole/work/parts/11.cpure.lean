/-! Small rows for the class's maps: a cell's contents by another function, System.arraycopy, bitCount's steps -/
section XC
variable {D : va_G} {cl : List vw_C} {H : Heap}
theorem xk_Df {A : Nat → Prop} {ws ws' : va_W} (hD : va_D A ws) (h : ws'.map (fun x => x.1) = ws.map (fun x => x.1)) : va_D A ws' := xk_Dfst h hD
theorem xk_Pset {ws : va_W} (hP : va_P D cl ws H) (k : Nat) {a : Nat} {e0 e : va_E} (hk : ws[k]? = some (a, e0)) (he : va_at D cl (a, e0) H → va_at D cl (a, e) H) : va_P D cl (ws.set k (a, e)) H := by
  intro i q hq
  by_cases hik : k = i
  · subst hik
    rw [List.getElem?_set_self (List.getElem?_eq_some_iff.mp hk).1] at hq
    cases hq
    exact he (hP k _ hk)
  · rw [List.getElem?_set_ne hik] at hq
    exact hP i q hq
theorem xk_ofFn {n : Nat} {f g : Nat → Value} (h : ∀ j, j < n → f j = g j) (cA : ClassId) : arrV cA n f = arrV cA n g := by
  unfold arrV
  congr 1
  apply Array.ext
  · simp
  · intro i h1 h2
    simp only [Array.getElem_ofFn]
    exact h i (by simpa using h1)
theorem xk_atL {a n : Nat} {cA : ClassId} {f g : Nat → Int64} (h : ∀ j, j < n → f j = g j) : va_at D cl (a, .inl (cA, n, .inr (.inl f))) H → va_at D cl (a, .inl (cA, n, .inr (.inl g))) H := by
  intro h1
  show H[a]? = some (arrV cA n (fun j => .long (g j)))
  rw [← xk_ofFn (f := fun j => .long (f j)) (fun j hj => by rw [h j hj]) cA]
  exact h1
theorem xk_atI {a n : Nat} {cA : ClassId} {f g : Nat → Int32} (h : ∀ j, j < n → f j = g j) : va_at D cl (a, .inl (cA, n, .inl f)) H → va_at D cl (a, .inl (cA, n, .inl g)) H := by
  intro h1
  show H[a]? = some (arrV cA n (fun j => .int (g j)))
  rw [← xk_ofFn (f := fun j => .int (f j)) (fun j hj => by rw [h j hj]) cA]
  exact h1
theorem x_cpy {α : Type} {f g : Nat → α} {n : Int32} {N : Nat} (hn : n.toNatClampNeg = N) (j : Nat) (hj : j < N) : va_cpy f g (0 : Int32).toNatClampNeg (0 : Int32).toNatClampNeg n.toNatClampNeg j = f j := by
  have e0 : (0 : Int32).toNatClampNeg = 0 := rfl
  rw [e0, hn]
  unfold va_cpy
  rw [if_pos ⟨Nat.zero_le _, by omega⟩]
  simp
def xs_mix (S T : Nat → Bool) (k : Nat) : Nat → Int64 := fun i => if i < k then xs_rows T i else xs_rows S i
theorem xs_mix_0 (S T : Nat → Bool) : xs_mix S T 0 = xs_rows S := by funext i; simp [xs_mix]
theorem xs_mix_s (S T : Nat → Bool) (k : Nat) : vp_updL (xs_mix S T k) k (xs_rows T k) = xs_mix S T (k + 1) := by
  funext i
  by_cases h : i = k
  · subst h; simp [vp_updL, xs_mix]
  · by_cases h2 : i < k
    · simp [vp_updL, xs_mix, h, h2, show i < k + 1 by omega]
    · simp [vp_updL, xs_mix, h, h2, show ¬ i < k + 1 by omega]
theorem xs_mix_at (S T : Nat → Bool) (k : Nat) : xs_mix S T k k = xs_rows S k := by simp [xs_mix]
theorem xs_mix_and (S U : Nat → Bool) (k : Nat) : xs_mix S (fun i => S i && !U i) k k &&& (xs_rows U k ^^^ (-1)) = xs_rows (fun i => S i && !U i) k := by
  rw [xs_mix_at, xs_andn]
theorem xs_mix_and2 (S : Nat → Bool) (k : Nat) : xs_mix S (fun i => S i && !S i) k k &&& (xs_mix S (fun i => S i && !S i) k k ^^^ (-1)) = xs_rows (fun i => S i && !S i) k := by
  rw [xs_mix_at, xs_andn]
theorem xs_mix_4 (S T : Nat → Bool) (j : Nat) (hj : j < 4) : xs_mix S T 4 j = xs_rows T j := by simp [xs_mix, hj]
theorem xp_E1 {n a : Nat} (hn : n < 18446744073709551616) (ha : a = n - (n / 2 &&& 6148914691236517205)) (hle : (n / 2 &&& 6148914691236517205) ≤ n) : lN n - (((lN n).toUInt64 >>> ((1 : Int32).toInt64.toUInt64 &&& Int64.toUInt64 63)).toInt64 &&& 6148914691236517205) = lN a := by
  have e := wb_shr (n := n) (k := 1) hn (by decide)
  rw [show (1 : Int32) = nI 1 from rfl, e, show (2 : Nat) ^ 1 = 2 from rfl, show (6148914691236517205 : Int64) = lN 6148914691236517205 from rfl, wb_and (by omega) (by decide), lN_sub hle, ha]
theorem xp_E2 {a b : Nat} (h : a < 18446744073709551616) (hb : b = (a &&& 3689348814741910323) + (a / 4 &&& 3689348814741910323)) : (lN a &&& 3689348814741910323) + (((lN a).toUInt64 >>> ((2 : Int32).toInt64.toUInt64 &&& Int64.toUInt64 63)).toInt64 &&& 3689348814741910323) = lN b := by
  have e := wb_shr (n := a) (k := 2) h (by decide)
  rw [show (2 : Int32) = nI 2 from rfl, e, show (2 : Nat) ^ 2 = 4 from rfl, show (3689348814741910323 : Int64) = lN 3689348814741910323 from rfl, wb_and h (by decide), wb_and (by omega) (by decide), lN_add, hb]
theorem xp_E3 {b c : Nat} (h : b < 18446744073709551616) (h2 : b + b / 16 < 18446744073709551616) (hc : c = (b + b / 16) &&& 1085102592571150095) : (lN b + ((lN b).toUInt64 >>> ((4 : Int32).toInt64.toUInt64 &&& Int64.toUInt64 63)).toInt64) &&& 1085102592571150095 = lN c := by
  have e := wb_shr (n := b) (k := 4) h (by decide)
  rw [show (4 : Int32) = nI 4 from rfl, e, show (2 : Nat) ^ 4 = 16 from rfl, lN_add, show (1085102592571150095 : Int64) = lN 1085102592571150095 from rfl, wb_and h2 (by decide), hc]
theorem xp_E4 {c d k q : Nat} {K : Int32} (h : c < 18446744073709551616) (hK : K = nI k) (hk : k < 64) (hq : 2 ^ k = q) (hd : d = c + c / q) : lN c + ((lN c).toUInt64 >>> (K.toInt64.toUInt64 &&& Int64.toUInt64 63)).toInt64 = lN d := by
  have e := wb_shr (n := c) (k := k) h hk
  rw [hK, e, hq, lN_add, hd]
theorem xp_E7 {f N : Nat} (h : f % 128 = N) : (lN f).toInt32 &&& 127 = nI N := by
  rw [lN_i, pk_and (nI f) 7 (by decide)]
  congr 1
  have e : (nI f).toBitVec.toNat = f % 4294967296 := by
    show (BitVec.ofNat 32 f).toNat = _
    rw [BitVec.toNat_ofNat]
  rw [e]
  omega
end XC
