section XQ5
theorem xk_preVa {D : va_G} {cl : List vw_C} {tys : List (ClassId × FieldType)} {s : State} {H : Heap} {As : List Value} {b : Addr} {W0 : va_W} {ci : Nat} {q : vw_C} {fs : List Value} (hK : va_K D cl tys s) (hN : xn s) (hP : va_P D cl W0 H) (hc : cl[ci]? = some q) (q0 : Nat) (he : W0[q0]? = some (b, .inr (ci, fs))) : PreV s H q.1 b (va_Pc (.ref b :: As) (xk_Br D cl tys W0)) As := ⟨xk_blr, va_recv hK hP hc he, fun U hU hW => ⟨rfl, by rw [hU]; exact hP, va_K.moved hW.alike hK, hN.warm hW⟩⟩
theorem x_c5 {x : Int32} (h1 : ¬ x < 5) (h2 : ¬ 12 ≤ x) : ∃ k, k < 7 ∧ x - 5 = nI k ∧ xN (x - 5) = k := by
  rw [Int32.lt_iff_toInt_lt] at h1
  rw [Int32.le_iff_toInt_le] at h2
  have e5 : (5 : Int32).toInt = 5 := rfl
  have e12 : (12 : Int32).toInt = 12 := rfl
  have e : (x - 5).toInt = x.toInt - 5 := by
    rw [Int32.toInt_sub, e5, Int.bmod_eq_of_le (by omega) (by omega)]
  refine ⟨(x - 5).toInt.toNat, by omega, ?_, rfl⟩
  apply Int32.toInt_inj.mp
  rw [nI_toInt (by omega), e]
  omega
/-- block's own row, behind i words -/
def x_crr (X : Nat → Bool) (f : Nat → xw) (b : Nat) (cr : Nat → Int64) (i : Nat) : Nat → Int64 := fun j => if j < i then xw_enc (x_lk X (f (b + j))) else cr j
theorem x_crr_0 (X : Nat → Bool) (f : Nat → xw) (b : Nat) (cr : Nat → Int64) : x_crr X f b cr 0 = cr := by
  funext j
  simp [x_crr]
theorem x_crr_s (X : Nat → Bool) (f : Nat → xw) (b : Nat) (cr : Nat → Int64) (i : Nat) : vp_updL (x_crr X f b cr i) i (xw_enc (x_lk X (f (b + i)))) = x_crr X f b cr (i + 1) := by
  funext j
  by_cases h : j = i
  · subst h; simp [vp_updL, x_crr]
  · by_cases h2 : j < i
    · simp [vp_updL, x_crr, h, h2, show j < i + 1 by omega]
    · simp [vp_updL, x_crr, h, h2, show ¬ j < i + 1 by omega]
theorem x_crr_at {X : Nat → Bool} {f : Nat → xw} {b : Nat} {cr : Nat → Int64} {i n : Nat} (h : i < n) : x_crr X f b cr n i = xw_enc (x_lk X (f (b + i))) := by simp [x_crr, h]
theorem x_mov_0 (X : Nat → Bool) (f : Nat → xw) (a b : Nat) : x_mov X f a b 0 = f := by
  funext k
  simp only [x_mov]
  rw [if_neg (by omega)]
theorem x_mov_s (X : Nat → Bool) (f : Nat → xw) (a b i : Nat) : va_up (x_mov X f a b i) (a + i) (x_lk X (f (b + i))) = x_mov X f a b (i + 1) := by
  funext k
  by_cases h : k = a + i
  · subst h
    simp only [va_up, x_mov, if_true]
    rw [if_pos (by omega), show a + i - a = i by omega]
  · simp only [va_up, x_mov, h, if_false]
    by_cases h2 : a ≤ k ∧ k < a + i
    · rw [if_pos h2, if_pos (by omega)]
    · rw [if_neg h2, if_neg (by omega)]
theorem xx_fst (cI cJ cS : ClassId) (h0 ca hh ka : Nat) (fk : Nat → Option Nat) (ad : Nat → Nat) (ads : Nat → Nat → Nat) (N4 : Nat) (cr cr2 : Nat → Int64) (v v2 : xV) (vs vs2 : Nat → xV) (nx sz nx2 sz2 : Nat) : (xx cI cJ cS h0 ca hh ka fk ad ads N4 cr v vs nx sz).map (fun x => x.1) = (xx cI cJ cS h0 ca hh ka fk ad ads N4 cr2 v2 vs2 nx2 sz2).map (fun x => x.1) := by
  unfold xx
  rw [List.map_append, List.map_append, List.map_append, List.map_append, xpl_fst cI cJ ads vs vs2 N4, xst_fst cI cJ ad v v2]
  rfl
end XQ5
