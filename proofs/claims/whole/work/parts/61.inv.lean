/-! The invariant of a state: every call keeps it -/
section XINV
def x_inv (v : xV) : Prop := x_ok v ∧ (v.2.2.2.2.2.2.2.1 = false → ∀ k, v.2.2.2.2.2.1 k = false) ∧ (v.2.2.2.2.2.2.2.1 = false → v.2.2.2.2.2.2.2.2.1 = 0) ∧ (v.2.2.2.2.2.2.2.1 = false → ∀ k, v.2.2.2.2.2.2.2.2.2 k = false) ∧ (∀ k, v.2.2.2.1 k = true → v.2.2.2.2.1 k = false) ∧ (∀ k, v.2.2.2.2.2.1 k = true → v.2.2.2.2.1 k = true) ∧ x_rg v.2.2.2.1 v.2.2.2.2.2.2.1
theorem xi_up {f : Nat → xw} (h : ∀ k, xw_ok2 (f k)) {r : Nat} {w : xw} (hw : xw_ok2 w) : ∀ k, xw_ok2 (va_up f r w k) := by
  intro k
  by_cases hk : k = r
  · rw [hk, va_up_self]; exact hw
  · rw [va_up_ne _ _ hk]; exact h k
theorem xi_lk {X : Nat → Bool} {w : xw} (h : xw_ok2 w) : xw_ok2 (x_lk X w) := by
  unfold x_lk
  split
  · trivial
  · exact h
theorem xi_reg {v : xV} (h : x_inv v) {r : Nat} {w : xw} (hw : xw_ok2 w) : x_inv (x_reg v r w) := ⟨⟨h.1.1, xi_up h.1.2.1 hw, h.1.2.2⟩, h.2⟩
theorem xi_lok {v : xV} (h : x_inv v) (r k : Nat) : x_inv (x_lok v r k) := ⟨⟨h.1.1, xi_up h.1.2.1 (xi_lk (h.1.1 k)), h.1.2.2⟩, h.2⟩
theorem xi_dk {seen : Nat} (hs : seen = 0) (w : xw) (k : Nat) (dy : Nat → Bool) : x_dk seen w k dy = dy := by
  unfold x_dk
  rw [if_neg (fun z => by rw [hs] at z; exact absurd z.2 (Nat.not_lt_zero _))]
theorem xi_lay {v : xV} (h : x_inv v) (k : Nat) {w : xw} (hw : xw_ok2 w) : x_inv (x_lay v k w) := by
  obtain ⟨h1, h2, h3, h4, h5⟩ := h
  refine ⟨⟨xi_up h1.1 hw, h1.2⟩, h2, h3, fun ho => ?_, h5⟩
  show ∀ j, x_dk v.2.2.2.2.2.2.2.2.1 w k v.2.2.2.2.2.2.2.2.2 j = false
  rw [xi_dk (h3 ho)]
  exact h4 ho
theorem xi_dks {seen : Nat} (hs : seen = 0) (X : Nat → Bool) (f : Nat → xw) (a b : Nat) (dy : Nat → Bool) : ∀ n, x_dks seen X f a b dy n = dy
  | 0 => rfl
  | n + 1 => by
    show x_dk seen (x_lk X (f (b + n))) (a + n) (x_dks seen X f a b dy n) = dy
    rw [xi_dks hs X f a b dy n, xi_dk hs]
theorem xi_blk {v : xV} (h : x_inv v) (a b n : Nat) : x_inv (x_blk v a b n) := by
  obtain ⟨h1, h2, h3, h4, h5⟩ := h
  refine ⟨⟨fun k => ?_, h1.2⟩, h2, h3, fun ho => ?_, h5⟩
  · show xw_ok2 (if a ≤ k ∧ k < a + n then x_lk v.2.2.2.2.2.1 (v.1 (b + (k - a))) else v.1 k)
    split
    · exact xi_lk (h1.1 _)
    · exact h1.1 k
  · show ∀ j, x_dks v.2.2.2.2.2.2.2.2.1 v.2.2.2.2.2.1 v.1 a b v.2.2.2.2.2.2.2.2.2 n j = false
    rw [xi_dks (h3 ho)]
    exact h4 ho
theorem xi_swp {v : xV} (h : x_inv v) : x_inv (x_swp v) := ⟨h.1, fun ho => absurd ho (by show ¬ true = false; decide), fun ho => absurd ho (by show ¬ true = false; decide), fun ho => absurd ho (by show ¬ true = false; decide), h.2.2.2.2.1, fun k hk => hk, h.2.2.2.2.2.2⟩
theorem xi_cl {X : Nat → Bool} {f : Nat → xw} (h : ∀ k, xw_ok2 (f k)) (a b : Nat) : ∀ k, xw_ok2 (x_cl X f a b k) := by
  intro k
  simp only [x_cl]
  split
  · exact xi_lk (h k)
  · exact h k
theorem xi_stp {v : xV} (h : x_inv v) (ho : v.2.2.2.2.2.2.2.1 = true) (k : Nat) : x_inv (x_stp v k) := by
  refine ⟨⟨xi_cl h.1.1 _ _, h.1.2.1, ?_⟩, fun z => absurd z (by show ¬ v.2.2.2.2.2.2.2.1 = false; rw [ho]; decide), fun z => absurd z (by show ¬ v.2.2.2.2.2.2.2.1 = false; rw [ho]; decide), fun z => absurd z (by show ¬ v.2.2.2.2.2.2.2.1 = false; rw [ho]; decide), h.2.2.2.2⟩
  show x_stop v.2.2.2.2.2.2.2.2.1 k ≤ 16
  unfold x_stop
  exact Nat.min_le_left _ _
theorem xi_end {v : xV} (h : x_inv v) : x_inv (x_end v) := by
  refine ⟨⟨fun k => ?_, xi_cl h.1.2.1 _ _, Nat.zero_le _⟩, fun _ k => ?_, fun _ => rfl, fun _ _ => rfl, fun k hk => ?_, fun k hk => ?_, h.2.2.2.2.2.2⟩
  · show xw_ok2 (x_dm v.2.2.2.2.2.1 v.2.2.2.2.2.2.2.2.2 v.1 16 k)
    simp only [x_dm]
    split
    · exact xi_lk (h.1.1 k)
    · exact h.1.1 k
  · show (v.2.2.2.2.2.1 k && !v.2.2.2.2.2.1 k) = false
    cases v.2.2.2.2.2.1 k <;> rfl
  · show (v.2.2.2.2.1 k && !v.2.2.2.2.2.1 k) = false
    rw [h.2.2.2.2.1 k hk]
    rfl
  · replace hk : (v.2.2.2.2.2.1 k && !v.2.2.2.2.2.1 k) = true := hk
    cases hx : v.2.2.2.2.2.1 k <;> rw [hx] at hk <;> cases hk
/-- ranges given out -/
theorem xi_rga {G F : Nat → Bool} (h : x_rg G F) {a t : Nat} (hat : a < t) (hf : ∀ k, a ≤ k → k < t → G k = false) : x_rg (x_add G a t) (va_up F a true) := by
  have hin : ∀ k, a ≤ k → k < t → x_add G a t k = true := fun k h1 h2 => by simp [x_add, h1, h2]
  have hof : ∀ k, G k = true → x_add G a t k = true := fun k h1 => by simp [x_add, h1]
  have hF : ∀ k, a ≤ k → k < t → F k = false := fun k h1 h2 => by
    cases hk : F k with
    | false => rfl
    | true => exact absurd (h.1 k hk) (by rw [hf k h1 h2]; decide)
  refine ⟨fun k hk => ?_, fun i hi hg => ?_⟩
  · by_cases hka : k = a
    · rw [hka]; exact hin a (Nat.le_refl a) hat
    · rw [va_up_ne _ _ hka] at hk
      exact hof k (h.1 k hk)
  · by_cases hr : a ≤ i ∧ i < t
    · have e : x_rf (va_up F a true) i = a := x_rf_eq hr.1 (Or.inl (va_up_self _ _ _)) (fun k h1 h2 => by rw [va_up_ne _ _ (by omega)]; exact hF k (by omega) (by omega))
      rw [e]
      exact ⟨va_up_self _ _ _, fun k h1 h2 => hin k h1 (by omega)⟩
    · have hg2 : G i = true := by
        have h3 : (G i || (decide (a ≤ i) && decide (i < t))) = true := hg
        rw [show (decide (a ≤ i) && decide (i < t)) = false from by
          cases hc : (decide (a ≤ i) && decide (i < t)) with
          | false => rfl
          | true => rw [Bool.and_eq_true, decide_eq_true_eq, decide_eq_true_eq] at hc; exact absurd hc hr, Bool.or_false] at h3
        exact h3
      obtain ⟨h1, h2⟩ := h.2 i hi hg2
      have h3 := x_rf_le F i
      have hne : ¬ (x_rf F i ≤ a ∧ a ≤ i) := fun z => by
        have := h2 a z.1 z.2
        rw [hf a (Nat.le_refl a) hat] at this
        cases this
      have e : x_rf (va_up F a true) i = x_rf F i := x_rf_eq h3 (Or.inl (by rw [va_up_ne _ _ (by omega)]; exact h1)) (fun k h4 h5 => by rw [va_up_ne _ _ (by omega)]; exact x_rf_gap F i k h4 h5)
      rw [e]
      exact ⟨by rw [va_up_ne _ _ (by omega)]; exact h1, fun k h4 h5 => hof k (h2 k h4 h5)⟩
/-- ranges given back -/
theorem xi_rgb {G F : Nat → Bool} (h : x_rg G F) {a t : Nat} (hat : a < t) (ht : t ≤ 256) (hs : x_isr G F a t = true) : x_rg (x_sub G a t) (va_up F a false) := by
  unfold x_isr at hs
  rw [Bool.and_eq_true, Bool.and_eq_true, decide_eq_true_eq] at hs
  obtain ⟨s0, s1, s2⟩ := hs
  obtain ⟨r1, r2, r3⟩ := x_rt_sp G F (255 - a) (a + 1)
  rw [s2] at r1 r2 r3
  have hof : ∀ k, G k = true → ¬ (a ≤ k ∧ k < t) → x_sub G a t k = true := fun k h1 h2 => by
    show (G k && !(decide (a ≤ k) && decide (k < t))) = true
    rw [h1, show (decide (a ≤ k) && decide (k < t)) = false from by
      cases hc : (decide (a ≤ k) && decide (k < t)) with
      | false => rfl
      | true => rw [Bool.and_eq_true, decide_eq_true_eq, decide_eq_true_eq] at hc; exact absurd hc h2]
    rfl
  refine ⟨fun k hk => ?_, fun i hi hg => ?_⟩
  · have hka : k ≠ a := fun z => by rw [z, va_up_self] at hk; cases hk
    rw [va_up_ne _ _ hka] at hk
    exact hof k (h.1 k hk) (fun z => by
      have := (r2 k (by omega) z.2).2
      rw [hk] at this
      cases this)
  · replace hg : (G i && !(decide (a ≤ i) && decide (i < t))) = true := hg
    rw [Bool.and_eq_true] at hg
    obtain ⟨g1, g2⟩ := hg
    have hni : ¬ (a ≤ i ∧ i < t) := fun z => by rw [decide_eq_true z.1, decide_eq_true z.2] at g2; cases g2
    obtain ⟨h1, h2⟩ := h.2 i hi g1
    have h3 := x_rf_le F i
    have key : i < a ∨ t ≤ x_rf F i := by
      rcases Nat.lt_or_ge i a with q | q
      · exact Or.inl q
      · refine Or.inr ?_
        rcases Nat.lt_or_ge (x_rf F i) t with q2 | q2
        · exfalso
          rcases r3 with r3 | r3
          · omega
          · exact r3 ⟨h2 t (by omega) (by omega), x_rf_gap F i t q2 (by omega)⟩
        · exact q2
    have e : x_rf (va_up F a false) i = x_rf F i := x_rf_eq h3 (Or.inl (by rw [va_up_ne _ _ (by omega)]; exact h1)) (fun k h4 h5 => by rw [va_up_ne _ _ (by omega)]; exact x_rf_gap F i k h4 h5)
    rw [e]
    exact ⟨by rw [va_up_ne _ _ (by omega)]; exact h1, fun k h4 h5 => hof k (h2 k h4 h5) (by omega)⟩
theorem xi_giv {v : xV} (h : x_inv v) (r : Nat) {a n : Nat} (hn : 1 ≤ n) (ha : a + n ≤ 256) (hf : ∀ k, a ≤ k → k < a + n → v.2.2.2.1 k = false ∧ v.2.2.2.2.1 k = false) : x_inv (x_giv v r a n) := by
  obtain ⟨h1, h2, h3, h4, h5, h6, h7⟩ := h
  refine ⟨⟨fun k => ?_, xi_up h1.2.1 ⟨by omega, ha, by decide⟩, h1.2.2⟩, h2, h3, h4, fun k hk => ?_, h6, xi_rga h7 (by omega) (fun k q1 q2 => (hf k q1 q2).1)⟩
  · show xw_ok2 (if a ≤ k ∧ k < a + n then (0, none) else v.1 k)
    split
    · trivial
    · exact h1.1 k
  · by_cases hr : a ≤ k ∧ k < a + n
    · exact (hf k hr.1 hr.2).2
    · have h8 : (v.2.2.2.1 k || (decide (a ≤ k) && decide (k < a + n))) = true := hk
      rw [show (decide (a ≤ k) && decide (k < a + n)) = false from by
        cases hc : (decide (a ≤ k) && decide (k < a + n)) with
        | false => rfl
        | true => rw [Bool.and_eq_true, decide_eq_true_eq, decide_eq_true_eq] at hc; exact absurd hc hr, Bool.or_false] at h8
      exact h5 k h8
theorem xi_bak {v : xV} (h : x_inv v) {a t : Nat} (hat : a < t) (ht : t ≤ 256) (hs : x_isr v.2.2.2.1 v.2.2.2.2.2.2.1 a t = true) : x_inv (x_bak v a t) := by
  obtain ⟨h1, h2, h3, h4, h5, h6, h7⟩ := h
  refine ⟨h1, h2, h3, h4, fun k hk => ?_, fun k hk => ?_, xi_rgb h7 hat ht hs⟩
  · replace hk : (v.2.2.2.1 k && !(decide (a ≤ k) && decide (k < t))) = true := hk
    rw [Bool.and_eq_true] at hk
    show (v.2.2.2.2.1 k || (decide (a ≤ k) && decide (k < t))) = false
    rw [h5 k hk.1]
    cases hc : (decide (a ≤ k) && decide (k < t)) with
    | false => rfl
    | true => rw [hc] at hk; exact absurd hk.2 (by decide)
  · show (v.2.2.2.2.1 k || (decide (a ≤ k) && decide (k < t))) = true
    rw [h6 k hk]
    rfl
/-- every call -/
def xi_o (o : Option xV) : Prop := ∀ v2, o = some v2 → x_inv v2
theorem xi_none {a : Int32} : xi_o ((a, (none : Option xV))).2 := fun _ h => by cases h
theorem xi_some {a : Int32} {v2 : xV} (h : x_inv v2) : xi_o ((a, some v2)).2 := fun _ q => by cases q; exact h
theorem xi_number {v : xV} (h : x_inv v) (r x : Int32) : xi_o (sp_number v r x).2 := by
  unfold sp_number
  split
  · exact xi_some (xi_reg h trivial)
  · exact xi_none
theorem xi_copy {v : xV} (h : x_inv v) (r q : Int32) : xi_o (sp_copy v r q).2 := by
  unfold sp_copy
  split
  · exact xi_some (xi_reg h (h.1.2.1 _))
  · exact xi_none
theorem xi_move {v : xV} (h : x_inv v) (r d : Int32) : xi_o (sp_move v r d).2 := by
  unfold sp_move
  split
  · split
    · next hp =>
      obtain ⟨-, h1, h2, h3⟩ := xw_ok2_p (h.1.2.1 (xN r)) hp
      exact xi_some (xi_reg h ⟨h1, h2, h3⟩)
    · exact xi_none
  · exact xi_none
theorem xi_narrow {v : xV} (h : x_inv v) (r q n k : Int32) : xi_o (sp_narrow v r q n k).2 := by
  unfold sp_narrow
  split
  · next hc =>
    split
    · next hp =>
      split
      · next hcv =>
        obtain ⟨-, h1, h2, h3⟩ := xw_ok2_p (h.1.2.1 (xN q)) hp
        obtain ⟨ak, nk, ea, en, hn1, han, hxn, hxa⟩ := x_cov0 (h.1.2.1 (xN q)) hp hcv hc.2.2.1
        obtain ⟨rr, hrr, err, hxk⟩ := x_and4 h3 hc.2.2.2.1 hc.2.2.2.2
        refine xi_some (xi_reg h ?_)
        rw [hxk, hxn, hxa]
        exact ⟨by omega, han, hrr⟩
      · exact xi_none
    · exact xi_none
  · exact xi_none
theorem xi_look {v : xV} (h : x_inv v) (r q d : Int32) : xi_o (sp_look v r q d).2 := by
  unfold sp_look
  split
  · split
    · exact xi_some (xi_lok h _ _)
    · exact xi_none
  · exact xi_none
theorem xi_layc {v : xV} (h : x_inv v) (q d r : Int32) : xi_o (sp_lay v q d r).2 := by
  unfold sp_lay
  split
  · split
    · exact xi_some (xi_lay h _ (h.1.2.1 _))
    · exact xi_none
  · exact xi_none
theorem xi_block {v : xV} (h : x_inv v) (q d t e n : Int32) : xi_o (sp_block v q d t e n).2 := by
  unfold sp_block
  split
  · split
    · split
      · exact xi_some (xi_blk h _ _ _)
      · exact xi_none
    · exact xi_none
  · exact xi_none
theorem xi_sweep {v : xV} (h : x_inv v) : xi_o (sp_sweep v).2 := by
  unfold sp_sweep
  split
  · exact xi_none
  · exact xi_some (xi_swp h)
theorem xi_step {v : xV} (h : x_inv v) (n : Int32) : xi_o (sp_step v n).2 := by
  unfold sp_step
  split
  · split
    · next ho => exact xi_some (xi_stp h ho _)
    · exact xi_none
  · exact xi_none
theorem xi_endc {v : xV} (h : x_inv v) : xi_o (sp_end v).2 := by
  unfold sp_end
  split
  · exact xi_some (xi_end h)
  · exact xi_none
theorem xi_back {v : xV} (h : x_inv v) (r : Int32) : xi_o (sp_back v r).2 := by
  unfold sp_back
  split
  · split
    · next hp =>
      split
      · next hs =>
        obtain ⟨-, h1, h2, h3⟩ := xw_ok2_p (h.1.2.1 (xN r)) hp
        exact xi_some (xi_bak h h1 h2 hs)
      · exact xi_none
    · exact xi_none
  · exact xi_none
theorem xi_give {v : xV} (h : x_inv v) (r n : Int32) : xi_o (sp_give v r n).2 := by
  unfold sp_give
  split
  · next hc =>
    split
    · exact xi_none
    · next hf =>
      obtain ⟨nk, hn1, hn2, en, hxn⟩ := x_1n (M := 64) (m := 64) rfl hc.2.1 hc.2.2
      obtain ⟨f, hf1, ef⟩ := x_ffr_in (u := xu v.2.2.2.1 v.2.2.2.2.1) en hn1 hn2 (Int32.not_lt.mp hf)
      refine xi_some ?_
      rw [ef, hxn, xN_nI (by omega)]
      rw [en] at ef
      exact xi_giv h _ hn1 hf1 (fun k h1 h2 => xu_free (x_ffr_free (xu v.2.2.2.1 v.2.2.2.2.1) nk hn1 hn2 256 0 0 f rfl (Nat.le_refl 0) (by omega) (fun k h3 h4 => by omega) hf1 ef k h1 h2))
  · exact xi_none
end XINV
