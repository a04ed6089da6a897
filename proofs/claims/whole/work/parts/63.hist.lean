/-! The kept states on both sides: a ring of 24 places here, a row of 24 pictures there -/
section XHI
def x_ps (nx k : Nat) : Nat := if k < nx then nx - 1 - k else nx + 23 - k
theorem x_ps_pv {nx : Nat} (h : nx < 24) : x_ps nx 0 = x_pv nx := by
  unfold x_ps x_pv
  split <;> omega
theorem x_ps_pop {nx k : Nat} (h : nx < 24) (hk : k < 23) : x_ps (x_pv nx) k = x_ps nx (k + 1) := by
  unfold x_ps x_pv
  repeat' split
  all_goals omega
theorem x_ps_0 {nx : Nat} (h : nx < 24) : x_ps (x_nx nx) 0 = nx := by
  unfold x_ps x_nx
  repeat' split
  all_goals omega
theorem x_ps_push {nx k : Nat} (h : nx < 24) (hk : k < 23) : x_ps (x_nx nx) (k + 1) = x_ps nx k ∧ x_ps nx k ≠ nx := by
  unfold x_ps x_nx
  repeat' split
  all_goals omega
def x_hist (vs : Nat → xV) (nx sz : Nat) (w : Nat → Int32) (kp : Nat) : Prop := sz = kp ∧ sz ≤ 24 ∧ nx < 24 ∧ ∀ k, k < sz → x_inv (vs (x_ps nx k)) ∧ ∀ j, j < 2128 → w (2128 * (sz - 1 - k) + j) = xf (vs (x_ps nx k)) j
theorem x_sz_kp (kp : Nat) (h : kp ≤ 24) : x_sz kp = m_kp kp := by
  unfold x_sz m_kp
  split <;> omega
theorem x_hpush {vs : Nat → xV} {nx sz : Nat} {w : Nat → Int32} {kp : Nat} (h : x_hist vs nx sz w kp) {v : xV} (hv : x_inv v) : x_hist (va_up vs nx v) (x_nx nx) (x_sz sz) (m_was (xf v) w kp) (m_kp kp) := by
  obtain ⟨rfl, h1, h2, h3⟩ := h
  refine ⟨x_sz_kp sz h1, ?_, x_nx_lt h2, fun k hk => ?_⟩
  · unfold x_sz
    exact Nat.min_le_left _ _
  · have hsz : x_sz sz = if sz < 24 then sz + 1 else 24 := x_sz_kp sz h1
    have hk24 : x_sz sz ≤ 24 := by rw [hsz]; split <;> omega
    match k, hk with
    | 0, hk =>
      rw [x_ps_0 h2, va_up_self]
      refine ⟨hv, fun j hj => ?_⟩
      unfold m_was
      rw [hsz]
      by_cases hq : sz < 24
      · rw [if_pos hq, if_pos hq]
        simp only [x_pt5]
        rw [if_pos (by omega), show 2128 * (sz + 1 - 1 - 0) + j - 2128 * sz = j by omega]
      · rw [if_neg hq, if_neg hq]
        simp only [x_pt5]
        rw [if_pos (by omega), show 2128 * (24 - 1 - 0) + j - 2128 * 23 = j by omega]
    | k + 1, hk =>
      obtain ⟨p1, p2⟩ := x_ps_push (k := k) h2 (by omega)
      rw [p1, va_up_ne _ _ p2]
      have hks : k < sz := by
        rw [hsz] at hk
        split at hk <;> omega
      obtain ⟨q1, q2⟩ := h3 k hks
      refine ⟨q1, fun j hj => ?_⟩
      rw [← q2 j hj]
      unfold m_was
      rw [hsz]
      by_cases hq : sz < 24
      · rw [if_pos hq, if_pos hq]
        simp only [x_pt5]
        rw [if_neg (by omega), show 2128 * (sz + 1 - 1 - (k + 1)) + j = 2128 * (sz - 1 - k) + j by omega]
      · rw [if_neg hq, if_neg hq]
        obtain rfl : sz = 24 := by omega
        simp only [x_pt5, x_sh]
        rw [if_neg (by omega), if_pos (by omega), show 2128 * (24 - 1 - (k + 1)) + j + 2128 = 2128 * (24 - 1 - k) + j by omega]
theorem x_hpop {vs : Nat → xV} {nx sz : Nat} {w : Nat → Int32} {kp : Nat} (h : x_hist vs nx (sz + 1) w (kp + 1)) : x_hist vs (x_pv nx) sz w kp ∧ x_inv (vs (x_pv nx)) ∧ kp < 24 ∧ ∀ j, j < 2128 → w (2128 * kp + j) = xf (vs (x_pv nx)) j := by
  obtain ⟨h0, h1, h2, h3⟩ := h
  obtain rfl : sz = kp := by omega
  refine ⟨⟨rfl, by omega, x_pv_lt h2, fun k hk => ?_⟩, ?_, by omega, ?_⟩
  · rw [x_ps_pop h2 (by omega)]
    obtain ⟨q1, q2⟩ := h3 (k + 1) (by omega)
    refine ⟨q1, fun j hj => ?_⟩
    rw [← q2 j hj, show 2128 * (sz + 1 - 1 - (k + 1)) + j = 2128 * (sz - 1 - k) + j by omega]
  · rw [← x_ps_pv h2]
    exact (h3 0 (by omega)).1
  · intro j hj
    rw [← x_ps_pv h2, ← (h3 0 (by omega)).2 j hj, show 2128 * (sz + 1 - 1 - 0) + j = 2128 * sz + j by omega]
theorem x_hnil (vs : Nat → xV) (w : Nat → Int32) : x_hist vs 0 0 w 0 := ⟨rfl, by decide, by decide, fun k hk => absurd hk (Nat.not_lt_zero k)⟩
/-- both worlds behind an act or a call that is none -/
theorem x_both (cI cJ cS : ClassId) (h0 ca hh ka : Nat) (fk : Nat → Option Nat) (ad : Nat → Nat) (ads : Nat → Nat → Nat) (N4 : Nat) (cr : Nat → Int64) (m0 ms mb mw mm : Nat) {v : xV} {vs : Nat → xV} {nx sz : Nat} {b w : Nat → Int32} {kp : Nat} {o : Option xV} (hv : x_inv v) (hh9 : x_hist vs nx sz w kp) (ho : xi_o o) :
    ∃ (v2 : xV) (vs2 : Nat → xV) (nx2 sz2 : Nat) (b2 w2 : Nat → Int32) (kp2 : Nat), xxo cI cJ cS h0 ca hh ka fk ad ads N4 cr v vs nx sz o = xx cI cJ cS h0 ca hh ka fk ad ads N4 cr v2 vs2 nx2 sz2 ∧ (∀ mi, xmo cI m0 ms mb mw mm v b w mi kp o = xm cI m0 ms mb mw mm v2 b2 w2 mi kp2) ∧ x_inv v2 ∧ x_hist vs2 nx2 sz2 w2 kp2 := by
  cases o with
  | none => exact ⟨v, vs, nx, sz, b, w, kp, rfl, fun _ => rfl, hv, hh9⟩
  | some v2 => exact ⟨v2, va_up vs nx v, x_nx nx, x_sz sz, xf v, m_was (xf v) w kp, m_kp kp, rfl, fun _ => rfl, ho v2 rfl, x_hpush hh9 hv⟩
theorem xx_fst2 (cI cJ cS : ClassId) (h0 ca hh ka : Nat) (fk : Nat → Option Nat) (ad : Nat → Nat) (ads : Nat → Nat → Nat) (N4 : Nat) (cr : Nat → Int64) (v v2 : xV) (vs vs2 : Nat → xV) (nx sz nx2 sz2 : Nat) : (xx cI cJ cS h0 ca hh ka fk ad ads N4 cr v vs nx sz).map (fun x => x.1) = (xx cI cJ cS h0 ca hh ka fk ad ads N4 cr v2 vs2 nx2 sz2).map (fun x => x.1) := by
  unfold xx
  rw [List.map_append, List.map_append, List.map_append, List.map_append, xpl_fst cI cJ ads vs vs2 N4, xst_fst cI cJ ad v v2]
  rfl
theorem xxo_fst (cI cJ cS : ClassId) (h0 ca hh ka : Nat) (fk : Nat → Option Nat) (ad : Nat → Nat) (ads : Nat → Nat → Nat) (N4 : Nat) (cr : Nat → Int64) (v : xV) (vs : Nat → xV) (nx sz : Nat) (o : Option xV) : (xxo cI cJ cS h0 ca hh ka fk ad ads N4 cr v vs nx sz o).map (fun x => x.1) = (xx cI cJ cS h0 ca hh ka fk ad ads N4 cr v vs nx sz).map (fun x => x.1) := by
  cases o with
  | none => rfl
  | some v2 => exact xx_fst2 cI cJ cS h0 ca hh ka fk ad ads N4 cr v2 v (va_up vs nx v) vs (x_nx nx) (x_sz sz) nx sz
theorem xmo_fst (cI : ClassId) (m0 ms mb mw mm : Nat) (v : xV) (b w mi mi2 : Nat → Int32) (kp : Nat) (o : Option xV) : (xmo cI m0 ms mb mw mm v b w mi2 kp o).map (fun x => x.1) = (xm cI m0 ms mb mw mm v b w mi kp).map (fun x => x.1) := by
  cases o with
  | none => simp only [xmo, xm, List.map]
  | some v2 => simp only [xmo, xm, List.map]
theorem xm_undo {D : va_G} {H : Heap} {X : va_W} {cI : ClassId} {m0 ms mb mw mm : Nat} {f g b w mi : Nat → Int32} {kp : Nat} (h : va_P D vwCl (X ++ [(m0, .inr (4, [.ref ms, .ref mb, .int (nI kp), .ref mw, .ref mm])), (ms, .inl (cI, 2128, .inl f)), (mb, .inl (cI, 2128, .inl b)), (mw, .inl (cI, 51072, .inl w)), (mm, .inl (cI, 320, .inl mi))]) H) (hfg : ∀ j, j < 2128 → f j = g j) : va_P D vwCl (X ++ [(m0, .inr (4, [.ref ms, .ref mb, .int (nI kp), .ref mw, .ref mm])), (ms, .inl (cI, 2128, .inl g)), (mb, .inl (cI, 2128, .inl b)), (mw, .inl (cI, 51072, .inl w)), (mm, .inl (cI, 320, .inl mi))]) H := by
  intro k q hk
  have hq := List.mem_of_getElem? hk
  rcases List.mem_append.mp hq with h1 | h1
  · exact xk_Pat h (List.mem_append_left _ h1)
  · simp only [List.mem_cons, List.not_mem_nil, or_false] at h1
    rcases h1 with rfl | rfl | rfl | rfl | rfl
    · exact xk_Pat h (List.mem_append_right _ (by simp))
    · exact xk_atI hfg (xk_Pat h (List.mem_append_right _ (by simp)))
    · exact xk_Pat h (List.mem_append_right _ (by simp))
    · exact xk_Pat h (List.mem_append_right _ (by simp))
    · exact xk_Pat h (List.mem_append_right _ (by simp))
end XHI
