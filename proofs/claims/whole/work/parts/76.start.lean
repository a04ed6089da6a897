theorem xn_in : ∀ w ∈ xn_ws, w ∈ lw_tbl := by decide +kernel
set_option maxHeartbeats 4000000 in
set_option maxRecDepth 100000 in
/-- what the tables say at the law's entry -/
theorem xl_tabs {s : State} {b : Nat} (hts0 : ∀ w ∈ lw_tbl, w.before #[Value.ref b] s = true) (hts : ∀ w ∈ wsL_law, w.before #[Value.ref b] s = true) : ∃ (D : va_G) (cI cJ cS : ClassId), va_K D vwCl (xt cI cJ cS) s ∧ xn s := by
  obtain ⟨c0, iS0, hKn0⟩ := u_known (C := RX0) (T := TX0) (N := 1) (n := 1) hts inlX0 (hts (.instantiable RX0 1) (by decide +kernel))
  obtain ⟨c1, iS1, hKn1⟩ := u_known (C := RX1) (T := TX1) (N := 3) (n := 3) hts inlX1 (hts (.instantiable RX1 3) (by decide +kernel))
  obtain ⟨c2, iS2, hKn2⟩ := u_known (C := RX2) (T := TX2) (N := 10) (n := 10) hts inlX2 (hts (.instantiable RX2 10) (by decide +kernel))
  obtain ⟨c4, iS4, hKn4⟩ := u_known (C := RX4) (T := TX4) (N := 3) (n := 3) hts inlX4 (hts (.instantiable RX4 3) (by decide +kernel))
  obtain ⟨c5, iS5, hKn5⟩ := u_known (C := RX5) (T := TX5) (N := 5) (n := 5) hts inlX5 (hts (.instantiable RX5 5) (by decide +kernel))
  obtain ⟨cI, kI, pI, i1, i2, i3⟩ := Cond.arrayClass_spec (hts (.arrayClass .int) (by decide +kernel))
  obtain ⟨cJ, kJ, pJ, j1, j2, j3⟩ := Cond.arrayClass_spec (hts (.arrayClass .long) (by decide +kernel))
  have hAO : va_AO RX2 s := va_AO.of (hts0 (.arrayOver (.object RX2)) (by decide +kernel))
  obtain ⟨pS, cS, kS, s1, s2, s3, s4, s5⟩ := Cond.arrayOver_spec hAO
  refine ⟨(fun k => match k with | 0 => c0 | 1 => c1 | 2 => c2 | 3 => c4 | _ => c5, fun k => match k with | 0 => iS0 | 1 => iS1 | 2 => iS2 | 3 => iS4 | _ => iS5), cI, cJ, cS, ⟨?_, ?_⟩, ?_, hAO⟩
  · intro k q hq
    match k, hq with
    | 0, hq => cases hq; exact hKn0
    | 1, hq => cases hq; exact hKn1
    | 2, hq => cases hq; exact hKn2
    | 3, hq => cases hq; exact hKn4
    | 4, hq => cases hq; exact hKn5
    | k + 5, hq => cases hq
  · intro k q hq
    match k, hq with
    | 0, hq => cases hq; exact ⟨fun n z => ⟨fun _ h => (by cases h), kI, i2, pI, i3⟩, i1⟩
    | 1, hq => cases hq; exact ⟨fun n z => ⟨fun _ h => (by cases h), kJ, j2, pJ, j3⟩, j1⟩
    | 2, hq => cases hq; exact ⟨fun n z => ⟨fun _ h => (by cases h), kS, s3, pS, s4⟩, kS, pS, s3, s4, s1, s5⟩
    | k + 3, hq => cases hq
  · intro w hw
    have h1 := hts0 w (xn_in w hw)
    obtain ⟨a, i, x, k, rfl⟩ := xn_form w hw
    exact va_Nw.of rfl h1
set_option maxHeartbeats 4000000 in
set_option maxRecDepth 100000 in
/-- THE LAW, from its entry -/
theorem whole_start {p : Program} {e : Env} {s : State} {m : MethodId} {below : List Frame} {meth : Method} {c : Code} (l : Launch) {b L : Nat} {xs : Nat → Int32} (hL : L ≤ 3072) (C0 : lw_At p s m meth c b L xs) : W p l e room_1 s m #[Value.ref b] below meth c s.heap [] 0 0 (lw_Z below #[Value.ref b] s) (entryFrame m ([Value.ref b] : List Value).toArray 4) := by
  obtain ⟨hx, hb, hr, hml, hown, hts0, hX, hbl, hlocks, hgv⟩ := id C0
  replace hown : s.vm.findClass RL = some m.cls := hown
  have hts : ∀ w ∈ wsL_law, w.before #[Value.ref b] s = true := fun w h => hts0 w (wsL_law_in w h)
  obtain ⟨D, cI, cJ, cS, hK, hN⟩ := xl_tabs hts0 hts
  obtain ⟨N4, h4⟩ : ∃ N4 : Nat, N4 = 24 := ⟨24, rfl⟩
  obtain ⟨A, hA, hA2⟩ : ∃ A : Nat → Prop, (∀ q, s.heap.size ≤ q → A q) ∧ ∀ q, A q → s.heap.size ≤ q := ⟨fun q => s.heap.size ≤ q, fun _ h => h, fun _ h => h⟩
  have hbA : ¬ A b := fun h => absurd (hA2 b h) (Nat.not_le.mpr hbl)
  have hS : va_S A s.heap s.heap [] := va_S.rf
  have hP : va_P D vwCl [] s.heap := fun k q h => by simp at h
  have hD : va_D A [] := ⟨fun i j p q h => by simp at h, fun k q h => by simp at h⟩
  have hl := lv_entry ([.ref b]) (n := 4) (Nat.le_of_ble_eq_true rfl)
  rw [lg_entry_eq]
  generalize (lg_sl ([.ref b]) ++ List.replicate (4 - (lg_sl ([.ref b])).length) Slot.unset).toArray = ls at hl ⊢
  replace hl : lv_has ls 4 [(0, .ref b)] := hl
  refine xa_new (ci := 3) (fs := [.null, .null, .null]) (C := RX4) (T := TX4) (N := 3) hx hb hts inlX4 tyX4 tyX4_ok hown (hts (.classLink RL 7 RX4) (by decide +kernel)) (hts (.instantiable RX4 3) (by decide +kernel)) (hts (.initialized RX4) (by decide +kernel)) hK hP hD hS hA rfl (fun j hj => by rcases (show j = 0 ∨ j = 1 ∨ j = 2 by omega) with rfl | rfl | rfl <;> rfl) (Nat.le_of_ble_eq_true rfl) (Nat.le_of_ble_eq_true rfl) dL_law_0 (fun q0 H hP hD hS => ?_)
  refine lv_dup hx hb dL_law_3 rfl ?_
  refine xk_callN (X := []) (va_runI (As := []) (rest := [.ref q0]) ⟨hx, hb, hml, hown, hts⟩ (k_X4_init l D cI cJ cS q0 H.size N4 h4) (cwI 0 hts gL_law_X4_init rfl rfl rfl (hts (.initialized RX4) (by decide +kernel)) (hts (.methodLink RL 9 yX4_init) (by decide +kernel)) (hts (.instanceMethod yX4_init) (by decide +kernel)) rfl (by decide +kernel) ⟨Nat.le_of_ble_eq_true rfl, Nat.le_of_ble_eq_true rfl⟩) (xk_preN (X := []) hK hN hP hD) rfl rfl hl.1 rfl (lv_room (Nat.le_of_ble_eq_true rfl)) dL_law_4 ⟨Nat.le_of_ble_eq_true rfl, Nat.le_of_ble_eq_true rfl⟩) hP hD hS hA (fun u4 H locs hu4 hP hD hS => ?_)
  have hka : ∀ i, i < 24 → x_fk (fun i => u4 (i + 2)) N4 i = some ((fun i => u4 (i + 2)) i 0) := fun i h => x_fk_at (fun i => u4 (i + 2)) N4 i (by omega)
  replace hP : va_P D vwCl (xx cI cJ cS q0 (u4 0 0) (u4 0 1) (u4 0 2) (x_fk (fun i => u4 (i + 2)) N4) (u4 1) (fun i => u4 (i + 2)) N4 (fun _ => 0) x_v0 (fun _ => x_v0) 0 0) H := hP
  replace hD : va_D A (xx cI cJ cS q0 (u4 0 0) (u4 0 1) (u4 0 2) (x_fk (fun i => u4 (i + 2)) N4) (u4 1) (fun i => u4 (i + 2)) N4 (fun _ => 0) x_v0 (fun _ => x_v0) 0 0) := hD
  refine lv_astore_n (lv' := [(1, .ref q0), (0, .ref b)]) hx hb dL_law_7 rfl hl (by decide) rfl (fun ls hl => ?_)
  refine xa_new (ci := 4) (fs := [.null, .null, .int 0, .null, .null]) (C := RX5) (T := TX5) (N := 5) hx hb hts inlX5 tyX5 tyX5_ok hown (hts (.classLink RL 10 RX5) (by decide +kernel)) (hts (.instantiable RX5 5) (by decide +kernel)) (hts (.initialized RX5) (by decide +kernel)) hK hP hD hS hA rfl (fun j hj => by rcases (show j = 0 ∨ j = 1 ∨ j = 2 ∨ j = 3 ∨ j = 4 by omega) with rfl | rfl | rfl | rfl | rfl <;> rfl) (Nat.le_of_ble_eq_true rfl) (Nat.le_of_ble_eq_true rfl) dL_law_8 (fun q8 H hP hD hS => ?_)
  refine lv_dup hx hb dL_law_11 rfl ?_
  refine xk_callN (X := xx cI cJ cS q0 (u4 0 0) (u4 0 1) (u4 0 2) (x_fk (fun i => u4 (i + 2)) N4) (u4 1) (fun i => u4 (i + 2)) N4 (fun _ => 0) x_v0 (fun _ => x_v0) 0 0) (va_runI (As := []) (rest := [.ref q8]) ⟨hx, hb, hml, hown, hts⟩ (k_X5_init l D cI cJ cS q8 H.size) (cwI 0 hts gL_law_X5_init rfl rfl rfl (hts (.initialized RX5) (by decide +kernel)) (hts (.methodLink RL 12 yX5_init) (by decide +kernel)) (hts (.instanceMethod yX5_init) (by decide +kernel)) rfl (by decide +kernel) ⟨Nat.le_of_ble_eq_true rfl, Nat.le_of_ble_eq_true rfl⟩) (xk_preN (X := xx cI cJ cS q0 (u4 0 0) (u4 0 1) (u4 0 2) (x_fk (fun i => u4 (i + 2)) N4) (u4 1) (fun i => u4 (i + 2)) N4 (fun _ => 0) x_v0 (fun _ => x_v0) 0 0) hK hN hP hD) rfl rfl hl.1 rfl (lv_room (Nat.le_of_ble_eq_true rfl)) dL_law_12 ⟨Nat.le_of_ble_eq_true rfl, Nat.le_of_ble_eq_true rfl⟩) hP hD hS hA (fun u12 H locs hu12 hP hD hS => ?_)
  refine lv_astore_n (lv' := [(2, .ref q8), (1, .ref q0), (0, .ref b)]) hx hb dL_law_15 rfl hl (by decide) rfl (fun ls hl => ?_)
  refine lv_iconst (v := 0) hx hb dL_law_16 (by decide) ?_
  refine lv_istore_n (lv' := [(3, .int 0), (2, .ref q8), (1, .ref q0), (0, .ref b)]) hx hb dL_law_17 rfl hl (by decide) rfl (fun ls hl => ?_)
  refine W.widen (k := 600000) (n := 7302250) (Nat.le_of_ble_eq_true rfl) (Nat.le_of_ble_eq_true rfl) ?_
  exact xl_loop ⟨hx, hb, hml, hown, hts, hX, hbl, hbA, hK, hN, Nat.le_of_ble_eq_true rfl, Nat.le_of_ble_eq_true rfl⟩ hA2 hr hlocks h4 hka (Nat.lt_of_le_of_lt hL (by decide)) (L + 1) 0 (fun _ => 0) x_v0 (fun _ => x_v0) 0 0 (fun _ => 0) (fun _ => 0) (fun _ => 0) 0 H locs ls (Nat.zero_le L) (by omega) x_v0_inv (x_hnil _ _) hP hD hS hl
