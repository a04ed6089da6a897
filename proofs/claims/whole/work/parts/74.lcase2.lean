set_option maxHeartbeats 4000000 in
set_option maxRecDepth 100000 in
theorem xl_sweep {p : Program} {l : Launch} {e : Env} {s : State} {m : MethodId} {below : List Frame} {meth : Method} {c : Code} {b L : Nat} {xs : Nat → Int32} {D : va_G} {cI cJ cS : ClassId} {A : Nat → Prop} {cells slots : Nat} {Q : State → Prop} (C : xl_C p s m c b L xs D cI cJ cS A cells slots) {h0 ca hh ka : Nat} {fk : Nat → Option Nat} {ad : Nat → Nat} {ads : Nat → Nat → Nat} {N4 : Nat} (h4 : N4 = 24) (hka : ∀ i, i < 24 → fk i = some (ads i 0)) {m0 ms mb mw mm : Nat} {cr : Nat → Int64} {v : xV} {vs : Nat → xV} {nx sz : Nat} {b9 w mi : Nat → Int32} {kp : Nat} {H : Heap} {locs : List Loc} {ls : Array Slot} {i : Nat} (hi : i + 6 ≤ L) (hL : L < 2 ^ 31) (hv : x_inv v) (hh9 : x_hist vs nx sz w kp) (hP : va_P D vwCl (xx cI cJ cS h0 ca hh ka fk ad ads N4 cr v vs nx sz ++ xm cI m0 ms mb mw mm v b9 w mi kp) H) (hD : va_D A (xx cI cJ cS h0 ca hh ka fk ad ads N4 cr v vs nx sz ++ xm cI m0 ms mb mw mm v b9 w mi kp)) (hS : va_S A s.heap H locs) (hl : lv_has ls 4 [(3, .int (nI i)), (2, .ref m0), (1, .ref h0), (0, .ref b)])
    (K : ∀ (cr : Nat → Int64) (v : xV) (vs : Nat → xV) (nx sz : Nat) (b9 w mi : Nat → Int32) (kp : Nat) (H : Heap) (locs : List Loc), x_inv v → x_hist vs nx sz w kp → va_P D vwCl (xx cI cJ cS h0 ca hh ka fk ad ads N4 cr v vs nx sz ++ xm cI m0 ms mb mw mm v b9 w mi kp) H → va_D A (xx cI cJ cS h0 ca hh ka fk ad ads N4 cr v vs nx sz ++ xm cI m0 ms mb mw mm v b9 w mi kp) → va_S A s.heap H locs → W p l e room_1 s m #[Value.ref b] below meth c H locs cells slots Q (F0 m 667 ls [])) : W p l e room_1 s m #[Value.ref b] below meth c H locs cells slots Q (F0 m 473 ls []) := by
  obtain ⟨hx, hb, hml, hown, hts, hX, hbl, hbA, hK, hN, hce, hsl⟩ := C
  obtain ⟨hq1, hq2, hq3, -⟩ := id hh9
  have hkp : kp ≤ 24 := by omega
  refine lv_aload_n hx hb dL_law_473 rfl (lv_at hl 2 rfl) ?_
  refine xk_callF (va_runV (As := []) (rest := []) ⟨hx, hb, hml, hown, hts⟩ (x_sweep l D cI cJ cS h0 ca hh ka fk ad ads N4 h4 cr v vs nx sz hka hq3 hq2 hv.1) (cwV 0 hts gL_law_X4_sweep rfl rfl rfl (by decide +kernel) ⟨Nat.le_of_ble_eq_true rfl, Nat.le_of_ble_eq_true rfl⟩) (xk_preVf hK hN hP hD (ci := 3) rfl 0 rfl) rfl rfl hl.1 rfl (lv_room (Nat.le_of_ble_eq_true rfl)) dL_law_474 ⟨hce, hsl⟩) hP hD hS (xxo_fst _ _ _ _ _ _ _ _ _ _ _ _ _ _ _ _ _) (fun H locs hP hD hS => ?_)
  refine lv_aload_n hx hb dL_law_477 rfl (lv_at hl 1 rfl) ?_
  refine xk_callS (X := xxo cI cJ cS h0 ca hh ka fk ad ads N4 cr v vs nx sz (sp_sweep v).2) (va_runV (As := []) (rest := [.int (sp_sweep v).1]) ⟨hx, hb, hml, hown, hts⟩ (y_sweep l D cI cJ cS m0 ms mb mw mm v b9 w mi kp hkp hv.1 hv.2.1 hv.2.2.1 hv.2.2.2.2.1 hv.2.2.2.1) (cwV 0 hts gL_law_X5_sweep rfl rfl rfl (by decide +kernel) ⟨Nat.le_of_ble_eq_true rfl, Nat.le_of_ble_eq_true rfl⟩) (xk_preVs (X := xxo cI cJ cS h0 ca hh ka fk ad ads N4 cr v vs nx sz (sp_sweep v).2) hK hN hP hD (ci := 4) rfl 0 rfl) rfl rfl hl.1 rfl (lv_room (Nat.le_of_ble_eq_true rfl)) dL_law_478 ⟨hce, hsl⟩) hP hD hS (xmo_fst _ _ _ _ _ _ _ _ _ _ _ _ _) (fun H locs hP hD hS => ?_)
  refine lv_icmp_eq (tgt := 667) hx hb dL_law_481 (by decide) (fun _ => ?_) (fun c9 => absurd rfl c9)
  obtain ⟨v2, vs2, nx2, sz2, b2, w2, kp2, e1, e2, e3, e4⟩ := x_both cI cJ cS h0 ca hh ka fk ad ads N4 cr m0 ms mb mw mm (b := b9) hv hh9 (xi_sweep hv)
  rw [e1, e2] at hP hD
  exact K cr v2 vs2 nx2 sz2 b2 w2 mi kp2 H locs e3 e4 hP hD hS
set_option maxHeartbeats 4000000 in
set_option maxRecDepth 100000 in
theorem xl_step {p : Program} {l : Launch} {e : Env} {s : State} {m : MethodId} {below : List Frame} {meth : Method} {c : Code} {b L : Nat} {xs : Nat → Int32} {D : va_G} {cI cJ cS : ClassId} {A : Nat → Prop} {cells slots : Nat} {Q : State → Prop} (C : xl_C p s m c b L xs D cI cJ cS A cells slots) {h0 ca hh ka : Nat} {fk : Nat → Option Nat} {ad : Nat → Nat} {ads : Nat → Nat → Nat} {N4 : Nat} (h4 : N4 = 24) (hka : ∀ i, i < 24 → fk i = some (ads i 0)) {m0 ms mb mw mm : Nat} {cr : Nat → Int64} {v : xV} {vs : Nat → xV} {nx sz : Nat} {b9 w mi : Nat → Int32} {kp : Nat} {H : Heap} {locs : List Loc} {ls : Array Slot} {i : Nat} (hi : i + 6 ≤ L) (hL : L < 2 ^ 31) (hv : x_inv v) (hh9 : x_hist vs nx sz w kp) (hP : va_P D vwCl (xx cI cJ cS h0 ca hh ka fk ad ads N4 cr v vs nx sz ++ xm cI m0 ms mb mw mm v b9 w mi kp) H) (hD : va_D A (xx cI cJ cS h0 ca hh ka fk ad ads N4 cr v vs nx sz ++ xm cI m0 ms mb mw mm v b9 w mi kp)) (hS : va_S A s.heap H locs) (hl : lv_has ls 4 [(3, .int (nI i)), (2, .ref m0), (1, .ref h0), (0, .ref b)])
    (K : ∀ (cr : Nat → Int64) (v : xV) (vs : Nat → xV) (nx sz : Nat) (b9 w mi : Nat → Int32) (kp : Nat) (H : Heap) (locs : List Loc), x_inv v → x_hist vs nx sz w kp → va_P D vwCl (xx cI cJ cS h0 ca hh ka fk ad ads N4 cr v vs nx sz ++ xm cI m0 ms mb mw mm v b9 w mi kp) H → va_D A (xx cI cJ cS h0 ca hh ka fk ad ads N4 cr v vs nx sz ++ xm cI m0 ms mb mw mm v b9 w mi kp) → va_S A s.heap H locs → W p l e room_1 s m #[Value.ref b] below meth c H locs cells slots Q (F0 m 667 ls [])) : W p l e room_1 s m #[Value.ref b] below meth c H locs cells slots Q (F0 m 486 ls []) := by
  obtain ⟨hx, hb, hml, hown, hts, hX, hbl, hbA, hK, hN, hce, hsl⟩ := C
  obtain ⟨hq1, hq2, hq3, -⟩ := id hh9
  have hkp : kp ≤ 24 := by omega
  refine lv_aload_n hx hb dL_law_486 rfl (lv_at hl 2 rfl) ?_
  refine lv_aload_n hx hb dL_law_487 rfl (lv_at hl 3 rfl) ?_
  refine lv_iload_n hx hb dL_law_488 rfl (lv_at hl 0 rfl) ?_
  refine lv_iconst (v := 1) hx hb dL_law_489 (by decide) ?_
  refine lv_iadd hx hb dL_law_490 ?_
  refine xl_sld hx hb hX hbl hbA hS (i + 1) (nI_add i 1) (by omega) hL dL_law_491 ?_
  refine xk_callF (va_runV (As := [.int (xs (i + 1))]) (rest := []) ⟨hx, hb, hml, hown, hts⟩ (x_step l D cI cJ cS h0 ca hh ka fk ad ads N4 h4 cr v vs nx sz hka hq3 hq2 hv.1 (xs (i + 1))) (cwV 1 hts gL_law_X4_step rfl rfl rfl (by decide +kernel) ⟨Nat.le_of_ble_eq_true rfl, Nat.le_of_ble_eq_true rfl⟩) (xk_preVf hK hN hP hD (ci := 3) rfl 0 rfl) rfl rfl hl.1 rfl (lv_room (Nat.le_of_ble_eq_true rfl)) dL_law_492 ⟨hce, hsl⟩) hP hD hS (xxo_fst _ _ _ _ _ _ _ _ _ _ _ _ _ _ _ _ _) (fun H locs hP hD hS => ?_)
  refine lv_aload_n hx hb dL_law_495 rfl (lv_at hl 1 rfl) ?_
  refine lv_aload_n hx hb dL_law_496 rfl (lv_at hl 3 rfl) ?_
  refine lv_iload_n hx hb dL_law_497 rfl (lv_at hl 0 rfl) ?_
  refine lv_iconst (v := 1) hx hb dL_law_498 (by decide) ?_
  refine lv_iadd hx hb dL_law_499 ?_
  refine xl_sld hx hb hX hbl hbA hS (i + 1) (nI_add i 1) (by omega) hL dL_law_500 ?_
  refine xk_callS (X := xxo cI cJ cS h0 ca hh ka fk ad ads N4 cr v vs nx sz (sp_step v (xs (i + 1))).2) (va_runV (As := [.int (xs (i + 1))]) (rest := [.int (sp_step v (xs (i + 1))).1]) ⟨hx, hb, hml, hown, hts⟩ (y_step l D cI cJ cS m0 ms mb mw mm v b9 w mi kp hkp hv.1 hv.2.1 hv.2.2.1 (xs (i + 1))) (cwV 1 hts gL_law_X5_step rfl rfl rfl (by decide +kernel) ⟨Nat.le_of_ble_eq_true rfl, Nat.le_of_ble_eq_true rfl⟩) (xk_preVs (X := xxo cI cJ cS h0 ca hh ka fk ad ads N4 cr v vs nx sz (sp_step v (xs (i + 1))).2) hK hN hP hD (ci := 4) rfl 0 rfl) rfl rfl hl.1 rfl (lv_room (Nat.le_of_ble_eq_true rfl)) dL_law_501 ⟨hce, hsl⟩) hP hD hS (xmo_fst _ _ _ _ _ _ _ _ _ _ _ _ _) (fun H locs hP hD hS => ?_)
  refine lv_icmp_eq (tgt := 667) hx hb dL_law_504 (by decide) (fun _ => ?_) (fun c9 => absurd rfl c9)
  obtain ⟨v2, vs2, nx2, sz2, b2, w2, kp2, e1, e2, e3, e4⟩ := x_both cI cJ cS h0 ca hh ka fk ad ads N4 cr m0 ms mb mw mm (b := b9) hv hh9 (xi_step hv (xs (i + 1)))
  rw [e1, e2] at hP hD
  exact K cr v2 vs2 nx2 sz2 b2 w2 mi kp2 H locs e3 e4 hP hD hS
set_option maxHeartbeats 4000000 in
set_option maxRecDepth 100000 in
theorem xl_end {p : Program} {l : Launch} {e : Env} {s : State} {m : MethodId} {below : List Frame} {meth : Method} {c : Code} {b L : Nat} {xs : Nat → Int32} {D : va_G} {cI cJ cS : ClassId} {A : Nat → Prop} {cells slots : Nat} {Q : State → Prop} (C : xl_C p s m c b L xs D cI cJ cS A cells slots) {h0 ca hh ka : Nat} {fk : Nat → Option Nat} {ad : Nat → Nat} {ads : Nat → Nat → Nat} {N4 : Nat} (h4 : N4 = 24) (hka : ∀ i, i < 24 → fk i = some (ads i 0)) {m0 ms mb mw mm : Nat} {cr : Nat → Int64} {v : xV} {vs : Nat → xV} {nx sz : Nat} {b9 w mi : Nat → Int32} {kp : Nat} {H : Heap} {locs : List Loc} {ls : Array Slot} {i : Nat} (hi : i + 6 ≤ L) (hL : L < 2 ^ 31) (hv : x_inv v) (hh9 : x_hist vs nx sz w kp) (hP : va_P D vwCl (xx cI cJ cS h0 ca hh ka fk ad ads N4 cr v vs nx sz ++ xm cI m0 ms mb mw mm v b9 w mi kp) H) (hD : va_D A (xx cI cJ cS h0 ca hh ka fk ad ads N4 cr v vs nx sz ++ xm cI m0 ms mb mw mm v b9 w mi kp)) (hS : va_S A s.heap H locs) (hl : lv_has ls 4 [(3, .int (nI i)), (2, .ref m0), (1, .ref h0), (0, .ref b)])
    (K : ∀ (cr : Nat → Int64) (v : xV) (vs : Nat → xV) (nx sz : Nat) (b9 w mi : Nat → Int32) (kp : Nat) (H : Heap) (locs : List Loc), x_inv v → x_hist vs nx sz w kp → va_P D vwCl (xx cI cJ cS h0 ca hh ka fk ad ads N4 cr v vs nx sz ++ xm cI m0 ms mb mw mm v b9 w mi kp) H → va_D A (xx cI cJ cS h0 ca hh ka fk ad ads N4 cr v vs nx sz ++ xm cI m0 ms mb mw mm v b9 w mi kp) → va_S A s.heap H locs → W p l e room_1 s m #[Value.ref b] below meth c H locs cells slots Q (F0 m 667 ls [])) : W p l e room_1 s m #[Value.ref b] below meth c H locs cells slots Q (F0 m 509 ls []) := by
  obtain ⟨hx, hb, hml, hown, hts, hX, hbl, hbA, hK, hN, hce, hsl⟩ := C
  obtain ⟨hq1, hq2, hq3, -⟩ := id hh9
  have hkp : kp ≤ 24 := by omega
  refine lv_aload_n hx hb dL_law_509 rfl (lv_at hl 2 rfl) ?_
  refine xk_callF (va_runV (As := []) (rest := []) ⟨hx, hb, hml, hown, hts⟩ (x_endc l D cI cJ cS h0 ca hh ka fk ad ads N4 h4 cr v vs nx sz hka hq3 hq2 hv.1) (cwV 0 hts gL_law_X4_end rfl rfl rfl (by decide +kernel) ⟨Nat.le_of_ble_eq_true rfl, Nat.le_of_ble_eq_true rfl⟩) (xk_preVf hK hN hP hD (ci := 3) rfl 0 rfl) rfl rfl hl.1 rfl (lv_room (Nat.le_of_ble_eq_true rfl)) dL_law_510 ⟨hce, hsl⟩) hP hD hS (xxo_fst _ _ _ _ _ _ _ _ _ _ _ _ _ _ _ _ _) (fun H locs hP hD hS => ?_)
  refine lv_aload_n hx hb dL_law_513 rfl (lv_at hl 1 rfl) ?_
  refine xk_callS (X := xxo cI cJ cS h0 ca hh ka fk ad ads N4 cr v vs nx sz (sp_end v).2) (va_runV (As := []) (rest := [.int (sp_end v).1]) ⟨hx, hb, hml, hown, hts⟩ (y_end l D cI cJ cS m0 ms mb mw mm v b9 w mi kp hkp hv.1 hv.2.1 hv.2.2.1 hv.2.2.2.2.1 hv.2.2.2.2.2.1) (cwV 0 hts gL_law_X5_end rfl rfl rfl (by decide +kernel) ⟨Nat.le_of_ble_eq_true rfl, Nat.le_of_ble_eq_true rfl⟩) (xk_preVs (X := xxo cI cJ cS h0 ca hh ka fk ad ads N4 cr v vs nx sz (sp_end v).2) hK hN hP hD (ci := 4) rfl 0 rfl) rfl rfl hl.1 rfl (lv_room (Nat.le_of_ble_eq_true rfl)) dL_law_514 ⟨hce, hsl⟩) hP hD hS (xmo_fst _ _ _ _ _ _ _ _ _ _ _ _ _) (fun H locs hP hD hS => ?_)
  refine lv_icmp_eq (tgt := 667) hx hb dL_law_517 (by decide) (fun _ => ?_) (fun c9 => absurd rfl c9)
  obtain ⟨v2, vs2, nx2, sz2, b2, w2, kp2, e1, e2, e3, e4⟩ := x_both cI cJ cS h0 ca hh ka fk ad ads N4 cr m0 ms mb mw mm (b := b9) hv hh9 (xi_endc hv)
  rw [e1, e2] at hP hD
  exact K cr v2 vs2 nx2 sz2 b2 w2 mi kp2 H locs e3 e4 hP hD hS
set_option maxHeartbeats 4000000 in
set_option maxRecDepth 100000 in
theorem xl_told {p : Program} {l : Launch} {e : Env} {s : State} {m : MethodId} {below : List Frame} {meth : Method} {c : Code} {b L : Nat} {xs : Nat → Int32} {D : va_G} {cI cJ cS : ClassId} {A : Nat → Prop} {cells slots : Nat} {Q : State → Prop} (C : xl_C p s m c b L xs D cI cJ cS A cells slots) {h0 ca hh ka : Nat} {fk : Nat → Option Nat} {ad : Nat → Nat} {ads : Nat → Nat → Nat} {N4 : Nat} (h4 : N4 = 24) (hka : ∀ i, i < 24 → fk i = some (ads i 0)) {m0 ms mb mw mm : Nat} {cr : Nat → Int64} {v : xV} {vs : Nat → xV} {nx sz : Nat} {b9 w mi : Nat → Int32} {kp : Nat} {H : Heap} {locs : List Loc} {ls : Array Slot} {i : Nat} (hi : i + 6 ≤ L) (hL : L < 2 ^ 31) (hv : x_inv v) (hh9 : x_hist vs nx sz w kp) (hP : va_P D vwCl (xx cI cJ cS h0 ca hh ka fk ad ads N4 cr v vs nx sz ++ xm cI m0 ms mb mw mm v b9 w mi kp) H) (hD : va_D A (xx cI cJ cS h0 ca hh ka fk ad ads N4 cr v vs nx sz ++ xm cI m0 ms mb mw mm v b9 w mi kp)) (hS : va_S A s.heap H locs) (hl : lv_has ls 4 [(3, .int (nI i)), (2, .ref m0), (1, .ref h0), (0, .ref b)])
    (K : ∀ (cr : Nat → Int64) (v : xV) (vs : Nat → xV) (nx sz : Nat) (b9 w mi : Nat → Int32) (kp : Nat) (H : Heap) (locs : List Loc), x_inv v → x_hist vs nx sz w kp → va_P D vwCl (xx cI cJ cS h0 ca hh ka fk ad ads N4 cr v vs nx sz ++ xm cI m0 ms mb mw mm v b9 w mi kp) H → va_D A (xx cI cJ cS h0 ca hh ka fk ad ads N4 cr v vs nx sz ++ xm cI m0 ms mb mw mm v b9 w mi kp) → va_S A s.heap H locs → W p l e room_1 s m #[Value.ref b] below meth c H locs cells slots Q (F0 m 667 ls [])) : W p l e room_1 s m #[Value.ref b] below meth c H locs cells slots Q (F0 m 522 ls []) := by
  obtain ⟨hx, hb, hml, hown, hts, hX, hbl, hbA, hK, hN, hce, hsl⟩ := C
  obtain ⟨hq1, hq2, hq3, -⟩ := id hh9
  have hkp : kp ≤ 24 := by omega
  refine lv_aload_n hx hb dL_law_522 rfl (lv_at hl 2 rfl) ?_
  refine lv_aload_n hx hb dL_law_523 rfl (lv_at hl 3 rfl) ?_
  refine lv_iload_n hx hb dL_law_524 rfl (lv_at hl 0 rfl) ?_
  refine lv_iconst (v := 1) hx hb dL_law_525 (by decide) ?_
  refine lv_iadd hx hb dL_law_526 ?_
  refine xl_sld hx hb hX hbl hbA hS (i + 1) (nI_add i 1) (by omega) hL dL_law_527 ?_
  refine lv_aload_n hx hb dL_law_528 rfl (lv_at hl 3 rfl) ?_
  refine lv_iload_n hx hb dL_law_529 rfl (lv_at hl 0 rfl) ?_
  refine lv_iconst (v := 2) hx hb dL_law_530 (by decide) ?_
  refine lv_iadd hx hb dL_law_531 ?_
  refine xl_sld hx hb hX hbl hbA hS (i + 2) (nI_add i 2) (by omega) hL dL_law_532 ?_
  refine lv_aload_n hx hb dL_law_533 rfl (lv_at hl 3 rfl) ?_
  refine lv_iload_n hx hb dL_law_534 rfl (lv_at hl 0 rfl) ?_
  refine lv_iconst (v := 3) hx hb dL_law_535 (by decide) ?_
  refine lv_iadd hx hb dL_law_536 ?_
  refine xl_sld hx hb hX hbl hbA hS (i + 3) (nI_add i 3) (by omega) hL dL_law_537 ?_
  refine xk_callR (va_runV (As := [.int (xs (i + 1)), .int (xs (i + 2)), .int (xs (i + 3))]) (rest := []) ⟨hx, hb, hml, hown, hts⟩ (x_toldc l D cI cJ cS h0 ca hh ka fk ad ads N4 h4 cr v vs nx sz hka hq3 hq2 hv.1 (xs (i + 1)) (xs (i + 2)) (xs (i + 3))) (cwV 3 hts gL_law_X4_told rfl rfl rfl (by decide +kernel) ⟨Nat.le_of_ble_eq_true rfl, Nat.le_of_ble_eq_true rfl⟩) (xk_preVfr hK hN hP (ci := 3) rfl 0 rfl) rfl rfl hl.1 rfl (lv_room (Nat.le_of_ble_eq_true rfl)) dL_law_538 ⟨hce, hsl⟩) ?_
  refine lv_aload_n hx hb dL_law_541 rfl (lv_at hl 1 rfl) ?_
  refine lv_aload_n hx hb dL_law_542 rfl (lv_at hl 3 rfl) ?_
  refine lv_iload_n hx hb dL_law_543 rfl (lv_at hl 0 rfl) ?_
  refine lv_iconst (v := 1) hx hb dL_law_544 (by decide) ?_
  refine lv_iadd hx hb dL_law_545 ?_
  refine xl_sld hx hb hX hbl hbA hS (i + 1) (nI_add i 1) (by omega) hL dL_law_546 ?_
  refine lv_aload_n hx hb dL_law_547 rfl (lv_at hl 3 rfl) ?_
  refine lv_iload_n hx hb dL_law_548 rfl (lv_at hl 0 rfl) ?_
  refine lv_iconst (v := 2) hx hb dL_law_549 (by decide) ?_
  refine lv_iadd hx hb dL_law_550 ?_
  refine xl_sld hx hb hX hbl hbA hS (i + 2) (nI_add i 2) (by omega) hL dL_law_551 ?_
  refine lv_aload_n hx hb dL_law_552 rfl (lv_at hl 3 rfl) ?_
  refine lv_iload_n hx hb dL_law_553 rfl (lv_at hl 0 rfl) ?_
  refine lv_iconst (v := 3) hx hb dL_law_554 (by decide) ?_
  refine lv_iadd hx hb dL_law_555 ?_
  refine xl_sld hx hb hX hbl hbA hS (i + 3) (nI_add i 3) (by omega) hL dL_law_556 ?_
  refine xk_callR (va_runV (As := [.int (xs (i + 1)), .int (xs (i + 2)), .int (xs (i + 3))]) (rest := [.int (sp_told v (xs (i + 1)) (xs (i + 2)) (xs (i + 3)))]) ⟨hx, hb, hml, hown, hts⟩ (y_told l D cI cJ cS m0 ms mb mw mm v b9 w mi kp hkp hv.1 hv.2.1 hv.2.2.1 (xs (i + 1)) (xs (i + 2)) (xs (i + 3))) (cwV 3 hts gL_law_X5_told rfl rfl rfl (by decide +kernel) ⟨Nat.le_of_ble_eq_true rfl, Nat.le_of_ble_eq_true rfl⟩) (xk_preVsr hK hN hP (ci := 4) rfl 0 rfl) rfl rfl hl.1 rfl (lv_room (Nat.le_of_ble_eq_true rfl)) dL_law_557 ⟨hce, hsl⟩) ?_
  refine lv_icmp_eq (tgt := 667) hx hb dL_law_560 (by decide) (fun _ => ?_) (fun c9 => absurd rfl c9)
  exact K cr v vs nx sz b9 w mi kp H locs hv hh9 hP hD hS
set_option maxHeartbeats 4000000 in
set_option maxRecDepth 100000 in
theorem xl_page {p : Program} {l : Launch} {e : Env} {s : State} {m : MethodId} {below : List Frame} {meth : Method} {c : Code} {b L : Nat} {xs : Nat → Int32} {D : va_G} {cI cJ cS : ClassId} {A : Nat → Prop} {cells slots : Nat} {Q : State → Prop} (C : xl_C p s m c b L xs D cI cJ cS A cells slots) {h0 ca hh ka : Nat} {fk : Nat → Option Nat} {ad : Nat → Nat} {ads : Nat → Nat → Nat} {N4 : Nat} (h4 : N4 = 24) (hka : ∀ i, i < 24 → fk i = some (ads i 0)) {m0 ms mb mw mm : Nat} {cr : Nat → Int64} {v : xV} {vs : Nat → xV} {nx sz : Nat} {b9 w mi : Nat → Int32} {kp : Nat} {H : Heap} {locs : List Loc} {ls : Array Slot} {i : Nat} (hi : i + 6 ≤ L) (hL : L < 2 ^ 31) (hv : x_inv v) (hh9 : x_hist vs nx sz w kp) (hP : va_P D vwCl (xx cI cJ cS h0 ca hh ka fk ad ads N4 cr v vs nx sz ++ xm cI m0 ms mb mw mm v b9 w mi kp) H) (hD : va_D A (xx cI cJ cS h0 ca hh ka fk ad ads N4 cr v vs nx sz ++ xm cI m0 ms mb mw mm v b9 w mi kp)) (hS : va_S A s.heap H locs) (hl : lv_has ls 4 [(3, .int (nI i)), (2, .ref m0), (1, .ref h0), (0, .ref b)])
    (K : ∀ (cr : Nat → Int64) (v : xV) (vs : Nat → xV) (nx sz : Nat) (b9 w mi : Nat → Int32) (kp : Nat) (H : Heap) (locs : List Loc), x_inv v → x_hist vs nx sz w kp → va_P D vwCl (xx cI cJ cS h0 ca hh ka fk ad ads N4 cr v vs nx sz ++ xm cI m0 ms mb mw mm v b9 w mi kp) H → va_D A (xx cI cJ cS h0 ca hh ka fk ad ads N4 cr v vs nx sz ++ xm cI m0 ms mb mw mm v b9 w mi kp) → va_S A s.heap H locs → W p l e room_1 s m #[Value.ref b] below meth c H locs cells slots Q (F0 m 667 ls [])) : W p l e room_1 s m #[Value.ref b] below meth c H locs cells slots Q (F0 m 565 ls []) := by
  obtain ⟨hx, hb, hml, hown, hts, hX, hbl, hbA, hK, hN, hce, hsl⟩ := C
  obtain ⟨hq1, hq2, hq3, -⟩ := id hh9
  have hkp : kp ≤ 24 := by omega
  refine lv_aload_n hx hb dL_law_565 rfl (lv_at hl 2 rfl) ?_
  refine lv_aload_n hx hb dL_law_566 rfl (lv_at hl 3 rfl) ?_
  refine lv_iload_n hx hb dL_law_567 rfl (lv_at hl 0 rfl) ?_
  refine lv_iconst (v := 1) hx hb dL_law_568 (by decide) ?_
  refine lv_iadd hx hb dL_law_569 ?_
  refine xl_sld hx hb hX hbl hbA hS (i + 1) (nI_add i 1) (by omega) hL dL_law_570 ?_
  refine lv_aload_n hx hb dL_law_571 rfl (lv_at hl 3 rfl) ?_
  refine lv_iload_n hx hb dL_law_572 rfl (lv_at hl 0 rfl) ?_
  refine lv_iconst (v := 2) hx hb dL_law_573 (by decide) ?_
  refine lv_iadd hx hb dL_law_574 ?_
  refine xl_sld hx hb hX hbl hbA hS (i + 2) (nI_add i 2) (by omega) hL dL_law_575 ?_
  refine xk_callR (va_runV (As := [.int (xs (i + 1)), .int (xs (i + 2))]) (rest := []) ⟨hx, hb, hml, hown, hts⟩ (x_pagec l D cI cJ cS h0 ca hh ka fk ad ads N4 h4 cr v vs nx sz hka hq3 hq2 hv.1 (xs (i + 1)) (xs (i + 2))) (cwV 2 hts gL_law_X4_page rfl rfl rfl (by decide +kernel) ⟨Nat.le_of_ble_eq_true rfl, Nat.le_of_ble_eq_true rfl⟩) (xk_preVfr hK hN hP (ci := 3) rfl 0 rfl) rfl rfl hl.1 rfl (lv_room (Nat.le_of_ble_eq_true rfl)) dL_law_576 ⟨hce, hsl⟩) ?_
  refine lv_aload_n hx hb dL_law_579 rfl (lv_at hl 1 rfl) ?_
  refine lv_aload_n hx hb dL_law_580 rfl (lv_at hl 3 rfl) ?_
  refine lv_iload_n hx hb dL_law_581 rfl (lv_at hl 0 rfl) ?_
  refine lv_iconst (v := 1) hx hb dL_law_582 (by decide) ?_
  refine lv_iadd hx hb dL_law_583 ?_
  refine xl_sld hx hb hX hbl hbA hS (i + 1) (nI_add i 1) (by omega) hL dL_law_584 ?_
  refine lv_aload_n hx hb dL_law_585 rfl (lv_at hl 3 rfl) ?_
  refine lv_iload_n hx hb dL_law_586 rfl (lv_at hl 0 rfl) ?_
  refine lv_iconst (v := 2) hx hb dL_law_587 (by decide) ?_
  refine lv_iadd hx hb dL_law_588 ?_
  refine xl_sld hx hb hX hbl hbA hS (i + 2) (nI_add i 2) (by omega) hL dL_law_589 ?_
  refine xk_callR (va_runV (As := [.int (xs (i + 1)), .int (xs (i + 2))]) (rest := [.int (sp_page v (xs (i + 1)) (xs (i + 2)))]) ⟨hx, hb, hml, hown, hts⟩ (y_page l D cI cJ cS m0 ms mb mw mm v b9 w mi kp hkp hv.1 hv.2.1 hv.2.2.1 (xs (i + 1)) (xs (i + 2))) (cwV 2 hts gL_law_X5_page rfl rfl rfl (by decide +kernel) ⟨Nat.le_of_ble_eq_true rfl, Nat.le_of_ble_eq_true rfl⟩) (xk_preVsr hK hN hP (ci := 4) rfl 0 rfl) rfl rfl hl.1 rfl (lv_room (Nat.le_of_ble_eq_true rfl)) dL_law_590 ⟨hce, hsl⟩) ?_
  refine lv_icmp_eq (tgt := 667) hx hb dL_law_593 (by decide) (fun _ => ?_) (fun c9 => absurd (m_page hv _ _).symm c9)
  exact K cr v vs nx sz b9 w mi kp H locs hv hh9 hP hD hS
set_option maxHeartbeats 4000000 in
set_option maxRecDepth 100000 in
theorem xl_range {p : Program} {l : Launch} {e : Env} {s : State} {m : MethodId} {below : List Frame} {meth : Method} {c : Code} {b L : Nat} {xs : Nat → Int32} {D : va_G} {cI cJ cS : ClassId} {A : Nat → Prop} {cells slots : Nat} {Q : State → Prop} (C : xl_C p s m c b L xs D cI cJ cS A cells slots) {h0 ca hh ka : Nat} {fk : Nat → Option Nat} {ad : Nat → Nat} {ads : Nat → Nat → Nat} {N4 : Nat} (h4 : N4 = 24) (hka : ∀ i, i < 24 → fk i = some (ads i 0)) {m0 ms mb mw mm : Nat} {cr : Nat → Int64} {v : xV} {vs : Nat → xV} {nx sz : Nat} {b9 w mi : Nat → Int32} {kp : Nat} {H : Heap} {locs : List Loc} {ls : Array Slot} {i : Nat} (hi : i + 6 ≤ L) (hL : L < 2 ^ 31) (hv : x_inv v) (hh9 : x_hist vs nx sz w kp) (hP : va_P D vwCl (xx cI cJ cS h0 ca hh ka fk ad ads N4 cr v vs nx sz ++ xm cI m0 ms mb mw mm v b9 w mi kp) H) (hD : va_D A (xx cI cJ cS h0 ca hh ka fk ad ads N4 cr v vs nx sz ++ xm cI m0 ms mb mw mm v b9 w mi kp)) (hS : va_S A s.heap H locs) (hl : lv_has ls 4 [(3, .int (nI i)), (2, .ref m0), (1, .ref h0), (0, .ref b)])
    (K : ∀ (cr : Nat → Int64) (v : xV) (vs : Nat → xV) (nx sz : Nat) (b9 w mi : Nat → Int32) (kp : Nat) (H : Heap) (locs : List Loc), x_inv v → x_hist vs nx sz w kp → va_P D vwCl (xx cI cJ cS h0 ca hh ka fk ad ads N4 cr v vs nx sz ++ xm cI m0 ms mb mw mm v b9 w mi kp) H → va_D A (xx cI cJ cS h0 ca hh ka fk ad ads N4 cr v vs nx sz ++ xm cI m0 ms mb mw mm v b9 w mi kp) → va_S A s.heap H locs → W p l e room_1 s m #[Value.ref b] below meth c H locs cells slots Q (F0 m 667 ls [])) : W p l e room_1 s m #[Value.ref b] below meth c H locs cells slots Q (F0 m 598 ls []) := by
  obtain ⟨hx, hb, hml, hown, hts, hX, hbl, hbA, hK, hN, hce, hsl⟩ := C
  obtain ⟨hq1, hq2, hq3, -⟩ := id hh9
  have hkp : kp ≤ 24 := by omega
  refine lv_aload_n hx hb dL_law_598 rfl (lv_at hl 2 rfl) ?_
  refine lv_aload_n hx hb dL_law_599 rfl (lv_at hl 3 rfl) ?_
  refine lv_iload_n hx hb dL_law_600 rfl (lv_at hl 0 rfl) ?_
  refine lv_iconst (v := 1) hx hb dL_law_601 (by decide) ?_
  refine lv_iadd hx hb dL_law_602 ?_
  refine xl_sld hx hb hX hbl hbA hS (i + 1) (nI_add i 1) (by omega) hL dL_law_603 ?_
  refine lv_aload_n hx hb dL_law_604 rfl (lv_at hl 3 rfl) ?_
  refine lv_iload_n hx hb dL_law_605 rfl (lv_at hl 0 rfl) ?_
  refine lv_iconst (v := 2) hx hb dL_law_606 (by decide) ?_
  refine lv_iadd hx hb dL_law_607 ?_
  refine xl_sld hx hb hX hbl hbA hS (i + 2) (nI_add i 2) (by omega) hL dL_law_608 ?_
  refine xk_callR (va_runV (As := [.int (xs (i + 1)), .int (xs (i + 2))]) (rest := []) ⟨hx, hb, hml, hown, hts⟩ (x_rangec l D cI cJ cS h0 ca hh ka fk ad ads N4 h4 cr v vs nx sz hka hq3 hq2 hv.1 (xs (i + 1)) (xs (i + 2))) (cwV 2 hts gL_law_X4_range rfl rfl rfl (by decide +kernel) ⟨Nat.le_of_ble_eq_true rfl, Nat.le_of_ble_eq_true rfl⟩) (xk_preVfr hK hN hP (ci := 3) rfl 0 rfl) rfl rfl hl.1 rfl (lv_room (Nat.le_of_ble_eq_true rfl)) dL_law_609 ⟨hce, hsl⟩) ?_
  refine lv_aload_n hx hb dL_law_612 rfl (lv_at hl 1 rfl) ?_
  refine lv_aload_n hx hb dL_law_613 rfl (lv_at hl 3 rfl) ?_
  refine lv_iload_n hx hb dL_law_614 rfl (lv_at hl 0 rfl) ?_
  refine lv_iconst (v := 1) hx hb dL_law_615 (by decide) ?_
  refine lv_iadd hx hb dL_law_616 ?_
  refine xl_sld hx hb hX hbl hbA hS (i + 1) (nI_add i 1) (by omega) hL dL_law_617 ?_
  refine lv_aload_n hx hb dL_law_618 rfl (lv_at hl 3 rfl) ?_
  refine lv_iload_n hx hb dL_law_619 rfl (lv_at hl 0 rfl) ?_
  refine lv_iconst (v := 2) hx hb dL_law_620 (by decide) ?_
  refine lv_iadd hx hb dL_law_621 ?_
  refine xl_sld hx hb hX hbl hbA hS (i + 2) (nI_add i 2) (by omega) hL dL_law_622 ?_
  refine xk_callR (va_runV (As := [.int (xs (i + 1)), .int (xs (i + 2))]) (rest := [.int (sp_range v (xs (i + 1)) (xs (i + 2)))]) ⟨hx, hb, hml, hown, hts⟩ (y_range l D cI cJ cS m0 ms mb mw mm v b9 w mi kp hkp hv.1 hv.2.1 hv.2.2.1 (xs (i + 1)) (xs (i + 2))) (cwV 2 hts gL_law_X5_range rfl rfl rfl (by decide +kernel) ⟨Nat.le_of_ble_eq_true rfl, Nat.le_of_ble_eq_true rfl⟩) (xk_preVsr hK hN hP (ci := 4) rfl 0 rfl) rfl rfl hl.1 rfl (lv_room (Nat.le_of_ble_eq_true rfl)) dL_law_623 ⟨hce, hsl⟩) ?_
  refine lv_icmp_eq (tgt := 667) hx hb dL_law_626 (by decide) (fun _ => ?_) (fun c9 => absurd (m_range hv.2.2.2.2.2.2 _ _).symm c9)
  exact K cr v vs nx sz b9 w mi kp H locs hv hh9 hP hD hS
set_option maxHeartbeats 4000000 in
set_option maxRecDepth 100000 in
theorem xl_undo {p : Program} {l : Launch} {e : Env} {s : State} {m : MethodId} {below : List Frame} {meth : Method} {c : Code} {b L : Nat} {xs : Nat → Int32} {D : va_G} {cI cJ cS : ClassId} {A : Nat → Prop} {cells slots : Nat} {Q : State → Prop} (C : xl_C p s m c b L xs D cI cJ cS A cells slots) {h0 ca hh ka : Nat} {fk : Nat → Option Nat} {ad : Nat → Nat} {ads : Nat → Nat → Nat} {N4 : Nat} (h4 : N4 = 24) (hka : ∀ i, i < 24 → fk i = some (ads i 0)) {m0 ms mb mw mm : Nat} {cr : Nat → Int64} {v : xV} {vs : Nat → xV} {nx sz : Nat} {b9 w mi : Nat → Int32} {kp : Nat} {H : Heap} {locs : List Loc} {ls : Array Slot} {i : Nat} (hi : i + 6 ≤ L) (hL : L < 2 ^ 31) (hv : x_inv v) (hh9 : x_hist vs nx sz w kp) (hP : va_P D vwCl (xx cI cJ cS h0 ca hh ka fk ad ads N4 cr v vs nx sz ++ xm cI m0 ms mb mw mm v b9 w mi kp) H) (hD : va_D A (xx cI cJ cS h0 ca hh ka fk ad ads N4 cr v vs nx sz ++ xm cI m0 ms mb mw mm v b9 w mi kp)) (hS : va_S A s.heap H locs) (hl : lv_has ls 4 [(3, .int (nI i)), (2, .ref m0), (1, .ref h0), (0, .ref b)])
    (K : ∀ (cr : Nat → Int64) (v : xV) (vs : Nat → xV) (nx sz : Nat) (b9 w mi : Nat → Int32) (kp : Nat) (H : Heap) (locs : List Loc), x_inv v → x_hist vs nx sz w kp → va_P D vwCl (xx cI cJ cS h0 ca hh ka fk ad ads N4 cr v vs nx sz ++ xm cI m0 ms mb mw mm v b9 w mi kp) H → va_D A (xx cI cJ cS h0 ca hh ka fk ad ads N4 cr v vs nx sz ++ xm cI m0 ms mb mw mm v b9 w mi kp) → va_S A s.heap H locs → W p l e room_1 s m #[Value.ref b] below meth c H locs cells slots Q (F0 m 667 ls [])) : W p l e room_1 s m #[Value.ref b] below meth c H locs cells slots Q (F0 m 631 ls []) := by
  obtain ⟨hx, hb, hml, hown, hts, hX, hbl, hbA, hK, hN, hce, hsl⟩ := C
  obtain ⟨hq1, hq2, hq3, -⟩ := id hh9
  have hkp : kp ≤ 24 := by omega
  subst hq1
  cases sz with
  | zero =>
    refine lv_aload_n hx hb dL_law_631 rfl (lv_at hl 2 rfl) ?_
    refine xk_callF (va_runV (As := []) (rest := []) ⟨hx, hb, hml, hown, hts⟩ (x_undo0 l D cI cJ cS h0 ca hh ka fk ad ads N4 h4 cr v vs nx 0 hka hq3 hq2 hv.1 rfl) (cwV 0 hts gL_law_X4_undo rfl rfl rfl (by decide +kernel) ⟨Nat.le_of_ble_eq_true rfl, Nat.le_of_ble_eq_true rfl⟩) (xk_preVf hK hN hP hD (ci := 3) rfl 0 rfl) rfl rfl hl.1 rfl (lv_room (Nat.le_of_ble_eq_true rfl)) dL_law_632 ⟨hce, hsl⟩) hP hD hS rfl (fun H locs hP hD hS => ?_)
    refine lv_aload_n hx hb dL_law_635 rfl (lv_at hl 1 rfl) ?_
    refine xk_callS (X := xx cI cJ cS h0 ca hh ka fk ad ads N4 cr v vs nx 0) (va_runV (As := []) (rest := [.int (-2)]) ⟨hx, hb, hml, hown, hts⟩ (j_undo0 l D cI cJ cS m0 ms mb mw mm (xf v) b9 w mi) (cwV 0 hts gL_law_X5_undo rfl rfl rfl (by decide +kernel) ⟨Nat.le_of_ble_eq_true rfl, Nat.le_of_ble_eq_true rfl⟩) (xk_preVs (X := xx cI cJ cS h0 ca hh ka fk ad ads N4 cr v vs nx 0) hK hN hP hD (ci := 4) rfl 0 rfl) rfl rfl hl.1 rfl (lv_room (Nat.le_of_ble_eq_true rfl)) dL_law_636 ⟨hce, hsl⟩) hP hD hS rfl (fun H locs hP hD hS => ?_)
    refine lv_icmp_eq (tgt := 667) hx hb dL_law_639 (by decide) (fun _ => ?_) (fun c9 => absurd rfl c9)
    exact K cr v vs nx 0 b9 w mi 0 H locs hv hh9 hP hD hS
  | succ n9 =>
    obtain ⟨g1, g2, g3, g4⟩ := x_hpop hh9
    refine lv_aload_n hx hb dL_law_631 rfl (lv_at hl 2 rfl) ?_
    refine xk_callF (va_runV (As := []) (rest := []) ⟨hx, hb, hml, hown, hts⟩ (x_undo1 l D cI cJ cS h0 ca hh ka fk ad ads N4 h4 cr v vs nx (n9 + 1) hka hq3 hq2 hv.1 (Nat.succ_pos n9)) (cwV 0 hts gL_law_X4_undo rfl rfl rfl (by decide +kernel) ⟨Nat.le_of_ble_eq_true rfl, Nat.le_of_ble_eq_true rfl⟩) (xk_preVf hK hN hP hD (ci := 3) rfl 0 rfl) rfl rfl hl.1 rfl (lv_room (Nat.le_of_ble_eq_true rfl)) dL_law_632 ⟨hce, hsl⟩) hP hD hS (xx_fst2 _ _ _ _ _ _ _ _ _ _ _ _ _ _ _ _ _ _ _ _) (fun H locs hP hD hS => ?_)
    refine lv_aload_n hx hb dL_law_635 rfl (lv_at hl 1 rfl) ?_
    refine xk_callS (X := xx cI cJ cS h0 ca hh ka fk ad ads N4 cr (vs (x_pv nx)) vs (x_pv nx) n9) (va_runV (As := []) (rest := [.int 1]) ⟨hx, hb, hml, hown, hts⟩ (j_undo1 l D cI cJ cS m0 ms mb mw mm (xf v) b9 w mi n9 g3) (cwV 0 hts gL_law_X5_undo rfl rfl rfl (by decide +kernel) ⟨Nat.le_of_ble_eq_true rfl, Nat.le_of_ble_eq_true rfl⟩) (xk_preVs (X := xx cI cJ cS h0 ca hh ka fk ad ads N4 cr (vs (x_pv nx)) vs (x_pv nx) n9) hK hN hP hD (ci := 4) rfl 0 rfl) rfl rfl hl.1 rfl (lv_room (Nat.le_of_ble_eq_true rfl)) dL_law_636 ⟨hce, hsl⟩) hP hD hS rfl (fun H locs hP hD hS => ?_)
    refine lv_icmp_eq (tgt := 667) hx hb dL_law_639 (by decide) (fun _ => ?_) (fun c9 => absurd rfl c9)
    replace hP := xm_undo hP g4
    replace hD : va_D A (xx cI cJ cS h0 ca hh ka fk ad ads N4 cr (vs (x_pv nx)) vs (x_pv nx) n9 ++ xm cI m0 ms mb mw mm (vs (x_pv nx)) b9 w mi n9) := xk_Df hD (by rw [List.map_append, List.map_append]; rfl)
    exact K cr (vs (x_pv nx)) vs (x_pv nx) n9 b9 w mi n9 H locs g2 g1 hP hD hS
set_option maxHeartbeats 4000000 in
set_option maxRecDepth 100000 in
theorem xl_count {p : Program} {l : Launch} {e : Env} {s : State} {m : MethodId} {below : List Frame} {meth : Method} {c : Code} {b L : Nat} {xs : Nat → Int32} {D : va_G} {cI cJ cS : ClassId} {A : Nat → Prop} {cells slots : Nat} {Q : State → Prop} (C : xl_C p s m c b L xs D cI cJ cS A cells slots) {h0 ca hh ka : Nat} {fk : Nat → Option Nat} {ad : Nat → Nat} {ads : Nat → Nat → Nat} {N4 : Nat} (h4 : N4 = 24) (hka : ∀ i, i < 24 → fk i = some (ads i 0)) {m0 ms mb mw mm : Nat} {cr : Nat → Int64} {v : xV} {vs : Nat → xV} {nx sz : Nat} {b9 w mi : Nat → Int32} {kp : Nat} {H : Heap} {locs : List Loc} {ls : Array Slot} {i : Nat} (hi : i + 6 ≤ L) (hL : L < 2 ^ 31) (hv : x_inv v) (hh9 : x_hist vs nx sz w kp) (hP : va_P D vwCl (xx cI cJ cS h0 ca hh ka fk ad ads N4 cr v vs nx sz ++ xm cI m0 ms mb mw mm v b9 w mi kp) H) (hD : va_D A (xx cI cJ cS h0 ca hh ka fk ad ads N4 cr v vs nx sz ++ xm cI m0 ms mb mw mm v b9 w mi kp)) (hS : va_S A s.heap H locs) (hl : lv_has ls 4 [(3, .int (nI i)), (2, .ref m0), (1, .ref h0), (0, .ref b)])
    (K : ∀ (cr : Nat → Int64) (v : xV) (vs : Nat → xV) (nx sz : Nat) (b9 w mi : Nat → Int32) (kp : Nat) (H : Heap) (locs : List Loc), x_inv v → x_hist vs nx sz w kp → va_P D vwCl (xx cI cJ cS h0 ca hh ka fk ad ads N4 cr v vs nx sz ++ xm cI m0 ms mb mw mm v b9 w mi kp) H → va_D A (xx cI cJ cS h0 ca hh ka fk ad ads N4 cr v vs nx sz ++ xm cI m0 ms mb mw mm v b9 w mi kp) → va_S A s.heap H locs → W p l e room_1 s m #[Value.ref b] below meth c H locs cells slots Q (F0 m 667 ls [])) : W p l e room_1 s m #[Value.ref b] below meth c H locs cells slots Q (F0 m 644 ls []) := by
  obtain ⟨hx, hb, hml, hown, hts, hX, hbl, hbA, hK, hN, hce, hsl⟩ := C
  obtain ⟨hq1, hq2, hq3, -⟩ := id hh9
  have hkp : kp ≤ 24 := by omega
  refine lv_aload_n hx hb dL_law_644 rfl (lv_at hl 2 rfl) ?_
  refine lv_aload_n hx hb dL_law_645 rfl (lv_at hl 3 rfl) ?_
  refine lv_iload_n hx hb dL_law_646 rfl (lv_at hl 0 rfl) ?_
  refine lv_iconst (v := 1) hx hb dL_law_647 (by decide) ?_
  refine lv_iadd hx hb dL_law_648 ?_
  refine xl_sld hx hb hX hbl hbA hS (i + 1) (nI_add i 1) (by omega) hL dL_law_649 ?_
  refine xk_callR (va_runV (As := [.int (xs (i + 1))]) (rest := []) ⟨hx, hb, hml, hown, hts⟩ (x_countc l D cI cJ cS h0 ca hh ka fk ad ads N4 h4 cr v vs nx sz hka hq3 hq2 hv.1 (xs (i + 1))) (cwV 1 hts gL_law_X4_count rfl rfl rfl (by decide +kernel) ⟨Nat.le_of_ble_eq_true rfl, Nat.le_of_ble_eq_true rfl⟩) (xk_preVfr hK hN hP (ci := 3) rfl 0 rfl) rfl rfl hl.1 rfl (lv_room (Nat.le_of_ble_eq_true rfl)) dL_law_650 ⟨hce, hsl⟩) ?_
  refine lv_aload_n hx hb dL_law_653 rfl (lv_at hl 1 rfl) ?_
  refine lv_aload_n hx hb dL_law_654 rfl (lv_at hl 3 rfl) ?_
  refine lv_iload_n hx hb dL_law_655 rfl (lv_at hl 0 rfl) ?_
  refine lv_iconst (v := 1) hx hb dL_law_656 (by decide) ?_
  refine lv_iadd hx hb dL_law_657 ?_
  refine xl_sld hx hb hX hbl hbA hS (i + 1) (nI_add i 1) (by omega) hL dL_law_658 ?_
  refine xk_callR (va_runV (As := [.int (xs (i + 1))]) (rest := [.int (sp_count v sz (xs (i + 1)))]) ⟨hx, hb, hml, hown, hts⟩ (y_count l D cI cJ cS m0 ms mb mw mm v b9 w mi kp hkp hv.1 hv.2.1 hv.2.2.1 (xs (i + 1))) (cwV 1 hts gL_law_X5_count rfl rfl rfl (by decide +kernel) ⟨Nat.le_of_ble_eq_true rfl, Nat.le_of_ble_eq_true rfl⟩) (xk_preVsr hK hN hP (ci := 4) rfl 0 rfl) rfl rfl hl.1 rfl (lv_room (Nat.le_of_ble_eq_true rfl)) dL_law_659 ⟨hce, hsl⟩) ?_
  refine lv_icmp_eq (tgt := 667) hx hb dL_law_662 (by decide) (fun _ => ?_) (fun c9 => absurd (by rw [hq1]; exact (m_count hv kp _).symm) c9)
  exact K cr v vs nx sz b9 w mi kp H locs hv hh9 hP hD hS
