set_option maxHeartbeats 4000000 in
set_option maxRecDepth 100000 in
theorem xl_give {p : Program} {l : Launch} {e : Env} {s : State} {m : MethodId} {below : List Frame} {meth : Method} {c : Code} {b L : Nat} {xs : Nat → Int32} {D : va_G} {cI cJ cS : ClassId} {A : Nat → Prop} {cells slots : Nat} {Q : State → Prop} (C : xl_C p s m c b L xs D cI cJ cS A cells slots) {h0 ca hh ka : Nat} {fk : Nat → Option Nat} {ad : Nat → Nat} {ads : Nat → Nat → Nat} {N4 : Nat} (h4 : N4 = 24) (hka : ∀ i, i < 24 → fk i = some (ads i 0)) {m0 ms mb mw mm : Nat} {cr : Nat → Int64} {v : xV} {vs : Nat → xV} {nx sz : Nat} {b9 w mi : Nat → Int32} {kp : Nat} {H : Heap} {locs : List Loc} {ls : Array Slot} {i : Nat} (hi : i + 6 ≤ L) (hL : L < 2 ^ 31) (hv : x_inv v) (hh9 : x_hist vs nx sz w kp) (hP : va_P D vwCl (xx cI cJ cS h0 ca hh ka fk ad ads N4 cr v vs nx sz ++ xm cI m0 ms mb mw mm v b9 w mi kp) H) (hD : va_D A (xx cI cJ cS h0 ca hh ka fk ad ads N4 cr v vs nx sz ++ xm cI m0 ms mb mw mm v b9 w mi kp)) (hS : va_S A s.heap H locs) (hl : lv_has ls 4 [(3, .int (nI i)), (2, .ref m0), (1, .ref h0), (0, .ref b)])
    (K : ∀ (cr : Nat → Int64) (v : xV) (vs : Nat → xV) (nx sz : Nat) (b9 w mi : Nat → Int32) (kp : Nat) (H : Heap) (locs : List Loc), x_inv v → x_hist vs nx sz w kp → va_P D vwCl (xx cI cJ cS h0 ca hh ka fk ad ads N4 cr v vs nx sz ++ xm cI m0 ms mb mw mm v b9 w mi kp) H → va_D A (xx cI cJ cS h0 ca hh ka fk ad ads N4 cr v vs nx sz ++ xm cI m0 ms mb mw mm v b9 w mi kp) → va_S A s.heap H locs → W p l e room_1 s m #[Value.ref b] below meth c H locs cells slots Q (F0 m 667 ls [])) : W p l e room_1 s m #[Value.ref b] below meth c H locs cells slots Q (F0 m 116 ls []) := by
  obtain ⟨hx, hb, hml, hown, hts, hX, hbl, hbA, hK, hN, hce, hsl⟩ := C
  obtain ⟨hq1, hq2, hq3, -⟩ := id hh9
  have hkp : kp ≤ 24 := by omega
  refine lv_aload_n hx hb dL_law_116 rfl (lv_at hl 2 rfl) ?_
  refine lv_aload_n hx hb dL_law_117 rfl (lv_at hl 3 rfl) ?_
  refine lv_iload_n hx hb dL_law_118 rfl (lv_at hl 0 rfl) ?_
  refine lv_iconst (v := 1) hx hb dL_law_119 (by decide) ?_
  refine lv_iadd hx hb dL_law_120 ?_
  refine xl_sld hx hb hX hbl hbA hS (i + 1) (nI_add i 1) (by omega) hL dL_law_121 ?_
  refine lv_aload_n hx hb dL_law_122 rfl (lv_at hl 3 rfl) ?_
  refine lv_iload_n hx hb dL_law_123 rfl (lv_at hl 0 rfl) ?_
  refine lv_iconst (v := 2) hx hb dL_law_124 (by decide) ?_
  refine lv_iadd hx hb dL_law_125 ?_
  refine xl_sld hx hb hX hbl hbA hS (i + 2) (nI_add i 2) (by omega) hL dL_law_126 ?_
  refine xk_callF (va_runV (As := [.int (xs (i + 1)), .int (xs (i + 2))]) (rest := []) ⟨hx, hb, hml, hown, hts⟩ (x_give l D cI cJ cS h0 ca hh ka fk ad ads N4 h4 cr v vs nx sz hka hq3 hq2 hv.1 (xs (i + 1)) (xs (i + 2))) (cwV 2 hts gL_law_X4_give rfl rfl rfl (by decide +kernel) ⟨Nat.le_of_ble_eq_true rfl, Nat.le_of_ble_eq_true rfl⟩) (xk_preVf hK hN hP hD (ci := 3) rfl 0 rfl) rfl rfl hl.1 rfl (lv_room (Nat.le_of_ble_eq_true rfl)) dL_law_127 ⟨hce, hsl⟩) hP hD hS (xxo_fst _ _ _ _ _ _ _ _ _ _ _ _ _ _ _ _ _) (fun H locs hP hD hS => ?_)
  refine lv_aload_n hx hb dL_law_130 rfl (lv_at hl 1 rfl) ?_
  refine lv_aload_n hx hb dL_law_131 rfl (lv_at hl 3 rfl) ?_
  refine lv_iload_n hx hb dL_law_132 rfl (lv_at hl 0 rfl) ?_
  refine lv_iconst (v := 1) hx hb dL_law_133 (by decide) ?_
  refine lv_iadd hx hb dL_law_134 ?_
  refine xl_sld hx hb hX hbl hbA hS (i + 1) (nI_add i 1) (by omega) hL dL_law_135 ?_
  refine lv_aload_n hx hb dL_law_136 rfl (lv_at hl 3 rfl) ?_
  refine lv_iload_n hx hb dL_law_137 rfl (lv_at hl 0 rfl) ?_
  refine lv_iconst (v := 2) hx hb dL_law_138 (by decide) ?_
  refine lv_iadd hx hb dL_law_139 ?_
  refine xl_sld hx hb hX hbl hbA hS (i + 2) (nI_add i 2) (by omega) hL dL_law_140 ?_
  refine xk_callS (X := xxo cI cJ cS h0 ca hh ka fk ad ads N4 cr v vs nx sz (sp_give v (xs (i + 1)) (xs (i + 2))).2) (va_runV (As := [.int (xs (i + 1)), .int (xs (i + 2))]) (rest := [.int (sp_give v (xs (i + 1)) (xs (i + 2))).1]) ⟨hx, hb, hml, hown, hts⟩ (y_give l D cI cJ cS m0 ms mb mw mm v b9 w mi kp hkp hv.1 hv.2.1 hv.2.2.1 hv.2.2.2.2.2.2 (xs (i + 1)) (xs (i + 2))) (cwV 2 hts gL_law_X5_give rfl rfl rfl (by decide +kernel) ⟨Nat.le_of_ble_eq_true rfl, Nat.le_of_ble_eq_true rfl⟩) (xk_preVs (X := xxo cI cJ cS h0 ca hh ka fk ad ads N4 cr v vs nx sz (sp_give v (xs (i + 1)) (xs (i + 2))).2) hK hN hP hD (ci := 4) rfl 0 rfl) rfl rfl hl.1 rfl (lv_room (Nat.le_of_ble_eq_true rfl)) dL_law_141 ⟨hce, hsl⟩) hP hD hS (xmo_fst _ _ _ _ _ _ _ _ _ _ _ _ _) (fun H locs hP hD hS => ?_)
  refine lv_icmp_eq (tgt := 667) hx hb dL_law_144 (by decide) (fun _ => ?_) (fun c9 => absurd rfl c9)
  obtain ⟨v2, vs2, nx2, sz2, b2, w2, kp2, e1, e2, e3, e4⟩ := x_both cI cJ cS h0 ca hh ka fk ad ads N4 cr m0 ms mb mw mm (b := b9) hv hh9 (xi_give hv (xs (i + 1)) (xs (i + 2)))
  rw [e1, e2] at hP hD
  exact K cr v2 vs2 nx2 sz2 b2 w2 mi kp2 H locs e3 e4 hP hD hS
set_option maxHeartbeats 4000000 in
set_option maxRecDepth 100000 in
theorem xl_back {p : Program} {l : Launch} {e : Env} {s : State} {m : MethodId} {below : List Frame} {meth : Method} {c : Code} {b L : Nat} {xs : Nat → Int32} {D : va_G} {cI cJ cS : ClassId} {A : Nat → Prop} {cells slots : Nat} {Q : State → Prop} (C : xl_C p s m c b L xs D cI cJ cS A cells slots) {h0 ca hh ka : Nat} {fk : Nat → Option Nat} {ad : Nat → Nat} {ads : Nat → Nat → Nat} {N4 : Nat} (h4 : N4 = 24) (hka : ∀ i, i < 24 → fk i = some (ads i 0)) {m0 ms mb mw mm : Nat} {cr : Nat → Int64} {v : xV} {vs : Nat → xV} {nx sz : Nat} {b9 w mi : Nat → Int32} {kp : Nat} {H : Heap} {locs : List Loc} {ls : Array Slot} {i : Nat} (hi : i + 6 ≤ L) (hL : L < 2 ^ 31) (hv : x_inv v) (hh9 : x_hist vs nx sz w kp) (hP : va_P D vwCl (xx cI cJ cS h0 ca hh ka fk ad ads N4 cr v vs nx sz ++ xm cI m0 ms mb mw mm v b9 w mi kp) H) (hD : va_D A (xx cI cJ cS h0 ca hh ka fk ad ads N4 cr v vs nx sz ++ xm cI m0 ms mb mw mm v b9 w mi kp)) (hS : va_S A s.heap H locs) (hl : lv_has ls 4 [(3, .int (nI i)), (2, .ref m0), (1, .ref h0), (0, .ref b)])
    (K : ∀ (cr : Nat → Int64) (v : xV) (vs : Nat → xV) (nx sz : Nat) (b9 w mi : Nat → Int32) (kp : Nat) (H : Heap) (locs : List Loc), x_inv v → x_hist vs nx sz w kp → va_P D vwCl (xx cI cJ cS h0 ca hh ka fk ad ads N4 cr v vs nx sz ++ xm cI m0 ms mb mw mm v b9 w mi kp) H → va_D A (xx cI cJ cS h0 ca hh ka fk ad ads N4 cr v vs nx sz ++ xm cI m0 ms mb mw mm v b9 w mi kp) → va_S A s.heap H locs → W p l e room_1 s m #[Value.ref b] below meth c H locs cells slots Q (F0 m 667 ls [])) : W p l e room_1 s m #[Value.ref b] below meth c H locs cells slots Q (F0 m 149 ls []) := by
  obtain ⟨hx, hb, hml, hown, hts, hX, hbl, hbA, hK, hN, hce, hsl⟩ := C
  obtain ⟨hq1, hq2, hq3, -⟩ := id hh9
  have hkp : kp ≤ 24 := by omega
  refine lv_aload_n hx hb dL_law_149 rfl (lv_at hl 2 rfl) ?_
  refine lv_aload_n hx hb dL_law_150 rfl (lv_at hl 3 rfl) ?_
  refine lv_iload_n hx hb dL_law_151 rfl (lv_at hl 0 rfl) ?_
  refine lv_iconst (v := 1) hx hb dL_law_152 (by decide) ?_
  refine lv_iadd hx hb dL_law_153 ?_
  refine xl_sld hx hb hX hbl hbA hS (i + 1) (nI_add i 1) (by omega) hL dL_law_154 ?_
  refine xk_callF (va_runV (As := [.int (xs (i + 1))]) (rest := []) ⟨hx, hb, hml, hown, hts⟩ (x_back l D cI cJ cS h0 ca hh ka fk ad ads N4 h4 cr v vs nx sz hka hq3 hq2 hv.1 (xs (i + 1))) (cwV 1 hts gL_law_X4_back rfl rfl rfl (by decide +kernel) ⟨Nat.le_of_ble_eq_true rfl, Nat.le_of_ble_eq_true rfl⟩) (xk_preVf hK hN hP hD (ci := 3) rfl 0 rfl) rfl rfl hl.1 rfl (lv_room (Nat.le_of_ble_eq_true rfl)) dL_law_155 ⟨hce, hsl⟩) hP hD hS (xxo_fst _ _ _ _ _ _ _ _ _ _ _ _ _ _ _ _ _) (fun H locs hP hD hS => ?_)
  refine lv_aload_n hx hb dL_law_158 rfl (lv_at hl 1 rfl) ?_
  refine lv_aload_n hx hb dL_law_159 rfl (lv_at hl 3 rfl) ?_
  refine lv_iload_n hx hb dL_law_160 rfl (lv_at hl 0 rfl) ?_
  refine lv_iconst (v := 1) hx hb dL_law_161 (by decide) ?_
  refine lv_iadd hx hb dL_law_162 ?_
  refine xl_sld hx hb hX hbl hbA hS (i + 1) (nI_add i 1) (by omega) hL dL_law_163 ?_
  refine xk_callS (X := xxo cI cJ cS h0 ca hh ka fk ad ads N4 cr v vs nx sz (sp_back v (xs (i + 1))).2) (va_runV (As := [.int (xs (i + 1))]) (rest := [.int (sp_back v (xs (i + 1))).1]) ⟨hx, hb, hml, hown, hts⟩ (y_back l D cI cJ cS m0 ms mb mw mm v b9 w mi kp hkp hv.1 hv.2.1 hv.2.2.1 hv.2.2.2.2.2.2 (xs (i + 1))) (cwV 1 hts gL_law_X5_back rfl rfl rfl (by decide +kernel) ⟨Nat.le_of_ble_eq_true rfl, Nat.le_of_ble_eq_true rfl⟩) (xk_preVs (X := xxo cI cJ cS h0 ca hh ka fk ad ads N4 cr v vs nx sz (sp_back v (xs (i + 1))).2) hK hN hP hD (ci := 4) rfl 0 rfl) rfl rfl hl.1 rfl (lv_room (Nat.le_of_ble_eq_true rfl)) dL_law_164 ⟨hce, hsl⟩) hP hD hS (xmo_fst _ _ _ _ _ _ _ _ _ _ _ _ _) (fun H locs hP hD hS => ?_)
  refine lv_icmp_eq (tgt := 667) hx hb dL_law_167 (by decide) (fun _ => ?_) (fun c9 => absurd rfl c9)
  obtain ⟨v2, vs2, nx2, sz2, b2, w2, kp2, e1, e2, e3, e4⟩ := x_both cI cJ cS h0 ca hh ka fk ad ads N4 cr m0 ms mb mw mm (b := b9) hv hh9 (xi_back hv (xs (i + 1)))
  rw [e1, e2] at hP hD
  exact K cr v2 vs2 nx2 sz2 b2 w2 mi kp2 H locs e3 e4 hP hD hS
set_option maxHeartbeats 4000000 in
set_option maxRecDepth 100000 in
theorem xl_number {p : Program} {l : Launch} {e : Env} {s : State} {m : MethodId} {below : List Frame} {meth : Method} {c : Code} {b L : Nat} {xs : Nat → Int32} {D : va_G} {cI cJ cS : ClassId} {A : Nat → Prop} {cells slots : Nat} {Q : State → Prop} (C : xl_C p s m c b L xs D cI cJ cS A cells slots) {h0 ca hh ka : Nat} {fk : Nat → Option Nat} {ad : Nat → Nat} {ads : Nat → Nat → Nat} {N4 : Nat} (h4 : N4 = 24) (hka : ∀ i, i < 24 → fk i = some (ads i 0)) {m0 ms mb mw mm : Nat} {cr : Nat → Int64} {v : xV} {vs : Nat → xV} {nx sz : Nat} {b9 w mi : Nat → Int32} {kp : Nat} {H : Heap} {locs : List Loc} {ls : Array Slot} {i : Nat} (hi : i + 6 ≤ L) (hL : L < 2 ^ 31) (hv : x_inv v) (hh9 : x_hist vs nx sz w kp) (hP : va_P D vwCl (xx cI cJ cS h0 ca hh ka fk ad ads N4 cr v vs nx sz ++ xm cI m0 ms mb mw mm v b9 w mi kp) H) (hD : va_D A (xx cI cJ cS h0 ca hh ka fk ad ads N4 cr v vs nx sz ++ xm cI m0 ms mb mw mm v b9 w mi kp)) (hS : va_S A s.heap H locs) (hl : lv_has ls 4 [(3, .int (nI i)), (2, .ref m0), (1, .ref h0), (0, .ref b)])
    (K : ∀ (cr : Nat → Int64) (v : xV) (vs : Nat → xV) (nx sz : Nat) (b9 w mi : Nat → Int32) (kp : Nat) (H : Heap) (locs : List Loc), x_inv v → x_hist vs nx sz w kp → va_P D vwCl (xx cI cJ cS h0 ca hh ka fk ad ads N4 cr v vs nx sz ++ xm cI m0 ms mb mw mm v b9 w mi kp) H → va_D A (xx cI cJ cS h0 ca hh ka fk ad ads N4 cr v vs nx sz ++ xm cI m0 ms mb mw mm v b9 w mi kp) → va_S A s.heap H locs → W p l e room_1 s m #[Value.ref b] below meth c H locs cells slots Q (F0 m 667 ls [])) : W p l e room_1 s m #[Value.ref b] below meth c H locs cells slots Q (F0 m 172 ls []) := by
  obtain ⟨hx, hb, hml, hown, hts, hX, hbl, hbA, hK, hN, hce, hsl⟩ := C
  obtain ⟨hq1, hq2, hq3, -⟩ := id hh9
  have hkp : kp ≤ 24 := by omega
  refine lv_aload_n hx hb dL_law_172 rfl (lv_at hl 2 rfl) ?_
  refine lv_aload_n hx hb dL_law_173 rfl (lv_at hl 3 rfl) ?_
  refine lv_iload_n hx hb dL_law_174 rfl (lv_at hl 0 rfl) ?_
  refine lv_iconst (v := 1) hx hb dL_law_175 (by decide) ?_
  refine lv_iadd hx hb dL_law_176 ?_
  refine xl_sld hx hb hX hbl hbA hS (i + 1) (nI_add i 1) (by omega) hL dL_law_177 ?_
  refine lv_aload_n hx hb dL_law_178 rfl (lv_at hl 3 rfl) ?_
  refine lv_iload_n hx hb dL_law_179 rfl (lv_at hl 0 rfl) ?_
  refine lv_iconst (v := 2) hx hb dL_law_180 (by decide) ?_
  refine lv_iadd hx hb dL_law_181 ?_
  refine xl_sld hx hb hX hbl hbA hS (i + 2) (nI_add i 2) (by omega) hL dL_law_182 ?_
  refine xk_callF (va_runV (As := [.int (xs (i + 1)), .int (xs (i + 2))]) (rest := []) ⟨hx, hb, hml, hown, hts⟩ (x_number l D cI cJ cS h0 ca hh ka fk ad ads N4 h4 cr v vs nx sz hka hq3 hq2 hv.1 (xs (i + 1)) (xs (i + 2))) (cwV 2 hts gL_law_X4_number rfl rfl rfl (by decide +kernel) ⟨Nat.le_of_ble_eq_true rfl, Nat.le_of_ble_eq_true rfl⟩) (xk_preVf hK hN hP hD (ci := 3) rfl 0 rfl) rfl rfl hl.1 rfl (lv_room (Nat.le_of_ble_eq_true rfl)) dL_law_183 ⟨hce, hsl⟩) hP hD hS (xxo_fst _ _ _ _ _ _ _ _ _ _ _ _ _ _ _ _ _) (fun H locs hP hD hS => ?_)
  refine lv_aload_n hx hb dL_law_186 rfl (lv_at hl 1 rfl) ?_
  refine lv_aload_n hx hb dL_law_187 rfl (lv_at hl 3 rfl) ?_
  refine lv_iload_n hx hb dL_law_188 rfl (lv_at hl 0 rfl) ?_
  refine lv_iconst (v := 1) hx hb dL_law_189 (by decide) ?_
  refine lv_iadd hx hb dL_law_190 ?_
  refine xl_sld hx hb hX hbl hbA hS (i + 1) (nI_add i 1) (by omega) hL dL_law_191 ?_
  refine lv_aload_n hx hb dL_law_192 rfl (lv_at hl 3 rfl) ?_
  refine lv_iload_n hx hb dL_law_193 rfl (lv_at hl 0 rfl) ?_
  refine lv_iconst (v := 2) hx hb dL_law_194 (by decide) ?_
  refine lv_iadd hx hb dL_law_195 ?_
  refine xl_sld hx hb hX hbl hbA hS (i + 2) (nI_add i 2) (by omega) hL dL_law_196 ?_
  refine xk_callS (X := xxo cI cJ cS h0 ca hh ka fk ad ads N4 cr v vs nx sz (sp_number v (xs (i + 1)) (xs (i + 2))).2) (va_runV (As := [.int (xs (i + 1)), .int (xs (i + 2))]) (rest := [.int (sp_number v (xs (i + 1)) (xs (i + 2))).1]) ⟨hx, hb, hml, hown, hts⟩ (y_number l D cI cJ cS m0 ms mb mw mm v b9 w mi kp hkp hv.1 hv.2.1 hv.2.2.1 (xs (i + 1)) (xs (i + 2))) (cwV 2 hts gL_law_X5_number rfl rfl rfl (by decide +kernel) ⟨Nat.le_of_ble_eq_true rfl, Nat.le_of_ble_eq_true rfl⟩) (xk_preVs (X := xxo cI cJ cS h0 ca hh ka fk ad ads N4 cr v vs nx sz (sp_number v (xs (i + 1)) (xs (i + 2))).2) hK hN hP hD (ci := 4) rfl 0 rfl) rfl rfl hl.1 rfl (lv_room (Nat.le_of_ble_eq_true rfl)) dL_law_197 ⟨hce, hsl⟩) hP hD hS (xmo_fst _ _ _ _ _ _ _ _ _ _ _ _ _) (fun H locs hP hD hS => ?_)
  refine lv_icmp_eq (tgt := 667) hx hb dL_law_200 (by decide) (fun _ => ?_) (fun c9 => absurd rfl c9)
  obtain ⟨v2, vs2, nx2, sz2, b2, w2, kp2, e1, e2, e3, e4⟩ := x_both cI cJ cS h0 ca hh ka fk ad ads N4 cr m0 ms mb mw mm (b := b9) hv hh9 (xi_number hv (xs (i + 1)) (xs (i + 2)))
  rw [e1, e2] at hP hD
  exact K cr v2 vs2 nx2 sz2 b2 w2 mi kp2 H locs e3 e4 hP hD hS
set_option maxHeartbeats 4000000 in
set_option maxRecDepth 100000 in
theorem xl_copy {p : Program} {l : Launch} {e : Env} {s : State} {m : MethodId} {below : List Frame} {meth : Method} {c : Code} {b L : Nat} {xs : Nat → Int32} {D : va_G} {cI cJ cS : ClassId} {A : Nat → Prop} {cells slots : Nat} {Q : State → Prop} (C : xl_C p s m c b L xs D cI cJ cS A cells slots) {h0 ca hh ka : Nat} {fk : Nat → Option Nat} {ad : Nat → Nat} {ads : Nat → Nat → Nat} {N4 : Nat} (h4 : N4 = 24) (hka : ∀ i, i < 24 → fk i = some (ads i 0)) {m0 ms mb mw mm : Nat} {cr : Nat → Int64} {v : xV} {vs : Nat → xV} {nx sz : Nat} {b9 w mi : Nat → Int32} {kp : Nat} {H : Heap} {locs : List Loc} {ls : Array Slot} {i : Nat} (hi : i + 6 ≤ L) (hL : L < 2 ^ 31) (hv : x_inv v) (hh9 : x_hist vs nx sz w kp) (hP : va_P D vwCl (xx cI cJ cS h0 ca hh ka fk ad ads N4 cr v vs nx sz ++ xm cI m0 ms mb mw mm v b9 w mi kp) H) (hD : va_D A (xx cI cJ cS h0 ca hh ka fk ad ads N4 cr v vs nx sz ++ xm cI m0 ms mb mw mm v b9 w mi kp)) (hS : va_S A s.heap H locs) (hl : lv_has ls 4 [(3, .int (nI i)), (2, .ref m0), (1, .ref h0), (0, .ref b)])
    (K : ∀ (cr : Nat → Int64) (v : xV) (vs : Nat → xV) (nx sz : Nat) (b9 w mi : Nat → Int32) (kp : Nat) (H : Heap) (locs : List Loc), x_inv v → x_hist vs nx sz w kp → va_P D vwCl (xx cI cJ cS h0 ca hh ka fk ad ads N4 cr v vs nx sz ++ xm cI m0 ms mb mw mm v b9 w mi kp) H → va_D A (xx cI cJ cS h0 ca hh ka fk ad ads N4 cr v vs nx sz ++ xm cI m0 ms mb mw mm v b9 w mi kp) → va_S A s.heap H locs → W p l e room_1 s m #[Value.ref b] below meth c H locs cells slots Q (F0 m 667 ls [])) : W p l e room_1 s m #[Value.ref b] below meth c H locs cells slots Q (F0 m 205 ls []) := by
  obtain ⟨hx, hb, hml, hown, hts, hX, hbl, hbA, hK, hN, hce, hsl⟩ := C
  obtain ⟨hq1, hq2, hq3, -⟩ := id hh9
  have hkp : kp ≤ 24 := by omega
  refine lv_aload_n hx hb dL_law_205 rfl (lv_at hl 2 rfl) ?_
  refine lv_aload_n hx hb dL_law_206 rfl (lv_at hl 3 rfl) ?_
  refine lv_iload_n hx hb dL_law_207 rfl (lv_at hl 0 rfl) ?_
  refine lv_iconst (v := 1) hx hb dL_law_208 (by decide) ?_
  refine lv_iadd hx hb dL_law_209 ?_
  refine xl_sld hx hb hX hbl hbA hS (i + 1) (nI_add i 1) (by omega) hL dL_law_210 ?_
  refine lv_aload_n hx hb dL_law_211 rfl (lv_at hl 3 rfl) ?_
  refine lv_iload_n hx hb dL_law_212 rfl (lv_at hl 0 rfl) ?_
  refine lv_iconst (v := 2) hx hb dL_law_213 (by decide) ?_
  refine lv_iadd hx hb dL_law_214 ?_
  refine xl_sld hx hb hX hbl hbA hS (i + 2) (nI_add i 2) (by omega) hL dL_law_215 ?_
  refine xk_callF (va_runV (As := [.int (xs (i + 1)), .int (xs (i + 2))]) (rest := []) ⟨hx, hb, hml, hown, hts⟩ (x_copy l D cI cJ cS h0 ca hh ka fk ad ads N4 h4 cr v vs nx sz hka hq3 hq2 hv.1 (xs (i + 1)) (xs (i + 2))) (cwV 2 hts gL_law_X4_copy rfl rfl rfl (by decide +kernel) ⟨Nat.le_of_ble_eq_true rfl, Nat.le_of_ble_eq_true rfl⟩) (xk_preVf hK hN hP hD (ci := 3) rfl 0 rfl) rfl rfl hl.1 rfl (lv_room (Nat.le_of_ble_eq_true rfl)) dL_law_216 ⟨hce, hsl⟩) hP hD hS (xxo_fst _ _ _ _ _ _ _ _ _ _ _ _ _ _ _ _ _) (fun H locs hP hD hS => ?_)
  refine lv_aload_n hx hb dL_law_219 rfl (lv_at hl 1 rfl) ?_
  refine lv_aload_n hx hb dL_law_220 rfl (lv_at hl 3 rfl) ?_
  refine lv_iload_n hx hb dL_law_221 rfl (lv_at hl 0 rfl) ?_
  refine lv_iconst (v := 1) hx hb dL_law_222 (by decide) ?_
  refine lv_iadd hx hb dL_law_223 ?_
  refine xl_sld hx hb hX hbl hbA hS (i + 1) (nI_add i 1) (by omega) hL dL_law_224 ?_
  refine lv_aload_n hx hb dL_law_225 rfl (lv_at hl 3 rfl) ?_
  refine lv_iload_n hx hb dL_law_226 rfl (lv_at hl 0 rfl) ?_
  refine lv_iconst (v := 2) hx hb dL_law_227 (by decide) ?_
  refine lv_iadd hx hb dL_law_228 ?_
  refine xl_sld hx hb hX hbl hbA hS (i + 2) (nI_add i 2) (by omega) hL dL_law_229 ?_
  refine xk_callS (X := xxo cI cJ cS h0 ca hh ka fk ad ads N4 cr v vs nx sz (sp_copy v (xs (i + 1)) (xs (i + 2))).2) (va_runV (As := [.int (xs (i + 1)), .int (xs (i + 2))]) (rest := [.int (sp_copy v (xs (i + 1)) (xs (i + 2))).1]) ⟨hx, hb, hml, hown, hts⟩ (y_copy l D cI cJ cS m0 ms mb mw mm v b9 w mi kp hkp hv.1 hv.2.1 hv.2.2.1 (xs (i + 1)) (xs (i + 2))) (cwV 2 hts gL_law_X5_copy rfl rfl rfl (by decide +kernel) ⟨Nat.le_of_ble_eq_true rfl, Nat.le_of_ble_eq_true rfl⟩) (xk_preVs (X := xxo cI cJ cS h0 ca hh ka fk ad ads N4 cr v vs nx sz (sp_copy v (xs (i + 1)) (xs (i + 2))).2) hK hN hP hD (ci := 4) rfl 0 rfl) rfl rfl hl.1 rfl (lv_room (Nat.le_of_ble_eq_true rfl)) dL_law_230 ⟨hce, hsl⟩) hP hD hS (xmo_fst _ _ _ _ _ _ _ _ _ _ _ _ _) (fun H locs hP hD hS => ?_)
  refine lv_icmp_eq (tgt := 667) hx hb dL_law_233 (by decide) (fun _ => ?_) (fun c9 => absurd rfl c9)
  obtain ⟨v2, vs2, nx2, sz2, b2, w2, kp2, e1, e2, e3, e4⟩ := x_both cI cJ cS h0 ca hh ka fk ad ads N4 cr m0 ms mb mw mm (b := b9) hv hh9 (xi_copy hv (xs (i + 1)) (xs (i + 2)))
  rw [e1, e2] at hP hD
  exact K cr v2 vs2 nx2 sz2 b2 w2 mi kp2 H locs e3 e4 hP hD hS
set_option maxHeartbeats 4000000 in
set_option maxRecDepth 100000 in
theorem xl_move {p : Program} {l : Launch} {e : Env} {s : State} {m : MethodId} {below : List Frame} {meth : Method} {c : Code} {b L : Nat} {xs : Nat → Int32} {D : va_G} {cI cJ cS : ClassId} {A : Nat → Prop} {cells slots : Nat} {Q : State → Prop} (C : xl_C p s m c b L xs D cI cJ cS A cells slots) {h0 ca hh ka : Nat} {fk : Nat → Option Nat} {ad : Nat → Nat} {ads : Nat → Nat → Nat} {N4 : Nat} (h4 : N4 = 24) (hka : ∀ i, i < 24 → fk i = some (ads i 0)) {m0 ms mb mw mm : Nat} {cr : Nat → Int64} {v : xV} {vs : Nat → xV} {nx sz : Nat} {b9 w mi : Nat → Int32} {kp : Nat} {H : Heap} {locs : List Loc} {ls : Array Slot} {i : Nat} (hi : i + 6 ≤ L) (hL : L < 2 ^ 31) (hv : x_inv v) (hh9 : x_hist vs nx sz w kp) (hP : va_P D vwCl (xx cI cJ cS h0 ca hh ka fk ad ads N4 cr v vs nx sz ++ xm cI m0 ms mb mw mm v b9 w mi kp) H) (hD : va_D A (xx cI cJ cS h0 ca hh ka fk ad ads N4 cr v vs nx sz ++ xm cI m0 ms mb mw mm v b9 w mi kp)) (hS : va_S A s.heap H locs) (hl : lv_has ls 4 [(3, .int (nI i)), (2, .ref m0), (1, .ref h0), (0, .ref b)])
    (K : ∀ (cr : Nat → Int64) (v : xV) (vs : Nat → xV) (nx sz : Nat) (b9 w mi : Nat → Int32) (kp : Nat) (H : Heap) (locs : List Loc), x_inv v → x_hist vs nx sz w kp → va_P D vwCl (xx cI cJ cS h0 ca hh ka fk ad ads N4 cr v vs nx sz ++ xm cI m0 ms mb mw mm v b9 w mi kp) H → va_D A (xx cI cJ cS h0 ca hh ka fk ad ads N4 cr v vs nx sz ++ xm cI m0 ms mb mw mm v b9 w mi kp) → va_S A s.heap H locs → W p l e room_1 s m #[Value.ref b] below meth c H locs cells slots Q (F0 m 667 ls [])) : W p l e room_1 s m #[Value.ref b] below meth c H locs cells slots Q (F0 m 238 ls []) := by
  obtain ⟨hx, hb, hml, hown, hts, hX, hbl, hbA, hK, hN, hce, hsl⟩ := C
  obtain ⟨hq1, hq2, hq3, -⟩ := id hh9
  have hkp : kp ≤ 24 := by omega
  refine lv_aload_n hx hb dL_law_238 rfl (lv_at hl 2 rfl) ?_
  refine lv_aload_n hx hb dL_law_239 rfl (lv_at hl 3 rfl) ?_
  refine lv_iload_n hx hb dL_law_240 rfl (lv_at hl 0 rfl) ?_
  refine lv_iconst (v := 1) hx hb dL_law_241 (by decide) ?_
  refine lv_iadd hx hb dL_law_242 ?_
  refine xl_sld hx hb hX hbl hbA hS (i + 1) (nI_add i 1) (by omega) hL dL_law_243 ?_
  refine lv_aload_n hx hb dL_law_244 rfl (lv_at hl 3 rfl) ?_
  refine lv_iload_n hx hb dL_law_245 rfl (lv_at hl 0 rfl) ?_
  refine lv_iconst (v := 2) hx hb dL_law_246 (by decide) ?_
  refine lv_iadd hx hb dL_law_247 ?_
  refine xl_sld hx hb hX hbl hbA hS (i + 2) (nI_add i 2) (by omega) hL dL_law_248 ?_
  refine xk_callF (va_runV (As := [.int (xs (i + 1)), .int (xs (i + 2))]) (rest := []) ⟨hx, hb, hml, hown, hts⟩ (x_move l D cI cJ cS h0 ca hh ka fk ad ads N4 h4 cr v vs nx sz hka hq3 hq2 hv.1 (xs (i + 1)) (xs (i + 2))) (cwV 2 hts gL_law_X4_move rfl rfl rfl (by decide +kernel) ⟨Nat.le_of_ble_eq_true rfl, Nat.le_of_ble_eq_true rfl⟩) (xk_preVf hK hN hP hD (ci := 3) rfl 0 rfl) rfl rfl hl.1 rfl (lv_room (Nat.le_of_ble_eq_true rfl)) dL_law_249 ⟨hce, hsl⟩) hP hD hS (xxo_fst _ _ _ _ _ _ _ _ _ _ _ _ _ _ _ _ _) (fun H locs hP hD hS => ?_)
  refine lv_aload_n hx hb dL_law_252 rfl (lv_at hl 1 rfl) ?_
  refine lv_aload_n hx hb dL_law_253 rfl (lv_at hl 3 rfl) ?_
  refine lv_iload_n hx hb dL_law_254 rfl (lv_at hl 0 rfl) ?_
  refine lv_iconst (v := 1) hx hb dL_law_255 (by decide) ?_
  refine lv_iadd hx hb dL_law_256 ?_
  refine xl_sld hx hb hX hbl hbA hS (i + 1) (nI_add i 1) (by omega) hL dL_law_257 ?_
  refine lv_aload_n hx hb dL_law_258 rfl (lv_at hl 3 rfl) ?_
  refine lv_iload_n hx hb dL_law_259 rfl (lv_at hl 0 rfl) ?_
  refine lv_iconst (v := 2) hx hb dL_law_260 (by decide) ?_
  refine lv_iadd hx hb dL_law_261 ?_
  refine xl_sld hx hb hX hbl hbA hS (i + 2) (nI_add i 2) (by omega) hL dL_law_262 ?_
  refine xk_callS (X := xxo cI cJ cS h0 ca hh ka fk ad ads N4 cr v vs nx sz (sp_move v (xs (i + 1)) (xs (i + 2))).2) (va_runV (As := [.int (xs (i + 1)), .int (xs (i + 2))]) (rest := [.int (sp_move v (xs (i + 1)) (xs (i + 2))).1]) ⟨hx, hb, hml, hown, hts⟩ (y_move l D cI cJ cS m0 ms mb mw mm v b9 w mi kp hkp hv.1 hv.2.1 hv.2.2.1 (xs (i + 1)) (xs (i + 2))) (cwV 2 hts gL_law_X5_move rfl rfl rfl (by decide +kernel) ⟨Nat.le_of_ble_eq_true rfl, Nat.le_of_ble_eq_true rfl⟩) (xk_preVs (X := xxo cI cJ cS h0 ca hh ka fk ad ads N4 cr v vs nx sz (sp_move v (xs (i + 1)) (xs (i + 2))).2) hK hN hP hD (ci := 4) rfl 0 rfl) rfl rfl hl.1 rfl (lv_room (Nat.le_of_ble_eq_true rfl)) dL_law_263 ⟨hce, hsl⟩) hP hD hS (xmo_fst _ _ _ _ _ _ _ _ _ _ _ _ _) (fun H locs hP hD hS => ?_)
  refine lv_icmp_eq (tgt := 667) hx hb dL_law_266 (by decide) (fun _ => ?_) (fun c9 => absurd rfl c9)
  obtain ⟨v2, vs2, nx2, sz2, b2, w2, kp2, e1, e2, e3, e4⟩ := x_both cI cJ cS h0 ca hh ka fk ad ads N4 cr m0 ms mb mw mm (b := b9) hv hh9 (xi_move hv (xs (i + 1)) (xs (i + 2)))
  rw [e1, e2] at hP hD
  exact K cr v2 vs2 nx2 sz2 b2 w2 mi kp2 H locs e3 e4 hP hD hS
set_option maxHeartbeats 4000000 in
set_option maxRecDepth 100000 in
theorem xl_narrow {p : Program} {l : Launch} {e : Env} {s : State} {m : MethodId} {below : List Frame} {meth : Method} {c : Code} {b L : Nat} {xs : Nat → Int32} {D : va_G} {cI cJ cS : ClassId} {A : Nat → Prop} {cells slots : Nat} {Q : State → Prop} (C : xl_C p s m c b L xs D cI cJ cS A cells slots) {h0 ca hh ka : Nat} {fk : Nat → Option Nat} {ad : Nat → Nat} {ads : Nat → Nat → Nat} {N4 : Nat} (h4 : N4 = 24) (hka : ∀ i, i < 24 → fk i = some (ads i 0)) {m0 ms mb mw mm : Nat} {cr : Nat → Int64} {v : xV} {vs : Nat → xV} {nx sz : Nat} {b9 w mi : Nat → Int32} {kp : Nat} {H : Heap} {locs : List Loc} {ls : Array Slot} {i : Nat} (hi : i + 6 ≤ L) (hL : L < 2 ^ 31) (hv : x_inv v) (hh9 : x_hist vs nx sz w kp) (hP : va_P D vwCl (xx cI cJ cS h0 ca hh ka fk ad ads N4 cr v vs nx sz ++ xm cI m0 ms mb mw mm v b9 w mi kp) H) (hD : va_D A (xx cI cJ cS h0 ca hh ka fk ad ads N4 cr v vs nx sz ++ xm cI m0 ms mb mw mm v b9 w mi kp)) (hS : va_S A s.heap H locs) (hl : lv_has ls 4 [(3, .int (nI i)), (2, .ref m0), (1, .ref h0), (0, .ref b)])
    (K : ∀ (cr : Nat → Int64) (v : xV) (vs : Nat → xV) (nx sz : Nat) (b9 w mi : Nat → Int32) (kp : Nat) (H : Heap) (locs : List Loc), x_inv v → x_hist vs nx sz w kp → va_P D vwCl (xx cI cJ cS h0 ca hh ka fk ad ads N4 cr v vs nx sz ++ xm cI m0 ms mb mw mm v b9 w mi kp) H → va_D A (xx cI cJ cS h0 ca hh ka fk ad ads N4 cr v vs nx sz ++ xm cI m0 ms mb mw mm v b9 w mi kp) → va_S A s.heap H locs → W p l e room_1 s m #[Value.ref b] below meth c H locs cells slots Q (F0 m 667 ls [])) : W p l e room_1 s m #[Value.ref b] below meth c H locs cells slots Q (F0 m 271 ls []) := by
  obtain ⟨hx, hb, hml, hown, hts, hX, hbl, hbA, hK, hN, hce, hsl⟩ := C
  obtain ⟨hq1, hq2, hq3, -⟩ := id hh9
  have hkp : kp ≤ 24 := by omega
  refine lv_aload_n hx hb dL_law_271 rfl (lv_at hl 2 rfl) ?_
  refine lv_aload_n hx hb dL_law_272 rfl (lv_at hl 3 rfl) ?_
  refine lv_iload_n hx hb dL_law_273 rfl (lv_at hl 0 rfl) ?_
  refine lv_iconst (v := 1) hx hb dL_law_274 (by decide) ?_
  refine lv_iadd hx hb dL_law_275 ?_
  refine xl_sld hx hb hX hbl hbA hS (i + 1) (nI_add i 1) (by omega) hL dL_law_276 ?_
  refine lv_aload_n hx hb dL_law_277 rfl (lv_at hl 3 rfl) ?_
  refine lv_iload_n hx hb dL_law_278 rfl (lv_at hl 0 rfl) ?_
  refine lv_iconst (v := 2) hx hb dL_law_279 (by decide) ?_
  refine lv_iadd hx hb dL_law_280 ?_
  refine xl_sld hx hb hX hbl hbA hS (i + 2) (nI_add i 2) (by omega) hL dL_law_281 ?_
  refine lv_aload_n hx hb dL_law_282 rfl (lv_at hl 3 rfl) ?_
  refine lv_iload_n hx hb dL_law_283 rfl (lv_at hl 0 rfl) ?_
  refine lv_iconst (v := 3) hx hb dL_law_284 (by decide) ?_
  refine lv_iadd hx hb dL_law_285 ?_
  refine xl_sld hx hb hX hbl hbA hS (i + 3) (nI_add i 3) (by omega) hL dL_law_286 ?_
  refine lv_aload_n hx hb dL_law_287 rfl (lv_at hl 3 rfl) ?_
  refine lv_iload_n hx hb dL_law_288 rfl (lv_at hl 0 rfl) ?_
  refine lv_iconst (v := 4) hx hb dL_law_289 (by decide) ?_
  refine lv_iadd hx hb dL_law_290 ?_
  refine xl_sld hx hb hX hbl hbA hS (i + 4) (nI_add i 4) (by omega) hL dL_law_291 ?_
  refine xk_callF (va_runV (As := [.int (xs (i + 1)), .int (xs (i + 2)), .int (xs (i + 3)), .int (xs (i + 4))]) (rest := []) ⟨hx, hb, hml, hown, hts⟩ (x_narrow l D cI cJ cS h0 ca hh ka fk ad ads N4 h4 cr v vs nx sz hka hq3 hq2 hv.1 (xs (i + 1)) (xs (i + 2)) (xs (i + 3)) (xs (i + 4))) (cwV 4 hts gL_law_X4_narrow rfl rfl rfl (by decide +kernel) ⟨Nat.le_of_ble_eq_true rfl, Nat.le_of_ble_eq_true rfl⟩) (xk_preVf hK hN hP hD (ci := 3) rfl 0 rfl) rfl rfl hl.1 rfl (lv_room (Nat.le_of_ble_eq_true rfl)) dL_law_292 ⟨hce, hsl⟩) hP hD hS (xxo_fst _ _ _ _ _ _ _ _ _ _ _ _ _ _ _ _ _) (fun H locs hP hD hS => ?_)
  refine lv_aload_n hx hb dL_law_295 rfl (lv_at hl 1 rfl) ?_
  refine lv_aload_n hx hb dL_law_296 rfl (lv_at hl 3 rfl) ?_
  refine lv_iload_n hx hb dL_law_297 rfl (lv_at hl 0 rfl) ?_
  refine lv_iconst (v := 1) hx hb dL_law_298 (by decide) ?_
  refine lv_iadd hx hb dL_law_299 ?_
  refine xl_sld hx hb hX hbl hbA hS (i + 1) (nI_add i 1) (by omega) hL dL_law_300 ?_
  refine lv_aload_n hx hb dL_law_301 rfl (lv_at hl 3 rfl) ?_
  refine lv_iload_n hx hb dL_law_302 rfl (lv_at hl 0 rfl) ?_
  refine lv_iconst (v := 2) hx hb dL_law_303 (by decide) ?_
  refine lv_iadd hx hb dL_law_304 ?_
  refine xl_sld hx hb hX hbl hbA hS (i + 2) (nI_add i 2) (by omega) hL dL_law_305 ?_
  refine lv_aload_n hx hb dL_law_306 rfl (lv_at hl 3 rfl) ?_
  refine lv_iload_n hx hb dL_law_307 rfl (lv_at hl 0 rfl) ?_
  refine lv_iconst (v := 3) hx hb dL_law_308 (by decide) ?_
  refine lv_iadd hx hb dL_law_309 ?_
  refine xl_sld hx hb hX hbl hbA hS (i + 3) (nI_add i 3) (by omega) hL dL_law_310 ?_
  refine lv_aload_n hx hb dL_law_311 rfl (lv_at hl 3 rfl) ?_
  refine lv_iload_n hx hb dL_law_312 rfl (lv_at hl 0 rfl) ?_
  refine lv_iconst (v := 4) hx hb dL_law_313 (by decide) ?_
  refine lv_iadd hx hb dL_law_314 ?_
  refine xl_sld hx hb hX hbl hbA hS (i + 4) (nI_add i 4) (by omega) hL dL_law_315 ?_
  refine xk_callS (X := xxo cI cJ cS h0 ca hh ka fk ad ads N4 cr v vs nx sz (sp_narrow v (xs (i + 1)) (xs (i + 2)) (xs (i + 3)) (xs (i + 4))).2) (va_runV (As := [.int (xs (i + 1)), .int (xs (i + 2)), .int (xs (i + 3)), .int (xs (i + 4))]) (rest := [.int (sp_narrow v (xs (i + 1)) (xs (i + 2)) (xs (i + 3)) (xs (i + 4))).1]) ⟨hx, hb, hml, hown, hts⟩ (y_narrow l D cI cJ cS m0 ms mb mw mm v b9 w mi kp hkp hv.1 hv.2.1 hv.2.2.1 (xs (i + 1)) (xs (i + 2)) (xs (i + 3)) (xs (i + 4))) (cwV 4 hts gL_law_X5_narrow rfl rfl rfl (by decide +kernel) ⟨Nat.le_of_ble_eq_true rfl, Nat.le_of_ble_eq_true rfl⟩) (xk_preVs (X := xxo cI cJ cS h0 ca hh ka fk ad ads N4 cr v vs nx sz (sp_narrow v (xs (i + 1)) (xs (i + 2)) (xs (i + 3)) (xs (i + 4))).2) hK hN hP hD (ci := 4) rfl 0 rfl) rfl rfl hl.1 rfl (lv_room (Nat.le_of_ble_eq_true rfl)) dL_law_316 ⟨hce, hsl⟩) hP hD hS (xmo_fst _ _ _ _ _ _ _ _ _ _ _ _ _) (fun H locs hP hD hS => ?_)
  refine lv_icmp_eq (tgt := 667) hx hb dL_law_319 (by decide) (fun _ => ?_) (fun c9 => absurd rfl c9)
  obtain ⟨v2, vs2, nx2, sz2, b2, w2, kp2, e1, e2, e3, e4⟩ := x_both cI cJ cS h0 ca hh ka fk ad ads N4 cr m0 ms mb mw mm (b := b9) hv hh9 (xi_narrow hv (xs (i + 1)) (xs (i + 2)) (xs (i + 3)) (xs (i + 4)))
  rw [e1, e2] at hP hD
  exact K cr v2 vs2 nx2 sz2 b2 w2 mi kp2 H locs e3 e4 hP hD hS
set_option maxHeartbeats 4000000 in
set_option maxRecDepth 100000 in
theorem xl_look {p : Program} {l : Launch} {e : Env} {s : State} {m : MethodId} {below : List Frame} {meth : Method} {c : Code} {b L : Nat} {xs : Nat → Int32} {D : va_G} {cI cJ cS : ClassId} {A : Nat → Prop} {cells slots : Nat} {Q : State → Prop} (C : xl_C p s m c b L xs D cI cJ cS A cells slots) {h0 ca hh ka : Nat} {fk : Nat → Option Nat} {ad : Nat → Nat} {ads : Nat → Nat → Nat} {N4 : Nat} (h4 : N4 = 24) (hka : ∀ i, i < 24 → fk i = some (ads i 0)) {m0 ms mb mw mm : Nat} {cr : Nat → Int64} {v : xV} {vs : Nat → xV} {nx sz : Nat} {b9 w mi : Nat → Int32} {kp : Nat} {H : Heap} {locs : List Loc} {ls : Array Slot} {i : Nat} (hi : i + 6 ≤ L) (hL : L < 2 ^ 31) (hv : x_inv v) (hh9 : x_hist vs nx sz w kp) (hP : va_P D vwCl (xx cI cJ cS h0 ca hh ka fk ad ads N4 cr v vs nx sz ++ xm cI m0 ms mb mw mm v b9 w mi kp) H) (hD : va_D A (xx cI cJ cS h0 ca hh ka fk ad ads N4 cr v vs nx sz ++ xm cI m0 ms mb mw mm v b9 w mi kp)) (hS : va_S A s.heap H locs) (hl : lv_has ls 4 [(3, .int (nI i)), (2, .ref m0), (1, .ref h0), (0, .ref b)])
    (K : ∀ (cr : Nat → Int64) (v : xV) (vs : Nat → xV) (nx sz : Nat) (b9 w mi : Nat → Int32) (kp : Nat) (H : Heap) (locs : List Loc), x_inv v → x_hist vs nx sz w kp → va_P D vwCl (xx cI cJ cS h0 ca hh ka fk ad ads N4 cr v vs nx sz ++ xm cI m0 ms mb mw mm v b9 w mi kp) H → va_D A (xx cI cJ cS h0 ca hh ka fk ad ads N4 cr v vs nx sz ++ xm cI m0 ms mb mw mm v b9 w mi kp) → va_S A s.heap H locs → W p l e room_1 s m #[Value.ref b] below meth c H locs cells slots Q (F0 m 667 ls [])) : W p l e room_1 s m #[Value.ref b] below meth c H locs cells slots Q (F0 m 324 ls []) := by
  obtain ⟨hx, hb, hml, hown, hts, hX, hbl, hbA, hK, hN, hce, hsl⟩ := C
  obtain ⟨hq1, hq2, hq3, -⟩ := id hh9
  have hkp : kp ≤ 24 := by omega
  refine lv_aload_n hx hb dL_law_324 rfl (lv_at hl 2 rfl) ?_
  refine lv_aload_n hx hb dL_law_325 rfl (lv_at hl 3 rfl) ?_
  refine lv_iload_n hx hb dL_law_326 rfl (lv_at hl 0 rfl) ?_
  refine lv_iconst (v := 1) hx hb dL_law_327 (by decide) ?_
  refine lv_iadd hx hb dL_law_328 ?_
  refine xl_sld hx hb hX hbl hbA hS (i + 1) (nI_add i 1) (by omega) hL dL_law_329 ?_
  refine lv_aload_n hx hb dL_law_330 rfl (lv_at hl 3 rfl) ?_
  refine lv_iload_n hx hb dL_law_331 rfl (lv_at hl 0 rfl) ?_
  refine lv_iconst (v := 2) hx hb dL_law_332 (by decide) ?_
  refine lv_iadd hx hb dL_law_333 ?_
  refine xl_sld hx hb hX hbl hbA hS (i + 2) (nI_add i 2) (by omega) hL dL_law_334 ?_
  refine lv_aload_n hx hb dL_law_335 rfl (lv_at hl 3 rfl) ?_
  refine lv_iload_n hx hb dL_law_336 rfl (lv_at hl 0 rfl) ?_
  refine lv_iconst (v := 3) hx hb dL_law_337 (by decide) ?_
  refine lv_iadd hx hb dL_law_338 ?_
  refine xl_sld hx hb hX hbl hbA hS (i + 3) (nI_add i 3) (by omega) hL dL_law_339 ?_
  refine xk_callF (va_runV (As := [.int (xs (i + 1)), .int (xs (i + 2)), .int (xs (i + 3))]) (rest := []) ⟨hx, hb, hml, hown, hts⟩ (x_look l D cI cJ cS h0 ca hh ka fk ad ads N4 h4 cr v vs nx sz hka hq3 hq2 hv.1 (xs (i + 1)) (xs (i + 2)) (xs (i + 3))) (cwV 3 hts gL_law_X4_look rfl rfl rfl (by decide +kernel) ⟨Nat.le_of_ble_eq_true rfl, Nat.le_of_ble_eq_true rfl⟩) (xk_preVf hK hN hP hD (ci := 3) rfl 0 rfl) rfl rfl hl.1 rfl (lv_room (Nat.le_of_ble_eq_true rfl)) dL_law_340 ⟨hce, hsl⟩) hP hD hS (xxo_fst _ _ _ _ _ _ _ _ _ _ _ _ _ _ _ _ _) (fun H locs hP hD hS => ?_)
  refine lv_aload_n hx hb dL_law_343 rfl (lv_at hl 1 rfl) ?_
  refine lv_aload_n hx hb dL_law_344 rfl (lv_at hl 3 rfl) ?_
  refine lv_iload_n hx hb dL_law_345 rfl (lv_at hl 0 rfl) ?_
  refine lv_iconst (v := 1) hx hb dL_law_346 (by decide) ?_
  refine lv_iadd hx hb dL_law_347 ?_
  refine xl_sld hx hb hX hbl hbA hS (i + 1) (nI_add i 1) (by omega) hL dL_law_348 ?_
  refine lv_aload_n hx hb dL_law_349 rfl (lv_at hl 3 rfl) ?_
  refine lv_iload_n hx hb dL_law_350 rfl (lv_at hl 0 rfl) ?_
  refine lv_iconst (v := 2) hx hb dL_law_351 (by decide) ?_
  refine lv_iadd hx hb dL_law_352 ?_
  refine xl_sld hx hb hX hbl hbA hS (i + 2) (nI_add i 2) (by omega) hL dL_law_353 ?_
  refine lv_aload_n hx hb dL_law_354 rfl (lv_at hl 3 rfl) ?_
  refine lv_iload_n hx hb dL_law_355 rfl (lv_at hl 0 rfl) ?_
  refine lv_iconst (v := 3) hx hb dL_law_356 (by decide) ?_
  refine lv_iadd hx hb dL_law_357 ?_
  refine xl_sld hx hb hX hbl hbA hS (i + 3) (nI_add i 3) (by omega) hL dL_law_358 ?_
  refine xk_callS (X := xxo cI cJ cS h0 ca hh ka fk ad ads N4 cr v vs nx sz (sp_look v (xs (i + 1)) (xs (i + 2)) (xs (i + 3))).2) (va_runV (As := [.int (xs (i + 1)), .int (xs (i + 2)), .int (xs (i + 3))]) (rest := [.int (sp_look v (xs (i + 1)) (xs (i + 2)) (xs (i + 3))).1]) ⟨hx, hb, hml, hown, hts⟩ (y_look l D cI cJ cS m0 ms mb mw mm v b9 w mi kp hkp hv.1 hv.2.1 hv.2.2.1 (xs (i + 1)) (xs (i + 2)) (xs (i + 3))) (cwV 3 hts gL_law_X5_look rfl rfl rfl (by decide +kernel) ⟨Nat.le_of_ble_eq_true rfl, Nat.le_of_ble_eq_true rfl⟩) (xk_preVs (X := xxo cI cJ cS h0 ca hh ka fk ad ads N4 cr v vs nx sz (sp_look v (xs (i + 1)) (xs (i + 2)) (xs (i + 3))).2) hK hN hP hD (ci := 4) rfl 0 rfl) rfl rfl hl.1 rfl (lv_room (Nat.le_of_ble_eq_true rfl)) dL_law_359 ⟨hce, hsl⟩) hP hD hS (xmo_fst _ _ _ _ _ _ _ _ _ _ _ _ _) (fun H locs hP hD hS => ?_)
  refine lv_icmp_eq (tgt := 667) hx hb dL_law_362 (by decide) (fun _ => ?_) (fun c9 => absurd rfl c9)
  obtain ⟨v2, vs2, nx2, sz2, b2, w2, kp2, e1, e2, e3, e4⟩ := x_both cI cJ cS h0 ca hh ka fk ad ads N4 cr m0 ms mb mw mm (b := b9) hv hh9 (xi_look hv (xs (i + 1)) (xs (i + 2)) (xs (i + 3)))
  rw [e1, e2] at hP hD
  exact K cr v2 vs2 nx2 sz2 b2 w2 mi kp2 H locs e3 e4 hP hD hS
set_option maxHeartbeats 4000000 in
set_option maxRecDepth 100000 in
theorem xl_lay {p : Program} {l : Launch} {e : Env} {s : State} {m : MethodId} {below : List Frame} {meth : Method} {c : Code} {b L : Nat} {xs : Nat → Int32} {D : va_G} {cI cJ cS : ClassId} {A : Nat → Prop} {cells slots : Nat} {Q : State → Prop} (C : xl_C p s m c b L xs D cI cJ cS A cells slots) {h0 ca hh ka : Nat} {fk : Nat → Option Nat} {ad : Nat → Nat} {ads : Nat → Nat → Nat} {N4 : Nat} (h4 : N4 = 24) (hka : ∀ i, i < 24 → fk i = some (ads i 0)) {m0 ms mb mw mm : Nat} {cr : Nat → Int64} {v : xV} {vs : Nat → xV} {nx sz : Nat} {b9 w mi : Nat → Int32} {kp : Nat} {H : Heap} {locs : List Loc} {ls : Array Slot} {i : Nat} (hi : i + 6 ≤ L) (hL : L < 2 ^ 31) (hv : x_inv v) (hh9 : x_hist vs nx sz w kp) (hP : va_P D vwCl (xx cI cJ cS h0 ca hh ka fk ad ads N4 cr v vs nx sz ++ xm cI m0 ms mb mw mm v b9 w mi kp) H) (hD : va_D A (xx cI cJ cS h0 ca hh ka fk ad ads N4 cr v vs nx sz ++ xm cI m0 ms mb mw mm v b9 w mi kp)) (hS : va_S A s.heap H locs) (hl : lv_has ls 4 [(3, .int (nI i)), (2, .ref m0), (1, .ref h0), (0, .ref b)])
    (K : ∀ (cr : Nat → Int64) (v : xV) (vs : Nat → xV) (nx sz : Nat) (b9 w mi : Nat → Int32) (kp : Nat) (H : Heap) (locs : List Loc), x_inv v → x_hist vs nx sz w kp → va_P D vwCl (xx cI cJ cS h0 ca hh ka fk ad ads N4 cr v vs nx sz ++ xm cI m0 ms mb mw mm v b9 w mi kp) H → va_D A (xx cI cJ cS h0 ca hh ka fk ad ads N4 cr v vs nx sz ++ xm cI m0 ms mb mw mm v b9 w mi kp) → va_S A s.heap H locs → W p l e room_1 s m #[Value.ref b] below meth c H locs cells slots Q (F0 m 667 ls [])) : W p l e room_1 s m #[Value.ref b] below meth c H locs cells slots Q (F0 m 367 ls []) := by
  obtain ⟨hx, hb, hml, hown, hts, hX, hbl, hbA, hK, hN, hce, hsl⟩ := C
  obtain ⟨hq1, hq2, hq3, -⟩ := id hh9
  have hkp : kp ≤ 24 := by omega
  refine lv_aload_n hx hb dL_law_367 rfl (lv_at hl 2 rfl) ?_
  refine lv_aload_n hx hb dL_law_368 rfl (lv_at hl 3 rfl) ?_
  refine lv_iload_n hx hb dL_law_369 rfl (lv_at hl 0 rfl) ?_
  refine lv_iconst (v := 1) hx hb dL_law_370 (by decide) ?_
  refine lv_iadd hx hb dL_law_371 ?_
  refine xl_sld hx hb hX hbl hbA hS (i + 1) (nI_add i 1) (by omega) hL dL_law_372 ?_
  refine lv_aload_n hx hb dL_law_373 rfl (lv_at hl 3 rfl) ?_
  refine lv_iload_n hx hb dL_law_374 rfl (lv_at hl 0 rfl) ?_
  refine lv_iconst (v := 2) hx hb dL_law_375 (by decide) ?_
  refine lv_iadd hx hb dL_law_376 ?_
  refine xl_sld hx hb hX hbl hbA hS (i + 2) (nI_add i 2) (by omega) hL dL_law_377 ?_
  refine lv_aload_n hx hb dL_law_378 rfl (lv_at hl 3 rfl) ?_
  refine lv_iload_n hx hb dL_law_379 rfl (lv_at hl 0 rfl) ?_
  refine lv_iconst (v := 3) hx hb dL_law_380 (by decide) ?_
  refine lv_iadd hx hb dL_law_381 ?_
  refine xl_sld hx hb hX hbl hbA hS (i + 3) (nI_add i 3) (by omega) hL dL_law_382 ?_
  refine xk_callF (va_runV (As := [.int (xs (i + 1)), .int (xs (i + 2)), .int (xs (i + 3))]) (rest := []) ⟨hx, hb, hml, hown, hts⟩ (x_layc l D cI cJ cS h0 ca hh ka fk ad ads N4 h4 cr v vs nx sz hka hq3 hq2 hv.1 (xs (i + 1)) (xs (i + 2)) (xs (i + 3))) (cwV 3 hts gL_law_X4_lay rfl rfl rfl (by decide +kernel) ⟨Nat.le_of_ble_eq_true rfl, Nat.le_of_ble_eq_true rfl⟩) (xk_preVf hK hN hP hD (ci := 3) rfl 0 rfl) rfl rfl hl.1 rfl (lv_room (Nat.le_of_ble_eq_true rfl)) dL_law_383 ⟨hce, hsl⟩) hP hD hS (xxo_fst _ _ _ _ _ _ _ _ _ _ _ _ _ _ _ _ _) (fun H locs hP hD hS => ?_)
  refine lv_aload_n hx hb dL_law_386 rfl (lv_at hl 1 rfl) ?_
  refine lv_aload_n hx hb dL_law_387 rfl (lv_at hl 3 rfl) ?_
  refine lv_iload_n hx hb dL_law_388 rfl (lv_at hl 0 rfl) ?_
  refine lv_iconst (v := 1) hx hb dL_law_389 (by decide) ?_
  refine lv_iadd hx hb dL_law_390 ?_
  refine xl_sld hx hb hX hbl hbA hS (i + 1) (nI_add i 1) (by omega) hL dL_law_391 ?_
  refine lv_aload_n hx hb dL_law_392 rfl (lv_at hl 3 rfl) ?_
  refine lv_iload_n hx hb dL_law_393 rfl (lv_at hl 0 rfl) ?_
  refine lv_iconst (v := 2) hx hb dL_law_394 (by decide) ?_
  refine lv_iadd hx hb dL_law_395 ?_
  refine xl_sld hx hb hX hbl hbA hS (i + 2) (nI_add i 2) (by omega) hL dL_law_396 ?_
  refine lv_aload_n hx hb dL_law_397 rfl (lv_at hl 3 rfl) ?_
  refine lv_iload_n hx hb dL_law_398 rfl (lv_at hl 0 rfl) ?_
  refine lv_iconst (v := 3) hx hb dL_law_399 (by decide) ?_
  refine lv_iadd hx hb dL_law_400 ?_
  refine xl_sld hx hb hX hbl hbA hS (i + 3) (nI_add i 3) (by omega) hL dL_law_401 ?_
  refine xk_callS (X := xxo cI cJ cS h0 ca hh ka fk ad ads N4 cr v vs nx sz (sp_lay v (xs (i + 1)) (xs (i + 2)) (xs (i + 3))).2) (va_runV (As := [.int (xs (i + 1)), .int (xs (i + 2)), .int (xs (i + 3))]) (rest := [.int (sp_lay v (xs (i + 1)) (xs (i + 2)) (xs (i + 3))).1]) ⟨hx, hb, hml, hown, hts⟩ (y_lay l D cI cJ cS m0 ms mb mw mm v b9 w mi kp hkp hv.1 hv.2.1 hv.2.2.1 (xs (i + 1)) (xs (i + 2)) (xs (i + 3))) (cwV 3 hts gL_law_X5_lay rfl rfl rfl (by decide +kernel) ⟨Nat.le_of_ble_eq_true rfl, Nat.le_of_ble_eq_true rfl⟩) (xk_preVs (X := xxo cI cJ cS h0 ca hh ka fk ad ads N4 cr v vs nx sz (sp_lay v (xs (i + 1)) (xs (i + 2)) (xs (i + 3))).2) hK hN hP hD (ci := 4) rfl 0 rfl) rfl rfl hl.1 rfl (lv_room (Nat.le_of_ble_eq_true rfl)) dL_law_402 ⟨hce, hsl⟩) hP hD hS (xmo_fst _ _ _ _ _ _ _ _ _ _ _ _ _) (fun H locs hP hD hS => ?_)
  refine lv_icmp_eq (tgt := 667) hx hb dL_law_405 (by decide) (fun _ => ?_) (fun c9 => absurd rfl c9)
  obtain ⟨v2, vs2, nx2, sz2, b2, w2, kp2, e1, e2, e3, e4⟩ := x_both cI cJ cS h0 ca hh ka fk ad ads N4 cr m0 ms mb mw mm (b := b9) hv hh9 (xi_layc hv (xs (i + 1)) (xs (i + 2)) (xs (i + 3)))
  rw [e1, e2] at hP hD
  exact K cr v2 vs2 nx2 sz2 b2 w2 mi kp2 H locs e3 e4 hP hD hS
set_option maxHeartbeats 4000000 in
set_option maxRecDepth 100000 in
theorem xl_block {p : Program} {l : Launch} {e : Env} {s : State} {m : MethodId} {below : List Frame} {meth : Method} {c : Code} {b L : Nat} {xs : Nat → Int32} {D : va_G} {cI cJ cS : ClassId} {A : Nat → Prop} {cells slots : Nat} {Q : State → Prop} (C : xl_C p s m c b L xs D cI cJ cS A cells slots) {h0 ca hh ka : Nat} {fk : Nat → Option Nat} {ad : Nat → Nat} {ads : Nat → Nat → Nat} {N4 : Nat} (h4 : N4 = 24) (hka : ∀ i, i < 24 → fk i = some (ads i 0)) {m0 ms mb mw mm : Nat} {cr : Nat → Int64} {v : xV} {vs : Nat → xV} {nx sz : Nat} {b9 w mi : Nat → Int32} {kp : Nat} {H : Heap} {locs : List Loc} {ls : Array Slot} {i : Nat} (hi : i + 6 ≤ L) (hL : L < 2 ^ 31) (hv : x_inv v) (hh9 : x_hist vs nx sz w kp) (hP : va_P D vwCl (xx cI cJ cS h0 ca hh ka fk ad ads N4 cr v vs nx sz ++ xm cI m0 ms mb mw mm v b9 w mi kp) H) (hD : va_D A (xx cI cJ cS h0 ca hh ka fk ad ads N4 cr v vs nx sz ++ xm cI m0 ms mb mw mm v b9 w mi kp)) (hS : va_S A s.heap H locs) (hl : lv_has ls 4 [(3, .int (nI i)), (2, .ref m0), (1, .ref h0), (0, .ref b)])
    (K : ∀ (cr : Nat → Int64) (v : xV) (vs : Nat → xV) (nx sz : Nat) (b9 w mi : Nat → Int32) (kp : Nat) (H : Heap) (locs : List Loc), x_inv v → x_hist vs nx sz w kp → va_P D vwCl (xx cI cJ cS h0 ca hh ka fk ad ads N4 cr v vs nx sz ++ xm cI m0 ms mb mw mm v b9 w mi kp) H → va_D A (xx cI cJ cS h0 ca hh ka fk ad ads N4 cr v vs nx sz ++ xm cI m0 ms mb mw mm v b9 w mi kp) → va_S A s.heap H locs → W p l e room_1 s m #[Value.ref b] below meth c H locs cells slots Q (F0 m 667 ls [])) : W p l e room_1 s m #[Value.ref b] below meth c H locs cells slots Q (F0 m 410 ls []) := by
  obtain ⟨hx, hb, hml, hown, hts, hX, hbl, hbA, hK, hN, hce, hsl⟩ := C
  obtain ⟨hq1, hq2, hq3, -⟩ := id hh9
  have hkp : kp ≤ 24 := by omega
  refine lv_aload_n hx hb dL_law_410 rfl (lv_at hl 2 rfl) ?_
  refine lv_aload_n hx hb dL_law_411 rfl (lv_at hl 3 rfl) ?_
  refine lv_iload_n hx hb dL_law_412 rfl (lv_at hl 0 rfl) ?_
  refine lv_iconst (v := 1) hx hb dL_law_413 (by decide) ?_
  refine lv_iadd hx hb dL_law_414 ?_
  refine xl_sld hx hb hX hbl hbA hS (i + 1) (nI_add i 1) (by omega) hL dL_law_415 ?_
  refine lv_aload_n hx hb dL_law_416 rfl (lv_at hl 3 rfl) ?_
  refine lv_iload_n hx hb dL_law_417 rfl (lv_at hl 0 rfl) ?_
  refine lv_iconst (v := 2) hx hb dL_law_418 (by decide) ?_
  refine lv_iadd hx hb dL_law_419 ?_
  refine xl_sld hx hb hX hbl hbA hS (i + 2) (nI_add i 2) (by omega) hL dL_law_420 ?_
  refine lv_aload_n hx hb dL_law_421 rfl (lv_at hl 3 rfl) ?_
  refine lv_iload_n hx hb dL_law_422 rfl (lv_at hl 0 rfl) ?_
  refine lv_iconst (v := 3) hx hb dL_law_423 (by decide) ?_
  refine lv_iadd hx hb dL_law_424 ?_
  refine xl_sld hx hb hX hbl hbA hS (i + 3) (nI_add i 3) (by omega) hL dL_law_425 ?_
  refine lv_aload_n hx hb dL_law_426 rfl (lv_at hl 3 rfl) ?_
  refine lv_iload_n hx hb dL_law_427 rfl (lv_at hl 0 rfl) ?_
  refine lv_iconst (v := 4) hx hb dL_law_428 (by decide) ?_
  refine lv_iadd hx hb dL_law_429 ?_
  refine xl_sld hx hb hX hbl hbA hS (i + 4) (nI_add i 4) (by omega) hL dL_law_430 ?_
  refine lv_aload_n hx hb dL_law_431 rfl (lv_at hl 3 rfl) ?_
  refine lv_iload_n hx hb dL_law_432 rfl (lv_at hl 0 rfl) ?_
  refine lv_iconst (v := 5) hx hb dL_law_433 (by decide) ?_
  refine lv_iadd hx hb dL_law_434 ?_
  refine xl_sld hx hb hX hbl hbA hS (i + 5) (nI_add i 5) (by omega) hL dL_law_435 ?_
  refine xk_callF (va_runV (As := [.int (xs (i + 1)), .int (xs (i + 2)), .int (xs (i + 3)), .int (xs (i + 4)), .int (xs (i + 5))]) (rest := []) ⟨hx, hb, hml, hown, hts⟩ (x_blockc l D cI cJ cS h0 ca hh ka fk ad ads N4 h4 cr v vs nx sz hka hq3 hq2 hv.1 (xs (i + 1)) (xs (i + 2)) (xs (i + 3)) (xs (i + 4)) (xs (i + 5))) (cwV 5 hts gL_law_X4_block rfl rfl rfl (by decide +kernel) ⟨Nat.le_of_ble_eq_true rfl, Nat.le_of_ble_eq_true rfl⟩) (xk_preVf hK hN hP hD (ci := 3) rfl 0 rfl) rfl rfl hl.1 rfl (lv_room (Nat.le_of_ble_eq_true rfl)) dL_law_436 ⟨hce, hsl⟩) hP hD hS ((xxo_fst _ _ _ _ _ _ _ _ _ _ _ _ _ _ _ _ _).trans (xx_cr _ _ _ _ _ _ _ _ _ _ _ _ _ _ _ _ _)) (fun H locs hP hD hS => ?_)
  refine lv_aload_n hx hb dL_law_439 rfl (lv_at hl 1 rfl) ?_
  refine lv_aload_n hx hb dL_law_440 rfl (lv_at hl 3 rfl) ?_
  refine lv_iload_n hx hb dL_law_441 rfl (lv_at hl 0 rfl) ?_
  refine lv_iconst (v := 1) hx hb dL_law_442 (by decide) ?_
  refine lv_iadd hx hb dL_law_443 ?_
  refine xl_sld hx hb hX hbl hbA hS (i + 1) (nI_add i 1) (by omega) hL dL_law_444 ?_
  refine lv_aload_n hx hb dL_law_445 rfl (lv_at hl 3 rfl) ?_
  refine lv_iload_n hx hb dL_law_446 rfl (lv_at hl 0 rfl) ?_
  refine lv_iconst (v := 2) hx hb dL_law_447 (by decide) ?_
  refine lv_iadd hx hb dL_law_448 ?_
  refine xl_sld hx hb hX hbl hbA hS (i + 2) (nI_add i 2) (by omega) hL dL_law_449 ?_
  refine lv_aload_n hx hb dL_law_450 rfl (lv_at hl 3 rfl) ?_
  refine lv_iload_n hx hb dL_law_451 rfl (lv_at hl 0 rfl) ?_
  refine lv_iconst (v := 3) hx hb dL_law_452 (by decide) ?_
  refine lv_iadd hx hb dL_law_453 ?_
  refine xl_sld hx hb hX hbl hbA hS (i + 3) (nI_add i 3) (by omega) hL dL_law_454 ?_
  refine lv_aload_n hx hb dL_law_455 rfl (lv_at hl 3 rfl) ?_
  refine lv_iload_n hx hb dL_law_456 rfl (lv_at hl 0 rfl) ?_
  refine lv_iconst (v := 4) hx hb dL_law_457 (by decide) ?_
  refine lv_iadd hx hb dL_law_458 ?_
  refine xl_sld hx hb hX hbl hbA hS (i + 4) (nI_add i 4) (by omega) hL dL_law_459 ?_
  refine lv_aload_n hx hb dL_law_460 rfl (lv_at hl 3 rfl) ?_
  refine lv_iload_n hx hb dL_law_461 rfl (lv_at hl 0 rfl) ?_
  refine lv_iconst (v := 5) hx hb dL_law_462 (by decide) ?_
  refine lv_iadd hx hb dL_law_463 ?_
  refine xl_sld hx hb hX hbl hbA hS (i + 5) (nI_add i 5) (by omega) hL dL_law_464 ?_
  refine xk_callS (X := xxo cI cJ cS h0 ca hh ka fk ad ads N4 (if (sp_block v (xs (i + 1)) (xs (i + 2)) (xs (i + 3)) (xs (i + 4)) (xs (i + 5))).2.isSome = true then x_crr v.2.2.2.2.2.1 v.1 (xN ((v.2.1 (xN (xs (i + 3)))).1 + (xs (i + 4)))) cr (xN (xs (i + 5))) else cr) v vs nx sz (sp_block v (xs (i + 1)) (xs (i + 2)) (xs (i + 3)) (xs (i + 4)) (xs (i + 5))).2) (va_runV (As := [.int (xs (i + 1)), .int (xs (i + 2)), .int (xs (i + 3)), .int (xs (i + 4)), .int (xs (i + 5))]) (rest := [.int (sp_block v (xs (i + 1)) (xs (i + 2)) (xs (i + 3)) (xs (i + 4)) (xs (i + 5))).1]) ⟨hx, hb, hml, hown, hts⟩ (y_block l D cI cJ cS m0 ms mb mw mm v b9 w mi kp hkp hv.1 hv.2.1 hv.2.2.1 (xs (i + 1)) (xs (i + 2)) (xs (i + 3)) (xs (i + 4)) (xs (i + 5))) (cwV 5 hts gL_law_X5_block rfl rfl rfl (by decide +kernel) ⟨Nat.le_of_ble_eq_true rfl, Nat.le_of_ble_eq_true rfl⟩) (xk_preVs (X := xxo cI cJ cS h0 ca hh ka fk ad ads N4 (if (sp_block v (xs (i + 1)) (xs (i + 2)) (xs (i + 3)) (xs (i + 4)) (xs (i + 5))).2.isSome = true then x_crr v.2.2.2.2.2.1 v.1 (xN ((v.2.1 (xN (xs (i + 3)))).1 + (xs (i + 4)))) cr (xN (xs (i + 5))) else cr) v vs nx sz (sp_block v (xs (i + 1)) (xs (i + 2)) (xs (i + 3)) (xs (i + 4)) (xs (i + 5))).2) hK hN hP hD (ci := 4) rfl 0 rfl) rfl rfl hl.1 rfl (lv_room (Nat.le_of_ble_eq_true rfl)) dL_law_465 ⟨hce, hsl⟩) hP hD hS (xmo_fst _ _ _ _ _ _ _ _ _ _ _ _ _) (fun H locs hP hD hS => ?_)
  refine lv_icmp_eq (tgt := 667) hx hb dL_law_468 (by decide) (fun _ => ?_) (fun c9 => absurd rfl c9)
  obtain ⟨v2, vs2, nx2, sz2, b2, w2, kp2, e1, e2, e3, e4⟩ := x_both cI cJ cS h0 ca hh ka fk ad ads N4 (if (sp_block v (xs (i + 1)) (xs (i + 2)) (xs (i + 3)) (xs (i + 4)) (xs (i + 5))).2.isSome = true then x_crr v.2.2.2.2.2.1 v.1 (xN ((v.2.1 (xN (xs (i + 3)))).1 + (xs (i + 4)))) cr (xN (xs (i + 5))) else cr) m0 ms mb mw mm (b := b9) hv hh9 (xi_block hv (xs (i + 1)) (xs (i + 2)) (xs (i + 3)) (xs (i + 4)) (xs (i + 5)))
  rw [e1, e2] at hP hD
  exact K (if (sp_block v (xs (i + 1)) (xs (i + 2)) (xs (i + 3)) (xs (i + 4)) (xs (i + 5))).2.isSome = true then x_crr v.2.2.2.2.2.1 v.1 (xN ((v.2.1 (xN (xs (i + 3)))).1 + (xs (i + 4)))) cr (xN (xs (i + 5))) else cr) v2 vs2 nx2 sz2 b2 w2 (x_mi (sp_block v (xs (i + 1)) (xs (i + 2)) (xs (i + 3)) (xs (i + 4)) (xs (i + 5))).2 mi (x_cpo (xf v) mi (5 * xN ((v.2.1 (xN (xs (i + 3)))).1 + (xs (i + 4)))) (5 * xN (xs (i + 5))))) kp2 H locs e3 e4 hP hD hS
