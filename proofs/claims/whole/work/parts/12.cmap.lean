set_option maxHeartbeats 4000000 in
set_option maxRecDepth 100000 in
theorem k_bitCount (l : Launch) (D : va_G) (cI cJ cS : ClassId) (n : Nat) (hn : n < 18446744073709551616) : xk_Rd l yJ13_bitCount_95d88 wsJ13_bitCount_95d88 ({ frames := 0, cells := 0, slots := 0, locals := 0 }) D vwCl (xt cI cJ cS) ([]) [.long (lN n)] (some (.int (nI (xp_pc 64 n)))) := by
  refine xk_rd (cc := cJ13_bitCount_95d88) (maxL := 2) (ret := (some .int)) (by decide) rfl (Nat.le_of_ble_eq_true rfl) (fun p e s m below meth c ls hx hb hr hlk hml hown hts hl hP hK hN => ?_)
  replace hl : lv_has ls 2 [(0, .long (lN n))] := hl
  obtain ⟨na, ha⟩ : ∃ x, x = n - (n / 2 &&& 6148914691236517205) := ⟨_, rfl⟩
  obtain ⟨nb, hb1⟩ : ∃ x, x = (na &&& 3689348814741910323) + (na / 4 &&& 3689348814741910323) := ⟨_, rfl⟩
  obtain ⟨nc, hc1⟩ : ∃ x, x = (nb + nb / 16) &&& 1085102592571150095 := ⟨_, rfl⟩
  obtain ⟨nd, hd1⟩ : ∃ x, x = nc + nc / 256 := ⟨_, rfl⟩
  obtain ⟨ne, he1⟩ : ∃ x, x = nd + nd / 65536 := ⟨_, rfl⟩
  obtain ⟨nf, hf1⟩ : ∃ x, x = ne + ne / 4294967296 := ⟨_, rfl⟩
  obtain ⟨r1, r2, r3, r4, r5, r6, r7, r8, r9⟩ := xp_count n na nb nc nd ne nf hn ha hb1 hc1 hd1 he1 hf1
  refine lv_lload_n hx hb dJ13_bitCount_95d88_0 rfl (lv_at hl 0 rfl) ?_
  refine lv_lload_n hx hb dJ13_bitCount_95d88_1 rfl (lv_at hl 0 rfl) ?_
  refine lv_iconst (v := 1) hx hb dJ13_bitCount_95d88_2 (by decide) ?_
  refine lv_lushr hx hb dJ13_bitCount_95d88_3 rfl ?_
  refine lv_ldc2 hx hb hown (hts (.constantLong RJ13 314 (6148914691236517205)) (by decide +kernel)) dJ13_bitCount_95d88_4 ?_
  refine lv_land hx hb dJ13_bitCount_95d88_7 ?_
  refine lv_lsub hx hb dJ13_bitCount_95d88_8 ?_
  refine lv_topl (fun y ey => ?_)
  obtain rfl : y = lN na := ey.trans (xp_E1 hn ha r2)
  refine lv_lstore_n (lv' := [(0, .long (lN na))]) hx hb dJ13_bitCount_95d88_9 rfl hl (by decide) rfl (fun ls hl => ?_)
  refine lv_lload_n hx hb dJ13_bitCount_95d88_10 rfl (lv_at hl 0 rfl) ?_
  refine lv_ldc2 hx hb hown (hts (.constantLong RJ13 316 (3689348814741910323)) (by decide +kernel)) dJ13_bitCount_95d88_11 ?_
  refine lv_land hx hb dJ13_bitCount_95d88_14 ?_
  refine lv_lload_n hx hb dJ13_bitCount_95d88_15 rfl (lv_at hl 0 rfl) ?_
  refine lv_iconst (v := 2) hx hb dJ13_bitCount_95d88_16 (by decide) ?_
  refine lv_lushr hx hb dJ13_bitCount_95d88_17 rfl ?_
  refine lv_ldc2 hx hb hown (hts (.constantLong RJ13 316 (3689348814741910323)) (by decide +kernel)) dJ13_bitCount_95d88_18 ?_
  refine lv_land hx hb dJ13_bitCount_95d88_21 ?_
  refine lv_ladd hx hb dJ13_bitCount_95d88_22 ?_
  refine lv_topl (fun y ey => ?_)
  obtain rfl : y = lN nb := ey.trans (xp_E2 r3 hb1)
  refine lv_lstore_n (lv' := [(0, .long (lN nb))]) hx hb dJ13_bitCount_95d88_23 rfl hl (by decide) rfl (fun ls hl => ?_)
  refine lv_lload_n hx hb dJ13_bitCount_95d88_24 rfl (lv_at hl 0 rfl) ?_
  refine lv_lload_n hx hb dJ13_bitCount_95d88_25 rfl (lv_at hl 0 rfl) ?_
  refine lv_iconst (v := 4) hx hb dJ13_bitCount_95d88_26 (by decide) ?_
  refine lv_lushr hx hb dJ13_bitCount_95d88_27 rfl ?_
  refine lv_ladd hx hb dJ13_bitCount_95d88_28 ?_
  refine lv_ldc2 hx hb hown (hts (.constantLong RJ13 318 (1085102592571150095)) (by decide +kernel)) dJ13_bitCount_95d88_29 ?_
  refine lv_land hx hb dJ13_bitCount_95d88_32 ?_
  refine lv_topl (fun y ey => ?_)
  obtain rfl : y = lN nc := ey.trans (xp_E3 r5 r4 hc1)
  refine lv_lstore_n (lv' := [(0, .long (lN nc))]) hx hb dJ13_bitCount_95d88_33 rfl hl (by decide) rfl (fun ls hl => ?_)
  refine lv_lload_n hx hb dJ13_bitCount_95d88_34 rfl (lv_at hl 0 rfl) ?_
  refine lv_lload_n hx hb dJ13_bitCount_95d88_35 rfl (lv_at hl 0 rfl) ?_
  refine lv_bipush (v := 8) hx hb dJ13_bitCount_95d88_36 (by decide) ?_
  refine lv_lushr hx hb dJ13_bitCount_95d88_38 rfl ?_
  refine lv_ladd hx hb dJ13_bitCount_95d88_39 ?_
  refine lv_topl (fun y ey => ?_)
  obtain rfl : y = lN nd := ey.trans (xp_E4 (k := 8) r6 rfl (by decide) (by decide) hd1)
  refine lv_lstore_n (lv' := [(0, .long (lN nd))]) hx hb dJ13_bitCount_95d88_40 rfl hl (by decide) rfl (fun ls hl => ?_)
  refine lv_lload_n hx hb dJ13_bitCount_95d88_41 rfl (lv_at hl 0 rfl) ?_
  refine lv_lload_n hx hb dJ13_bitCount_95d88_42 rfl (lv_at hl 0 rfl) ?_
  refine lv_bipush (v := 16) hx hb dJ13_bitCount_95d88_43 (by decide) ?_
  refine lv_lushr hx hb dJ13_bitCount_95d88_45 rfl ?_
  refine lv_ladd hx hb dJ13_bitCount_95d88_46 ?_
  refine lv_topl (fun y ey => ?_)
  obtain rfl : y = lN ne := ey.trans (xp_E4 (k := 16) r7 rfl (by decide) (by decide) he1)
  refine lv_lstore_n (lv' := [(0, .long (lN ne))]) hx hb dJ13_bitCount_95d88_47 rfl hl (by decide) rfl (fun ls hl => ?_)
  refine lv_lload_n hx hb dJ13_bitCount_95d88_48 rfl (lv_at hl 0 rfl) ?_
  refine lv_lload_n hx hb dJ13_bitCount_95d88_49 rfl (lv_at hl 0 rfl) ?_
  refine lv_bipush (v := 32) hx hb dJ13_bitCount_95d88_50 (by decide) ?_
  refine lv_lushr hx hb dJ13_bitCount_95d88_52 rfl ?_
  refine lv_ladd hx hb dJ13_bitCount_95d88_53 ?_
  refine lv_topl (fun y ey => ?_)
  obtain rfl : y = lN nf := ey.trans (xp_E4 (k := 32) r8 rfl (by decide) (by decide) hf1)
  refine lv_lstore_n (lv' := [(0, .long (lN nf))]) hx hb dJ13_bitCount_95d88_54 rfl hl (by decide) rfl (fun ls hl => ?_)
  refine lv_lload_n hx hb dJ13_bitCount_95d88_55 rfl (lv_at hl 0 rfl) ?_
  refine lv_l2i hx hb dJ13_bitCount_95d88_56 rfl ?_
  refine lv_bipush (v := 127) hx hb dJ13_bitCount_95d88_57 (by decide) ?_
  refine lv_iand hx hb dJ13_bitCount_95d88_59 ?_
  exact xk_iretR hx hb hr hlk (xp_E7 r1) dJ13_bitCount_95d88_60
set_option maxHeartbeats 4000000 in
set_option maxRecDepth 100000 in
theorem k_bitsBelow (l : Launch) (D : va_G) (cI cJ cS : ClassId) (x : Int32) : xk_Rd l yX0_bitsBelow wsX0_bitsBelow ({ frames := 0, cells := 0, slots := 0, locals := 0 }) D vwCl (xt cI cJ cS) ([]) [.int x] (some (.long (xs_bb x))) := by
  refine xk_rd (cc := cX0_bitsBelow) (maxL := 1) (ret := (some .long)) (by decide) rfl (Nat.le_of_ble_eq_true rfl) (fun p e s m below meth c ls hx hb hr hlk hml hown hts hl hP hK hN => ?_)
  replace hl : lv_has ls 1 [(0, .int x)] := hl
  refine lv_iload_n hx hb dX0_bitsBelow_0 rfl (lv_at hl 0 rfl) ?_
  refine lv_if_gt (tgt := 6) hx hb dX0_bitsBelow_1 (by decide) (fun c_1 => ?_) (fun c_1 => ?_)
  · skip
    refine lv_iload_n hx hb dX0_bitsBelow_6 rfl (lv_at hl 0 rfl) ?_
    refine lv_bipush (v := 64) hx hb dX0_bitsBelow_7 (by decide) ?_
    refine lv_icmp_ge (tgt := 20) hx hb dX0_bitsBelow_9 (by decide) (fun c_9 => ?_) (fun c_9 => ?_)
    · skip
      refine lv_ldc2 hx hb hown (hts (.constantLong RX0 19 (-1)) (by decide +kernel)) dX0_bitsBelow_20 ?_
      exact xk_lretR hx hb hr hlk (xs_bb64 c_9) dX0_bitsBelow_23
    · skip
      refine lv_lconst (v := 1) hx hb dX0_bitsBelow_12 (by decide) ?_
      refine lv_iload_n hx hb dX0_bitsBelow_13 rfl (lv_at hl 0 rfl) ?_
      refine lv_lshl hx hb dX0_bitsBelow_14 rfl ?_
      refine lv_lconst (v := 1) hx hb dX0_bitsBelow_15 (by decide) ?_
      refine lv_lsub hx hb dX0_bitsBelow_16 ?_
      refine lv_goto (tgt := 23) hx hb dX0_bitsBelow_17 (by decide) ?_
      exact xk_lretR hx hb hr hlk (xs_bbm c_1 c_9) dX0_bitsBelow_23
  · skip
    refine lv_lconst (v := 0) hx hb dX0_bitsBelow_4 (by decide) ?_
    exact xk_lretR hx hb hr hlk (xs_bb0 c_1) dX0_bitsBelow_5
set_option maxHeartbeats 4000000 in
set_option maxRecDepth 100000 in
theorem k_has (l : Launch) (D : va_G) (cI cJ cS : ClassId) (h r : Nat) (S : Nat → Bool) (k : Nat) (hk : k < 256) : xk_Rd l yX0_has wsX0_has ({ frames := 1, cells := 0, slots := 0, locals := 20 }) D vwCl (xt cI cJ cS) ([(h, .inr (0, [.ref r])), (r, .inl (cJ, 4, .inr (.inl (xs_rows S))))]) [.ref h, .int (nI k)] (some (.int (xb (S k)))) := by
  refine xk_rd (cc := cX0_has) (maxL := 2) (ret := (some .boolean)) (by decide) rfl (Nat.le_of_ble_eq_true rfl) (fun p e s m below meth c ls hx hb hr hlk hml hown hts hl hP hK hN => ?_)
  replace hl : lv_has ls 2 [(0, .ref h), (1, .int (nI k))] := hl
  have hiX0 : ∀ w ∈ u_ws RX0 TX0 1, w ∈ wsX0_has := by decide +kernel
  refine lv_iload_n hx hb dX0_has_0 rfl (lv_at hl 1 rfl) ?_
  refine xk_callR (va_runSN (As := [.int (nI k)]) (rest := []) ⟨hx, hb, hml, hown, hts⟩ (k_isCell l D cI cJ cS (nI k)) ⟨va_cnB 1 hts gX0_has_X4_isCell_n15 rfl rfl rfl (hN.1 (.methodLinkNest RX0 15 yX4_isCell "PointerSweep") (by decide +kernel)) (hts (.initialized RX4) (by decide +kernel)) (by decide +kernel) ⟨Nat.le_of_ble_eq_true rfl, Nat.le_of_ble_eq_true rfl⟩, hts (.static yX4_isCell) (by decide +kernel), trivial⟩ (xk_preSr hK hN hP [] rfl) rfl rfl hl.1 rfl (lv_room (Nat.le_of_ble_eq_true rfl)) dX0_has_1 ⟨Nat.zero_le _, Nat.zero_le _⟩) ?_
  refine lv_if_eq (tgt := 32) hx hb dX0_has_4 (by decide) (fun c_4 => ?_) (fun c_4 => ?_)
  · skip
    exact absurd c_4 (by rw [xi_nI hk (by decide)]; decide)
  · skip
    refine lv_aload_n hx hb dX0_has_7 rfl (lv_at hl 0 rfl) ?_
    refine va_get (D := D) (ci := 0) (v := .ref r) (C := RX0) (T := TX0) (N := 1) hx hb hts hiX0 hown hK hP 0 rfl rfl 0 (by decide) (hts (.fieldLink RX0 11 "PointerSweep$CellMap" "rows" "[J") (by decide +kernel)) (fun _ h9 => h9) rfl dX0_has_8 ?_
    refine lv_iload_n hx hb dX0_has_11 rfl (lv_at hl 1 rfl) ?_
    refine lv_bipush (v := 6) hx hb dX0_has_12 (by decide) ?_
    refine lv_ishr hx hb dX0_has_14 ?_
    refine xa_lald hx hb hK hP 1 1 rfl rfl (k / 64) (x_shr6 (by omega)) (by omega) (by decide) dX0_has_15 ?_
    refine lv_lconst (v := 1) hx hb dX0_has_16 (by decide) ?_
    refine lv_iload_n hx hb dX0_has_17 rfl (lv_at hl 1 rfl) ?_
    refine lv_bipush (v := 63) hx hb dX0_has_18 (by decide) ?_
    refine lv_iand hx hb dX0_has_20 ?_
    refine lv_lshl hx hb dX0_has_21 rfl ?_
    refine lv_land hx hb dX0_has_22 ?_
    refine lv_lconst (v := 0) hx hb dX0_has_23 (by decide) ?_
    refine W.lcmp hx hb dX0_has_24 ?_
    refine lv_if_eq (tgt := 32) hx hb dX0_has_25 (by decide) (fun c_25 => ?_) (fun c_25 => ?_)
    · skip
      refine lv_iconst (v := 0) hx hb dX0_has_32 (by decide) ?_
      exact xk_zretR hx hb hr hlk rfl (xb_p0 (xs_has' S hk) c_25) dX0_has_33
    · skip
      refine lv_iconst (v := 1) hx hb dX0_has_28 (by decide) ?_
      refine lv_goto (tgt := 33) hx hb dX0_has_29 (by decide) ?_
      exact xk_zretR hx hb hr hlk rfl (xb_p1 (xs_has' S hk) c_25) dX0_has_33
set_option maxHeartbeats 4000000 in
set_option maxRecDepth 100000 in
theorem k_add (l : Launch) (D : va_G) (cI cJ cS : ClassId) (h r : Nat) (S : Nat → Bool) (k : Nat) (hk : k < 256) : xk_Wr l yX0_add wsX0_add ({ frames := 1, cells := 0, slots := 0, locals := 20 }) D vwCl (xt cI cJ cS) ([(h, .inr (0, [.ref r])), (r, .inl (cJ, 4, .inr (.inl (xs_rows S))))]) [.ref h, .int (nI k)] ([(h, .inr (0, [.ref r])), (r, .inl (cJ, 4, .inr (.inl (xs_rows (va_up S k true)))))]) none := by
  refine xk_wr (cc := cX0_add) (maxL := 2) (ret := none) (by decide) rfl (Nat.le_of_ble_eq_true rfl) (fun p e s m below meth c ls hx hb hr hlk hml hown hts hl hP hK hN hD hS => ?_)
  replace hl : lv_has ls 2 [(0, .ref h), (1, .int (nI k))] := hl
  have hiX0 : ∀ w ∈ u_ws RX0 TX0 1, w ∈ wsX0_add := by decide +kernel
  refine lv_iload_n hx hb dX0_add_0 rfl (lv_at hl 1 rfl) ?_
  refine xk_callR (va_runSN (As := [.int (nI k)]) (rest := []) ⟨hx, hb, hml, hown, hts⟩ (k_isCell l D cI cJ cS (nI k)) ⟨va_cnB 1 hts gX0_add_X4_isCell_n15 rfl rfl rfl (hN.1 (.methodLinkNest RX0 15 yX4_isCell "PointerSweep") (by decide +kernel)) (hts (.initialized RX4) (by decide +kernel)) (by decide +kernel) ⟨Nat.le_of_ble_eq_true rfl, Nat.le_of_ble_eq_true rfl⟩, hts (.static yX4_isCell) (by decide +kernel), trivial⟩ (xk_preSr hK hN hP [] rfl) rfl rfl hl.1 rfl (lv_room (Nat.le_of_ble_eq_true rfl)) dX0_add_1 ⟨Nat.zero_le _, Nat.zero_le _⟩) ?_
  refine lv_if_eq (tgt := 25) hx hb dX0_add_4 (by decide) (fun c_4 => ?_) (fun c_4 => ?_)
  · skip
    exact absurd c_4 (by rw [xi_nI hk (by decide)]; decide)
  · skip
    refine lv_aload_n hx hb dX0_add_7 rfl (lv_at hl 0 rfl) ?_
    refine va_get (D := D) (ci := 0) (v := .ref r) (C := RX0) (T := TX0) (N := 1) hx hb hts hiX0 hown hK hP 0 rfl rfl 0 (by decide) (hts (.fieldLink RX0 11 "PointerSweep$CellMap" "rows" "[J") (by decide +kernel)) (fun _ h9 => h9) rfl dX0_add_8 ?_
    refine lv_iload_n hx hb dX0_add_11 rfl (lv_at hl 1 rfl) ?_
    refine lv_bipush (v := 6) hx hb dX0_add_12 (by decide) ?_
    refine lv_ishr hx hb dX0_add_14 ?_
    refine lv_dup2_11 hx hb dX0_add_15 rfl rfl ?_
    refine xa_lald hx hb hK hP 1 1 rfl rfl (k / 64) (x_shr6 (by omega)) (by omega) (by decide) dX0_add_16 ?_
    refine lv_lconst (v := 1) hx hb dX0_add_17 (by decide) ?_
    refine lv_iload_n hx hb dX0_add_18 rfl (lv_at hl 1 rfl) ?_
    refine lv_bipush (v := 63) hx hb dX0_add_19 (by decide) ?_
    refine lv_iand hx hb dX0_add_21 ?_
    refine lv_lshl hx hb dX0_add_22 rfl ?_
    refine lv_lor hx hb dX0_add_23 ?_
    refine xa_last (ws' := [(h, .inr (0, [.ref r])), (r, .inl (cJ, 4, .inr (.inl (vp_updL (xs_rows S) (k / 64) (((xs_rows S) (k / 64)) ||| (1 <<< (((nI k &&& 63) : Int32).toInt64 &&& 63)))))))]) hx hb hK hP hD hS 1 1 rfl rfl (k / 64) (x_shr6 (by omega)) (by omega) (by decide) dX0_add_24 rfl (fun H locs hP hD hS => ?_)
    exact xk_vretW hx hb hr hlk hP hS (by rw [xs_add' S hk]) dX0_add_25
set_option maxHeartbeats 4000000 in
set_option maxRecDepth 100000 in
theorem k_drop (l : Launch) (D : va_G) (cI cJ cS : ClassId) (h r : Nat) (S : Nat → Bool) (k : Nat) (hk : k < 256) : xk_Wr l yX0_drop wsX0_drop ({ frames := 1, cells := 0, slots := 0, locals := 20 }) D vwCl (xt cI cJ cS) ([(h, .inr (0, [.ref r])), (r, .inl (cJ, 4, .inr (.inl (xs_rows S))))]) [.ref h, .int (nI k)] ([(h, .inr (0, [.ref r])), (r, .inl (cJ, 4, .inr (.inl (xs_rows (va_up S k false)))))]) none := by
  refine xk_wr (cc := cX0_drop) (maxL := 2) (ret := none) (by decide) rfl (Nat.le_of_ble_eq_true rfl) (fun p e s m below meth c ls hx hb hr hlk hml hown hts hl hP hK hN hD hS => ?_)
  replace hl : lv_has ls 2 [(0, .ref h), (1, .int (nI k))] := hl
  have hiX0 : ∀ w ∈ u_ws RX0 TX0 1, w ∈ wsX0_drop := by decide +kernel
  refine lv_iload_n hx hb dX0_drop_0 rfl (lv_at hl 1 rfl) ?_
  refine xk_callR (va_runSN (As := [.int (nI k)]) (rest := []) ⟨hx, hb, hml, hown, hts⟩ (k_isCell l D cI cJ cS (nI k)) ⟨va_cnB 1 hts gX0_drop_X4_isCell_n15 rfl rfl rfl (hN.1 (.methodLinkNest RX0 15 yX4_isCell "PointerSweep") (by decide +kernel)) (hts (.initialized RX4) (by decide +kernel)) (by decide +kernel) ⟨Nat.le_of_ble_eq_true rfl, Nat.le_of_ble_eq_true rfl⟩, hts (.static yX4_isCell) (by decide +kernel), trivial⟩ (xk_preSr hK hN hP [] rfl) rfl rfl hl.1 rfl (lv_room (Nat.le_of_ble_eq_true rfl)) dX0_drop_1 ⟨Nat.zero_le _, Nat.zero_le _⟩) ?_
  refine lv_if_eq (tgt := 29) hx hb dX0_drop_4 (by decide) (fun c_4 => ?_) (fun c_4 => ?_)
  · skip
    exact absurd c_4 (by rw [xi_nI hk (by decide)]; decide)
  · skip
    refine lv_aload_n hx hb dX0_drop_7 rfl (lv_at hl 0 rfl) ?_
    refine va_get (D := D) (ci := 0) (v := .ref r) (C := RX0) (T := TX0) (N := 1) hx hb hts hiX0 hown hK hP 0 rfl rfl 0 (by decide) (hts (.fieldLink RX0 11 "PointerSweep$CellMap" "rows" "[J") (by decide +kernel)) (fun _ h9 => h9) rfl dX0_drop_8 ?_
    refine lv_iload_n hx hb dX0_drop_11 rfl (lv_at hl 1 rfl) ?_
    refine lv_bipush (v := 6) hx hb dX0_drop_12 (by decide) ?_
    refine lv_ishr hx hb dX0_drop_14 ?_
    refine lv_dup2_11 hx hb dX0_drop_15 rfl rfl ?_
    refine xa_lald hx hb hK hP 1 1 rfl rfl (k / 64) (x_shr6 (by omega)) (by omega) (by decide) dX0_drop_16 ?_
    refine lv_lconst (v := 1) hx hb dX0_drop_17 (by decide) ?_
    refine lv_iload_n hx hb dX0_drop_18 rfl (lv_at hl 1 rfl) ?_
    refine lv_bipush (v := 63) hx hb dX0_drop_19 (by decide) ?_
    refine lv_iand hx hb dX0_drop_21 ?_
    refine lv_lshl hx hb dX0_drop_22 rfl ?_
    refine lv_ldc2 hx hb hown (hts (.constantLong RX0 19 (-1)) (by decide +kernel)) dX0_drop_23 ?_
    refine lv_lxor hx hb dX0_drop_26 ?_
    refine lv_land hx hb dX0_drop_27 ?_
    refine xa_last (ws' := [(h, .inr (0, [.ref r])), (r, .inl (cJ, 4, .inr (.inl (vp_updL (xs_rows S) (k / 64) (((xs_rows S) (k / 64)) &&& ((1 <<< (((nI k &&& 63) : Int32).toInt64 &&& 63)) ^^^ (-1)))))))]) hx hb hK hP hD hS 1 1 rfl rfl (k / 64) (x_shr6 (by omega)) (by omega) (by decide) dX0_drop_28 rfl (fun H locs hP hD hS => ?_)
    exact xk_vretW hx hb hr hlk hP hS (by rw [xs_drop' S hk]) dX0_drop_29
set_option maxHeartbeats 4000000 in
set_option maxRecDepth 100000 in
theorem k_sizeWithin (l : Launch) (D : va_G) (cI cJ cS : ClassId) (h r : Nat) (S : Nat → Bool) (a1 b1 : Nat) (ha1 : a1 ≤ 512) (hb1 : b1 ≤ 512) : xk_Rd l yX0_sizeWithin wsX0_sizeWithin ({ frames := 1, cells := 0, slots := 0, locals := 21 }) D vwCl (xt cI cJ cS) ([(h, .inr (0, [.ref r])), (r, .inl (cJ, 4, .inr (.inl (xs_rows S))))]) [.ref h, .int (nI a1), .int (nI b1)] (some (.int (nI (xs_w S a1 b1)))) := by
  refine xk_rd (cc := cX0_sizeWithin) (maxL := 6) (ret := (some .int)) (by decide) rfl (Nat.le_of_ble_eq_true rfl) (fun p e s m below meth c ls hx hb hr hlk hml hown hts hl hP hK hN => ?_)
  replace hl : lv_has ls 6 [(0, .ref h), (1, .int (nI a1)), (2, .int (nI b1))] := hl
  have hiX0 : ∀ w ∈ u_ws RX0 TX0 1, w ∈ wsX0_sizeWithin := by decide +kernel
  obtain ⟨n0, hn0, e0, p0⟩ := xs_row S 0 ha1 hb1 (by decide)
  obtain ⟨n1, hn1, e1, p1⟩ := xs_row S 1 ha1 hb1 (by decide)
  obtain ⟨n2, hn2, e2, p2⟩ := xs_row S 2 ha1 hb1 (by decide)
  obtain ⟨n3, hn3, e3, p3⟩ := xs_row S 3 ha1 hb1 (by decide)
  refine lv_iconst (v := 0) hx hb dX0_sizeWithin_0 (by decide) ?_
  refine lv_topi (fun y ey => ?_)
  obtain rfl : y = nI 0 := ey.trans nI_0.symm
  refine lv_istore_n (lv' := [(3, .int (nI 0)), (0, .ref h), (1, .int (nI a1)), (2, .int (nI b1))]) hx hb dX0_sizeWithin_1 rfl hl (by decide) rfl (fun ls hl => ?_)
  refine lv_iconst (v := 0) hx hb dX0_sizeWithin_2 (by decide) ?_
  refine lv_istore (lv' := [(4, .int 0), (3, .int (nI 0)), (0, .ref h), (1, .int (nI a1)), (2, .int (nI b1))]) hx hb dX0_sizeWithin_3 hl (by decide) rfl (fun ls hl => ?_)
  refine lv_iload hx hb dX0_sizeWithin_5 (lv_at hl 0 rfl) ?_
  refine lv_iconst (v := 4) hx hb dX0_sizeWithin_7 (by decide) ?_
  refine lv_icmp_ge (tgt := 57) hx hb dX0_sizeWithin_8 (by decide) (fun c_8 => ?_) (fun c_8 => ?_)
  · skip
    exact absurd c_8 (by decide)
  · skip
    refine lv_iload hx hb dX0_sizeWithin_11 (lv_at hl 0 rfl) ?_
    refine lv_bipush (v := 64) hx hb dX0_sizeWithin_13 (by decide) ?_
    refine lv_imul hx hb dX0_sizeWithin_15 ?_
    refine lv_topi (fun y ey => ?_)
    obtain rfl : y = nI (64 * 0) := ey.trans (by decide)
    refine lv_istore (lv' := [(5, .int (nI (64 * 0))), (4, .int 0), (3, .int (nI 0)), (0, .ref h), (1, .int (nI a1)), (2, .int (nI b1))]) hx hb dX0_sizeWithin_16 hl (by decide) rfl (fun ls hl => ?_)
    refine lv_iload_n hx hb dX0_sizeWithin_18 rfl (lv_at hl 2 rfl) ?_
    refine lv_aload_n hx hb dX0_sizeWithin_19 rfl (lv_at hl 3 rfl) ?_
    refine va_get (D := D) (ci := 0) (v := .ref r) (C := RX0) (T := TX0) (N := 1) hx hb hts hiX0 hown hK hP 0 rfl rfl 0 (by decide) (hts (.fieldLink RX0 11 "PointerSweep$CellMap" "rows" "[J") (by decide +kernel)) (fun _ h9 => h9) rfl dX0_sizeWithin_20 ?_
    refine lv_iload hx hb dX0_sizeWithin_23 (lv_at hl 1 rfl) ?_
    refine xa_lald hx hb hK hP 1 1 rfl rfl 0 rfl (by decide) (by decide) dX0_sizeWithin_25 ?_
    refine lv_iload_n hx hb dX0_sizeWithin_26 rfl (lv_at hl 5 rfl) ?_
    refine lv_iload hx hb dX0_sizeWithin_27 (lv_at hl 0 rfl) ?_
    refine lv_isub hx hb dX0_sizeWithin_29 ?_
    refine xk_callR (va_runS (As := [.int (nI b1 - (nI (64 * 0)))]) (rest := [.long ((xs_rows S) 0), .int (nI 0)]) ⟨hx, hb, hml, hown, hts⟩ (k_bitsBelow l D cI cJ cS (nI b1 - (nI (64 * 0)))) (va_cwS 1 hts gX0_sizeWithin_X0_bitsBelow rfl rfl rfl (by decide +kernel) ⟨Nat.le_of_ble_eq_true rfl, Nat.le_of_ble_eq_true rfl⟩) (xk_preSr hK hN hP [] rfl) rfl rfl hl.1 rfl (lv_room (Nat.le_of_ble_eq_true rfl)) dX0_sizeWithin_30 ⟨Nat.zero_le _, Nat.zero_le _⟩) ?_
    refine lv_land hx hb dX0_sizeWithin_33 ?_
    refine lv_iload_n hx hb dX0_sizeWithin_34 rfl (lv_at hl 4 rfl) ?_
    refine lv_iload hx hb dX0_sizeWithin_35 (lv_at hl 0 rfl) ?_
    refine lv_isub hx hb dX0_sizeWithin_37 ?_
    refine xk_callR (va_runS (As := [.int (nI a1 - (nI (64 * 0)))]) (rest := [.long (((xs_rows S) 0) &&& (xs_bb (nI b1 - (nI (64 * 0))))), .int (nI 0)]) ⟨hx, hb, hml, hown, hts⟩ (k_bitsBelow l D cI cJ cS (nI a1 - (nI (64 * 0)))) (va_cwS 1 hts gX0_sizeWithin_X0_bitsBelow rfl rfl rfl (by decide +kernel) ⟨Nat.le_of_ble_eq_true rfl, Nat.le_of_ble_eq_true rfl⟩) (xk_preSr hK hN hP [] rfl) rfl rfl hl.1 rfl (lv_room (Nat.le_of_ble_eq_true rfl)) dX0_sizeWithin_38 ⟨Nat.zero_le _, Nat.zero_le _⟩) ?_
    refine lv_ldc2 hx hb hown (hts (.constantLong RX0 19 (-1)) (by decide +kernel)) dX0_sizeWithin_41 ?_
    refine lv_lxor hx hb dX0_sizeWithin_44 ?_
    refine lv_land hx hb dX0_sizeWithin_45 ?_
    refine lv_topl (fun y ey => ?_)
    obtain rfl : y = lN n0 := ey.trans e0
    refine xk_callR (va_runS (As := [.long (lN n0)]) (rest := [.int (nI 0)]) ⟨hx, hb, hml, hown, hts⟩ (k_bitCount l D cI cJ cS n0 hn0) (va_cwS 1 hts gX0_sizeWithin_J13_bitCount_95d88 rfl rfl rfl (by decide +kernel) ⟨Nat.le_of_ble_eq_true rfl, Nat.le_of_ble_eq_true rfl⟩) (xk_preSr hK hN hP [] rfl) rfl rfl hl.1 rfl (lv_room (Nat.le_of_ble_eq_true rfl)) dX0_sizeWithin_46 ⟨Nat.zero_le _, Nat.zero_le _⟩) ?_
    refine lv_iadd hx hb dX0_sizeWithin_49 ?_
    refine lv_topi (fun y ey => ?_)
    obtain rfl : y = nI (0 + xp_pc 64 n0) := ey.trans (nI_add _ _)
    refine lv_istore_n (lv' := [(3, .int (nI (0 + xp_pc 64 n0))), (5, .int (nI (64 * 0))), (4, .int 0), (0, .ref h), (1, .int (nI a1)), (2, .int (nI b1))]) hx hb dX0_sizeWithin_50 rfl hl (by decide) rfl (fun ls hl => ?_)
    refine lv_iinc (v := 1) (lv' := [(4, .int 1), (3, .int (nI (0 + xp_pc 64 n0))), (5, .int (nI (64 * 0))), (0, .ref h), (1, .int (nI a1)), (2, .int (nI b1))]) hx hb dX0_sizeWithin_51 hl (k := 2) rfl (by decide) (by decide) rfl (fun ls hl => ?_)
    refine lv_goto (tgt := 5) hx hb dX0_sizeWithin_54 (by decide) ?_
    refine lv_iload hx hb dX0_sizeWithin_5 (lv_at hl 0 rfl) ?_
    refine lv_iconst (v := 4) hx hb dX0_sizeWithin_7 (by decide) ?_
    refine lv_icmp_ge (tgt := 57) hx hb dX0_sizeWithin_8 (by decide) (fun c_8 => ?_) (fun c_8 => ?_)
    · skip
      exact absurd c_8 (by decide)
    · skip
      refine lv_iload hx hb dX0_sizeWithin_11 (lv_at hl 0 rfl) ?_
      refine lv_bipush (v := 64) hx hb dX0_sizeWithin_13 (by decide) ?_
      refine lv_imul hx hb dX0_sizeWithin_15 ?_
      refine lv_topi (fun y ey => ?_)
      obtain rfl : y = nI (64 * 1) := ey.trans (by decide)
      refine lv_istore (lv' := [(5, .int (nI (64 * 1))), (4, .int 1), (3, .int (nI (0 + xp_pc 64 n0))), (0, .ref h), (1, .int (nI a1)), (2, .int (nI b1))]) hx hb dX0_sizeWithin_16 hl (by decide) rfl (fun ls hl => ?_)
      refine lv_iload_n hx hb dX0_sizeWithin_18 rfl (lv_at hl 2 rfl) ?_
      refine lv_aload_n hx hb dX0_sizeWithin_19 rfl (lv_at hl 3 rfl) ?_
      refine va_get (D := D) (ci := 0) (v := .ref r) (C := RX0) (T := TX0) (N := 1) hx hb hts hiX0 hown hK hP 0 rfl rfl 0 (by decide) (hts (.fieldLink RX0 11 "PointerSweep$CellMap" "rows" "[J") (by decide +kernel)) (fun _ h9 => h9) rfl dX0_sizeWithin_20 ?_
      refine lv_iload hx hb dX0_sizeWithin_23 (lv_at hl 1 rfl) ?_
      refine xa_lald hx hb hK hP 1 1 rfl rfl 1 rfl (by decide) (by decide) dX0_sizeWithin_25 ?_
      refine lv_iload_n hx hb dX0_sizeWithin_26 rfl (lv_at hl 5 rfl) ?_
      refine lv_iload hx hb dX0_sizeWithin_27 (lv_at hl 0 rfl) ?_
      refine lv_isub hx hb dX0_sizeWithin_29 ?_
      refine xk_callR (va_runS (As := [.int (nI b1 - (nI (64 * 1)))]) (rest := [.long ((xs_rows S) 1), .int (nI (0 + xp_pc 64 n0))]) ⟨hx, hb, hml, hown, hts⟩ (k_bitsBelow l D cI cJ cS (nI b1 - (nI (64 * 1)))) (va_cwS 1 hts gX0_sizeWithin_X0_bitsBelow rfl rfl rfl (by decide +kernel) ⟨Nat.le_of_ble_eq_true rfl, Nat.le_of_ble_eq_true rfl⟩) (xk_preSr hK hN hP [] rfl) rfl rfl hl.1 rfl (lv_room (Nat.le_of_ble_eq_true rfl)) dX0_sizeWithin_30 ⟨Nat.zero_le _, Nat.zero_le _⟩) ?_
      refine lv_land hx hb dX0_sizeWithin_33 ?_
      refine lv_iload_n hx hb dX0_sizeWithin_34 rfl (lv_at hl 4 rfl) ?_
      refine lv_iload hx hb dX0_sizeWithin_35 (lv_at hl 0 rfl) ?_
      refine lv_isub hx hb dX0_sizeWithin_37 ?_
      refine xk_callR (va_runS (As := [.int (nI a1 - (nI (64 * 1)))]) (rest := [.long (((xs_rows S) 1) &&& (xs_bb (nI b1 - (nI (64 * 1))))), .int (nI (0 + xp_pc 64 n0))]) ⟨hx, hb, hml, hown, hts⟩ (k_bitsBelow l D cI cJ cS (nI a1 - (nI (64 * 1)))) (va_cwS 1 hts gX0_sizeWithin_X0_bitsBelow rfl rfl rfl (by decide +kernel) ⟨Nat.le_of_ble_eq_true rfl, Nat.le_of_ble_eq_true rfl⟩) (xk_preSr hK hN hP [] rfl) rfl rfl hl.1 rfl (lv_room (Nat.le_of_ble_eq_true rfl)) dX0_sizeWithin_38 ⟨Nat.zero_le _, Nat.zero_le _⟩) ?_
      refine lv_ldc2 hx hb hown (hts (.constantLong RX0 19 (-1)) (by decide +kernel)) dX0_sizeWithin_41 ?_
      refine lv_lxor hx hb dX0_sizeWithin_44 ?_
      refine lv_land hx hb dX0_sizeWithin_45 ?_
      refine lv_topl (fun y ey => ?_)
      obtain rfl : y = lN n1 := ey.trans e1
      refine xk_callR (va_runS (As := [.long (lN n1)]) (rest := [.int (nI (0 + xp_pc 64 n0))]) ⟨hx, hb, hml, hown, hts⟩ (k_bitCount l D cI cJ cS n1 hn1) (va_cwS 1 hts gX0_sizeWithin_J13_bitCount_95d88 rfl rfl rfl (by decide +kernel) ⟨Nat.le_of_ble_eq_true rfl, Nat.le_of_ble_eq_true rfl⟩) (xk_preSr hK hN hP [] rfl) rfl rfl hl.1 rfl (lv_room (Nat.le_of_ble_eq_true rfl)) dX0_sizeWithin_46 ⟨Nat.zero_le _, Nat.zero_le _⟩) ?_
      refine lv_iadd hx hb dX0_sizeWithin_49 ?_
      refine lv_topi (fun y ey => ?_)
      obtain rfl : y = nI ((0 + xp_pc 64 n0) + xp_pc 64 n1) := ey.trans (nI_add _ _)
      refine lv_istore_n (lv' := [(3, .int (nI ((0 + xp_pc 64 n0) + xp_pc 64 n1))), (5, .int (nI (64 * 1))), (4, .int 1), (0, .ref h), (1, .int (nI a1)), (2, .int (nI b1))]) hx hb dX0_sizeWithin_50 rfl hl (by decide) rfl (fun ls hl => ?_)
      refine lv_iinc (v := 2) (lv' := [(4, .int 2), (3, .int (nI ((0 + xp_pc 64 n0) + xp_pc 64 n1))), (5, .int (nI (64 * 1))), (0, .ref h), (1, .int (nI a1)), (2, .int (nI b1))]) hx hb dX0_sizeWithin_51 hl (k := 2) rfl (by decide) (by decide) rfl (fun ls hl => ?_)
      refine lv_goto (tgt := 5) hx hb dX0_sizeWithin_54 (by decide) ?_
      refine lv_iload hx hb dX0_sizeWithin_5 (lv_at hl 0 rfl) ?_
      refine lv_iconst (v := 4) hx hb dX0_sizeWithin_7 (by decide) ?_
      refine lv_icmp_ge (tgt := 57) hx hb dX0_sizeWithin_8 (by decide) (fun c_8 => ?_) (fun c_8 => ?_)
      · skip
        exact absurd c_8 (by decide)
      · skip
        refine lv_iload hx hb dX0_sizeWithin_11 (lv_at hl 0 rfl) ?_
        refine lv_bipush (v := 64) hx hb dX0_sizeWithin_13 (by decide) ?_
        refine lv_imul hx hb dX0_sizeWithin_15 ?_
        refine lv_topi (fun y ey => ?_)
        obtain rfl : y = nI (64 * 2) := ey.trans (by decide)
        refine lv_istore (lv' := [(5, .int (nI (64 * 2))), (4, .int 2), (3, .int (nI ((0 + xp_pc 64 n0) + xp_pc 64 n1))), (0, .ref h), (1, .int (nI a1)), (2, .int (nI b1))]) hx hb dX0_sizeWithin_16 hl (by decide) rfl (fun ls hl => ?_)
        refine lv_iload_n hx hb dX0_sizeWithin_18 rfl (lv_at hl 2 rfl) ?_
        refine lv_aload_n hx hb dX0_sizeWithin_19 rfl (lv_at hl 3 rfl) ?_
        refine va_get (D := D) (ci := 0) (v := .ref r) (C := RX0) (T := TX0) (N := 1) hx hb hts hiX0 hown hK hP 0 rfl rfl 0 (by decide) (hts (.fieldLink RX0 11 "PointerSweep$CellMap" "rows" "[J") (by decide +kernel)) (fun _ h9 => h9) rfl dX0_sizeWithin_20 ?_
        refine lv_iload hx hb dX0_sizeWithin_23 (lv_at hl 1 rfl) ?_
        refine xa_lald hx hb hK hP 1 1 rfl rfl 2 rfl (by decide) (by decide) dX0_sizeWithin_25 ?_
        refine lv_iload_n hx hb dX0_sizeWithin_26 rfl (lv_at hl 5 rfl) ?_
        refine lv_iload hx hb dX0_sizeWithin_27 (lv_at hl 0 rfl) ?_
        refine lv_isub hx hb dX0_sizeWithin_29 ?_
        refine xk_callR (va_runS (As := [.int (nI b1 - (nI (64 * 2)))]) (rest := [.long ((xs_rows S) 2), .int (nI ((0 + xp_pc 64 n0) + xp_pc 64 n1))]) ⟨hx, hb, hml, hown, hts⟩ (k_bitsBelow l D cI cJ cS (nI b1 - (nI (64 * 2)))) (va_cwS 1 hts gX0_sizeWithin_X0_bitsBelow rfl rfl rfl (by decide +kernel) ⟨Nat.le_of_ble_eq_true rfl, Nat.le_of_ble_eq_true rfl⟩) (xk_preSr hK hN hP [] rfl) rfl rfl hl.1 rfl (lv_room (Nat.le_of_ble_eq_true rfl)) dX0_sizeWithin_30 ⟨Nat.zero_le _, Nat.zero_le _⟩) ?_
        refine lv_land hx hb dX0_sizeWithin_33 ?_
        refine lv_iload_n hx hb dX0_sizeWithin_34 rfl (lv_at hl 4 rfl) ?_
        refine lv_iload hx hb dX0_sizeWithin_35 (lv_at hl 0 rfl) ?_
        refine lv_isub hx hb dX0_sizeWithin_37 ?_
        refine xk_callR (va_runS (As := [.int (nI a1 - (nI (64 * 2)))]) (rest := [.long (((xs_rows S) 2) &&& (xs_bb (nI b1 - (nI (64 * 2))))), .int (nI ((0 + xp_pc 64 n0) + xp_pc 64 n1))]) ⟨hx, hb, hml, hown, hts⟩ (k_bitsBelow l D cI cJ cS (nI a1 - (nI (64 * 2)))) (va_cwS 1 hts gX0_sizeWithin_X0_bitsBelow rfl rfl rfl (by decide +kernel) ⟨Nat.le_of_ble_eq_true rfl, Nat.le_of_ble_eq_true rfl⟩) (xk_preSr hK hN hP [] rfl) rfl rfl hl.1 rfl (lv_room (Nat.le_of_ble_eq_true rfl)) dX0_sizeWithin_38 ⟨Nat.zero_le _, Nat.zero_le _⟩) ?_
        refine lv_ldc2 hx hb hown (hts (.constantLong RX0 19 (-1)) (by decide +kernel)) dX0_sizeWithin_41 ?_
        refine lv_lxor hx hb dX0_sizeWithin_44 ?_
        refine lv_land hx hb dX0_sizeWithin_45 ?_
        refine lv_topl (fun y ey => ?_)
        obtain rfl : y = lN n2 := ey.trans e2
        refine xk_callR (va_runS (As := [.long (lN n2)]) (rest := [.int (nI ((0 + xp_pc 64 n0) + xp_pc 64 n1))]) ⟨hx, hb, hml, hown, hts⟩ (k_bitCount l D cI cJ cS n2 hn2) (va_cwS 1 hts gX0_sizeWithin_J13_bitCount_95d88 rfl rfl rfl (by decide +kernel) ⟨Nat.le_of_ble_eq_true rfl, Nat.le_of_ble_eq_true rfl⟩) (xk_preSr hK hN hP [] rfl) rfl rfl hl.1 rfl (lv_room (Nat.le_of_ble_eq_true rfl)) dX0_sizeWithin_46 ⟨Nat.zero_le _, Nat.zero_le _⟩) ?_
        refine lv_iadd hx hb dX0_sizeWithin_49 ?_
        refine lv_topi (fun y ey => ?_)
        obtain rfl : y = nI (((0 + xp_pc 64 n0) + xp_pc 64 n1) + xp_pc 64 n2) := ey.trans (nI_add _ _)
        refine lv_istore_n (lv' := [(3, .int (nI (((0 + xp_pc 64 n0) + xp_pc 64 n1) + xp_pc 64 n2))), (5, .int (nI (64 * 2))), (4, .int 2), (0, .ref h), (1, .int (nI a1)), (2, .int (nI b1))]) hx hb dX0_sizeWithin_50 rfl hl (by decide) rfl (fun ls hl => ?_)
        refine lv_iinc (v := 3) (lv' := [(4, .int 3), (3, .int (nI (((0 + xp_pc 64 n0) + xp_pc 64 n1) + xp_pc 64 n2))), (5, .int (nI (64 * 2))), (0, .ref h), (1, .int (nI a1)), (2, .int (nI b1))]) hx hb dX0_sizeWithin_51 hl (k := 2) rfl (by decide) (by decide) rfl (fun ls hl => ?_)
        refine lv_goto (tgt := 5) hx hb dX0_sizeWithin_54 (by decide) ?_
        refine lv_iload hx hb dX0_sizeWithin_5 (lv_at hl 0 rfl) ?_
        refine lv_iconst (v := 4) hx hb dX0_sizeWithin_7 (by decide) ?_
        refine lv_icmp_ge (tgt := 57) hx hb dX0_sizeWithin_8 (by decide) (fun c_8 => ?_) (fun c_8 => ?_)
        · skip
          exact absurd c_8 (by decide)
        · skip
          refine lv_iload hx hb dX0_sizeWithin_11 (lv_at hl 0 rfl) ?_
          refine lv_bipush (v := 64) hx hb dX0_sizeWithin_13 (by decide) ?_
          refine lv_imul hx hb dX0_sizeWithin_15 ?_
          refine lv_topi (fun y ey => ?_)
          obtain rfl : y = nI (64 * 3) := ey.trans (by decide)
          refine lv_istore (lv' := [(5, .int (nI (64 * 3))), (4, .int 3), (3, .int (nI (((0 + xp_pc 64 n0) + xp_pc 64 n1) + xp_pc 64 n2))), (0, .ref h), (1, .int (nI a1)), (2, .int (nI b1))]) hx hb dX0_sizeWithin_16 hl (by decide) rfl (fun ls hl => ?_)
          refine lv_iload_n hx hb dX0_sizeWithin_18 rfl (lv_at hl 2 rfl) ?_
          refine lv_aload_n hx hb dX0_sizeWithin_19 rfl (lv_at hl 3 rfl) ?_
          refine va_get (D := D) (ci := 0) (v := .ref r) (C := RX0) (T := TX0) (N := 1) hx hb hts hiX0 hown hK hP 0 rfl rfl 0 (by decide) (hts (.fieldLink RX0 11 "PointerSweep$CellMap" "rows" "[J") (by decide +kernel)) (fun _ h9 => h9) rfl dX0_sizeWithin_20 ?_
          refine lv_iload hx hb dX0_sizeWithin_23 (lv_at hl 1 rfl) ?_
          refine xa_lald hx hb hK hP 1 1 rfl rfl 3 rfl (by decide) (by decide) dX0_sizeWithin_25 ?_
          refine lv_iload_n hx hb dX0_sizeWithin_26 rfl (lv_at hl 5 rfl) ?_
          refine lv_iload hx hb dX0_sizeWithin_27 (lv_at hl 0 rfl) ?_
          refine lv_isub hx hb dX0_sizeWithin_29 ?_
          refine xk_callR (va_runS (As := [.int (nI b1 - (nI (64 * 3)))]) (rest := [.long ((xs_rows S) 3), .int (nI (((0 + xp_pc 64 n0) + xp_pc 64 n1) + xp_pc 64 n2))]) ⟨hx, hb, hml, hown, hts⟩ (k_bitsBelow l D cI cJ cS (nI b1 - (nI (64 * 3)))) (va_cwS 1 hts gX0_sizeWithin_X0_bitsBelow rfl rfl rfl (by decide +kernel) ⟨Nat.le_of_ble_eq_true rfl, Nat.le_of_ble_eq_true rfl⟩) (xk_preSr hK hN hP [] rfl) rfl rfl hl.1 rfl (lv_room (Nat.le_of_ble_eq_true rfl)) dX0_sizeWithin_30 ⟨Nat.zero_le _, Nat.zero_le _⟩) ?_
          refine lv_land hx hb dX0_sizeWithin_33 ?_
          refine lv_iload_n hx hb dX0_sizeWithin_34 rfl (lv_at hl 4 rfl) ?_
          refine lv_iload hx hb dX0_sizeWithin_35 (lv_at hl 0 rfl) ?_
          refine lv_isub hx hb dX0_sizeWithin_37 ?_
          refine xk_callR (va_runS (As := [.int (nI a1 - (nI (64 * 3)))]) (rest := [.long (((xs_rows S) 3) &&& (xs_bb (nI b1 - (nI (64 * 3))))), .int (nI (((0 + xp_pc 64 n0) + xp_pc 64 n1) + xp_pc 64 n2))]) ⟨hx, hb, hml, hown, hts⟩ (k_bitsBelow l D cI cJ cS (nI a1 - (nI (64 * 3)))) (va_cwS 1 hts gX0_sizeWithin_X0_bitsBelow rfl rfl rfl (by decide +kernel) ⟨Nat.le_of_ble_eq_true rfl, Nat.le_of_ble_eq_true rfl⟩) (xk_preSr hK hN hP [] rfl) rfl rfl hl.1 rfl (lv_room (Nat.le_of_ble_eq_true rfl)) dX0_sizeWithin_38 ⟨Nat.zero_le _, Nat.zero_le _⟩) ?_
          refine lv_ldc2 hx hb hown (hts (.constantLong RX0 19 (-1)) (by decide +kernel)) dX0_sizeWithin_41 ?_
          refine lv_lxor hx hb dX0_sizeWithin_44 ?_
          refine lv_land hx hb dX0_sizeWithin_45 ?_
          refine lv_topl (fun y ey => ?_)
          obtain rfl : y = lN n3 := ey.trans e3
          refine xk_callR (va_runS (As := [.long (lN n3)]) (rest := [.int (nI (((0 + xp_pc 64 n0) + xp_pc 64 n1) + xp_pc 64 n2))]) ⟨hx, hb, hml, hown, hts⟩ (k_bitCount l D cI cJ cS n3 hn3) (va_cwS 1 hts gX0_sizeWithin_J13_bitCount_95d88 rfl rfl rfl (by decide +kernel) ⟨Nat.le_of_ble_eq_true rfl, Nat.le_of_ble_eq_true rfl⟩) (xk_preSr hK hN hP [] rfl) rfl rfl hl.1 rfl (lv_room (Nat.le_of_ble_eq_true rfl)) dX0_sizeWithin_46 ⟨Nat.zero_le _, Nat.zero_le _⟩) ?_
          refine lv_iadd hx hb dX0_sizeWithin_49 ?_
          refine lv_topi (fun y ey => ?_)
          obtain rfl : y = nI ((((0 + xp_pc 64 n0) + xp_pc 64 n1) + xp_pc 64 n2) + xp_pc 64 n3) := ey.trans (nI_add _ _)
          refine lv_istore_n (lv' := [(3, .int (nI ((((0 + xp_pc 64 n0) + xp_pc 64 n1) + xp_pc 64 n2) + xp_pc 64 n3))), (5, .int (nI (64 * 3))), (4, .int 3), (0, .ref h), (1, .int (nI a1)), (2, .int (nI b1))]) hx hb dX0_sizeWithin_50 rfl hl (by decide) rfl (fun ls hl => ?_)
          refine lv_iinc (v := 4) (lv' := [(4, .int 4), (3, .int (nI ((((0 + xp_pc 64 n0) + xp_pc 64 n1) + xp_pc 64 n2) + xp_pc 64 n3))), (5, .int (nI (64 * 3))), (0, .ref h), (1, .int (nI a1)), (2, .int (nI b1))]) hx hb dX0_sizeWithin_51 hl (k := 2) rfl (by decide) (by decide) rfl (fun ls hl => ?_)
          refine lv_goto (tgt := 5) hx hb dX0_sizeWithin_54 (by decide) ?_
          refine lv_iload hx hb dX0_sizeWithin_5 (lv_at hl 0 rfl) ?_
          refine lv_iconst (v := 4) hx hb dX0_sizeWithin_7 (by decide) ?_
          refine lv_icmp_ge (tgt := 57) hx hb dX0_sizeWithin_8 (by decide) (fun c_8 => ?_) (fun c_8 => ?_)
          · skip
            refine lv_iload_n hx hb dX0_sizeWithin_57 rfl (lv_at hl 1 rfl) ?_
            exact xk_iretR hx hb hr hlk (by rw [xs_w4, p0, p1, p2, p3, Nat.zero_add]) dX0_sizeWithin_58
          · skip
            exact absurd (by decide) c_8
set_option maxHeartbeats 4000000 in
set_option maxRecDepth 100000 in
theorem k_size (l : Launch) (D : va_G) (cI cJ cS : ClassId) (h r : Nat) (S : Nat → Bool) : xk_Rd l yX0_size wsX0_size ({ frames := 2, cells := 0, slots := 0, locals := 46 }) D vwCl (xt cI cJ cS) ([(h, .inr (0, [.ref r])), (r, .inl (cJ, 4, .inr (.inl (xs_rows S))))]) [.ref h] (some (.int (nI (xs_w S 0 256)))) := by
  refine xk_rd (cc := cX0_size) (maxL := 1) (ret := (some .int)) (by decide) rfl (Nat.le_of_ble_eq_true rfl) (fun p e s m below meth c ls hx hb hr hlk hml hown hts hl hP hK hN => ?_)
  replace hl : lv_has ls 1 [(0, .ref h)] := hl
  refine lv_aload_n hx hb dX0_size_0 rfl (lv_at hl 0 rfl) ?_
  refine lv_iconst (v := 0) hx hb dX0_size_1 (by decide) ?_
  refine lv_sipush (v := 256) hx hb dX0_size_2 (by decide) ?_
  refine xk_callR (va_runV (As := [.int 0, .int 256]) (rest := []) ⟨hx, hb, hml, hown, hts⟩ (k_sizeWithin l D cI cJ cS h r S 0 256 (by decide) (by decide)) (cwV 2 hts gX0_size_X0_sizeWithin rfl rfl rfl (by decide +kernel) ⟨Nat.le_of_ble_eq_true rfl, Nat.le_of_ble_eq_true rfl⟩) (xk_preVr hK hN hP [0, 1] rfl (ci := 0) rfl 0 rfl) rfl rfl hl.1 rfl (lv_room (Nat.le_of_ble_eq_true rfl)) dX0_size_5 ⟨Nat.zero_le _, Nat.zero_le _⟩) ?_
  exact xk_iretR hx hb hr hlk rfl dX0_size_8
set_option maxHeartbeats 4000000 in
set_option maxRecDepth 100000 in
theorem k_become0 (l : Launch) (D : va_G) (cI cJ cS : ClassId) (h r h2 r2 : Nat) (S U : Nat → Bool) : xk_Wr l yX0_become wsX0_become ({ frames := 1, cells := 0, slots := 0, locals := 60 }) D vwCl (xt cI cJ cS) ([(h, .inr (0, [.ref r])), (r, .inl (cJ, 4, .inr (.inl (xs_rows S)))), (h2, .inr (0, [.ref r2])), (r2, .inl (cJ, 4, .inr (.inl (xs_rows U))))]) [.ref h, .ref h2] ([(h, .inr (0, [.ref r])), (r, .inl (cJ, 4, .inr (.inl (xs_rows U)))), (h2, .inr (0, [.ref r2])), (r2, .inl (cJ, 4, .inr (.inl (xs_rows U))))]) none := by
  refine xk_wr (cc := cX0_become) (maxL := 2) (ret := none) (by decide) rfl (Nat.le_of_ble_eq_true rfl) (fun p e s m below meth c ls hx hb hr hlk hml hown hts hl hP hK hN hD hS => ?_)
  replace hl : lv_has ls 2 [(0, .ref h), (1, .ref h2)] := hl
  have hiX0 : ∀ w ∈ u_ws RX0 TX0 1, w ∈ wsX0_become := by decide +kernel
  refine lv_aload_n hx hb dX0_become_0 rfl (lv_at hl 1 rfl) ?_
  refine va_get (D := D) (ci := 0) (v := .ref r2) (C := RX0) (T := TX0) (N := 1) hx hb hts hiX0 hown hK hP 2 rfl rfl 0 (by decide) (hts (.fieldLink RX0 11 "PointerSweep$CellMap" "rows" "[J") (by decide +kernel)) (fun _ h9 => h9) rfl dX0_become_1 ?_
  refine lv_iconst (v := 0) hx hb dX0_become_4 (by decide) ?_
  refine lv_aload_n hx hb dX0_become_5 rfl (lv_at hl 0 rfl) ?_
  refine va_get (D := D) (ci := 0) (v := .ref r) (C := RX0) (T := TX0) (N := 1) hx hb hts hiX0 hown hK hP 0 rfl rfl 0 (by decide) (hts (.fieldLink RX0 11 "PointerSweep$CellMap" "rows" "[J") (by decide +kernel)) (fun _ h9 => h9) rfl dX0_become_6 ?_
  refine lv_iconst (v := 0) hx hb dX0_become_9 (by decide) ?_
  refine lv_iconst (v := 4) hx hb dX0_become_10 (by decide) ?_
  refine va_copyl hx hb (hml.trans hl.1.symm) hown (hts (.methodLink RX0 21 arraycopyName) (by decide +kernel)) (hts (.native arraycopyName) (by decide +kernel)) (hts (.static arraycopyName) (by decide +kernel)) (hts (.initialized "java/lang/System") (by decide +kernel)) hK hP hD hS 3 1 1 1 rfl rfl rfl rfl rfl (by decide) (by decide) (by decide) (by decide) (by decide) (fun _ _ => rfl) (Nat.le_of_ble_eq_true rfl) (Nat.le_of_ble_eq_true rfl) dX0_become_11 (fun H locs hP hD hS => ?_)
  replace hP : va_P D vwCl ([(h, .inr (0, [.ref r])), (r, .inl (cJ, 4, .inr (.inl (xs_rows U)))), (h2, .inr (0, [.ref r2])), (r2, .inl (cJ, 4, .inr (.inl (xs_rows U))))]) H := xk_Pset (e := .inl (cJ, 4, .inr (.inl (xs_rows U)))) hP 1 rfl (xk_atL (x_cpy (by decide)))
  replace hD : va_D _ ([(h, .inr (0, [.ref r])), (r, .inl (cJ, 4, .inr (.inl (xs_rows U)))), (h2, .inr (0, [.ref r2])), (r2, .inl (cJ, 4, .inr (.inl (xs_rows U))))]) := xk_Df hD rfl
  exact xk_vretW hx hb hr hlk hP hS rfl dX0_become_14
set_option maxHeartbeats 4000000 in
set_option maxRecDepth 100000 in
theorem k_dropAllOf (l : Launch) (D : va_G) (cI cJ cS : ClassId) (h r h2 r2 : Nat) (S U : Nat → Bool) : xk_Wr l yX0_dropAllOf wsX0_dropAllOf ({ frames := 0, cells := 0, slots := 0, locals := 0 }) D vwCl (xt cI cJ cS) ([(h, .inr (0, [.ref r])), (r, .inl (cJ, 4, .inr (.inl (xs_rows S)))), (h2, .inr (0, [.ref r2])), (r2, .inl (cJ, 4, .inr (.inl (xs_rows U))))]) [.ref h, .ref h2] ([(h, .inr (0, [.ref r])), (r, .inl (cJ, 4, .inr (.inl (xs_rows (fun i => S i && !U i))))), (h2, .inr (0, [.ref r2])), (r2, .inl (cJ, 4, .inr (.inl (xs_rows U))))]) none := by
  refine xk_wr (cc := cX0_dropAllOf) (maxL := 3) (ret := none) (by decide) rfl (Nat.le_of_ble_eq_true rfl) (fun p e s m below meth c ls hx hb hr hlk hml hown hts hl hP hK hN hD hS => ?_)
  replace hl : lv_has ls 3 [(0, .ref h), (1, .ref h2)] := hl
  have hiX0 : ∀ w ∈ u_ws RX0 TX0 1, w ∈ wsX0_dropAllOf := by decide +kernel
  have hP : va_P D vwCl ([(h, .inr (0, [.ref r])), (r, .inl (cJ, 4, .inr (.inl (xs_mix S (fun i => S i && !U i) 0)))), (h2, .inr (0, [.ref r2])), (r2, .inl (cJ, 4, .inr (.inl (xs_rows U))))]) s.heap := by rw [xs_mix_0]; exact hP
  have hD : va_D _ ([(h, .inr (0, [.ref r])), (r, .inl (cJ, 4, .inr (.inl (xs_mix S (fun i => S i && !U i) 0)))), (h2, .inr (0, [.ref r2])), (r2, .inl (cJ, 4, .inr (.inl (xs_rows U))))]) := xk_Df hD rfl
  refine lv_iconst (v := 0) hx hb dX0_dropAllOf_0 (by decide) ?_
  refine lv_istore_n (lv' := [(2, .int 0), (0, .ref h), (1, .ref h2)]) hx hb dX0_dropAllOf_1 rfl hl (by decide) rfl (fun ls hl => ?_)
  refine lv_iload_n hx hb dX0_dropAllOf_2 rfl (lv_at hl 0 rfl) ?_
  refine lv_iconst (v := 4) hx hb dX0_dropAllOf_3 (by decide) ?_
  refine lv_icmp_ge (tgt := 32) hx hb dX0_dropAllOf_4 (by decide) (fun c_4 => ?_) (fun c_4 => ?_)
  · skip
    exact absurd c_4 (by decide)
  · skip
    refine lv_aload_n hx hb dX0_dropAllOf_7 rfl (lv_at hl 1 rfl) ?_
    refine va_get (D := D) (ci := 0) (v := .ref r) (C := RX0) (T := TX0) (N := 1) hx hb hts hiX0 hown hK hP 0 rfl rfl 0 (by decide) (hts (.fieldLink RX0 11 "PointerSweep$CellMap" "rows" "[J") (by decide +kernel)) (fun _ h9 => h9) rfl dX0_dropAllOf_8 ?_
    refine lv_iload_n hx hb dX0_dropAllOf_11 rfl (lv_at hl 0 rfl) ?_
    refine lv_dup2_11 hx hb dX0_dropAllOf_12 rfl rfl ?_
    refine xa_lald hx hb hK hP 1 1 rfl rfl 0 rfl (by decide) (by decide) dX0_dropAllOf_13 ?_
    refine lv_aload_n hx hb dX0_dropAllOf_14 rfl (lv_at hl 2 rfl) ?_
    refine va_get (D := D) (ci := 0) (v := .ref r2) (C := RX0) (T := TX0) (N := 1) hx hb hts hiX0 hown hK hP 2 rfl rfl 0 (by decide) (hts (.fieldLink RX0 11 "PointerSweep$CellMap" "rows" "[J") (by decide +kernel)) (fun _ h9 => h9) rfl dX0_dropAllOf_15 ?_
    refine lv_iload_n hx hb dX0_dropAllOf_18 rfl (lv_at hl 0 rfl) ?_
    refine xa_lald hx hb hK hP 3 1 rfl rfl 0 rfl (by decide) (by decide) dX0_dropAllOf_19 ?_
    refine lv_ldc2 hx hb hown (hts (.constantLong RX0 19 (-1)) (by decide +kernel)) dX0_dropAllOf_20 ?_
    refine lv_lxor hx hb dX0_dropAllOf_23 ?_
    refine lv_land hx hb dX0_dropAllOf_24 ?_
    refine lv_topl (fun y ey => ?_)
    obtain rfl : y = xs_rows (fun i => S i && !U i) 0 := ey.trans (xs_mix_and S U _)
    refine xa_last (ws' := [(h, .inr (0, [.ref r])), (r, .inl (cJ, 4, .inr (.inl (vp_updL (xs_mix S (fun i => S i && !U i) 0) 0 (xs_rows (fun i => S i && !U i) 0))))), (h2, .inr (0, [.ref r2])), (r2, .inl (cJ, 4, .inr (.inl (xs_rows U))))]) hx hb hK hP hD hS 1 1 rfl rfl 0 rfl (by decide) (by decide) dX0_dropAllOf_25 rfl (fun H locs hP hD hS => ?_)
    rw [xs_mix_s] at hP hD
    refine lv_iinc (v := 1) (lv' := [(2, .int 1), (0, .ref h), (1, .ref h2)]) hx hb dX0_dropAllOf_26 hl (k := 0) rfl (by decide) (by decide) rfl (fun ls hl => ?_)
    refine lv_goto (tgt := 2) hx hb dX0_dropAllOf_29 (by decide) ?_
    refine lv_iload_n hx hb dX0_dropAllOf_2 rfl (lv_at hl 0 rfl) ?_
    refine lv_iconst (v := 4) hx hb dX0_dropAllOf_3 (by decide) ?_
    refine lv_icmp_ge (tgt := 32) hx hb dX0_dropAllOf_4 (by decide) (fun c_4 => ?_) (fun c_4 => ?_)
    · skip
      exact absurd c_4 (by decide)
    · skip
      refine lv_aload_n hx hb dX0_dropAllOf_7 rfl (lv_at hl 1 rfl) ?_
      refine va_get (D := D) (ci := 0) (v := .ref r) (C := RX0) (T := TX0) (N := 1) hx hb hts hiX0 hown hK hP 0 rfl rfl 0 (by decide) (hts (.fieldLink RX0 11 "PointerSweep$CellMap" "rows" "[J") (by decide +kernel)) (fun _ h9 => h9) rfl dX0_dropAllOf_8 ?_
      refine lv_iload_n hx hb dX0_dropAllOf_11 rfl (lv_at hl 0 rfl) ?_
      refine lv_dup2_11 hx hb dX0_dropAllOf_12 rfl rfl ?_
      refine xa_lald hx hb hK hP 1 1 rfl rfl 1 rfl (by decide) (by decide) dX0_dropAllOf_13 ?_
      refine lv_aload_n hx hb dX0_dropAllOf_14 rfl (lv_at hl 2 rfl) ?_
      refine va_get (D := D) (ci := 0) (v := .ref r2) (C := RX0) (T := TX0) (N := 1) hx hb hts hiX0 hown hK hP 2 rfl rfl 0 (by decide) (hts (.fieldLink RX0 11 "PointerSweep$CellMap" "rows" "[J") (by decide +kernel)) (fun _ h9 => h9) rfl dX0_dropAllOf_15 ?_
      refine lv_iload_n hx hb dX0_dropAllOf_18 rfl (lv_at hl 0 rfl) ?_
      refine xa_lald hx hb hK hP 3 1 rfl rfl 1 rfl (by decide) (by decide) dX0_dropAllOf_19 ?_
      refine lv_ldc2 hx hb hown (hts (.constantLong RX0 19 (-1)) (by decide +kernel)) dX0_dropAllOf_20 ?_
      refine lv_lxor hx hb dX0_dropAllOf_23 ?_
      refine lv_land hx hb dX0_dropAllOf_24 ?_
      refine lv_topl (fun y ey => ?_)
      obtain rfl : y = xs_rows (fun i => S i && !U i) 1 := ey.trans (xs_mix_and S U _)
      refine xa_last (ws' := [(h, .inr (0, [.ref r])), (r, .inl (cJ, 4, .inr (.inl (vp_updL (xs_mix S (fun i => S i && !U i) 1) 1 (xs_rows (fun i => S i && !U i) 1))))), (h2, .inr (0, [.ref r2])), (r2, .inl (cJ, 4, .inr (.inl (xs_rows U))))]) hx hb hK hP hD hS 1 1 rfl rfl 1 rfl (by decide) (by decide) dX0_dropAllOf_25 rfl (fun H locs hP hD hS => ?_)
      rw [xs_mix_s] at hP hD
      refine lv_iinc (v := 2) (lv' := [(2, .int 2), (0, .ref h), (1, .ref h2)]) hx hb dX0_dropAllOf_26 hl (k := 0) rfl (by decide) (by decide) rfl (fun ls hl => ?_)
      refine lv_goto (tgt := 2) hx hb dX0_dropAllOf_29 (by decide) ?_
      refine lv_iload_n hx hb dX0_dropAllOf_2 rfl (lv_at hl 0 rfl) ?_
      refine lv_iconst (v := 4) hx hb dX0_dropAllOf_3 (by decide) ?_
      refine lv_icmp_ge (tgt := 32) hx hb dX0_dropAllOf_4 (by decide) (fun c_4 => ?_) (fun c_4 => ?_)
      · skip
        exact absurd c_4 (by decide)
      · skip
        refine lv_aload_n hx hb dX0_dropAllOf_7 rfl (lv_at hl 1 rfl) ?_
        refine va_get (D := D) (ci := 0) (v := .ref r) (C := RX0) (T := TX0) (N := 1) hx hb hts hiX0 hown hK hP 0 rfl rfl 0 (by decide) (hts (.fieldLink RX0 11 "PointerSweep$CellMap" "rows" "[J") (by decide +kernel)) (fun _ h9 => h9) rfl dX0_dropAllOf_8 ?_
        refine lv_iload_n hx hb dX0_dropAllOf_11 rfl (lv_at hl 0 rfl) ?_
        refine lv_dup2_11 hx hb dX0_dropAllOf_12 rfl rfl ?_
        refine xa_lald hx hb hK hP 1 1 rfl rfl 2 rfl (by decide) (by decide) dX0_dropAllOf_13 ?_
        refine lv_aload_n hx hb dX0_dropAllOf_14 rfl (lv_at hl 2 rfl) ?_
        refine va_get (D := D) (ci := 0) (v := .ref r2) (C := RX0) (T := TX0) (N := 1) hx hb hts hiX0 hown hK hP 2 rfl rfl 0 (by decide) (hts (.fieldLink RX0 11 "PointerSweep$CellMap" "rows" "[J") (by decide +kernel)) (fun _ h9 => h9) rfl dX0_dropAllOf_15 ?_
        refine lv_iload_n hx hb dX0_dropAllOf_18 rfl (lv_at hl 0 rfl) ?_
        refine xa_lald hx hb hK hP 3 1 rfl rfl 2 rfl (by decide) (by decide) dX0_dropAllOf_19 ?_
        refine lv_ldc2 hx hb hown (hts (.constantLong RX0 19 (-1)) (by decide +kernel)) dX0_dropAllOf_20 ?_
        refine lv_lxor hx hb dX0_dropAllOf_23 ?_
        refine lv_land hx hb dX0_dropAllOf_24 ?_
        refine lv_topl (fun y ey => ?_)
        obtain rfl : y = xs_rows (fun i => S i && !U i) 2 := ey.trans (xs_mix_and S U _)
        refine xa_last (ws' := [(h, .inr (0, [.ref r])), (r, .inl (cJ, 4, .inr (.inl (vp_updL (xs_mix S (fun i => S i && !U i) 2) 2 (xs_rows (fun i => S i && !U i) 2))))), (h2, .inr (0, [.ref r2])), (r2, .inl (cJ, 4, .inr (.inl (xs_rows U))))]) hx hb hK hP hD hS 1 1 rfl rfl 2 rfl (by decide) (by decide) dX0_dropAllOf_25 rfl (fun H locs hP hD hS => ?_)
        rw [xs_mix_s] at hP hD
        refine lv_iinc (v := 3) (lv' := [(2, .int 3), (0, .ref h), (1, .ref h2)]) hx hb dX0_dropAllOf_26 hl (k := 0) rfl (by decide) (by decide) rfl (fun ls hl => ?_)
        refine lv_goto (tgt := 2) hx hb dX0_dropAllOf_29 (by decide) ?_
        refine lv_iload_n hx hb dX0_dropAllOf_2 rfl (lv_at hl 0 rfl) ?_
        refine lv_iconst (v := 4) hx hb dX0_dropAllOf_3 (by decide) ?_
        refine lv_icmp_ge (tgt := 32) hx hb dX0_dropAllOf_4 (by decide) (fun c_4 => ?_) (fun c_4 => ?_)
        · skip
          exact absurd c_4 (by decide)
        · skip
          refine lv_aload_n hx hb dX0_dropAllOf_7 rfl (lv_at hl 1 rfl) ?_
          refine va_get (D := D) (ci := 0) (v := .ref r) (C := RX0) (T := TX0) (N := 1) hx hb hts hiX0 hown hK hP 0 rfl rfl 0 (by decide) (hts (.fieldLink RX0 11 "PointerSweep$CellMap" "rows" "[J") (by decide +kernel)) (fun _ h9 => h9) rfl dX0_dropAllOf_8 ?_
          refine lv_iload_n hx hb dX0_dropAllOf_11 rfl (lv_at hl 0 rfl) ?_
          refine lv_dup2_11 hx hb dX0_dropAllOf_12 rfl rfl ?_
          refine xa_lald hx hb hK hP 1 1 rfl rfl 3 rfl (by decide) (by decide) dX0_dropAllOf_13 ?_
          refine lv_aload_n hx hb dX0_dropAllOf_14 rfl (lv_at hl 2 rfl) ?_
          refine va_get (D := D) (ci := 0) (v := .ref r2) (C := RX0) (T := TX0) (N := 1) hx hb hts hiX0 hown hK hP 2 rfl rfl 0 (by decide) (hts (.fieldLink RX0 11 "PointerSweep$CellMap" "rows" "[J") (by decide +kernel)) (fun _ h9 => h9) rfl dX0_dropAllOf_15 ?_
          refine lv_iload_n hx hb dX0_dropAllOf_18 rfl (lv_at hl 0 rfl) ?_
          refine xa_lald hx hb hK hP 3 1 rfl rfl 3 rfl (by decide) (by decide) dX0_dropAllOf_19 ?_
          refine lv_ldc2 hx hb hown (hts (.constantLong RX0 19 (-1)) (by decide +kernel)) dX0_dropAllOf_20 ?_
          refine lv_lxor hx hb dX0_dropAllOf_23 ?_
          refine lv_land hx hb dX0_dropAllOf_24 ?_
          refine lv_topl (fun y ey => ?_)
          obtain rfl : y = xs_rows (fun i => S i && !U i) 3 := ey.trans (xs_mix_and S U _)
          refine xa_last (ws' := [(h, .inr (0, [.ref r])), (r, .inl (cJ, 4, .inr (.inl (vp_updL (xs_mix S (fun i => S i && !U i) 3) 3 (xs_rows (fun i => S i && !U i) 3))))), (h2, .inr (0, [.ref r2])), (r2, .inl (cJ, 4, .inr (.inl (xs_rows U))))]) hx hb hK hP hD hS 1 1 rfl rfl 3 rfl (by decide) (by decide) dX0_dropAllOf_25 rfl (fun H locs hP hD hS => ?_)
          rw [xs_mix_s] at hP hD
          refine lv_iinc (v := 4) (lv' := [(2, .int 4), (0, .ref h), (1, .ref h2)]) hx hb dX0_dropAllOf_26 hl (k := 0) rfl (by decide) (by decide) rfl (fun ls hl => ?_)
          refine lv_goto (tgt := 2) hx hb dX0_dropAllOf_29 (by decide) ?_
          refine lv_iload_n hx hb dX0_dropAllOf_2 rfl (lv_at hl 0 rfl) ?_
          refine lv_iconst (v := 4) hx hb dX0_dropAllOf_3 (by decide) ?_
          refine lv_icmp_ge (tgt := 32) hx hb dX0_dropAllOf_4 (by decide) (fun c_4 => ?_) (fun c_4 => ?_)
          · skip
            replace hP : va_P D vwCl ([(h, .inr (0, [.ref r])), (r, .inl (cJ, 4, .inr (.inl (xs_rows (fun i => S i && !U i))))), (h2, .inr (0, [.ref r2])), (r2, .inl (cJ, 4, .inr (.inl (xs_rows U))))]) H := xk_Pset (e := .inl (cJ, 4, .inr (.inl (xs_rows (fun i => S i && !U i))))) hP 1 rfl (xk_atL (xs_mix_4 S _))
            replace hD : va_D _ ([(h, .inr (0, [.ref r])), (r, .inl (cJ, 4, .inr (.inl (xs_rows (fun i => S i && !U i))))), (h2, .inr (0, [.ref r2])), (r2, .inl (cJ, 4, .inr (.inl (xs_rows U))))]) := xk_Df hD rfl
            exact xk_vretW hx hb hr hlk hP hS rfl dX0_dropAllOf_32
          · skip
            exact absurd (by decide) c_4
set_option maxHeartbeats 4000000 in
set_option maxRecDepth 100000 in
theorem k_dropAllSelf (l : Launch) (D : va_G) (cI cJ cS : ClassId) (h r : Nat) (S : Nat → Bool) : xk_Wr l yX0_dropAllOf wsX0_dropAllOf ({ frames := 0, cells := 0, slots := 0, locals := 0 }) D vwCl (xt cI cJ cS) ([(h, .inr (0, [.ref r])), (r, .inl (cJ, 4, .inr (.inl (xs_rows S))))]) [.ref h, .ref h] ([(h, .inr (0, [.ref r])), (r, .inl (cJ, 4, .inr (.inl (xs_rows (fun i => S i && !S i)))))]) none := by
  refine xk_wr (cc := cX0_dropAllOf) (maxL := 3) (ret := none) (by decide) rfl (Nat.le_of_ble_eq_true rfl) (fun p e s m below meth c ls hx hb hr hlk hml hown hts hl hP hK hN hD hS => ?_)
  replace hl : lv_has ls 3 [(0, .ref h), (1, .ref h)] := hl
  have hiX0 : ∀ w ∈ u_ws RX0 TX0 1, w ∈ wsX0_dropAllOf := by decide +kernel
  have hP : va_P D vwCl ([(h, .inr (0, [.ref r])), (r, .inl (cJ, 4, .inr (.inl (xs_mix S (fun i => S i && !S i) 0))))]) s.heap := by rw [xs_mix_0]; exact hP
  have hD : va_D _ ([(h, .inr (0, [.ref r])), (r, .inl (cJ, 4, .inr (.inl (xs_mix S (fun i => S i && !S i) 0))))]) := xk_Df hD rfl
  refine lv_iconst (v := 0) hx hb dX0_dropAllOf_0 (by decide) ?_
  refine lv_istore_n (lv' := [(2, .int 0), (0, .ref h), (1, .ref h)]) hx hb dX0_dropAllOf_1 rfl hl (by decide) rfl (fun ls hl => ?_)
  refine lv_iload_n hx hb dX0_dropAllOf_2 rfl (lv_at hl 0 rfl) ?_
  refine lv_iconst (v := 4) hx hb dX0_dropAllOf_3 (by decide) ?_
  refine lv_icmp_ge (tgt := 32) hx hb dX0_dropAllOf_4 (by decide) (fun c_4 => ?_) (fun c_4 => ?_)
  · skip
    exact absurd c_4 (by decide)
  · skip
    refine lv_aload_n hx hb dX0_dropAllOf_7 rfl (lv_at hl 1 rfl) ?_
    refine va_get (D := D) (ci := 0) (v := .ref r) (C := RX0) (T := TX0) (N := 1) hx hb hts hiX0 hown hK hP 0 rfl rfl 0 (by decide) (hts (.fieldLink RX0 11 "PointerSweep$CellMap" "rows" "[J") (by decide +kernel)) (fun _ h9 => h9) rfl dX0_dropAllOf_8 ?_
    refine lv_iload_n hx hb dX0_dropAllOf_11 rfl (lv_at hl 0 rfl) ?_
    refine lv_dup2_11 hx hb dX0_dropAllOf_12 rfl rfl ?_
    refine xa_lald hx hb hK hP 1 1 rfl rfl 0 rfl (by decide) (by decide) dX0_dropAllOf_13 ?_
    refine lv_aload_n hx hb dX0_dropAllOf_14 rfl (lv_at hl 2 rfl) ?_
    refine va_get (D := D) (ci := 0) (v := .ref r) (C := RX0) (T := TX0) (N := 1) hx hb hts hiX0 hown hK hP 0 rfl rfl 0 (by decide) (hts (.fieldLink RX0 11 "PointerSweep$CellMap" "rows" "[J") (by decide +kernel)) (fun _ h9 => h9) rfl dX0_dropAllOf_15 ?_
    refine lv_iload_n hx hb dX0_dropAllOf_18 rfl (lv_at hl 0 rfl) ?_
    refine xa_lald hx hb hK hP 1 1 rfl rfl 0 rfl (by decide) (by decide) dX0_dropAllOf_19 ?_
    refine lv_ldc2 hx hb hown (hts (.constantLong RX0 19 (-1)) (by decide +kernel)) dX0_dropAllOf_20 ?_
    refine lv_lxor hx hb dX0_dropAllOf_23 ?_
    refine lv_land hx hb dX0_dropAllOf_24 ?_
    refine lv_topl (fun y ey => ?_)
    obtain rfl : y = xs_rows (fun i => S i && !S i) 0 := ey.trans (xs_mix_and2 S _)
    refine xa_last (ws' := [(h, .inr (0, [.ref r])), (r, .inl (cJ, 4, .inr (.inl (vp_updL (xs_mix S (fun i => S i && !S i) 0) 0 (xs_rows (fun i => S i && !S i) 0)))))]) hx hb hK hP hD hS 1 1 rfl rfl 0 rfl (by decide) (by decide) dX0_dropAllOf_25 rfl (fun H locs hP hD hS => ?_)
    rw [xs_mix_s] at hP hD
    refine lv_iinc (v := 1) (lv' := [(2, .int 1), (0, .ref h), (1, .ref h)]) hx hb dX0_dropAllOf_26 hl (k := 0) rfl (by decide) (by decide) rfl (fun ls hl => ?_)
    refine lv_goto (tgt := 2) hx hb dX0_dropAllOf_29 (by decide) ?_
    refine lv_iload_n hx hb dX0_dropAllOf_2 rfl (lv_at hl 0 rfl) ?_
    refine lv_iconst (v := 4) hx hb dX0_dropAllOf_3 (by decide) ?_
    refine lv_icmp_ge (tgt := 32) hx hb dX0_dropAllOf_4 (by decide) (fun c_4 => ?_) (fun c_4 => ?_)
    · skip
      exact absurd c_4 (by decide)
    · skip
      refine lv_aload_n hx hb dX0_dropAllOf_7 rfl (lv_at hl 1 rfl) ?_
      refine va_get (D := D) (ci := 0) (v := .ref r) (C := RX0) (T := TX0) (N := 1) hx hb hts hiX0 hown hK hP 0 rfl rfl 0 (by decide) (hts (.fieldLink RX0 11 "PointerSweep$CellMap" "rows" "[J") (by decide +kernel)) (fun _ h9 => h9) rfl dX0_dropAllOf_8 ?_
      refine lv_iload_n hx hb dX0_dropAllOf_11 rfl (lv_at hl 0 rfl) ?_
      refine lv_dup2_11 hx hb dX0_dropAllOf_12 rfl rfl ?_
      refine xa_lald hx hb hK hP 1 1 rfl rfl 1 rfl (by decide) (by decide) dX0_dropAllOf_13 ?_
      refine lv_aload_n hx hb dX0_dropAllOf_14 rfl (lv_at hl 2 rfl) ?_
      refine va_get (D := D) (ci := 0) (v := .ref r) (C := RX0) (T := TX0) (N := 1) hx hb hts hiX0 hown hK hP 0 rfl rfl 0 (by decide) (hts (.fieldLink RX0 11 "PointerSweep$CellMap" "rows" "[J") (by decide +kernel)) (fun _ h9 => h9) rfl dX0_dropAllOf_15 ?_
      refine lv_iload_n hx hb dX0_dropAllOf_18 rfl (lv_at hl 0 rfl) ?_
      refine xa_lald hx hb hK hP 1 1 rfl rfl 1 rfl (by decide) (by decide) dX0_dropAllOf_19 ?_
      refine lv_ldc2 hx hb hown (hts (.constantLong RX0 19 (-1)) (by decide +kernel)) dX0_dropAllOf_20 ?_
      refine lv_lxor hx hb dX0_dropAllOf_23 ?_
      refine lv_land hx hb dX0_dropAllOf_24 ?_
      refine lv_topl (fun y ey => ?_)
      obtain rfl : y = xs_rows (fun i => S i && !S i) 1 := ey.trans (xs_mix_and2 S _)
      refine xa_last (ws' := [(h, .inr (0, [.ref r])), (r, .inl (cJ, 4, .inr (.inl (vp_updL (xs_mix S (fun i => S i && !S i) 1) 1 (xs_rows (fun i => S i && !S i) 1)))))]) hx hb hK hP hD hS 1 1 rfl rfl 1 rfl (by decide) (by decide) dX0_dropAllOf_25 rfl (fun H locs hP hD hS => ?_)
      rw [xs_mix_s] at hP hD
      refine lv_iinc (v := 2) (lv' := [(2, .int 2), (0, .ref h), (1, .ref h)]) hx hb dX0_dropAllOf_26 hl (k := 0) rfl (by decide) (by decide) rfl (fun ls hl => ?_)
      refine lv_goto (tgt := 2) hx hb dX0_dropAllOf_29 (by decide) ?_
      refine lv_iload_n hx hb dX0_dropAllOf_2 rfl (lv_at hl 0 rfl) ?_
      refine lv_iconst (v := 4) hx hb dX0_dropAllOf_3 (by decide) ?_
      refine lv_icmp_ge (tgt := 32) hx hb dX0_dropAllOf_4 (by decide) (fun c_4 => ?_) (fun c_4 => ?_)
      · skip
        exact absurd c_4 (by decide)
      · skip
        refine lv_aload_n hx hb dX0_dropAllOf_7 rfl (lv_at hl 1 rfl) ?_
        refine va_get (D := D) (ci := 0) (v := .ref r) (C := RX0) (T := TX0) (N := 1) hx hb hts hiX0 hown hK hP 0 rfl rfl 0 (by decide) (hts (.fieldLink RX0 11 "PointerSweep$CellMap" "rows" "[J") (by decide +kernel)) (fun _ h9 => h9) rfl dX0_dropAllOf_8 ?_
        refine lv_iload_n hx hb dX0_dropAllOf_11 rfl (lv_at hl 0 rfl) ?_
        refine lv_dup2_11 hx hb dX0_dropAllOf_12 rfl rfl ?_
        refine xa_lald hx hb hK hP 1 1 rfl rfl 2 rfl (by decide) (by decide) dX0_dropAllOf_13 ?_
        refine lv_aload_n hx hb dX0_dropAllOf_14 rfl (lv_at hl 2 rfl) ?_
        refine va_get (D := D) (ci := 0) (v := .ref r) (C := RX0) (T := TX0) (N := 1) hx hb hts hiX0 hown hK hP 0 rfl rfl 0 (by decide) (hts (.fieldLink RX0 11 "PointerSweep$CellMap" "rows" "[J") (by decide +kernel)) (fun _ h9 => h9) rfl dX0_dropAllOf_15 ?_
        refine lv_iload_n hx hb dX0_dropAllOf_18 rfl (lv_at hl 0 rfl) ?_
        refine xa_lald hx hb hK hP 1 1 rfl rfl 2 rfl (by decide) (by decide) dX0_dropAllOf_19 ?_
        refine lv_ldc2 hx hb hown (hts (.constantLong RX0 19 (-1)) (by decide +kernel)) dX0_dropAllOf_20 ?_
        refine lv_lxor hx hb dX0_dropAllOf_23 ?_
        refine lv_land hx hb dX0_dropAllOf_24 ?_
        refine lv_topl (fun y ey => ?_)
        obtain rfl : y = xs_rows (fun i => S i && !S i) 2 := ey.trans (xs_mix_and2 S _)
        refine xa_last (ws' := [(h, .inr (0, [.ref r])), (r, .inl (cJ, 4, .inr (.inl (vp_updL (xs_mix S (fun i => S i && !S i) 2) 2 (xs_rows (fun i => S i && !S i) 2)))))]) hx hb hK hP hD hS 1 1 rfl rfl 2 rfl (by decide) (by decide) dX0_dropAllOf_25 rfl (fun H locs hP hD hS => ?_)
        rw [xs_mix_s] at hP hD
        refine lv_iinc (v := 3) (lv' := [(2, .int 3), (0, .ref h), (1, .ref h)]) hx hb dX0_dropAllOf_26 hl (k := 0) rfl (by decide) (by decide) rfl (fun ls hl => ?_)
        refine lv_goto (tgt := 2) hx hb dX0_dropAllOf_29 (by decide) ?_
        refine lv_iload_n hx hb dX0_dropAllOf_2 rfl (lv_at hl 0 rfl) ?_
        refine lv_iconst (v := 4) hx hb dX0_dropAllOf_3 (by decide) ?_
        refine lv_icmp_ge (tgt := 32) hx hb dX0_dropAllOf_4 (by decide) (fun c_4 => ?_) (fun c_4 => ?_)
        · skip
          exact absurd c_4 (by decide)
        · skip
          refine lv_aload_n hx hb dX0_dropAllOf_7 rfl (lv_at hl 1 rfl) ?_
          refine va_get (D := D) (ci := 0) (v := .ref r) (C := RX0) (T := TX0) (N := 1) hx hb hts hiX0 hown hK hP 0 rfl rfl 0 (by decide) (hts (.fieldLink RX0 11 "PointerSweep$CellMap" "rows" "[J") (by decide +kernel)) (fun _ h9 => h9) rfl dX0_dropAllOf_8 ?_
          refine lv_iload_n hx hb dX0_dropAllOf_11 rfl (lv_at hl 0 rfl) ?_
          refine lv_dup2_11 hx hb dX0_dropAllOf_12 rfl rfl ?_
          refine xa_lald hx hb hK hP 1 1 rfl rfl 3 rfl (by decide) (by decide) dX0_dropAllOf_13 ?_
          refine lv_aload_n hx hb dX0_dropAllOf_14 rfl (lv_at hl 2 rfl) ?_
          refine va_get (D := D) (ci := 0) (v := .ref r) (C := RX0) (T := TX0) (N := 1) hx hb hts hiX0 hown hK hP 0 rfl rfl 0 (by decide) (hts (.fieldLink RX0 11 "PointerSweep$CellMap" "rows" "[J") (by decide +kernel)) (fun _ h9 => h9) rfl dX0_dropAllOf_15 ?_
          refine lv_iload_n hx hb dX0_dropAllOf_18 rfl (lv_at hl 0 rfl) ?_
          refine xa_lald hx hb hK hP 1 1 rfl rfl 3 rfl (by decide) (by decide) dX0_dropAllOf_19 ?_
          refine lv_ldc2 hx hb hown (hts (.constantLong RX0 19 (-1)) (by decide +kernel)) dX0_dropAllOf_20 ?_
          refine lv_lxor hx hb dX0_dropAllOf_23 ?_
          refine lv_land hx hb dX0_dropAllOf_24 ?_
          refine lv_topl (fun y ey => ?_)
          obtain rfl : y = xs_rows (fun i => S i && !S i) 3 := ey.trans (xs_mix_and2 S _)
          refine xa_last (ws' := [(h, .inr (0, [.ref r])), (r, .inl (cJ, 4, .inr (.inl (vp_updL (xs_mix S (fun i => S i && !S i) 3) 3 (xs_rows (fun i => S i && !S i) 3)))))]) hx hb hK hP hD hS 1 1 rfl rfl 3 rfl (by decide) (by decide) dX0_dropAllOf_25 rfl (fun H locs hP hD hS => ?_)
          rw [xs_mix_s] at hP hD
          refine lv_iinc (v := 4) (lv' := [(2, .int 4), (0, .ref h), (1, .ref h)]) hx hb dX0_dropAllOf_26 hl (k := 0) rfl (by decide) (by decide) rfl (fun ls hl => ?_)
          refine lv_goto (tgt := 2) hx hb dX0_dropAllOf_29 (by decide) ?_
          refine lv_iload_n hx hb dX0_dropAllOf_2 rfl (lv_at hl 0 rfl) ?_
          refine lv_iconst (v := 4) hx hb dX0_dropAllOf_3 (by decide) ?_
          refine lv_icmp_ge (tgt := 32) hx hb dX0_dropAllOf_4 (by decide) (fun c_4 => ?_) (fun c_4 => ?_)
          · skip
            replace hP : va_P D vwCl ([(h, .inr (0, [.ref r])), (r, .inl (cJ, 4, .inr (.inl (xs_rows (fun i => S i && !S i)))))]) H := xk_Pset (e := .inl (cJ, 4, .inr (.inl (xs_rows (fun i => S i && !S i))))) hP 1 rfl (xk_atL (xs_mix_4 S _))
            replace hD : va_D _ ([(h, .inr (0, [.ref r])), (r, .inl (cJ, 4, .inr (.inl (xs_rows (fun i => S i && !S i)))))]) := xk_Df hD rfl
            exact xk_vretW hx hb hr hlk hP hS rfl dX0_dropAllOf_32
          · skip
            exact absurd (by decide) c_4
