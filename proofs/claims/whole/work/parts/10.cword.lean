set_option maxHeartbeats 4000000 in
set_option maxRecDepth 100000 in
theorem k_ofNumber (l : Launch) (D : va_G) (cI cJ cS : ClassId) (v : Int32) : xk_Rd l yX3_ofNumber wsX3_ofNumber ({ frames := 0, cells := 0, slots := 0, locals := 0 }) D vwCl (xt cI cJ cS) ([]) [.int v] (some (.long (xw_enc (v, none)))) := by
  refine xk_rd (cc := cX3_ofNumber) (maxL := 1) (ret := (some .long)) (by decide) rfl (Nat.le_of_ble_eq_true rfl) (fun p e s m below meth c ls hx hb hr hlk hml hown hts hl hP hK hN => ?_)
  replace hl : lv_has ls 1 [(0, .int v)] := hl
  refine lv_iload_n hx hb dX3_ofNumber_0 rfl (lv_at hl 0 rfl) ?_
  refine lv_i2l hx hb dX3_ofNumber_1 rfl ?_
  refine lv_ldc2 hx hb hown (hts (.constantLong RX3 11 (4294967295)) (by decide +kernel)) dX3_ofNumber_2 ?_
  refine lv_land hx hb dX3_ofNumber_5 ?_
  exact xk_lretR hx hb hr hlk (xw_ofN v) dX3_ofNumber_6
set_option maxHeartbeats 4000000 in
set_option maxRecDepth 100000 in
theorem k_ofPointer (l : Launch) (D : va_G) (cI cJ cS : ClassId) (f t : Nat) (at_ : Int32) (r : Nat) (hf : f < 512) (ht : t < 512) (hr4 : r < 4) : xk_Rd l yX3_ofPointer wsX3_ofPointer ({ frames := 1, cells := 0, slots := 0, locals := 20 }) D vwCl (xt cI cJ cS) ([]) [.int (nI f), .int (nI t), .int at_, .int (nI r)] (some (.long (xw_enc (at_, some (f, t, r))))) := by
  refine xk_rd (cc := cX3_ofPointer) (maxL := 4) (ret := (some .long)) (by decide) rfl (Nat.le_of_ble_eq_true rfl) (fun p e s m below meth c ls hx hb hr hlk hml hown hts hl hP hK hN => ?_)
  replace hl : lv_has ls 4 [(0, .int (nI f)), (1, .int (nI t)), (2, .int at_), (3, .int (nI r))] := hl
  refine lv_iload_n hx hb dX3_ofPointer_0 rfl (lv_at hl 2 rfl) ?_
  refine xk_callR (va_runS (As := [.int at_]) (rest := []) ⟨hx, hb, hml, hown, hts⟩ (k_ofNumber l D cI cJ cS at_) (va_cwS 1 hts gX3_ofPointer_X3_ofNumber rfl rfl rfl (by decide +kernel) ⟨Nat.le_of_ble_eq_true rfl, Nat.le_of_ble_eq_true rfl⟩) (xk_preSr hK hN hP [] rfl) rfl rfl hl.1 rfl (lv_room (Nat.le_of_ble_eq_true rfl)) dX3_ofPointer_1 ⟨Nat.zero_le _, Nat.zero_le _⟩) ?_
  refine lv_iload_n hx hb dX3_ofPointer_4 rfl (lv_at hl 0 rfl) ?_
  refine lv_i2l hx hb dX3_ofPointer_5 rfl ?_
  refine lv_bipush (v := 32) hx hb dX3_ofPointer_6 (by decide) ?_
  refine lv_lshl hx hb dX3_ofPointer_8 rfl ?_
  refine lv_lor hx hb dX3_ofPointer_9 ?_
  refine lv_iload_n hx hb dX3_ofPointer_10 rfl (lv_at hl 1 rfl) ?_
  refine lv_i2l hx hb dX3_ofPointer_11 rfl ?_
  refine lv_bipush (v := 41) hx hb dX3_ofPointer_12 (by decide) ?_
  refine lv_lshl hx hb dX3_ofPointer_14 rfl ?_
  refine lv_lor hx hb dX3_ofPointer_15 ?_
  refine lv_iload_n hx hb dX3_ofPointer_16 rfl (lv_at hl 3 rfl) ?_
  refine lv_i2l hx hb dX3_ofPointer_17 rfl ?_
  refine lv_bipush (v := 50) hx hb dX3_ofPointer_18 (by decide) ?_
  refine lv_lshl hx hb dX3_ofPointer_20 rfl ?_
  refine lv_lor hx hb dX3_ofPointer_21 ?_
  refine lv_ldc2 hx hb hown (hts (.constantLong RX3 17 (4503599627370496)) (by decide +kernel)) dX3_ofPointer_22 ?_
  refine lv_lor hx hb dX3_ofPointer_25 ?_
  exact xk_lretR hx hb hr hlk (xw_ofP at_ hf ht hr4) dX3_ofPointer_26
set_option maxHeartbeats 4000000 in
set_option maxRecDepth 100000 in
theorem k_at (l : Launch) (D : va_G) (cI cJ cS : ClassId) (w : xw) (hw : xw_ok w) : xk_Rd l yX3_at wsX3_at ({ frames := 0, cells := 0, slots := 0, locals := 0 }) D vwCl (xt cI cJ cS) ([]) [.long (xw_enc w)] (some (.int w.1)) := by
  refine xk_rd (cc := cX3_at) (maxL := 2) (ret := (some .int)) (by decide) rfl (Nat.le_of_ble_eq_true rfl) (fun p e s m below meth c ls hx hb hr hlk hml hown hts hl hP hK hN => ?_)
  replace hl : lv_has ls 2 [(0, .long (xw_enc w))] := hl
  refine lv_lload_n hx hb dX3_at_0 rfl (lv_at hl 0 rfl) ?_
  refine lv_l2i hx hb dX3_at_1 rfl ?_
  exact xk_iretR hx hb hr hlk (xw_at hw) dX3_at_2
set_option maxHeartbeats 4000000 in
set_option maxRecDepth 100000 in
theorem k_from (l : Launch) (D : va_G) (cI cJ cS : ClassId) (w : xw) (hw : xw_ok w) : xk_Rd l yX3_from wsX3_from ({ frames := 0, cells := 0, slots := 0, locals := 0 }) D vwCl (xt cI cJ cS) ([]) [.long (xw_enc w)] (some (.int (nI (xw_f w)))) := by
  refine xk_rd (cc := cX3_from) (maxL := 2) (ret := (some .int)) (by decide) rfl (Nat.le_of_ble_eq_true rfl) (fun p e s m below meth c ls hx hb hr hlk hml hown hts hl hP hK hN => ?_)
  replace hl : lv_has ls 2 [(0, .long (xw_enc w))] := hl
  refine lv_lload_n hx hb dX3_from_0 rfl (lv_at hl 0 rfl) ?_
  refine lv_bipush (v := 32) hx hb dX3_from_1 (by decide) ?_
  refine lv_lushr hx hb dX3_from_3 rfl ?_
  refine lv_l2i hx hb dX3_from_4 rfl ?_
  refine lv_sipush (v := 511) hx hb dX3_from_5 (by decide) ?_
  refine lv_iand hx hb dX3_from_8 ?_
  exact xk_iretR hx hb hr hlk (xw_from hw) dX3_from_9
set_option maxHeartbeats 4000000 in
set_option maxRecDepth 100000 in
theorem k_to (l : Launch) (D : va_G) (cI cJ cS : ClassId) (w : xw) (hw : xw_ok w) : xk_Rd l yX3_to wsX3_to ({ frames := 0, cells := 0, slots := 0, locals := 0 }) D vwCl (xt cI cJ cS) ([]) [.long (xw_enc w)] (some (.int (nI (xw_t w)))) := by
  refine xk_rd (cc := cX3_to) (maxL := 2) (ret := (some .int)) (by decide) rfl (Nat.le_of_ble_eq_true rfl) (fun p e s m below meth c ls hx hb hr hlk hml hown hts hl hP hK hN => ?_)
  replace hl : lv_has ls 2 [(0, .long (xw_enc w))] := hl
  refine lv_lload_n hx hb dX3_to_0 rfl (lv_at hl 0 rfl) ?_
  refine lv_bipush (v := 41) hx hb dX3_to_1 (by decide) ?_
  refine lv_lushr hx hb dX3_to_3 rfl ?_
  refine lv_l2i hx hb dX3_to_4 rfl ?_
  refine lv_sipush (v := 511) hx hb dX3_to_5 (by decide) ?_
  refine lv_iand hx hb dX3_to_8 ?_
  exact xk_iretR hx hb hr hlk (xw_to hw) dX3_to_9
set_option maxHeartbeats 4000000 in
set_option maxRecDepth 100000 in
theorem k_rights (l : Launch) (D : va_G) (cI cJ cS : ClassId) (w : xw) (hw : xw_ok w) : xk_Rd l yX3_rights wsX3_rights ({ frames := 0, cells := 0, slots := 0, locals := 0 }) D vwCl (xt cI cJ cS) ([]) [.long (xw_enc w)] (some (.int (nI (xw_r w)))) := by
  refine xk_rd (cc := cX3_rights) (maxL := 2) (ret := (some .int)) (by decide) rfl (Nat.le_of_ble_eq_true rfl) (fun p e s m below meth c ls hx hb hr hlk hml hown hts hl hP hK hN => ?_)
  replace hl : lv_has ls 2 [(0, .long (xw_enc w))] := hl
  refine lv_lload_n hx hb dX3_rights_0 rfl (lv_at hl 0 rfl) ?_
  refine lv_bipush (v := 50) hx hb dX3_rights_1 (by decide) ?_
  refine lv_lushr hx hb dX3_rights_3 rfl ?_
  refine lv_l2i hx hb dX3_rights_4 rfl ?_
  refine lv_iconst (v := 3) hx hb dX3_rights_5 (by decide) ?_
  refine lv_iand hx hb dX3_rights_6 ?_
  exact xk_iretR hx hb hr hlk (xw_rights hw) dX3_rights_7
set_option maxHeartbeats 4000000 in
set_option maxRecDepth 100000 in
theorem k_isPointer (l : Launch) (D : va_G) (cI cJ cS : ClassId) (w : xw) (hw : xw_ok w) : xk_Rd l yX3_isPointer wsX3_isPointer ({ frames := 0, cells := 0, slots := 0, locals := 0 }) D vwCl (xt cI cJ cS) ([]) [.long (xw_enc w)] (some (.int (xb (xw_p w)))) := by
  refine xk_rd (cc := cX3_isPointer) (maxL := 2) (ret := (some .boolean)) (by decide) rfl (Nat.le_of_ble_eq_true rfl) (fun p e s m below meth c ls hx hb hr hlk hml hown hts hl hP hK hN => ?_)
  replace hl : lv_has ls 2 [(0, .long (xw_enc w))] := hl
  refine lv_lload_n hx hb dX3_isPointer_0 rfl (lv_at hl 0 rfl) ?_
  refine lv_bipush (v := 52) hx hb dX3_isPointer_1 (by decide) ?_
  refine lv_lushr hx hb dX3_isPointer_3 rfl ?_
  refine lv_lconst (v := 0) hx hb dX3_isPointer_4 (by decide) ?_
  refine W.lcmp hx hb dX3_isPointer_5 ?_
  refine lv_if_eq (tgt := 13) hx hb dX3_isPointer_6 (by decide) (fun c_6 => ?_) (fun c_6 => ?_)
  · skip
    refine lv_iconst (v := 0) hx hb dX3_isPointer_13 (by decide) ?_
    exact xk_zretR hx hb hr hlk rfl (xb_p0 (xw_isP hw) c_6) dX3_isPointer_14
  · skip
    refine lv_iconst (v := 1) hx hb dX3_isPointer_9 (by decide) ?_
    refine lv_goto (tgt := 14) hx hb dX3_isPointer_10 (by decide) ?_
    exact xk_zretR hx hb hr hlk rfl (xb_p1 (xw_isP hw) c_6) dX3_isPointer_14
set_option maxHeartbeats 4000000 in
set_option maxRecDepth 100000 in
theorem k_covers (l : Launch) (D : va_G) (cI cJ cS : ClassId) (w : xw) (hw : xw_ok w) (d n : Int32) : xk_Rd l yX3_covers wsX3_covers ({ frames := 1, cells := 0, slots := 0, locals := 21 }) D vwCl (xt cI cJ cS) ([]) [.long (xw_enc w), .int d, .int n] (some (.int (xb (xw_cov w d n)))) := by
  refine xk_rd (cc := cX3_covers) (maxL := 6) (ret := (some .boolean)) (by decide) rfl (Nat.le_of_ble_eq_true rfl) (fun p e s m below meth c ls hx hb hr hlk hml hown hts hl hP hK hN => ?_)
  replace hl : lv_has ls 6 [(0, .long (xw_enc w)), (2, .int d), (3, .int n)] := hl
  refine lv_lload_n hx hb dX3_covers_0 rfl (lv_at hl 0 rfl) ?_
  refine xk_callR (va_runS (As := [.long (xw_enc w)]) (rest := []) ⟨hx, hb, hml, hown, hts⟩ (k_at l D cI cJ cS w hw ) (va_cwS 1 hts gX3_covers_X3_at rfl rfl rfl (by decide +kernel) ⟨Nat.le_of_ble_eq_true rfl, Nat.le_of_ble_eq_true rfl⟩) (xk_preSr hK hN hP [] rfl) rfl rfl hl.1 rfl (lv_room (Nat.le_of_ble_eq_true rfl)) dX3_covers_1 ⟨Nat.zero_le _, Nat.zero_le _⟩) ?_
  refine lv_i2l hx hb dX3_covers_4 rfl ?_
  refine lv_iload_n hx hb dX3_covers_5 rfl (lv_at hl 1 rfl) ?_
  refine lv_i2l hx hb dX3_covers_6 rfl ?_
  refine lv_ladd hx hb dX3_covers_7 ?_
  refine lv_lstore (lv' := [(4, .long ((w.1 : Int32).toInt64 + (d : Int32).toInt64)), (0, .long (xw_enc w)), (2, .int d), (3, .int n)]) hx hb dX3_covers_8 hl (by decide) rfl (fun ls hl => ?_)
  refine lv_lload hx hb dX3_covers_10 (lv_at hl 0 rfl) ?_
  refine lv_lload_n hx hb dX3_covers_12 rfl (lv_at hl 1 rfl) ?_
  refine xk_callR (va_runS (As := [.long (xw_enc w)]) (rest := [.long ((w.1 : Int32).toInt64 + (d : Int32).toInt64)]) ⟨hx, hb, hml, hown, hts⟩ (k_from l D cI cJ cS w hw ) (va_cwS 1 hts gX3_covers_X3_from rfl rfl rfl (by decide +kernel) ⟨Nat.le_of_ble_eq_true rfl, Nat.le_of_ble_eq_true rfl⟩) (xk_preSr hK hN hP [] rfl) rfl rfl hl.1 rfl (lv_room (Nat.le_of_ble_eq_true rfl)) dX3_covers_13 ⟨Nat.zero_le _, Nat.zero_le _⟩) ?_
  refine lv_i2l hx hb dX3_covers_16 rfl ?_
  refine W.lcmp hx hb dX3_covers_17 ?_
  refine lv_if_lt (tgt := 39) hx hb dX3_covers_18 (by decide) (fun c_18 => ?_) (fun c_18 => ?_)
  · skip
    refine lv_iconst (v := 0) hx hb dX3_covers_39 (by decide) ?_
    exact xk_zretR hx hb hr hlk rfl (xb_00 (xw_cov_lt hw c_18)) dX3_covers_40
  · skip
    refine lv_lload hx hb dX3_covers_21 (lv_at hl 0 rfl) ?_
    refine lv_iload_n hx hb dX3_covers_23 rfl (lv_at hl 3 rfl) ?_
    refine lv_i2l hx hb dX3_covers_24 rfl ?_
    refine lv_ladd hx hb dX3_covers_25 ?_
    refine lv_lload_n hx hb dX3_covers_26 rfl (lv_at hl 1 rfl) ?_
    refine xk_callR (va_runS (As := [.long (xw_enc w)]) (rest := [.long (((w.1 : Int32).toInt64 + (d : Int32).toInt64) + (n : Int32).toInt64)]) ⟨hx, hb, hml, hown, hts⟩ (k_to l D cI cJ cS w hw ) (va_cwS 1 hts gX3_covers_X3_to rfl rfl rfl (by decide +kernel) ⟨Nat.le_of_ble_eq_true rfl, Nat.le_of_ble_eq_true rfl⟩) (xk_preSr hK hN hP [] rfl) rfl rfl hl.1 rfl (lv_room (Nat.le_of_ble_eq_true rfl)) dX3_covers_27 ⟨Nat.zero_le _, Nat.zero_le _⟩) ?_
    refine lv_i2l hx hb dX3_covers_30 rfl ?_
    refine W.lcmp hx hb dX3_covers_31 ?_
    refine lv_if_gt (tgt := 39) hx hb dX3_covers_32 (by decide) (fun c_32 => ?_) (fun c_32 => ?_)
    · skip
      refine lv_iconst (v := 0) hx hb dX3_covers_39 (by decide) ?_
      exact xk_zretR hx hb hr hlk rfl (xb_00 (xw_cov_gt hw c_32)) dX3_covers_40
    · skip
      refine lv_iconst (v := 1) hx hb dX3_covers_35 (by decide) ?_
      refine lv_goto (tgt := 40) hx hb dX3_covers_36 (by decide) ?_
      exact xk_zretR hx hb hr hlk rfl (xb_1 (xw_cov_in hw c_18 c_32)) dX3_covers_40
set_option maxHeartbeats 4000000 in
set_option maxRecDepth 100000 in
theorem k_isCell (l : Launch) (D : va_G) (cI cJ cS : ClassId) (x : Int32) : xk_Rd l yX4_isCell wsX4_isCell ({ frames := 0, cells := 0, slots := 0, locals := 0 }) D vwCl (xt cI cJ cS) ([]) [.int x] (some (.int (xb (xi x 256)))) := by
  refine xk_rd (cc := cX4_isCell) (maxL := 1) (ret := (some .boolean)) (by decide) rfl (Nat.le_of_ble_eq_true rfl) (fun p e s m below meth c ls hx hb hr hlk hml hown hts hl hP hK hN => ?_)
  replace hl : lv_has ls 1 [(0, .int x)] := hl
  refine lv_iload_n hx hb dX4_isCell_0 rfl (lv_at hl 0 rfl) ?_
  refine lv_if_lt (tgt := 15) hx hb dX4_isCell_1 (by decide) (fun c_1 => ?_) (fun c_1 => ?_)
  · skip
    refine lv_iconst (v := 0) hx hb dX4_isCell_15 (by decide) ?_
    exact xk_zretR hx hb hr hlk rfl (xb_00 (xi_lt c_1)) dX4_isCell_16
  · skip
    refine lv_iload_n hx hb dX4_isCell_4 rfl (lv_at hl 0 rfl) ?_
    refine lv_sipush (v := 256) hx hb dX4_isCell_5 (by decide) ?_
    refine lv_icmp_ge (tgt := 15) hx hb dX4_isCell_8 (by decide) (fun c_8 => ?_) (fun c_8 => ?_)
    · skip
      refine lv_iconst (v := 0) hx hb dX4_isCell_15 (by decide) ?_
      exact xk_zretR hx hb hr hlk rfl (xb_00 (xi_ge rfl c_8)) dX4_isCell_16
    · skip
      refine lv_iconst (v := 1) hx hb dX4_isCell_11 (by decide) ?_
      refine lv_goto (tgt := 16) hx hb dX4_isCell_12 (by decide) ?_
      exact xk_zretR hx hb hr hlk rfl (xb_1 (xi_in rfl c_1 c_8)) dX4_isCell_16
set_option maxHeartbeats 4000000 in
set_option maxRecDepth 100000 in
theorem k_isRegister (l : Launch) (D : va_G) (cI cJ cS : ClassId) (x : Int32) : xk_Rd l yX4_isRegister wsX4_isRegister ({ frames := 0, cells := 0, slots := 0, locals := 0 }) D vwCl (xt cI cJ cS) ([]) [.int x] (some (.int (xb (xi x 8)))) := by
  refine xk_rd (cc := cX4_isRegister) (maxL := 1) (ret := (some .boolean)) (by decide) rfl (Nat.le_of_ble_eq_true rfl) (fun p e s m below meth c ls hx hb hr hlk hml hown hts hl hP hK hN => ?_)
  replace hl : lv_has ls 1 [(0, .int x)] := hl
  refine lv_iload_n hx hb dX4_isRegister_0 rfl (lv_at hl 0 rfl) ?_
  refine lv_if_lt (tgt := 14) hx hb dX4_isRegister_1 (by decide) (fun c_1 => ?_) (fun c_1 => ?_)
  · skip
    refine lv_iconst (v := 0) hx hb dX4_isRegister_14 (by decide) ?_
    exact xk_zretR hx hb hr hlk rfl (xb_00 (xi_lt c_1)) dX4_isRegister_15
  · skip
    refine lv_iload_n hx hb dX4_isRegister_4 rfl (lv_at hl 0 rfl) ?_
    refine lv_bipush (v := 8) hx hb dX4_isRegister_5 (by decide) ?_
    refine lv_icmp_ge (tgt := 14) hx hb dX4_isRegister_7 (by decide) (fun c_7 => ?_) (fun c_7 => ?_)
    · skip
      refine lv_iconst (v := 0) hx hb dX4_isRegister_14 (by decide) ?_
      exact xk_zretR hx hb hr hlk rfl (xb_00 (xi_ge rfl c_7)) dX4_isRegister_15
    · skip
      refine lv_iconst (v := 1) hx hb dX4_isRegister_10 (by decide) ?_
      refine lv_goto (tgt := 15) hx hb dX4_isRegister_11 (by decide) ?_
      exact xk_zretR hx hb hr hlk rfl (xb_1 (xi_in rfl c_1 c_7)) dX4_isRegister_15
set_option maxHeartbeats 4000000 in
set_option maxRecDepth 100000 in
theorem k_oneIf (l : Launch) (D : va_G) (cI cJ cS : ClassId) (b : Bool) : xk_Rd l yX4_oneIf wsX4_oneIf ({ frames := 0, cells := 0, slots := 0, locals := 0 }) D vwCl (xt cI cJ cS) ([]) [.int (xb b)] (some (.int (xb b))) := by
  refine xk_rd (cc := cX4_oneIf) (maxL := 1) (ret := (some .int)) (by decide) rfl (Nat.le_of_ble_eq_true rfl) (fun p e s m below meth c ls hx hb hr hlk hml hown hts hl hP hK hN => ?_)
  replace hl : lv_has ls 1 [(0, .int (xb b))] := hl
  refine lv_iload_n hx hb dX4_oneIf_0 rfl (lv_at hl 0 rfl) ?_
  refine lv_if_eq (tgt := 8) hx hb dX4_oneIf_1 (by decide) (fun c_1 => ?_) (fun c_1 => ?_)
  · skip
    refine lv_iconst (v := 0) hx hb dX4_oneIf_8 (by decide) ?_
    exact xk_iretR hx hb hr hlk c_1.symm dX4_oneIf_9
  · skip
    refine lv_iconst (v := 1) hx hb dX4_oneIf_4 (by decide) ?_
    refine lv_goto (tgt := 9) hx hb dX4_oneIf_5 (by decide) ?_
    exact xk_iretR hx hb hr hlk (xb_p1 xb_0 c_1) dX4_oneIf_9
