set_option maxHeartbeats 4000000 in
set_option maxRecDepth 100000 in
theorem j_in (l : Launch) (D : va_G) (cI cJ cS : ClassId) (x lo hi : Int64) : xk_Rd l yX5_in wsX5_in ({ frames := 0, cells := 0, slots := 0, locals := 0 }) D vwCl (xt cI cJ cS) ([]) [.long x, .long lo, .long hi] (some (.int (xb (xin x lo hi)))) := by
  refine xk_rd (cc := cX5_in) (maxL := 6) (ret := (some .boolean)) (by decide) rfl (Nat.le_of_ble_eq_true rfl) (fun p e s m below meth c ls hx hb hr hlk hml hown hts hl hP hK hN => ?_)
  replace hl : lv_has ls 6 [(0, .long x), (2, .long lo), (4, .long hi)] := hl
  refine lv_lload_n hx hb dX5_in_0 rfl (lv_at hl 0 rfl) ?_
  refine lv_lload_n hx hb dX5_in_1 rfl (lv_at hl 1 rfl) ?_
  refine W.lcmp hx hb dX5_in_2 ?_
  refine lv_if_lt (tgt := 17) hx hb dX5_in_3 (by decide) (fun c_3 => ?_) (fun c_3 => ?_)
  · skip
    refine lv_iconst (v := 0) hx hb dX5_in_17 (by decide) ?_
    exact xk_zretR hx hb hr hlk rfl (xb_00 (xin_lt c_3)) dX5_in_18
  · skip
    refine lv_lload_n hx hb dX5_in_6 rfl (lv_at hl 0 rfl) ?_
    refine lv_lload hx hb dX5_in_7 (lv_at hl 2 rfl) ?_
    refine W.lcmp hx hb dX5_in_9 ?_
    refine lv_if_gt (tgt := 17) hx hb dX5_in_10 (by decide) (fun c_10 => ?_) (fun c_10 => ?_)
    · skip
      refine lv_iconst (v := 0) hx hb dX5_in_17 (by decide) ?_
      exact xk_zretR hx hb hr hlk rfl (xb_00 (xin_gt c_10)) dX5_in_18
    · skip
      refine lv_iconst (v := 1) hx hb dX5_in_13 (by decide) ?_
      refine lv_goto (tgt := 18) hx hb dX5_in_14 (by decide) ?_
      exact xk_zretR hx hb hr hlk rfl (xb_1 (xin_in c_3 c_10)) dX5_in_18
set_option maxHeartbeats 4000000 in
set_option maxRecDepth 100000 in
theorem j_isRegister (l : Launch) (D : va_G) (cI cJ cS : ClassId) (r : Int32) : xk_Rd l yX5_isRegister wsX5_isRegister ({ frames := 1, cells := 0, slots := 0, locals := 25 }) D vwCl (xt cI cJ cS) ([]) [.int r] (some (.int (xb (xi r 8)))) := by
  refine xk_rd (cc := cX5_isRegister) (maxL := 1) (ret := (some .boolean)) (by decide) rfl (Nat.le_of_ble_eq_true rfl) (fun p e s m below meth c ls hx hb hr hlk hml hown hts hl hP hK hN => ?_)
  replace hl : lv_has ls 1 [(0, .int r)] := hl
  refine lv_iload_n hx hb dX5_isRegister_0 rfl (lv_at hl 0 rfl) ?_
  refine lv_i2l hx hb dX5_isRegister_1 rfl ?_
  refine lv_lconst (v := 0) hx hb dX5_isRegister_2 (by decide) ?_
  refine lv_ldc2 hx hb hown (hts (.constantLong RX5 23 (7)) (by decide +kernel)) dX5_isRegister_3 ?_
  refine xk_callR (va_runS (As := [.long ((r : Int32).toInt64), .long 0, .long 7]) (rest := []) ⟨hx, hb, hml, hown, hts⟩ (j_in l D cI cJ cS ((r : Int32).toInt64) 0 7) (va_cwS 3 hts gX5_isRegister_X5_in rfl rfl rfl (by decide +kernel) ⟨Nat.le_of_ble_eq_true rfl, Nat.le_of_ble_eq_true rfl⟩) (xk_preSr hK hN hP [] rfl) rfl rfl hl.1 rfl (lv_room (Nat.le_of_ble_eq_true rfl)) dX5_isRegister_6 ⟨Nat.zero_le _, Nat.zero_le _⟩) ?_
  exact xk_zretR hx hb hr hlk (xb_nar _) (by rw [xin_xi r (n := 8) rfl]) dX5_isRegister_9
set_option maxHeartbeats 4000000 in
set_option maxRecDepth 100000 in
theorem j_reg (l : Launch) (D : va_G) (cI cJ cS : ClassId) (k : Nat) : xk_Rd l yX5_reg wsX5_reg ({ frames := 0, cells := 0, slots := 0, locals := 0 }) D vwCl (xt cI cJ cS) ([]) [.int (nI k)] (some (.int (nI (1280 + 5 * k)))) := by
  refine xk_rd (cc := cX5_reg) (maxL := 1) (ret := (some .int)) (by decide) rfl (Nat.le_of_ble_eq_true rfl) (fun p e s m below meth c ls hx hb hr hlk hml hown hts hl hP hK hN => ?_)
  replace hl : lv_has ls 1 [(0, .int (nI k))] := hl
  refine lv_sipush (v := 1280) hx hb dX5_reg_0 (by decide) ?_
  refine lv_iconst (v := 5) hx hb dX5_reg_3 (by decide) ?_
  refine lv_iload_n hx hb dX5_reg_4 rfl (lv_at hl 0 rfl) ?_
  refine lv_imul hx hb dX5_reg_5 ?_
  refine lv_iadd hx hb dX5_reg_6 ?_
  exact xk_iretR hx hb hr hlk m_reg dX5_reg_7
set_option maxHeartbeats 4000000 in
set_option maxRecDepth 100000 in
theorem j_begin (l : Launch) (D : va_G) (cI cJ cS : ClassId) (m0 ms mb mw mm : Nat) (f b w mi : Nat → Int32) (kp : Nat) : xk_Wr l yX5_begin wsX5_begin ({ frames := 0, cells := 0, slots := 0, locals := 0 }) D vwCl (xt cI cJ cS) ([(m0, .inr (4, [.ref ms, .ref mb, .int (nI kp), .ref mw, .ref mm])), (ms, .inl (cI, 2128, .inl f)), (mb, .inl (cI, 2128, .inl b)), (mw, .inl (cI, 51072, .inl w)), (mm, .inl (cI, 320, .inl mi))]) [.ref m0] ([(m0, .inr (4, [.ref ms, .ref mb, .int (nI kp), .ref mw, .ref mm])), (ms, .inl (cI, 2128, .inl f)), (mb, .inl (cI, 2128, .inl f)), (mw, .inl (cI, 51072, .inl w)), (mm, .inl (cI, 320, .inl mi))]) none := by
  refine xk_wr (cc := cX5_begin) (maxL := 2) (ret := none) (by decide) rfl (Nat.le_of_ble_eq_true rfl) (fun p e s m below meth c ls hx hb hr hlk hml hown hts hl hP hK hN hD hS => ?_)
  replace hl : lv_has ls 2 [(0, .ref m0)] := hl
  have hiX5 : ∀ w ∈ u_ws RX5 TX5 5, w ∈ wsX5_begin := by decide +kernel
  have loop : ∀ (n i : Nat) (H : Heap) (locs : List Loc) (ls : Array Slot), i + n = 2128 → va_P D vwCl ([(m0, .inr (4, [.ref ms, .ref mb, .int (nI kp), .ref mw, .ref mm])), (ms, .inl (cI, 2128, .inl f)), (mb, .inl (cI, 2128, .inl (x_cp f b i))), (mw, .inl (cI, 51072, .inl w)), (mm, .inl (cI, 320, .inl mi))]) H → va_D (xk_in ([(m0, .inr (4, [.ref ms, .ref mb, .int (nI kp), .ref mw, .ref mm])), (ms, .inl (cI, 2128, .inl f)), (mb, .inl (cI, 2128, .inl b)), (mw, .inl (cI, 51072, .inl w)), (mm, .inl (cI, 320, .inl mi))])) ([(m0, .inr (4, [.ref ms, .ref mb, .int (nI kp), .ref mw, .ref mm])), (ms, .inl (cI, 2128, .inl f)), (mb, .inl (cI, 2128, .inl (x_cp f b i))), (mw, .inl (cI, 51072, .inl w)), (mm, .inl (cI, 320, .inl mi))]) → va_S (xk_in ([(m0, .inr (4, [.ref ms, .ref mb, .int (nI kp), .ref mw, .ref mm])), (ms, .inl (cI, 2128, .inl f)), (mb, .inl (cI, 2128, .inl b)), (mw, .inl (cI, 51072, .inl w)), (mm, .inl (cI, 320, .inl mi))])) s.heap H locs → lv_has ls 2 [(1, .int (nI i)), (0, .ref m0)] → W p l e ({ frames := 0, cells := 0, slots := 0, locals := 0 }) s m ([.ref m0]).toArray below meth c H locs 0 0 (MQ below (xk_W D vwCl ([(m0, .inr (4, [.ref ms, .ref mb, .int (nI kp), .ref mw, .ref mm])), (ms, .inl (cI, 2128, .inl f)), (mb, .inl (cI, 2128, .inl b)), (mw, .inl (cI, 51072, .inl w)), (mm, .inl (cI, 320, .inl mi))]) ([(m0, .inr (4, [.ref ms, .ref mb, .int (nI kp), .ref mw, .ref mm])), (ms, .inl (cI, 2128, .inl f)), (mb, .inl (cI, 2128, .inl f)), (mw, .inl (cI, 51072, .inl w)), (mm, .inl (cI, 320, .inl mi))]) none) ([.ref m0]).toArray s 0 0 (xk_in ([(m0, .inr (4, [.ref ms, .ref mb, .int (nI kp), .ref mw, .ref mm])), (ms, .inl (cI, 2128, .inl f)), (mb, .inl (cI, 2128, .inl b)), (mw, .inl (cI, 51072, .inl w)), (mm, .inl (cI, 320, .inl mi))]))) (F0 m 2 ls []) := by
    intro n
    induction n with
    | zero =>
      intro i H locs ls hn hP hD hS hl
      refine lv_iload_n hx hb dX5_begin_2 rfl (lv_at hl 0 rfl) ?_
      refine lv_sipush (v := 2128) hx hb dX5_begin_3 (by decide) ?_
      refine lv_icmp_ge (tgt := 27) hx hb dX5_begin_6 (by decide) (fun c_6 => ?_) (fun c_6 => ?_)
      · skip
        replace hP : va_P D vwCl ([(m0, .inr (4, [.ref ms, .ref mb, .int (nI kp), .ref mw, .ref mm])), (ms, .inl (cI, 2128, .inl f)), (mb, .inl (cI, 2128, .inl f)), (mw, .inl (cI, 51072, .inl w)), (mm, .inl (cI, 320, .inl mi))]) H := xk_Pset (e := .inl (cI, 2128, .inl f)) hP 2 rfl (xk_atI (fun j hj => x_cp_all f b i j (by omega)))
        exact xk_vretW hx hb hr hlk hP hS rfl dX5_begin_27
      · skip
        exact absurd (nI_le (a := 2128) (b := i) (by omega) (by omega)) c_6
    | succ n ih =>
      intro i H locs ls hn hP hD hS hl
      refine lv_iload_n hx hb dX5_begin_2 rfl (lv_at hl 0 rfl) ?_
      refine lv_sipush (v := 2128) hx hb dX5_begin_3 (by decide) ?_
      refine lv_icmp_ge (tgt := 27) hx hb dX5_begin_6 (by decide) (fun c_6 => ?_) (fun c_6 => ?_)
      · skip
        exact absurd (xn_le_of (a := 2128) (by decide) (by omega) c_6) (by omega)
      · skip
        refine lv_aload_n hx hb dX5_begin_9 rfl (lv_at hl 1 rfl) ?_
        refine va_get (D := D) (ci := 4) (v := .ref mb) (C := RX5) (T := TX5) (N := 5) hx hb hts hiX5 hown hK hP 0 rfl rfl 1 (by decide) (hts (.fieldLink RX5 13 "PointerSweepModel" "back" "[I") (by decide +kernel)) (fun _ h9 => h9) rfl dX5_begin_10 ?_
        refine lv_iload_n hx hb dX5_begin_13 rfl (lv_at hl 0 rfl) ?_
        refine lv_aload_n hx hb dX5_begin_14 rfl (lv_at hl 1 rfl) ?_
        refine va_get (D := D) (ci := 4) (v := .ref ms) (C := RX5) (T := TX5) (N := 5) hx hb hts hiX5 hown hK hP 0 rfl rfl 0 (by decide) (hts (.fieldLink RX5 7 "PointerSweepModel" "st" "[I") (by decide +kernel)) (fun _ h9 => h9) rfl dX5_begin_15 ?_
        refine lv_iload_n hx hb dX5_begin_18 rfl (lv_at hl 0 rfl) ?_
        refine xa_iald hx hb hK hP 1 0 rfl rfl i rfl (by omega) (by decide) dX5_begin_19 ?_
        refine xa_iast (ws' := [(m0, .inr (4, [.ref ms, .ref mb, .int (nI kp), .ref mw, .ref mm])), (ms, .inl (cI, 2128, .inl f)), (mb, .inl (cI, 2128, .inl (upd (x_cp f b i) i (f i)))), (mw, .inl (cI, 51072, .inl w)), (mm, .inl (cI, 320, .inl mi))]) hx hb hK hP hD hS 2 0 rfl rfl i rfl (by omega) (by decide) dX5_begin_20 rfl (fun H locs hP hD hS => ?_)
        rw [x_cp_s] at hP hD
        refine lv_iinc (v := (nI (i + 1))) (lv' := [(1, .int (nI (i + 1))), (0, .ref m0)]) hx hb dX5_begin_21 hl (k := 0) rfl (nI_1 i) (by decide) rfl (fun ls hl => ?_)
        refine lv_goto (tgt := 2) hx hb dX5_begin_24 (by decide) ?_
        exact ih (i + 1) H locs ls (by omega) hP hD hS (lv_sub hl [0, 1] rfl)
  refine lv_iconst (v := 0) hx hb dX5_begin_0 (by decide) ?_
  refine lv_istore_n (lv' := [(1, .int 0), (0, .ref m0)]) hx hb dX5_begin_1 rfl hl (by decide) rfl (fun ls hl => ?_)
  refine loop 2128 0 s.heap [] ls rfl ?_ ?_ hS (lv_sub hl [0, 1] rfl)
  · rw [x_cp_0]; exact hP
  · rw [x_cp_0]; exact hD
set_option maxHeartbeats 4000000 in
set_option maxRecDepth 100000 in
theorem j_set (l : Launch) (D : va_G) (cI cJ cS : ClassId) (m0 ms mb mw mm : Nat) (f b w mi : Nat → Int32) (kp : Nat) (k : Nat) (hk : k + 4 < 2128) (a0 a1 a2 a3 a4 : Int32) : xk_Wr l yX5_set wsX5_set ({ frames := 0, cells := 0, slots := 0, locals := 0 }) D vwCl (xt cI cJ cS) ([(m0, .inr (4, [.ref ms, .ref mb, .int (nI kp), .ref mw, .ref mm])), (ms, .inl (cI, 2128, .inl f)), (mb, .inl (cI, 2128, .inl b)), (mw, .inl (cI, 51072, .inl w)), (mm, .inl (cI, 320, .inl mi))]) [.ref m0, .int (nI k), .int a0, .int a1, .int a2, .int a3, .int a4] ([(m0, .inr (4, [.ref ms, .ref mb, .int (nI kp), .ref mw, .ref mm])), (ms, .inl (cI, 2128, .inl (u5 f k a0 a1 a2 a3 a4))), (mb, .inl (cI, 2128, .inl b)), (mw, .inl (cI, 51072, .inl w)), (mm, .inl (cI, 320, .inl mi))]) none := by
  refine xk_wr (cc := cX5_set) (maxL := 7) (ret := none) (by decide) rfl (Nat.le_of_ble_eq_true rfl) (fun p e s m below meth c ls hx hb hr hlk hml hown hts hl hP hK hN hD hS => ?_)
  replace hl : lv_has ls 7 [(0, .ref m0), (1, .int (nI k)), (2, .int a0), (3, .int a1), (4, .int a2), (5, .int a3), (6, .int a4)] := hl
  have hiX5 : ∀ w ∈ u_ws RX5 TX5 5, w ∈ wsX5_set := by decide +kernel
  refine lv_aload_n hx hb dX5_set_0 rfl (lv_at hl 0 rfl) ?_
  refine va_get (D := D) (ci := 4) (v := .ref ms) (C := RX5) (T := TX5) (N := 5) hx hb hts hiX5 hown hK hP 0 rfl rfl 0 (by decide) (hts (.fieldLink RX5 7 "PointerSweepModel" "st" "[I") (by decide +kernel)) (fun _ h9 => h9) rfl dX5_set_1 ?_
  refine lv_iload_n hx hb dX5_set_4 rfl (lv_at hl 1 rfl) ?_
  refine lv_iconst (v := 0) hx hb dX5_set_5 (by decide) ?_
  refine lv_iadd hx hb dX5_set_6 ?_
  refine lv_iload_n hx hb dX5_set_7 rfl (lv_at hl 2 rfl) ?_
  refine xa_iast (ws' := [(m0, .inr (4, [.ref ms, .ref mb, .int (nI kp), .ref mw, .ref mm])), (ms, .inl (cI, 2128, .inl (upd f k a0))), (mb, .inl (cI, 2128, .inl b)), (mw, .inl (cI, 51072, .inl w)), (mm, .inl (cI, 320, .inl mi))]) hx hb hK hP hD hS 1 0 rfl rfl k (nI_add k 0) (by omega) (by decide) dX5_set_8 rfl (fun H locs hP hD hS => ?_)
  refine lv_aload_n hx hb dX5_set_9 rfl (lv_at hl 0 rfl) ?_
  refine va_get (D := D) (ci := 4) (v := .ref ms) (C := RX5) (T := TX5) (N := 5) hx hb hts hiX5 hown hK hP 0 rfl rfl 0 (by decide) (hts (.fieldLink RX5 7 "PointerSweepModel" "st" "[I") (by decide +kernel)) (fun _ h9 => h9) rfl dX5_set_10 ?_
  refine lv_iload_n hx hb dX5_set_13 rfl (lv_at hl 1 rfl) ?_
  refine lv_iconst (v := 1) hx hb dX5_set_14 (by decide) ?_
  refine lv_iadd hx hb dX5_set_15 ?_
  refine lv_iload_n hx hb dX5_set_16 rfl (lv_at hl 3 rfl) ?_
  refine xa_iast (ws' := [(m0, .inr (4, [.ref ms, .ref mb, .int (nI kp), .ref mw, .ref mm])), (ms, .inl (cI, 2128, .inl (upd (upd f k a0) (k + 1) a1))), (mb, .inl (cI, 2128, .inl b)), (mw, .inl (cI, 51072, .inl w)), (mm, .inl (cI, 320, .inl mi))]) hx hb hK hP hD hS 1 0 rfl rfl (k + 1) (nI_add k 1) (by omega) (by decide) dX5_set_17 rfl (fun H locs hP hD hS => ?_)
  refine lv_aload_n hx hb dX5_set_18 rfl (lv_at hl 0 rfl) ?_
  refine va_get (D := D) (ci := 4) (v := .ref ms) (C := RX5) (T := TX5) (N := 5) hx hb hts hiX5 hown hK hP 0 rfl rfl 0 (by decide) (hts (.fieldLink RX5 7 "PointerSweepModel" "st" "[I") (by decide +kernel)) (fun _ h9 => h9) rfl dX5_set_19 ?_
  refine lv_iload_n hx hb dX5_set_22 rfl (lv_at hl 1 rfl) ?_
  refine lv_iconst (v := 2) hx hb dX5_set_23 (by decide) ?_
  refine lv_iadd hx hb dX5_set_24 ?_
  refine lv_iload hx hb dX5_set_25 (lv_at hl 4 rfl) ?_
  refine xa_iast (ws' := [(m0, .inr (4, [.ref ms, .ref mb, .int (nI kp), .ref mw, .ref mm])), (ms, .inl (cI, 2128, .inl (upd (upd (upd f k a0) (k + 1) a1) (k + 2) a2))), (mb, .inl (cI, 2128, .inl b)), (mw, .inl (cI, 51072, .inl w)), (mm, .inl (cI, 320, .inl mi))]) hx hb hK hP hD hS 1 0 rfl rfl (k + 2) (nI_add k 2) (by omega) (by decide) dX5_set_27 rfl (fun H locs hP hD hS => ?_)
  refine lv_aload_n hx hb dX5_set_28 rfl (lv_at hl 0 rfl) ?_
  refine va_get (D := D) (ci := 4) (v := .ref ms) (C := RX5) (T := TX5) (N := 5) hx hb hts hiX5 hown hK hP 0 rfl rfl 0 (by decide) (hts (.fieldLink RX5 7 "PointerSweepModel" "st" "[I") (by decide +kernel)) (fun _ h9 => h9) rfl dX5_set_29 ?_
  refine lv_iload_n hx hb dX5_set_32 rfl (lv_at hl 1 rfl) ?_
  refine lv_iconst (v := 3) hx hb dX5_set_33 (by decide) ?_
  refine lv_iadd hx hb dX5_set_34 ?_
  refine lv_iload hx hb dX5_set_35 (lv_at hl 5 rfl) ?_
  refine xa_iast (ws' := [(m0, .inr (4, [.ref ms, .ref mb, .int (nI kp), .ref mw, .ref mm])), (ms, .inl (cI, 2128, .inl (upd (upd (upd (upd f k a0) (k + 1) a1) (k + 2) a2) (k + 3) a3))), (mb, .inl (cI, 2128, .inl b)), (mw, .inl (cI, 51072, .inl w)), (mm, .inl (cI, 320, .inl mi))]) hx hb hK hP hD hS 1 0 rfl rfl (k + 3) (nI_add k 3) (by omega) (by decide) dX5_set_37 rfl (fun H locs hP hD hS => ?_)
  refine lv_aload_n hx hb dX5_set_38 rfl (lv_at hl 0 rfl) ?_
  refine va_get (D := D) (ci := 4) (v := .ref ms) (C := RX5) (T := TX5) (N := 5) hx hb hts hiX5 hown hK hP 0 rfl rfl 0 (by decide) (hts (.fieldLink RX5 7 "PointerSweepModel" "st" "[I") (by decide +kernel)) (fun _ h9 => h9) rfl dX5_set_39 ?_
  refine lv_iload_n hx hb dX5_set_42 rfl (lv_at hl 1 rfl) ?_
  refine lv_iconst (v := 4) hx hb dX5_set_43 (by decide) ?_
  refine lv_iadd hx hb dX5_set_44 ?_
  refine lv_iload hx hb dX5_set_45 (lv_at hl 6 rfl) ?_
  refine xa_iast (ws' := [(m0, .inr (4, [.ref ms, .ref mb, .int (nI kp), .ref mw, .ref mm])), (ms, .inl (cI, 2128, .inl (upd (upd (upd (upd (upd f k a0) (k + 1) a1) (k + 2) a2) (k + 3) a3) (k + 4) a4))), (mb, .inl (cI, 2128, .inl b)), (mw, .inl (cI, 51072, .inl w)), (mm, .inl (cI, 320, .inl mi))]) hx hb hK hP hD hS 1 0 rfl rfl (k + 4) (nI_add k 4) hk (by decide) dX5_set_47 rfl (fun H locs hP hD hS => ?_)
  exact xk_vretW hx hb hr hlk hP hS rfl dX5_set_48
set_option maxHeartbeats 4000000 in
set_option maxRecDepth 100000 in
theorem j_untag (l : Launch) (D : va_G) (cI cJ cS : ClassId) (m0 ms mb mw mm : Nat) (f b w mi : Nat → Int32) (kp : Nat) (k : Nat) (hk : k + 4 < 2128) (bb : Bool) : xk_Wr l yX5_untag wsX5_untag ({ frames := 1, cells := 0, slots := 0, locals := 26 }) D vwCl (xt cI cJ cS) ([(m0, .inr (4, [.ref ms, .ref mb, .int (nI kp), .ref mw, .ref mm])), (ms, .inl (cI, 2128, .inl f)), (mb, .inl (cI, 2128, .inl b)), (mw, .inl (cI, 51072, .inl w)), (mm, .inl (cI, 320, .inl mi))]) [.ref m0, .int (nI k), .int (xb bb)] ([(m0, .inr (4, [.ref ms, .ref mb, .int (nI kp), .ref mw, .ref mm])), (ms, .inl (cI, 2128, .inl (u5 f k 0 (if bb = true then f (k + 1) else 0) 0 0 0))), (mb, .inl (cI, 2128, .inl b)), (mw, .inl (cI, 51072, .inl w)), (mm, .inl (cI, 320, .inl mi))]) none := by
  refine xk_wr (cc := cX5_untag) (maxL := 3) (ret := none) (by decide) rfl (Nat.le_of_ble_eq_true rfl) (fun p e s m below meth c ls hx hb hr hlk hml hown hts hl hP hK hN hD hS => ?_)
  replace hl : lv_has ls 3 [(0, .ref m0), (1, .int (nI k)), (2, .int (xb bb))] := hl
  have hiX5 : ∀ w ∈ u_ws RX5 TX5 5, w ∈ wsX5_untag := by decide +kernel
  refine lv_aload_n hx hb dX5_untag_0 rfl (lv_at hl 0 rfl) ?_
  refine lv_iload_n hx hb dX5_untag_1 rfl (lv_at hl 1 rfl) ?_
  refine lv_iconst (v := 0) hx hb dX5_untag_2 (by decide) ?_
  refine lv_iload_n hx hb dX5_untag_3 rfl (lv_at hl 2 rfl) ?_
  refine lv_if_eq (tgt := 18) hx hb dX5_untag_4 (by decide) (fun c_4 => ?_) (fun c_4 => ?_)
  · skip
    refine lv_iconst (v := 0) hx hb dX5_untag_18 (by decide) ?_
    refine lv_iconst (v := 0) hx hb dX5_untag_19 (by decide) ?_
    refine lv_iconst (v := 0) hx hb dX5_untag_20 (by decide) ?_
    refine lv_iconst (v := 0) hx hb dX5_untag_21 (by decide) ?_
    refine xk_callW (ws' := [(m0, .inr (4, [.ref ms, .ref mb, .int (nI kp), .ref mw, .ref mm])), (ms, .inl (cI, 2128, .inl (u5 f k 0 0 0 0 0))), (mb, .inl (cI, 2128, .inl b)), (mw, .inl (cI, 51072, .inl w)), (mm, .inl (cI, 320, .inl mi))]) (va_runV (As := [.int (nI k), .int 0, .int 0, .int 0, .int 0, .int 0]) (rest := []) ⟨hx, hb, hml, hown, hts⟩ (j_set l D cI cJ cS m0 ms mb mw mm f b w mi kp k hk 0 0 0 0 0) (cwV 6 hts gX5_untag_X5_set rfl rfl rfl (by decide +kernel) ⟨Nat.le_of_ble_eq_true rfl, Nat.le_of_ble_eq_true rfl⟩) (xk_preVw hK hN hP hD [0, 1, 2, 3, 4] rfl rfl (ci := 4) rfl 0 rfl) rfl rfl hl.1 rfl (lv_room (Nat.le_of_ble_eq_true rfl)) dX5_untag_22 ⟨Nat.zero_le _, Nat.zero_le _⟩) hP hD hS [0, 1, 2, 3, 4] rfl rfl rfl (fun H locs hP hD hS => ?_)
    exact xk_vretW hx hb hr hlk hP hS (by rw [if_neg (by rw [xb_eq c_4]; decide)]) dX5_untag_25
  · skip
    refine lv_aload_n hx hb dX5_untag_7 rfl (lv_at hl 0 rfl) ?_
    refine va_get (D := D) (ci := 4) (v := .ref ms) (C := RX5) (T := TX5) (N := 5) hx hb hts hiX5 hown hK hP 0 rfl rfl 0 (by decide) (hts (.fieldLink RX5 7 "PointerSweepModel" "st" "[I") (by decide +kernel)) (fun _ h9 => h9) rfl dX5_untag_8 ?_
    refine lv_iload_n hx hb dX5_untag_11 rfl (lv_at hl 1 rfl) ?_
    refine lv_iconst (v := 1) hx hb dX5_untag_12 (by decide) ?_
    refine lv_iadd hx hb dX5_untag_13 ?_
    refine xa_iald hx hb hK hP 1 0 rfl rfl (k + 1) (nI_add k 1) (by omega) (by decide) dX5_untag_14 ?_
    refine lv_goto (tgt := 19) hx hb dX5_untag_15 (by decide) ?_
    refine lv_iconst (v := 0) hx hb dX5_untag_19 (by decide) ?_
    refine lv_iconst (v := 0) hx hb dX5_untag_20 (by decide) ?_
    refine lv_iconst (v := 0) hx hb dX5_untag_21 (by decide) ?_
    refine xk_callW (ws' := [(m0, .inr (4, [.ref ms, .ref mb, .int (nI kp), .ref mw, .ref mm])), (ms, .inl (cI, 2128, .inl (u5 f k 0 (f (k + 1)) 0 0 0))), (mb, .inl (cI, 2128, .inl b)), (mw, .inl (cI, 51072, .inl w)), (mm, .inl (cI, 320, .inl mi))]) (va_runV (As := [.int (nI k), .int 0, .int (f (k + 1)), .int 0, .int 0, .int 0]) (rest := []) ⟨hx, hb, hml, hown, hts⟩ (j_set l D cI cJ cS m0 ms mb mw mm f b w mi kp k hk 0 (f (k + 1)) 0 0 0) (cwV 6 hts gX5_untag_X5_set rfl rfl rfl (by decide +kernel) ⟨Nat.le_of_ble_eq_true rfl, Nat.le_of_ble_eq_true rfl⟩) (xk_preVw hK hN hP hD [0, 1, 2, 3, 4] rfl rfl (ci := 4) rfl 0 rfl) rfl rfl hl.1 rfl (lv_room (Nat.le_of_ble_eq_true rfl)) dX5_untag_22 ⟨Nat.zero_le _, Nat.zero_le _⟩) hP hD hS [0, 1, 2, 3, 4] rfl rfl rfl (fun H locs hP hD hS => ?_)
    exact xk_vretW hx hb hr hlk hP hS (by rw [if_pos (xb_ne c_4)]) dX5_untag_25
set_option maxHeartbeats 4000000 in
set_option maxRecDepth 100000 in
theorem j_become (l : Launch) (D : va_G) (cI cJ cS : ClassId) (m0 ms mb mw mm : Nat) (f b w mi : Nat → Int32) (kp : Nat) (k j : Nat) (hk : k + 4 < 2128) (hj : j + 4 < 2128) : xk_Wr l yX5_become wsX5_become ({ frames := 1, cells := 0, slots := 0, locals := 26 }) D vwCl (xt cI cJ cS) ([(m0, .inr (4, [.ref ms, .ref mb, .int (nI kp), .ref mw, .ref mm])), (ms, .inl (cI, 2128, .inl f)), (mb, .inl (cI, 2128, .inl b)), (mw, .inl (cI, 51072, .inl w)), (mm, .inl (cI, 320, .inl mi))]) [.ref m0, .int (nI k), .int (nI j)] ([(m0, .inr (4, [.ref ms, .ref mb, .int (nI kp), .ref mw, .ref mm])), (ms, .inl (cI, 2128, .inl (u5 f k (f j) (f (j + 1)) (f (j + 2)) (f (j + 3)) (f (j + 4))))), (mb, .inl (cI, 2128, .inl b)), (mw, .inl (cI, 51072, .inl w)), (mm, .inl (cI, 320, .inl mi))]) none := by
  refine xk_wr (cc := cX5_become) (maxL := 3) (ret := none) (by decide) rfl (Nat.le_of_ble_eq_true rfl) (fun p e s m below meth c ls hx hb hr hlk hml hown hts hl hP hK hN hD hS => ?_)
  replace hl : lv_has ls 3 [(0, .ref m0), (1, .int (nI k)), (2, .int (nI j))] := hl
  have hiX5 : ∀ w ∈ u_ws RX5 TX5 5, w ∈ wsX5_become := by decide +kernel
  refine lv_aload_n hx hb dX5_become_0 rfl (lv_at hl 0 rfl) ?_
  refine lv_iload_n hx hb dX5_become_1 rfl (lv_at hl 1 rfl) ?_
  refine lv_aload_n hx hb dX5_become_2 rfl (lv_at hl 0 rfl) ?_
  refine va_get (D := D) (ci := 4) (v := .ref ms) (C := RX5) (T := TX5) (N := 5) hx hb hts hiX5 hown hK hP 0 rfl rfl 0 (by decide) (hts (.fieldLink RX5 7 "PointerSweepModel" "st" "[I") (by decide +kernel)) (fun _ h9 => h9) rfl dX5_become_3 ?_
  refine lv_iload_n hx hb dX5_become_6 rfl (lv_at hl 2 rfl) ?_
  refine lv_iconst (v := 0) hx hb dX5_become_7 (by decide) ?_
  refine lv_iadd hx hb dX5_become_8 ?_
  refine xa_iald hx hb hK hP 1 0 rfl rfl j (nI_add j 0) (by omega) (by decide) dX5_become_9 ?_
  refine lv_aload_n hx hb dX5_become_10 rfl (lv_at hl 0 rfl) ?_
  refine va_get (D := D) (ci := 4) (v := .ref ms) (C := RX5) (T := TX5) (N := 5) hx hb hts hiX5 hown hK hP 0 rfl rfl 0 (by decide) (hts (.fieldLink RX5 7 "PointerSweepModel" "st" "[I") (by decide +kernel)) (fun _ h9 => h9) rfl dX5_become_11 ?_
  refine lv_iload_n hx hb dX5_become_14 rfl (lv_at hl 2 rfl) ?_
  refine lv_iconst (v := 1) hx hb dX5_become_15 (by decide) ?_
  refine lv_iadd hx hb dX5_become_16 ?_
  refine xa_iald hx hb hK hP 1 0 rfl rfl (j + 1) (nI_add j 1) (by omega) (by decide) dX5_become_17 ?_
  refine lv_aload_n hx hb dX5_become_18 rfl (lv_at hl 0 rfl) ?_
  refine va_get (D := D) (ci := 4) (v := .ref ms) (C := RX5) (T := TX5) (N := 5) hx hb hts hiX5 hown hK hP 0 rfl rfl 0 (by decide) (hts (.fieldLink RX5 7 "PointerSweepModel" "st" "[I") (by decide +kernel)) (fun _ h9 => h9) rfl dX5_become_19 ?_
  refine lv_iload_n hx hb dX5_become_22 rfl (lv_at hl 2 rfl) ?_
  refine lv_iconst (v := 2) hx hb dX5_become_23 (by decide) ?_
  refine lv_iadd hx hb dX5_become_24 ?_
  refine xa_iald hx hb hK hP 1 0 rfl rfl (j + 2) (nI_add j 2) (by omega) (by decide) dX5_become_25 ?_
  refine lv_aload_n hx hb dX5_become_26 rfl (lv_at hl 0 rfl) ?_
  refine va_get (D := D) (ci := 4) (v := .ref ms) (C := RX5) (T := TX5) (N := 5) hx hb hts hiX5 hown hK hP 0 rfl rfl 0 (by decide) (hts (.fieldLink RX5 7 "PointerSweepModel" "st" "[I") (by decide +kernel)) (fun _ h9 => h9) rfl dX5_become_27 ?_
  refine lv_iload_n hx hb dX5_become_30 rfl (lv_at hl 2 rfl) ?_
  refine lv_iconst (v := 3) hx hb dX5_become_31 (by decide) ?_
  refine lv_iadd hx hb dX5_become_32 ?_
  refine xa_iald hx hb hK hP 1 0 rfl rfl (j + 3) (nI_add j 3) (by omega) (by decide) dX5_become_33 ?_
  refine lv_aload_n hx hb dX5_become_34 rfl (lv_at hl 0 rfl) ?_
  refine va_get (D := D) (ci := 4) (v := .ref ms) (C := RX5) (T := TX5) (N := 5) hx hb hts hiX5 hown hK hP 0 rfl rfl 0 (by decide) (hts (.fieldLink RX5 7 "PointerSweepModel" "st" "[I") (by decide +kernel)) (fun _ h9 => h9) rfl dX5_become_35 ?_
  refine lv_iload_n hx hb dX5_become_38 rfl (lv_at hl 2 rfl) ?_
  refine lv_iconst (v := 4) hx hb dX5_become_39 (by decide) ?_
  refine lv_iadd hx hb dX5_become_40 ?_
  refine xa_iald hx hb hK hP 1 0 rfl rfl (j + 4) (nI_add j 4) (by omega) (by decide) dX5_become_41 ?_
  refine xk_callW (ws' := [(m0, .inr (4, [.ref ms, .ref mb, .int (nI kp), .ref mw, .ref mm])), (ms, .inl (cI, 2128, .inl (u5 f k (f j) (f (j + 1)) (f (j + 2)) (f (j + 3)) (f (j + 4))))), (mb, .inl (cI, 2128, .inl b)), (mw, .inl (cI, 51072, .inl w)), (mm, .inl (cI, 320, .inl mi))]) (va_runV (As := [.int (nI k), .int (f j), .int (f (j + 1)), .int (f (j + 2)), .int (f (j + 3)), .int (f (j + 4))]) (rest := []) ⟨hx, hb, hml, hown, hts⟩ (j_set l D cI cJ cS m0 ms mb mw mm f b w mi kp k hk (f j) (f (j + 1)) (f (j + 2)) (f (j + 3)) (f (j + 4))) (cwV 6 hts gX5_become_X5_set rfl rfl rfl (by decide +kernel) ⟨Nat.le_of_ble_eq_true rfl, Nat.le_of_ble_eq_true rfl⟩) (xk_preVw hK hN hP hD [0, 1, 2, 3, 4] rfl rfl (ci := 4) rfl 0 rfl) rfl rfl hl.1 rfl (lv_room (Nat.le_of_ble_eq_true rfl)) dX5_become_42 ⟨Nat.zero_le _, Nat.zero_le _⟩) hP hD hS [0, 1, 2, 3, 4] rfl rfl rfl (fun H locs hP hD hS => ?_)
  exact xk_vretW hx hb hr hlk hP hS rfl dX5_become_45
