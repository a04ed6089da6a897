set_option maxHeartbeats 4000000 in
set_option maxRecDepth 100000 in
theorem j_rangeSize (l : Launch) (D : va_G) (cI cJ cS : ClassId) (m0 ms mb mw mm : Nat) (v : xV) (b w mi : Nat → Int32) (kp : Nat) (fi : Int32) : xk_Rd l yX5_rangeSize wsX5_rangeSize ({ frames := 0, cells := 0, slots := 0, locals := 0 }) D vwCl (xt cI cJ cS) ([(m0, .inr (4, [.ref ms, .ref mb, .int (nI kp), .ref mw, .ref mm])), (ms, .inl (cI, 2128, .inl (xf v))), (mb, .inl (cI, 2128, .inl b)), (mw, .inl (cI, 51072, .inl w)), (mm, .inl (cI, 320, .inl mi))]) [.ref m0, .int fi] (some (.int (x_rs v.2.2.2.1 v.2.2.2.2.2.2.1 fi))) := by
  refine xk_rd (cc := cX5_rangeSize) (maxL := 4) (ret := (some .int)) (by decide) rfl (Nat.le_of_ble_eq_true rfl) (fun p e s m below meth c ls hx hb hr hlk hml hown hts hl hP hK hN => ?_)
  replace hl : lv_has ls 4 [(0, .ref m0), (1, .int fi)] := hl
  have hiX5 : ∀ w ∈ u_ws RX5 TX5 5, w ∈ wsX5_rangeSize := by decide +kernel
  have loop : ∀ (n i : Nat) (ls : Array Slot), i + n = 256 → lv_has ls 4 [(3, .int (nI i)), (2, .int (x_acc (fun i => xb (decide (x_fi v.2.2.2.1 v.2.2.2.2.2.2.1 i = fi))) 0 i)), (0, .ref m0), (1, .int fi)] → W p l e ({ frames := 0, cells := 0, slots := 0, locals := 0 }) s m ([.ref m0, .int fi]).toArray below meth c s.heap [] 0 0 (MQ below (xk_R (some (.int (x_rs v.2.2.2.1 v.2.2.2.2.2.2.1 fi)))) ([.ref m0, .int fi]).toArray s 0 0 (fun _ => False)) (F0 m 4 ls []) := by
    intro n
    induction n with
    | zero =>
      intro i ls hn hl
      have hin : i = 256 := hn
      refine lv_iload_n hx hb dX5_rangeSize_4 rfl (lv_at hl 0 rfl) ?_
      refine lv_sipush (v := 256) hx hb dX5_rangeSize_5 (by decide) ?_
      refine lv_icmp_ge (tgt := 39) hx hb dX5_rangeSize_8 (by decide) (fun c_8 => ?_) (fun c_8 => ?_)
      · skip
        refine lv_iload_n hx hb dX5_rangeSize_39 rfl (lv_at hl 1 rfl) ?_
        exact xk_iretR hx hb hr hlk (by rw [hin]; rfl) dX5_rangeSize_40
      · skip
        exact absurd (nI_le (a := 256) (b := i) (by omega) (by omega)) c_8
    | succ n ih =>
      intro i ls hn hl
      refine lv_iload_n hx hb dX5_rangeSize_4 rfl (lv_at hl 0 rfl) ?_
      refine lv_sipush (v := 256) hx hb dX5_rangeSize_5 (by decide) ?_
      refine lv_icmp_ge (tgt := 39) hx hb dX5_rangeSize_8 (by decide) (fun c_8 => ?_) (fun c_8 => ?_)
      · skip
        exact absurd (xn_le_of (a := 256) (by decide) (by omega) c_8) (by omega)
      · skip
        refine lv_iload_n hx hb dX5_rangeSize_11 rfl (lv_at hl 1 rfl) ?_
        refine lv_aload_n hx hb dX5_rangeSize_12 rfl (lv_at hl 2 rfl) ?_
        refine va_get (D := D) (ci := 4) (v := .ref ms) (C := RX5) (T := TX5) (N := 5) hx hb hts hiX5 hown hK hP 0 rfl rfl 0 (by decide) (hts (.fieldLink RX5 7 "PointerSweepModel" "st" "[I") (by decide +kernel)) (fun _ h9 => h9) rfl dX5_rangeSize_13 ?_
        refine lv_sipush (v := 1832) hx hb dX5_rangeSize_16 (by decide) ?_
        refine lv_iload_n hx hb dX5_rangeSize_19 rfl (lv_at hl 0 rfl) ?_
        refine lv_iadd hx hb dX5_rangeSize_20 ?_
        refine xa_iald hx hb hK hP 1 0 rfl rfl (1832 + i) (nI_add 1832 i) (by omega) (by decide) dX5_rangeSize_21 ?_
        refine lv_topi (fun y ey => ?_)
        obtain rfl : y = x_fi v.2.2.2.1 v.2.2.2.2.2.2.1 i := ey.trans (xf_f v (by omega))
        refine lv_iload_n hx hb dX5_rangeSize_22 rfl (lv_at hl 3 rfl) ?_
        refine lv_icmp_ne (tgt := 30) hx hb dX5_rangeSize_23 (by decide) (fun c_23 => ?_) (fun c_23 => ?_)
        · skip
          refine lv_iconst (v := 0) hx hb dX5_rangeSize_30 (by decide) ?_
          refine lv_iadd hx hb dX5_rangeSize_31 ?_
          refine lv_topi (fun y ey => ?_)
          obtain rfl : y = x_acc (fun i => xb (decide (x_fi v.2.2.2.1 v.2.2.2.2.2.2.1 i = fi))) 0 (i + 1) := ey.trans (x_acc0_f (g := fun i => decide (x_fi v.2.2.2.1 v.2.2.2.2.2.2.1 i = fi)) (fun _ => rfl) (decide_eq_false c_23))
          refine lv_istore_n (lv' := [(2, .int (x_acc (fun i => xb (decide (x_fi v.2.2.2.1 v.2.2.2.2.2.2.1 i = fi))) 0 (i + 1))), (3, .int (nI i)), (0, .ref m0), (1, .int fi)]) hx hb dX5_rangeSize_32 rfl hl (by decide) rfl (fun ls hl => ?_)
          refine lv_iinc (v := (nI (i + 1))) (lv' := [(3, .int (nI (i + 1))), (2, .int (x_acc (fun i => xb (decide (x_fi v.2.2.2.1 v.2.2.2.2.2.2.1 i = fi))) 0 (i + 1))), (0, .ref m0), (1, .int fi)]) hx hb dX5_rangeSize_33 hl (k := 1) rfl (nI_1 i) (by decide) rfl (fun ls hl => ?_)
          refine lv_goto (tgt := 4) hx hb dX5_rangeSize_36 (by decide) ?_
          exact ih (i + 1) ls (by omega) (lv_sub hl [0, 1, 2, 3] rfl)
        · skip
          refine lv_iconst (v := 1) hx hb dX5_rangeSize_26 (by decide) ?_
          refine lv_goto (tgt := 31) hx hb dX5_rangeSize_27 (by decide) ?_
          refine lv_iadd hx hb dX5_rangeSize_31 ?_
          refine lv_topi (fun y ey => ?_)
          obtain rfl : y = x_acc (fun i => xb (decide (x_fi v.2.2.2.1 v.2.2.2.2.2.2.1 i = fi))) 0 (i + 1) := ey.trans (x_acc0_t (g := fun i => decide (x_fi v.2.2.2.1 v.2.2.2.2.2.2.1 i = fi)) (fun _ => rfl) (decide_eq_true c_23))
          refine lv_istore_n (lv' := [(2, .int (x_acc (fun i => xb (decide (x_fi v.2.2.2.1 v.2.2.2.2.2.2.1 i = fi))) 0 (i + 1))), (3, .int (nI i)), (0, .ref m0), (1, .int fi)]) hx hb dX5_rangeSize_32 rfl hl (by decide) rfl (fun ls hl => ?_)
          refine lv_iinc (v := (nI (i + 1))) (lv' := [(3, .int (nI (i + 1))), (2, .int (x_acc (fun i => xb (decide (x_fi v.2.2.2.1 v.2.2.2.2.2.2.1 i = fi))) 0 (i + 1))), (0, .ref m0), (1, .int fi)]) hx hb dX5_rangeSize_33 hl (k := 1) rfl (nI_1 i) (by decide) rfl (fun ls hl => ?_)
          refine lv_goto (tgt := 4) hx hb dX5_rangeSize_36 (by decide) ?_
          exact ih (i + 1) ls (by omega) (lv_sub hl [0, 1, 2, 3] rfl)
  refine lv_iconst (v := 0) hx hb dX5_rangeSize_0 (by decide) ?_
  refine lv_topi (fun y ey => ?_)
  obtain rfl : y = x_acc (fun i => xb (decide (x_fi v.2.2.2.1 v.2.2.2.2.2.2.1 i = fi))) 0 0 := ey.trans rfl
  refine lv_istore_n (lv' := [(2, .int (x_acc (fun i => xb (decide (x_fi v.2.2.2.1 v.2.2.2.2.2.2.1 i = fi))) 0 0)), (0, .ref m0), (1, .int fi)]) hx hb dX5_rangeSize_1 rfl hl (by decide) rfl (fun ls hl => ?_)
  refine lv_iconst (v := 0) hx hb dX5_rangeSize_2 (by decide) ?_
  refine lv_istore_n (lv' := [(3, .int 0), (2, .int (x_acc (fun i => xb (decide (x_fi v.2.2.2.1 v.2.2.2.2.2.2.1 i = fi))) 0 0)), (0, .ref m0), (1, .int fi)]) hx hb dX5_rangeSize_3 rfl hl (by decide) rfl (fun ls hl => ?_)
  exact loop 256 0 ls rfl (lv_sub hl [0, 1, 2, 3] rfl)
set_option maxHeartbeats 4000000 in
set_option maxRecDepth 100000 in
theorem j_areSeen (l : Launch) (D : va_G) (cI cJ cS : ClassId) (m0 ms mb mw mm : Nat) (v : xV) (b w mi : Nat → Int32) (kp : Nat) (hse : v.2.2.2.2.2.2.2.2.1 ≤ 16) : xk_Rd l yX5_areSeen wsX5_areSeen ({ frames := 0, cells := 0, slots := 0, locals := 0 }) D vwCl (xt cI cJ cS) ([(m0, .inr (4, [.ref ms, .ref mb, .int (nI kp), .ref mw, .ref mm])), (ms, .inl (cI, 2128, .inl (xf v))), (mb, .inl (cI, 2128, .inl b)), (mw, .inl (cI, 51072, .inl w)), (mm, .inl (cI, 320, .inl mi))]) [.ref m0] (some (.int (xb (decide (16 ≤ v.2.2.2.2.2.2.2.2.1))))) := by
  refine xk_rd (cc := cX5_areSeen) (maxL := 3) (ret := (some .boolean)) (by decide) rfl (Nat.le_of_ble_eq_true rfl) (fun p e s m below meth c ls hx hb hr hlk hml hown hts hl hP hK hN => ?_)
  replace hl : lv_has ls 3 [(0, .ref m0)] := hl
  have hiX5 : ∀ w ∈ u_ws RX5 TX5 5, w ∈ wsX5_areSeen := by decide +kernel
  have loop : ∀ (n i : Nat) (ls : Array Slot), i + n = 16 → lv_has ls 3 [(2, .int (nI i)), (1, .int (xb (x_all (fun p => decide (p < v.2.2.2.2.2.2.2.2.1)) i))), (0, .ref m0)] → W p l e ({ frames := 0, cells := 0, slots := 0, locals := 0 }) s m ([.ref m0]).toArray below meth c s.heap [] 0 0 (MQ below (xk_R (some (.int (xb (decide (16 ≤ v.2.2.2.2.2.2.2.2.1)))))) ([.ref m0]).toArray s 0 0 (fun _ => False)) (F0 m 4 ls []) := by
    intro n
    induction n with
    | zero =>
      intro i ls hn hl
      have hin : i = 16 := hn
      refine lv_iload_n hx hb dX5_areSeen_4 rfl (lv_at hl 0 rfl) ?_
      refine lv_bipush (v := 16) hx hb dX5_areSeen_5 (by decide) ?_
      refine lv_icmp_ge (tgt := 40) hx hb dX5_areSeen_7 (by decide) (fun c_7 => ?_) (fun c_7 => ?_)
      · skip
        refine lv_iload_n hx hb dX5_areSeen_40 rfl (lv_at hl 1 rfl) ?_
        exact xk_zretR hx hb hr hlk (xb_nar _) (by rw [hin, x_all_seen hse]) dX5_areSeen_41
      · skip
        exact absurd (nI_le (a := 16) (b := i) (by omega) (by omega)) c_7
    | succ n ih =>
      intro i ls hn hl
      refine lv_iload_n hx hb dX5_areSeen_4 rfl (lv_at hl 0 rfl) ?_
      refine lv_bipush (v := 16) hx hb dX5_areSeen_5 (by decide) ?_
      refine lv_icmp_ge (tgt := 40) hx hb dX5_areSeen_7 (by decide) (fun c_7 => ?_) (fun c_7 => ?_)
      · skip
        exact absurd (xn_le_of (a := 16) (by decide) (by omega) c_7) (by omega)
      · skip
        refine lv_iload_n hx hb dX5_areSeen_10 rfl (lv_at hl 1 rfl) ?_
        refine lv_if_eq (tgt := 32) hx hb dX5_areSeen_11 (by decide) (fun c_11 => ?_) (fun c_11 => ?_)
        · skip
          refine lv_iconst (v := 0) hx hb dX5_areSeen_32 (by decide) ?_
          refine lv_topi (fun y ey => ?_)
          obtain rfl : y = xb (x_all (fun p => decide (p < v.2.2.2.2.2.2.2.2.1)) (i + 1)) := ey.trans (xb_00 (by show ((x_all (fun p => decide (p < v.2.2.2.2.2.2.2.2.1)) i) && _) = false; rw [xb_eq c_11]; rfl))
          refine lv_istore_n (lv' := [(1, .int (xb (x_all (fun p => decide (p < v.2.2.2.2.2.2.2.2.1)) (i + 1)))), (2, .int (nI i)), (0, .ref m0)]) hx hb dX5_areSeen_33 rfl hl (by decide) rfl (fun ls hl => ?_)
          refine lv_iinc (v := (nI (i + 1))) (lv' := [(2, .int (nI (i + 1))), (1, .int (xb (x_all (fun p => decide (p < v.2.2.2.2.2.2.2.2.1)) (i + 1)))), (0, .ref m0)]) hx hb dX5_areSeen_34 hl (k := 1) rfl (nI_1 i) (by decide) rfl (fun ls hl => ?_)
          refine lv_goto (tgt := 4) hx hb dX5_areSeen_37 (by decide) ?_
          exact ih (i + 1) ls (by omega) (lv_sub hl [0, 1, 2] rfl)
        · skip
          refine lv_aload_n hx hb dX5_areSeen_14 rfl (lv_at hl 2 rfl) ?_
          refine va_get (D := D) (ci := 4) (v := .ref ms) (C := RX5) (T := TX5) (N := 5) hx hb hts hiX5 hown hK hP 0 rfl rfl 0 (by decide) (hts (.fieldLink RX5 7 "PointerSweepModel" "st" "[I") (by decide +kernel)) (fun _ h9 => h9) rfl dX5_areSeen_15 ?_
          refine lv_sipush (v := 2088) hx hb dX5_areSeen_18 (by decide) ?_
          refine lv_iload_n hx hb dX5_areSeen_21 rfl (lv_at hl 0 rfl) ?_
          refine lv_iadd hx hb dX5_areSeen_22 ?_
          refine xa_iald hx hb hK hP 1 0 rfl rfl (2088 + i) (nI_add 2088 i) (by omega) (by decide) dX5_areSeen_23 ?_
          refine lv_topi (fun y ey => ?_)
          obtain rfl : y = xb (decide (i < v.2.2.2.2.2.2.2.2.1)) := ey.trans (xf_s v (by omega))
          refine lv_iconst (v := 1) hx hb dX5_areSeen_24 (by decide) ?_
          refine lv_icmp_ne (tgt := 32) hx hb dX5_areSeen_25 (by decide) (fun c_25 => ?_) (fun c_25 => ?_)
          · skip
            refine lv_iconst (v := 0) hx hb dX5_areSeen_32 (by decide) ?_
            refine lv_topi (fun y ey => ?_)
            obtain rfl : y = xb (x_all (fun p => decide (p < v.2.2.2.2.2.2.2.2.1)) (i + 1)) := ey.trans (xb_00 (by show (_ && decide (i < v.2.2.2.2.2.2.2.2.1)) = false; cases ho : decide (i < v.2.2.2.2.2.2.2.2.1) with | false => exact Bool.and_false _ | true => rw [ho] at c_25; exact absurd rfl c_25))
            refine lv_istore_n (lv' := [(1, .int (xb (x_all (fun p => decide (p < v.2.2.2.2.2.2.2.2.1)) (i + 1)))), (2, .int (nI i)), (0, .ref m0)]) hx hb dX5_areSeen_33 rfl hl (by decide) rfl (fun ls hl => ?_)
            refine lv_iinc (v := (nI (i + 1))) (lv' := [(2, .int (nI (i + 1))), (1, .int (xb (x_all (fun p => decide (p < v.2.2.2.2.2.2.2.2.1)) (i + 1)))), (0, .ref m0)]) hx hb dX5_areSeen_34 hl (k := 1) rfl (nI_1 i) (by decide) rfl (fun ls hl => ?_)
            refine lv_goto (tgt := 4) hx hb dX5_areSeen_37 (by decide) ?_
            exact ih (i + 1) ls (by omega) (lv_sub hl [0, 1, 2] rfl)
          · skip
            refine lv_iconst (v := 1) hx hb dX5_areSeen_28 (by decide) ?_
            refine lv_goto (tgt := 33) hx hb dX5_areSeen_29 (by decide) ?_
            refine lv_topi (fun y ey => ?_)
            obtain rfl : y = xb (x_all (fun p => decide (p < v.2.2.2.2.2.2.2.2.1)) (i + 1)) := ey.trans (xb_1 (by show (_ && decide (i < v.2.2.2.2.2.2.2.2.1)) = true; rw [xb_ne c_11, xb_one.mp c_25]; rfl))
            refine lv_istore_n (lv' := [(1, .int (xb (x_all (fun p => decide (p < v.2.2.2.2.2.2.2.2.1)) (i + 1)))), (2, .int (nI i)), (0, .ref m0)]) hx hb dX5_areSeen_33 rfl hl (by decide) rfl (fun ls hl => ?_)
            refine lv_iinc (v := (nI (i + 1))) (lv' := [(2, .int (nI (i + 1))), (1, .int (xb (x_all (fun p => decide (p < v.2.2.2.2.2.2.2.2.1)) (i + 1)))), (0, .ref m0)]) hx hb dX5_areSeen_34 hl (k := 1) rfl (nI_1 i) (by decide) rfl (fun ls hl => ?_)
            refine lv_goto (tgt := 4) hx hb dX5_areSeen_37 (by decide) ?_
            exact ih (i + 1) ls (by omega) (lv_sub hl [0, 1, 2] rfl)
  refine lv_iconst (v := 1) hx hb dX5_areSeen_0 (by decide) ?_
  refine lv_topi (fun y ey => ?_)
  obtain rfl : y = xb (x_all (fun p => decide (p < v.2.2.2.2.2.2.2.2.1)) 0) := ey.trans rfl
  refine lv_istore_n (lv' := [(1, .int (xb (x_all (fun p => decide (p < v.2.2.2.2.2.2.2.2.1)) 0))), (0, .ref m0)]) hx hb dX5_areSeen_1 rfl hl (by decide) rfl (fun ls hl => ?_)
  refine lv_iconst (v := 0) hx hb dX5_areSeen_2 (by decide) ?_
  refine lv_istore_n (lv' := [(2, .int 0), (1, .int (xb (x_all (fun p => decide (p < v.2.2.2.2.2.2.2.2.1)) 0))), (0, .ref m0)]) hx hb dX5_areSeen_3 rfl hl (by decide) rfl (fun ls hl => ?_)
  exact loop 16 0 ls rfl (lv_sub hl [0, 1, 2] rfl)
