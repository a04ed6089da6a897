theorem x_sti_ok {v : xV} (h : ∀ k, xw_ok2 (v.1 k)) (i : Nat) : ∀ k, xw_ok2 ((x_sti v i).1 k) := by
  intro k
  show xw_ok2 (x_cl v.2.2.2.2.2.1 v.1 _ _ k)
  simp only [x_cl]
  split
  · unfold x_lk
    split
    · trivial
    · exact h k
  · exact h k
set_option maxHeartbeats 4000000 in
set_option maxRecDepth 100000 in
theorem y_step (l : Launch) (D : va_G) (cI cJ cS : ClassId) (m0 ms mb mw mm : Nat) (v : xV) (b w mi : Nat → Int32) (kp : Nat) (hkp : kp ≤ 24) (hv : x_ok v) (hX : v.2.2.2.2.2.2.2.1 = false → ∀ k, v.2.2.2.2.2.1 k = false) (hs0 : v.2.2.2.2.2.2.2.1 = false → v.2.2.2.2.2.2.2.2.1 = 0)  (n : Int32) : xk_Wr l yX5_step wsX5_step ({ frames := 3, cells := 0, slots := 0, locals := 72 }) D vwCl (xt cI cJ cS) (xm cI m0 ms mb mw mm v b w mi kp) [.ref m0, .int n] (xmo cI m0 ms mb mw mm v b w mi kp (sp_step v n).2) (some (.int (sp_step v n).1)) := by
  refine xk_wr2 (cc := cX5_step) (maxL := 5) (ret := (some .int)) (by decide) rfl (Nat.le_of_ble_eq_true rfl) (fun p e s m below meth c ls W0v W1v hW1 hx hb hr hlk hml hown hts hl hP hK hN hD hS => ?_)
  replace hl : lv_has ls 5 [(0, .ref m0), (1, .int n)] := hl
  have hiX5 : ∀ w ∈ u_ws RX5 TX5 5, w ∈ wsX5_step := by decide +kernel
  replace hP : va_P D vwCl ([(m0, .inr (4, [.ref ms, .ref mb, .int (nI kp), .ref mw, .ref mm])), (ms, .inl (cI, 2128, .inl (xf v))), (mb, .inl (cI, 2128, .inl b)), (mw, .inl (cI, 51072, .inl w)), (mm, .inl (cI, 320, .inl mi))]) s.heap := hP
  replace hD : va_D _ ([(m0, .inr (4, [.ref ms, .ref mb, .int (nI kp), .ref mw, .ref mm])), (ms, .inl (cI, 2128, .inl (xf v))), (mb, .inl (cI, 2128, .inl b)), (mw, .inl (cI, 51072, .inl w)), (mm, .inl (cI, 320, .inl mi))]) := hD
  refine lv_iload_n hx hb dX5_step_0 rfl (lv_at hl 1 rfl) ?_
  refine lv_i2l hx hb dX5_step_1 rfl ?_
  refine lv_lconst (v := 1) hx hb dX5_step_2 (by decide) ?_
  refine lv_ldc2 hx hb hown (hts (.constantLong RX5 87 (16)) (by decide +kernel)) dX5_step_3 ?_
  refine xk_callR (va_runS (As := [.long ((n : Int32).toInt64), .long 1, .long 16]) (rest := []) ⟨hx, hb, hml, hown, hts⟩ (j_in l D cI cJ cS ((n : Int32).toInt64) 1 16) (va_cwS 3 hts gX5_step_X5_in rfl rfl rfl (by decide +kernel) ⟨Nat.le_of_ble_eq_true rfl, Nat.le_of_ble_eq_true rfl⟩) (xk_preSr hK hN hP [] rfl) rfl rfl hl.1 rfl (lv_room (Nat.le_of_ble_eq_true rfl)) dX5_step_6 ⟨Nat.zero_le _, Nat.zero_le _⟩) ?_
  refine lv_if_ne (tgt := 14) hx hb dX5_step_9 (by decide) (fun c_9 => ?_) (fun c_9 => ?_)
  · skip
    refine lv_aload_n hx hb dX5_step_14 rfl (lv_at hl 0 rfl) ?_
    refine va_get (D := D) (ci := 4) (v := .ref ms) (C := RX5) (T := TX5) (N := 5) hx hb hts hiX5 hown hK hP 0 rfl rfl 0 (by decide) (hts (.fieldLink RX5 7 "PointerSweepModel" "st" "[I") (by decide +kernel)) (fun _ h9 => h9) rfl dX5_step_15 ?_
    refine lv_sipush (v := 2120) hx hb dX5_step_18 (by decide) ?_
    refine xa_iald hx hb hK hP 1 0 rfl rfl 2120 rfl (by decide) (by decide) dX5_step_21 ?_
    refine lv_topi (fun y ey => ?_)
    obtain rfl : y = xb v.2.2.2.2.2.2.2.1 := ey.trans (xf_o v)
    refine lv_if_ne (tgt := 28) hx hb dX5_step_22 (by decide) (fun c_22 => ?_) (fun c_22 => ?_)
    · skip
      have hcond := (m_1n (n := n) (hi := 16) (M := 16) rfl).mp (xb_ne c_9)
      obtain ⟨nk, hn1, hn2, en, hxn⟩ := x_1n (M := 16) (m := 16) rfl hcond.1 hcond.2
      rw [en] at hl
      refine lv_aload_n hx hb dX5_step_28 rfl (lv_at hl 0 rfl) ?_
      refine xk_callW (ws' := [(m0, .inr (4, [.ref ms, .ref mb, .int (nI kp), .ref mw, .ref mm])), (ms, .inl (cI, 2128, .inl (xf v))), (mb, .inl (cI, 2128, .inl (xf v))), (mw, .inl (cI, 51072, .inl w)), (mm, .inl (cI, 320, .inl mi))]) (va_runV (As := []) (rest := []) ⟨hx, hb, hml, hown, hts⟩ (j_begin l D cI cJ cS m0 ms mb mw mm (xf v) b w mi kp ) (cwV 0 hts gX5_step_X5_begin rfl rfl rfl (by decide +kernel) ⟨Nat.le_of_ble_eq_true rfl, Nat.le_of_ble_eq_true rfl⟩) (xk_preVw hK hN hP hD [0, 1, 2, 3, 4] rfl rfl (ci := 4) rfl 0 rfl) rfl rfl hl.1 rfl (lv_room (Nat.le_of_ble_eq_true rfl)) dX5_step_29 ⟨Nat.zero_le _, Nat.zero_le _⟩) hP hD hS [0, 1, 2, 3, 4] rfl rfl rfl (fun H locs hP hD hS => ?_)
      refine lv_iload_n hx hb dX5_step_32 rfl (lv_at hl 1 rfl) ?_
      refine lv_istore_n (lv' := [(2, .int (nI nk)), (0, .ref m0), (1, .int (nI nk))]) hx hb dX5_step_33 rfl hl (by decide) rfl (fun ls hl => ?_)
      refine lv_iconst (v := 0) hx hb dX5_step_34 (by decide) ?_
      refine lv_topi (fun y ey => ?_)
      obtain rfl : y = x_cn v.2.2.2.2.2.1 v.1 (16 * v.2.2.2.2.2.2.2.2.1) (16 * v.2.2.2.2.2.2.2.2.1) := ey.trans (x_acc_0 _ _)
      refine lv_istore_n (lv' := [(3, .int (x_cn v.2.2.2.2.2.1 v.1 (16 * v.2.2.2.2.2.2.2.2.1) (16 * v.2.2.2.2.2.2.2.2.1))), (2, .int (nI nk)), (0, .ref m0), (1, .int (nI nk))]) hx hb dX5_step_35 rfl hl (by decide) rfl (fun ls hl => ?_)
      refine lv_iconst (v := 0) hx hb dX5_step_36 (by decide) ?_
      refine lv_istore (lv' := [(4, .int 0), (3, .int (x_cn v.2.2.2.2.2.1 v.1 (16 * v.2.2.2.2.2.2.2.2.1) (16 * v.2.2.2.2.2.2.2.2.1))), (2, .int (nI nk)), (0, .ref m0), (1, .int (nI nk))]) hx hb dX5_step_37 hl (by decide) rfl (fun ls hl => ?_)
      have hse := hv.2.2
      have loopB : ∀ (n9 i : Nat) (H : Heap) (locs : List Loc) (ls : Array Slot), v.2.2.2.2.2.2.2.2.1 ≤ i ∧ i - v.2.2.2.2.2.2.2.2.1 ≤ nk ∧ i + n9 = 16 → va_P D vwCl ([(m0, .inr (4, [.ref ms, .ref mb, .int (nI kp), .ref mw, .ref mm])), (ms, .inl (cI, 2128, .inl (xf (x_sti v i)))), (mb, .inl (cI, 2128, .inl (xf v))), (mw, .inl (cI, 51072, .inl w)), (mm, .inl (cI, 320, .inl mi))]) H → va_D (xk_in W0v) ([(m0, .inr (4, [.ref ms, .ref mb, .int (nI kp), .ref mw, .ref mm])), (ms, .inl (cI, 2128, .inl (xf (x_sti v i)))), (mb, .inl (cI, 2128, .inl (xf v))), (mw, .inl (cI, 51072, .inl w)), (mm, .inl (cI, 320, .inl mi))]) → va_S (xk_in W0v) s.heap H locs → lv_has ls 5 [(4, .int (nI i)), (3, .int (x_cn v.2.2.2.2.2.1 v.1 (16 * v.2.2.2.2.2.2.2.2.1) (16 * i))), (2, .int (nI (nk - (i - v.2.2.2.2.2.2.2.2.1)))), (0, .ref m0)] → W p l e ({ frames := 3, cells := 0, slots := 0, locals := 72 }) s m ([.ref m0, .int n]).toArray below meth c H locs 0 0 (MQ below (xk_W D vwCl W0v W1v (some (.int (sp_step v n).1))) ([.ref m0, .int n]).toArray s 0 0 (xk_in W0v)) (F0 m 39 ls []) := by
        intro n9
        induction n9 with
        | zero =>
          intro i H locs ls hn hP hD hS hl
          obtain ⟨hi, hk9, hn⟩ := hn
          have hin : i = 16 := hn
          refine lv_iload hx hb dX5_step_39 (lv_at hl 0 rfl) ?_
          refine lv_bipush (v := 16) hx hb dX5_step_41 (by decide) ?_
          refine lv_icmp_ge (tgt := 111) hx hb dX5_step_43 (by decide) (fun c_43 => ?_) (fun c_43 => ?_)
          · skip
            refine lv_aload_n hx hb dX5_step_111 rfl (lv_at hl 3 rfl) ?_
            refine va_get (D := D) (ci := 4) (v := .ref ms) (C := RX5) (T := TX5) (N := 5) hx hb hts hiX5 hown hK hP 0 rfl rfl 0 (by decide) (hts (.fieldLink RX5 7 "PointerSweepModel" "st" "[I") (by decide +kernel)) (fun _ h9 => h9) rfl dX5_step_112 ?_
            refine lv_sipush (v := 2121) hx hb dX5_step_115 (by decide) ?_
            refine lv_dup2_11 hx hb dX5_step_118 rfl rfl ?_
            refine xa_iald hx hb hK hP 1 0 rfl rfl (2121 + 0) rfl (by decide) (by decide) dX5_step_119 ?_
            refine lv_iload_n hx hb dX5_step_120 rfl (lv_at hl 1 rfl) ?_
            refine lv_iadd hx hb dX5_step_121 ?_
            refine xa_iast (ws' := [(m0, .inr (4, [.ref ms, .ref mb, .int (nI kp), .ref mw, .ref mm])), (ms, .inl (cI, 2128, .inl (upd (xf (x_sti v i)) (2121 + 0) (((xf (x_sti v i)) (2121 + 0)) + (x_cn v.2.2.2.2.2.1 v.1 (16 * v.2.2.2.2.2.2.2.2.1) (16 * i)))))), (mb, .inl (cI, 2128, .inl (xf v))), (mw, .inl (cI, 51072, .inl w)), (mm, .inl (cI, 320, .inl mi))]) hx hb hK hP hD hS 1 0 rfl rfl (2121 + 0) rfl (by decide) (by decide) dX5_step_122 rfl (fun H locs hP hD hS => ?_)
            rw [xf_t _ (by decide), xf_ut _ (by decide), x_sti_e v (n := nk) (i := i) (by unfold x_stop; omega) hi] at hP hD
            refine lv_aload_n hx hb dX5_step_123 rfl (lv_at hl 3 rfl) ?_
            refine lv_iload_n hx hb dX5_step_124 rfl (lv_at hl 1 rfl) ?_
            refine xk_callW (ws' := [(m0, .inr (4, [.ref ms, .ref mb, .int (nI (m_kp kp)), .ref mw, .ref mm])), (ms, .inl (cI, 2128, .inl (xf (x_stp v nk)))), (mb, .inl (cI, 2128, .inl (xf v))), (mw, .inl (cI, 51072, .inl (m_was (xf v) w kp))), (mm, .inl (cI, 320, .inl mi))]) (va_runV (As := [.int (x_cn v.2.2.2.2.2.1 v.1 (16 * v.2.2.2.2.2.2.2.2.1) (16 * i))]) (rest := []) ⟨hx, hb, hml, hown, hts⟩ (j_keeps l D cI cJ cS m0 ms mb mw mm (xf (x_stp v nk)) (xf v) w mi kp hkp (x_cn v.2.2.2.2.2.1 v.1 (16 * v.2.2.2.2.2.2.2.2.1) (16 * i))) (cwV 1 hts gX5_step_X5_keeps rfl rfl rfl (by decide +kernel) ⟨Nat.le_of_ble_eq_true rfl, Nat.le_of_ble_eq_true rfl⟩) (xk_preVw hK hN hP hD [0, 1, 2, 3, 4] rfl rfl (ci := 4) rfl 0 rfl) rfl rfl hl.1 rfl (lv_room (Nat.le_of_ble_eq_true rfl)) dX5_step_125 ⟨Nat.zero_le _, Nat.zero_le _⟩) hP hD hS [0, 1, 2, 3, 4] rfl rfl rfl (fun H locs hP hD hS => ?_)
            have e9 : sp_step v n = (x_cn v.2.2.2.2.2.1 v.1 (16 * v.2.2.2.2.2.2.2.2.1) (16 * i), some (x_stp v nk)) := by unfold sp_step; rw [if_pos hcond, if_pos (xb_ne c_22), hxn, show x_stop v.2.2.2.2.2.2.2.2.1 nk = i by unfold x_stop; omega]
            exact xk_iretW hx hb hr hlk hP hS (by rw [e9]) (by rw [← hW1, e9]; rfl) dX5_step_128
          · skip
            exact absurd (nI_le (a := 16) (b := i) (by omega) (by omega)) c_43
        | succ n9 ih =>
          intro i H locs ls hn hP hD hS hl
          obtain ⟨hi, hk9, hn⟩ := hn
          refine lv_iload hx hb dX5_step_39 (lv_at hl 0 rfl) ?_
          refine lv_bipush (v := 16) hx hb dX5_step_41 (by decide) ?_
          refine lv_icmp_ge (tgt := 111) hx hb dX5_step_43 (by decide) (fun c_43 => ?_) (fun c_43 => ?_)
          · skip
            exact absurd (xn_le_of (a := 16) (by decide) (by omega) c_43) (by omega)
          · skip
            refine lv_iload_n hx hb dX5_step_46 rfl (lv_at hl 2 rfl) ?_
            refine lv_if_le (tgt := 111) hx hb dX5_step_47 (by decide) (fun c_47 => ?_) (fun c_47 => ?_)
            · skip
              refine lv_aload_n hx hb dX5_step_111 rfl (lv_at hl 3 rfl) ?_
              refine va_get (D := D) (ci := 4) (v := .ref ms) (C := RX5) (T := TX5) (N := 5) hx hb hts hiX5 hown hK hP 0 rfl rfl 0 (by decide) (hts (.fieldLink RX5 7 "PointerSweepModel" "st" "[I") (by decide +kernel)) (fun _ h9 => h9) rfl dX5_step_112 ?_
              refine lv_sipush (v := 2121) hx hb dX5_step_115 (by decide) ?_
              refine lv_dup2_11 hx hb dX5_step_118 rfl rfl ?_
              refine xa_iald hx hb hK hP 1 0 rfl rfl (2121 + 0) rfl (by decide) (by decide) dX5_step_119 ?_
              refine lv_iload_n hx hb dX5_step_120 rfl (lv_at hl 1 rfl) ?_
              refine lv_iadd hx hb dX5_step_121 ?_
              refine xa_iast (ws' := [(m0, .inr (4, [.ref ms, .ref mb, .int (nI kp), .ref mw, .ref mm])), (ms, .inl (cI, 2128, .inl (upd (xf (x_sti v i)) (2121 + 0) (((xf (x_sti v i)) (2121 + 0)) + (x_cn v.2.2.2.2.2.1 v.1 (16 * v.2.2.2.2.2.2.2.2.1) (16 * i)))))), (mb, .inl (cI, 2128, .inl (xf v))), (mw, .inl (cI, 51072, .inl w)), (mm, .inl (cI, 320, .inl mi))]) hx hb hK hP hD hS 1 0 rfl rfl (2121 + 0) rfl (by decide) (by decide) dX5_step_122 rfl (fun H locs hP hD hS => ?_)
              rw [xf_t _ (by decide), xf_ut _ (by decide), x_sti_e v (n := nk) (i := i) (by have := xn_le_of (b := 0) (by omega) (by decide) c_47; unfold x_stop; omega) hi] at hP hD
              refine lv_aload_n hx hb dX5_step_123 rfl (lv_at hl 3 rfl) ?_
              refine lv_iload_n hx hb dX5_step_124 rfl (lv_at hl 1 rfl) ?_
              refine xk_callW (ws' := [(m0, .inr (4, [.ref ms, .ref mb, .int (nI (m_kp kp)), .ref mw, .ref mm])), (ms, .inl (cI, 2128, .inl (xf (x_stp v nk)))), (mb, .inl (cI, 2128, .inl (xf v))), (mw, .inl (cI, 51072, .inl (m_was (xf v) w kp))), (mm, .inl (cI, 320, .inl mi))]) (va_runV (As := [.int (x_cn v.2.2.2.2.2.1 v.1 (16 * v.2.2.2.2.2.2.2.2.1) (16 * i))]) (rest := []) ⟨hx, hb, hml, hown, hts⟩ (j_keeps l D cI cJ cS m0 ms mb mw mm (xf (x_stp v nk)) (xf v) w mi kp hkp (x_cn v.2.2.2.2.2.1 v.1 (16 * v.2.2.2.2.2.2.2.2.1) (16 * i))) (cwV 1 hts gX5_step_X5_keeps rfl rfl rfl (by decide +kernel) ⟨Nat.le_of_ble_eq_true rfl, Nat.le_of_ble_eq_true rfl⟩) (xk_preVw hK hN hP hD [0, 1, 2, 3, 4] rfl rfl (ci := 4) rfl 0 rfl) rfl rfl hl.1 rfl (lv_room (Nat.le_of_ble_eq_true rfl)) dX5_step_125 ⟨Nat.zero_le _, Nat.zero_le _⟩) hP hD hS [0, 1, 2, 3, 4] rfl rfl rfl (fun H locs hP hD hS => ?_)
              have e9 : sp_step v n = (x_cn v.2.2.2.2.2.1 v.1 (16 * v.2.2.2.2.2.2.2.2.1) (16 * i), some (x_stp v nk)) := by unfold sp_step; rw [if_pos hcond, if_pos (xb_ne c_22), hxn, show x_stop v.2.2.2.2.2.2.2.2.1 nk = i by have := xn_le_of (b := 0) (by omega) (by decide) c_47; unfold x_stop; omega]
              exact xk_iretW hx hb hr hlk hP hS (by rw [e9]) (by rw [← hW1, e9]; rfl) dX5_step_128
            · skip
              refine lv_aload_n hx hb dX5_step_50 rfl (lv_at hl 3 rfl) ?_
              refine va_get (D := D) (ci := 4) (v := .ref ms) (C := RX5) (T := TX5) (N := 5) hx hb hts hiX5 hown hK hP 0 rfl rfl 0 (by decide) (hts (.fieldLink RX5 7 "PointerSweepModel" "st" "[I") (by decide +kernel)) (fun _ h9 => h9) rfl dX5_step_51 ?_
              refine lv_sipush (v := 2088) hx hb dX5_step_54 (by decide) ?_
              refine lv_iload hx hb dX5_step_57 (lv_at hl 0 rfl) ?_
              refine lv_iadd hx hb dX5_step_59 ?_
              refine xa_iald hx hb hK hP 1 0 rfl rfl (2088 + i) (nI_add 2088 i) (by omega) (by decide) dX5_step_60 ?_
              refine lv_topi (fun y ey => ?_)
              obtain rfl : y = xb (decide (i < i)) := ey.trans (xf_s (x_sti v i) (by omega))
              refine lv_if_ne (tgt := 105) hx hb dX5_step_61 (by decide) (fun c_61 => ?_) (fun c_61 => ?_)
              · skip
                exact absurd (by rw [decide_eq_false (Nat.lt_irrefl i)]; rfl) c_61
              · skip
                refine lv_iload_n hx hb dX5_step_64 rfl (lv_at hl 1 rfl) ?_
                refine lv_aload_n hx hb dX5_step_65 rfl (lv_at hl 3 rfl) ?_
                refine lv_bipush (v := 80) hx hb dX5_step_66 (by decide) ?_
                refine lv_iload hx hb dX5_step_68 (lv_at hl 0 rfl) ?_
                refine lv_imul hx hb dX5_step_70 ?_
                refine lv_topi (fun y ey => ?_)
                obtain rfl : y = nI (5 * (16 * i)) := ey.trans (by rw [show (80 : Int32) = nI 80 from rfl, pk_mul, ← Nat.mul_assoc])
                refine lv_bipush (v := 16) hx hb dX5_step_71 (by decide) ?_
                refine xk_callW (ws' := [(m0, .inr (4, [.ref ms, .ref mb, .int (nI kp), .ref mw, .ref mm])), (ms, .inl (cI, 2128, .inl (xf (x_clm (x_sti v i) (16 * i) ((16 * i) + 16))))), (mb, .inl (cI, 2128, .inl (xf v))), (mw, .inl (cI, 51072, .inl w)), (mm, .inl (cI, 320, .inl mi))]) (va_runV (As := [.int (nI (5 * (16 * i))), .int 16]) (rest := [.int (x_cn v.2.2.2.2.2.1 v.1 (16 * v.2.2.2.2.2.2.2.2.1) (16 * i))]) ⟨hx, hb, hml, hown, hts⟩ (j_cleanM l D cI cJ cS m0 ms mb mw mm (x_sti v i) (xf v) w mi kp hX (x_sti_ok hv.1 i) (16 * i) 16 (by omega)) (cwV 2 hts gX5_step_X5_clean rfl rfl rfl (by decide +kernel) ⟨Nat.le_of_ble_eq_true rfl, Nat.le_of_ble_eq_true rfl⟩) (xk_preVw hK hN hP hD [0, 1, 2, 3, 4] rfl rfl (ci := 4) rfl 0 rfl) rfl rfl hl.1 rfl (lv_room (Nat.le_of_ble_eq_true rfl)) dX5_step_73 ⟨Nat.zero_le _, Nat.zero_le _⟩) hP hD hS [0, 1, 2, 3, 4] rfl rfl rfl (fun H locs hP hD hS => ?_)
                refine lv_iadd hx hb dX5_step_76 ?_
                refine lv_topi (fun y ey => ?_)
                obtain rfl : y = x_cn v.2.2.2.2.2.1 v.1 (16 * v.2.2.2.2.2.2.2.2.1) (16 * (i + 1)) := ey.trans (x_cn_app v.2.2.2.2.2.1 v.1 (by omega) (by omega))
                refine lv_istore_n (lv' := [(3, .int (x_cn v.2.2.2.2.2.1 v.1 (16 * v.2.2.2.2.2.2.2.2.1) (16 * (i + 1)))), (4, .int (nI i)), (2, .int (nI (nk - (i - v.2.2.2.2.2.2.2.2.1)))), (0, .ref m0)]) hx hb dX5_step_77 rfl hl (by decide) rfl (fun ls hl => ?_)
                refine lv_aload_n hx hb dX5_step_78 rfl (lv_at hl 3 rfl) ?_
                refine va_get (D := D) (ci := 4) (v := .ref ms) (C := RX5) (T := TX5) (N := 5) hx hb hts hiX5 hown hK hP 0 rfl rfl 0 (by decide) (hts (.fieldLink RX5 7 "PointerSweepModel" "st" "[I") (by decide +kernel)) (fun _ h9 => h9) rfl dX5_step_79 ?_
                refine lv_sipush (v := 2088) hx hb dX5_step_82 (by decide) ?_
                refine lv_iload hx hb dX5_step_85 (lv_at hl 1 rfl) ?_
                refine lv_iadd hx hb dX5_step_87 ?_
                refine lv_iconst (v := 1) hx hb dX5_step_88 (by decide) ?_
                refine xa_iast (ws' := [(m0, .inr (4, [.ref ms, .ref mb, .int (nI kp), .ref mw, .ref mm])), (ms, .inl (cI, 2128, .inl (upd (xf (x_clm (x_sti v i) (16 * i) ((16 * i) + 16))) (2088 + i) 1))), (mb, .inl (cI, 2128, .inl (xf v))), (mw, .inl (cI, 51072, .inl w)), (mm, .inl (cI, 320, .inl mi))]) hx hb hK hP hD hS 1 0 rfl rfl (2088 + i) (nI_add 2088 i) (by omega) (by decide) dX5_step_89 rfl (fun H locs hP hD hS => ?_)
                rw [xf_us (x_clm (x_sti v i) (16 * i) (16 * i + 16)) (i := i) (by omega) rfl] at hP hD
                refine lv_aload_n hx hb dX5_step_90 rfl (lv_at hl 3 rfl) ?_
                refine va_get (D := D) (ci := 4) (v := .ref ms) (C := RX5) (T := TX5) (N := 5) hx hb hts hiX5 hown hK hP 0 rfl rfl 0 (by decide) (hts (.fieldLink RX5 7 "PointerSweepModel" "st" "[I") (by decide +kernel)) (fun _ h9 => h9) rfl dX5_step_91 ?_
                refine lv_sipush (v := 2125) hx hb dX5_step_94 (by decide) ?_
                refine lv_dup2_11 hx hb dX5_step_97 rfl rfl ?_
                refine xa_iald hx hb hK hP 1 0 rfl rfl (2121 + 4) rfl (by decide) (by decide) dX5_step_98 ?_
                refine lv_iconst (v := 1) hx hb dX5_step_99 (by decide) ?_
                refine lv_iadd hx hb dX5_step_100 ?_
                refine xa_iast (ws' := [(m0, .inr (4, [.ref ms, .ref mb, .int (nI kp), .ref mw, .ref mm])), (ms, .inl (cI, 2128, .inl (upd (xf (x_sn (x_clm (x_sti v i) (16 * i) (16 * i + 16)) (i + 1))) (2121 + 4) (((xf (x_sn (x_clm (x_sti v i) (16 * i) (16 * i + 16)) (i + 1))) (2121 + 4)) + 1)))), (mb, .inl (cI, 2128, .inl (xf v))), (mw, .inl (cI, 51072, .inl w)), (mm, .inl (cI, 320, .inl mi))]) hx hb hK hP hD hS 1 0 rfl rfl (2121 + 4) rfl (by decide) (by decide) dX5_step_101 rfl (fun H locs hP hD hS => ?_)
                rw [xf_t _ (by decide), xf_ut _ (by decide), show (x_sn (x_clm (x_sti v i) (16 * i) (16 * i + 16)) (i + 1)).2.2.1 = (x_sti v i).2.2.1 from rfl, x_sti_s v hi] at hP hD
                refine lv_iinc (v := (nI (nk - (i + 1 - v.2.2.2.2.2.2.2.2.1)))) (lv' := [(2, .int (nI (nk - (i + 1 - v.2.2.2.2.2.2.2.2.1)))), (3, .int (x_cn v.2.2.2.2.2.1 v.1 (16 * v.2.2.2.2.2.2.2.2.1) (16 * (i + 1)))), (4, .int (nI i)), (0, .ref m0)]) hx hb dX5_step_102 hl (k := 2) rfl (by have := x_pos c_47; rw [show nk - (i - v.2.2.2.2.2.2.2.2.1) = (nk - (i + 1 - v.2.2.2.2.2.2.2.2.1)) + 1 by omega]; exact pk_m1 _) (by decide) rfl (fun ls hl => ?_)
                refine lv_iinc (v := (nI (i + 1))) (lv' := [(4, .int (nI (i + 1))), (2, .int (nI (nk - (i + 1 - v.2.2.2.2.2.2.2.2.1)))), (3, .int (x_cn v.2.2.2.2.2.1 v.1 (16 * v.2.2.2.2.2.2.2.2.1) (16 * (i + 1)))), (0, .ref m0)]) hx hb dX5_step_105 hl (k := 2) rfl (nI_1 i) (by decide) rfl (fun ls hl => ?_)
                refine lv_goto (tgt := 39) hx hb dX5_step_108 (by decide) ?_
                exact ih (i + 1) H locs ls ⟨by omega, by have := x_pos c_47; omega, by omega⟩ hP hD hS (lv_sub hl [0, 2, 1, 3] rfl)
      have loopA : ∀ (n9 i : Nat) (H : Heap) (locs : List Loc) (ls : Array Slot), i + n9 = v.2.2.2.2.2.2.2.2.1 → va_P D vwCl ([(m0, .inr (4, [.ref ms, .ref mb, .int (nI kp), .ref mw, .ref mm])), (ms, .inl (cI, 2128, .inl (xf v))), (mb, .inl (cI, 2128, .inl (xf v))), (mw, .inl (cI, 51072, .inl w)), (mm, .inl (cI, 320, .inl mi))]) H → va_D (xk_in W0v) ([(m0, .inr (4, [.ref ms, .ref mb, .int (nI kp), .ref mw, .ref mm])), (ms, .inl (cI, 2128, .inl (xf v))), (mb, .inl (cI, 2128, .inl (xf v))), (mw, .inl (cI, 51072, .inl w)), (mm, .inl (cI, 320, .inl mi))]) → va_S (xk_in W0v) s.heap H locs → lv_has ls 5 [(4, .int (nI i)), (3, .int (x_cn v.2.2.2.2.2.1 v.1 (16 * v.2.2.2.2.2.2.2.2.1) (16 * v.2.2.2.2.2.2.2.2.1))), (2, .int (nI nk)), (0, .ref m0)] → W p l e ({ frames := 3, cells := 0, slots := 0, locals := 72 }) s m ([.ref m0, .int n]).toArray below meth c H locs 0 0 (MQ below (xk_W D vwCl W0v W1v (some (.int (sp_step v n).1))) ([.ref m0, .int n]).toArray s 0 0 (xk_in W0v)) (F0 m 39 ls []) := by
        intro n9
        induction n9 with
        | zero =>
          intro i H locs ls hn hP hD hS hl
          have hin : i = v.2.2.2.2.2.2.2.2.1 := hn
          refine loopB (16 - v.2.2.2.2.2.2.2.2.1) v.2.2.2.2.2.2.2.2.1 H locs ls ⟨Nat.le_refl _, by omega, by omega⟩ ?_ ?_ hS ?_
          · rw [x_sti_0]; exact hP
          · rw [x_sti_0]; exact hD
          · rw [Nat.sub_self, Nat.sub_zero]; rw [hin] at hl; exact hl
        | succ n9 ih =>
          intro i H locs ls hn hP hD hS hl
          refine lv_iload hx hb dX5_step_39 (lv_at hl 0 rfl) ?_
          refine lv_bipush (v := 16) hx hb dX5_step_41 (by decide) ?_
          refine lv_icmp_ge (tgt := 111) hx hb dX5_step_43 (by decide) (fun c_43 => ?_) (fun c_43 => ?_)
          · skip
            exact absurd (xn_le_of (a := 16) (by decide) (by omega) c_43) (by omega)
          · skip
            refine lv_iload_n hx hb dX5_step_46 rfl (lv_at hl 2 rfl) ?_
            refine lv_if_le (tgt := 111) hx hb dX5_step_47 (by decide) (fun c_47 => ?_) (fun c_47 => ?_)
            · skip
              exact absurd c_47 (nI_nle (by omega) (by omega))
            · skip
              refine lv_aload_n hx hb dX5_step_50 rfl (lv_at hl 3 rfl) ?_
              refine va_get (D := D) (ci := 4) (v := .ref ms) (C := RX5) (T := TX5) (N := 5) hx hb hts hiX5 hown hK hP 0 rfl rfl 0 (by decide) (hts (.fieldLink RX5 7 "PointerSweepModel" "st" "[I") (by decide +kernel)) (fun _ h9 => h9) rfl dX5_step_51 ?_
              refine lv_sipush (v := 2088) hx hb dX5_step_54 (by decide) ?_
              refine lv_iload hx hb dX5_step_57 (lv_at hl 0 rfl) ?_
              refine lv_iadd hx hb dX5_step_59 ?_
              refine xa_iald hx hb hK hP 1 0 rfl rfl (2088 + i) (nI_add 2088 i) (by omega) (by decide) dX5_step_60 ?_
              refine lv_topi (fun y ey => ?_)
              obtain rfl : y = xb (decide (i < v.2.2.2.2.2.2.2.2.1)) := ey.trans (xf_s v (by omega))
              refine lv_if_ne (tgt := 105) hx hb dX5_step_61 (by decide) (fun c_61 => ?_) (fun c_61 => ?_)
              · skip
                refine lv_iinc (v := (nI (i + 1))) (lv' := [(4, .int (nI (i + 1))), (3, .int (x_cn v.2.2.2.2.2.1 v.1 (16 * v.2.2.2.2.2.2.2.2.1) (16 * v.2.2.2.2.2.2.2.2.1))), (2, .int (nI nk)), (0, .ref m0)]) hx hb dX5_step_105 hl (k := 0) rfl (nI_1 i) (by decide) rfl (fun ls hl => ?_)
                refine lv_goto (tgt := 39) hx hb dX5_step_108 (by decide) ?_
                exact ih (i + 1) H locs ls (by omega) hP hD hS (lv_sub hl [0, 1, 2, 3] rfl)
              · skip
                exact absurd c_61 (by rw [decide_eq_true (show i < v.2.2.2.2.2.2.2.2.1 by omega)]; decide)
      exact loopA v.2.2.2.2.2.2.2.2.1 0 H locs ls (by omega) hP hD hS (lv_sub hl [0, 1, 2, 3] rfl)
    · skip
      refine lv_bipush (v := (-2)) hx hb dX5_step_25 (by decide) ?_
      have e9 : sp_step v n = (-2, none) := (by unfold sp_step; rw [if_pos ((m_1n (n := n) (hi := 16) (M := 16) rfl).mp (xb_ne c_9)), if_neg (x_bt c_22)])
      exact xk_iretW hx hb hr hlk hP hS (by rw [e9]) (by rw [← hW1, e9]; rfl) dX5_step_27
  · skip
    refine lv_iconst (v := (-1)) hx hb dX5_step_12 (by decide) ?_
    have e9 : sp_step v n = (-1, none) := if_neg (fun z => x_bt c_9 ((m_1n (n := n) (hi := 16) (M := 16) rfl).mpr z))
    exact xk_iretW hx hb hr hlk hP hS (by rw [e9]) (by rw [← hW1, e9]; rfl) dX5_step_13
