set_option maxHeartbeats 4000000 in
set_option maxRecDepth 100000 in
theorem y_back (l : Launch) (D : va_G) (cI cJ cS : ClassId) (m0 ms mb mw mm : Nat) (v : xV) (b w mi : Nat → Int32) (kp : Nat) (hkp : kp ≤ 24) (hv : x_ok v) (hX : v.2.2.2.2.2.2.2.1 = false → ∀ k, v.2.2.2.2.2.1 k = false) (hs0 : v.2.2.2.2.2.2.2.1 = false → v.2.2.2.2.2.2.2.2.1 = 0) (hrg : x_rg v.2.2.2.1 v.2.2.2.2.2.2.1) (r : Int32) : xk_Wr l yX5_back wsX5_back ({ frames := 2, cells := 0, slots := 0, locals := 45 }) D vwCl (xt cI cJ cS) (xm cI m0 ms mb mw mm v b w mi kp) [.ref m0, .int r] (xmo cI m0 ms mb mw mm v b w mi kp (sp_back v r).2) (some (.int (sp_back v r).1)) := by
  refine xk_wr2 (cc := cX5_back) (maxL := 6) (ret := (some .int)) (by decide) rfl (Nat.le_of_ble_eq_true rfl) (fun p e s m below meth c ls W0v W1v hW1 hx hb hr hlk hml hown hts hl hP hK hN hD hS => ?_)
  replace hl : lv_has ls 6 [(0, .ref m0), (1, .int r)] := hl
  have hiX5 : ∀ w ∈ u_ws RX5 TX5 5, w ∈ wsX5_back := by decide +kernel
  replace hP : va_P D vwCl ([(m0, .inr (4, [.ref ms, .ref mb, .int (nI kp), .ref mw, .ref mm])), (ms, .inl (cI, 2128, .inl (xf v))), (mb, .inl (cI, 2128, .inl b)), (mw, .inl (cI, 51072, .inl w)), (mm, .inl (cI, 320, .inl mi))]) s.heap := hP
  replace hD : va_D _ ([(m0, .inr (4, [.ref ms, .ref mb, .int (nI kp), .ref mw, .ref mm])), (ms, .inl (cI, 2128, .inl (xf v))), (mb, .inl (cI, 2128, .inl b)), (mw, .inl (cI, 51072, .inl w)), (mm, .inl (cI, 320, .inl mi))]) := hD
  refine lv_iload_n hx hb dX5_back_0 rfl (lv_at hl 1 rfl) ?_
  refine xk_callR (va_runS (As := [.int r]) (rest := []) ⟨hx, hb, hml, hown, hts⟩ (j_isRegister l D cI cJ cS r) (va_cwS 1 hts gX5_back_X5_isRegister rfl rfl rfl (by decide +kernel) ⟨Nat.le_of_ble_eq_true rfl, Nat.le_of_ble_eq_true rfl⟩) (xk_preSr hK hN hP [] rfl) rfl rfl hl.1 rfl (lv_room (Nat.le_of_ble_eq_true rfl)) dX5_back_1 ⟨Nat.zero_le _, Nat.zero_le _⟩) ?_
  refine lv_if_ne (tgt := 9) hx hb dX5_back_4 (by decide) (fun c_4 => ?_) (fun c_4 => ?_)
  · skip
    obtain ⟨rk, hrk, er⟩ := xi_of (xb_ne c_4)
    have hxr : xN r = rk := by rw [er]; exact xN_nI (by omega)
    rw [er] at hl
    refine lv_iload_n hx hb dX5_back_9 rfl (lv_at hl 1 rfl) ?_
    refine xk_callR (va_runS (As := [.int (nI rk)]) (rest := []) ⟨hx, hb, hml, hown, hts⟩ (j_reg l D cI cJ cS rk) (va_cwS 1 hts gX5_back_X5_reg rfl rfl rfl (by decide +kernel) ⟨Nat.le_of_ble_eq_true rfl, Nat.le_of_ble_eq_true rfl⟩) (xk_preSr hK hN hP [] rfl) rfl rfl hl.1 rfl (lv_room (Nat.le_of_ble_eq_true rfl)) dX5_back_10 ⟨Nat.zero_le _, Nat.zero_le _⟩) ?_
    refine lv_istore_n (lv' := [(2, .int (nI (1280 + 5 * rk))), (0, .ref m0), (1, .int (nI rk))]) hx hb dX5_back_13 rfl hl (by decide) rfl (fun ls hl => ?_)
    refine lv_aload_n hx hb dX5_back_14 rfl (lv_at hl 1 rfl) ?_
    refine va_get (D := D) (ci := 4) (v := .ref ms) (C := RX5) (T := TX5) (N := 5) hx hb hts hiX5 hown hK hP 0 rfl rfl 0 (by decide) (hts (.fieldLink RX5 7 "PointerSweepModel" "st" "[I") (by decide +kernel)) (fun _ h9 => h9) rfl dX5_back_15 ?_
    refine lv_iload_n hx hb dX5_back_18 rfl (lv_at hl 0 rfl) ?_
    refine lv_iconst (v := 0) hx hb dX5_back_19 (by decide) ?_
    refine lv_iadd hx hb dX5_back_20 ?_
    refine xa_iald hx hb hK hP 1 0 rfl rfl (1280 + 5 * rk + 0) (nI_add (1280 + 5 * rk) 0) (by omega) (by decide) dX5_back_21 ?_
    refine lv_topi (fun y ey => ?_)
    obtain rfl : y = xb (xw_p (v.2.1 rk)) := ey.trans (xf_r v hrk (by decide))
    refine lv_if_ne (tgt := 28) hx hb dX5_back_22 (by decide) (fun c_22 => ?_) (fun c_22 => ?_)
    · skip
      obtain ⟨ew, hf1, hf2, hf3⟩ := xw_ok2_p (hv.2.1 rk) (xb_ne c_22)
      refine lv_aload_n hx hb dX5_back_28 rfl (lv_at hl 1 rfl) ?_
      refine va_get (D := D) (ci := 4) (v := .ref ms) (C := RX5) (T := TX5) (N := 5) hx hb hts hiX5 hown hK hP 0 rfl rfl 0 (by decide) (hts (.fieldLink RX5 7 "PointerSweepModel" "st" "[I") (by decide +kernel)) (fun _ h9 => h9) rfl dX5_back_29 ?_
      refine lv_iload_n hx hb dX5_back_32 rfl (lv_at hl 0 rfl) ?_
      refine lv_iconst (v := 2) hx hb dX5_back_33 (by decide) ?_
      refine lv_iadd hx hb dX5_back_34 ?_
      refine xa_iald hx hb hK hP 1 0 rfl rfl (1280 + 5 * rk + 2) (nI_add (1280 + 5 * rk) 2) (by omega) (by decide) dX5_back_35 ?_
      refine lv_topi (fun y ey => ?_)
      obtain rfl : y = nI (xw_f (v.2.1 rk)) := ey.trans (xf_r v hrk (by decide))
      refine lv_istore_n (lv' := [(3, .int (nI (xw_f (v.2.1 rk)))), (2, .int (nI (1280 + 5 * rk))), (0, .ref m0), (1, .int (nI rk))]) hx hb dX5_back_36 rfl hl (by decide) rfl (fun ls hl => ?_)
      refine lv_aload_n hx hb dX5_back_37 rfl (lv_at hl 2 rfl) ?_
      refine va_get (D := D) (ci := 4) (v := .ref ms) (C := RX5) (T := TX5) (N := 5) hx hb hts hiX5 hown hK hP 0 rfl rfl 0 (by decide) (hts (.fieldLink RX5 7 "PointerSweepModel" "st" "[I") (by decide +kernel)) (fun _ h9 => h9) rfl dX5_back_38 ?_
      refine lv_iload_n hx hb dX5_back_41 rfl (lv_at hl 1 rfl) ?_
      refine lv_iconst (v := 3) hx hb dX5_back_42 (by decide) ?_
      refine lv_iadd hx hb dX5_back_43 ?_
      refine xa_iald hx hb hK hP 1 0 rfl rfl (1280 + 5 * rk + 3) (nI_add (1280 + 5 * rk) 3) (by omega) (by decide) dX5_back_44 ?_
      refine lv_topi (fun y ey => ?_)
      obtain rfl : y = nI (xw_t (v.2.1 rk)) := ey.trans (xf_r v hrk (by decide))
      refine lv_iload_n hx hb dX5_back_45 rfl (lv_at hl 0 rfl) ?_
      refine lv_isub hx hb dX5_back_46 ?_
      refine lv_istore (lv' := [(4, .int ((nI (xw_t (v.2.1 rk))) - (nI (xw_f (v.2.1 rk))))), (3, .int (nI (xw_f (v.2.1 rk)))), (2, .int (nI (1280 + 5 * rk))), (0, .ref m0), (1, .int (nI rk))]) hx hb dX5_back_47 hl (by decide) rfl (fun ls hl => ?_)
      refine lv_aload_n hx hb dX5_back_49 rfl (lv_at hl 3 rfl) ?_
      refine va_get (D := D) (ci := 4) (v := .ref ms) (C := RX5) (T := TX5) (N := 5) hx hb hts hiX5 hown hK hP 0 rfl rfl 0 (by decide) (hts (.fieldLink RX5 7 "PointerSweepModel" "st" "[I") (by decide +kernel)) (fun _ h9 => h9) rfl dX5_back_50 ?_
      refine lv_sipush (v := 1832) hx hb dX5_back_53 (by decide) ?_
      refine lv_iload_n hx hb dX5_back_56 rfl (lv_at hl 1 rfl) ?_
      refine lv_iadd hx hb dX5_back_57 ?_
      refine xa_iald hx hb hK hP 1 0 rfl rfl (1832 + (xw_f (v.2.1 rk))) (nI_add 1832 (xw_f (v.2.1 rk))) (by omega) (by decide) dX5_back_58 ?_
      refine lv_topi (fun y ey => ?_)
      obtain rfl : y = x_fi v.2.2.2.1 v.2.2.2.2.2.2.1 (xw_f (v.2.1 rk)) := ey.trans (xf_f v (by omega))
      refine lv_iload_n hx hb dX5_back_59 rfl (lv_at hl 1 rfl) ?_
      refine lv_icmp_ne (tgt := 73) hx hb dX5_back_60 (by decide) (fun c_60 => ?_) (fun c_60 => ?_)
      · skip
        refine lv_bipush (v := (-2)) hx hb dX5_back_73 (by decide) ?_
        have e9 : sp_back v r = (-2, none) := by unfold sp_back; rw [if_pos (xb_ne c_4), hxr, if_pos (xb_ne c_22), if_neg (fun z => c_60 ((m_isr hrg hf1 hf2).mpr z).1)]
        exact xk_iretW hx hb hr hlk hP hS (by rw [e9]) (by rw [← hW1, e9]; rfl) dX5_back_75
      · skip
        refine lv_aload_n hx hb dX5_back_63 rfl (lv_at hl 3 rfl) ?_
        refine lv_iload_n hx hb dX5_back_64 rfl (lv_at hl 1 rfl) ?_
        refine xk_callR (va_runV (As := [.int (nI (xw_f (v.2.1 rk)))]) (rest := []) ⟨hx, hb, hml, hown, hts⟩ (j_rangeSize l D cI cJ cS m0 ms mb mw mm v b w mi kp (nI (xw_f (v.2.1 rk)))) (cwV 1 hts gX5_back_X5_rangeSize rfl rfl rfl (by decide +kernel) ⟨Nat.le_of_ble_eq_true rfl, Nat.le_of_ble_eq_true rfl⟩) (xk_preVr hK hN hP [0, 1, 2, 3, 4] rfl (ci := 4) rfl 0 rfl) rfl rfl hl.1 rfl (lv_room (Nat.le_of_ble_eq_true rfl)) dX5_back_65 ⟨Nat.zero_le _, Nat.zero_le _⟩) ?_
        refine lv_iload hx hb dX5_back_68 (lv_at hl 0 rfl) ?_
        refine lv_icmp_eq (tgt := 76) hx hb dX5_back_70 (by decide) (fun c_70 => ?_) (fun c_70 => ?_)
        · skip
          have hisr : x_isr v.2.2.2.1 v.2.2.2.2.2.2.1 (xw_f (v.2.1 rk)) (xw_t (v.2.1 rk)) = true := (m_isr hrg hf1 hf2).mp ⟨c_60, c_70⟩
          refine lv_aload_n hx hb dX5_back_76 rfl (lv_at hl 3 rfl) ?_
          refine xk_callW (ws' := [(m0, .inr (4, [.ref ms, .ref mb, .int (nI kp), .ref mw, .ref mm])), (ms, .inl (cI, 2128, .inl (xf v))), (mb, .inl (cI, 2128, .inl (xf v))), (mw, .inl (cI, 51072, .inl w)), (mm, .inl (cI, 320, .inl mi))]) (va_runV (As := []) (rest := []) ⟨hx, hb, hml, hown, hts⟩ (j_begin l D cI cJ cS m0 ms mb mw mm (xf v) b w mi kp ) (cwV 0 hts gX5_back_X5_begin rfl rfl rfl (by decide +kernel) ⟨Nat.le_of_ble_eq_true rfl, Nat.le_of_ble_eq_true rfl⟩) (xk_preVw hK hN hP hD [0, 1, 2, 3, 4] rfl rfl (ci := 4) rfl 0 rfl) rfl rfl hl.1 rfl (lv_room (Nat.le_of_ble_eq_true rfl)) dX5_back_77 ⟨Nat.zero_le _, Nat.zero_le _⟩) hP hD hS [0, 1, 2, 3, 4] rfl rfl rfl (fun H locs hP hD hS => ?_)
          refine lv_iload_n hx hb dX5_back_80 rfl (lv_at hl 1 rfl) ?_
          refine lv_istore (lv' := [(5, .int (nI (xw_f (v.2.1 rk)))), (4, .int ((nI (xw_t (v.2.1 rk))) - (nI (xw_f (v.2.1 rk))))), (3, .int (nI (xw_f (v.2.1 rk)))), (2, .int (nI (1280 + 5 * rk))), (0, .ref m0), (1, .int (nI rk))]) hx hb dX5_back_81 hl (by decide) rfl (fun ls hl => ?_)
          have loop : ∀ (n i : Nat) (H : Heap) (locs : List Loc) (ls : Array Slot), (xw_f (v.2.1 rk)) ≤ i ∧ i + n = (xw_t (v.2.1 rk)) → va_P D vwCl ([(m0, .inr (4, [.ref ms, .ref mb, .int (nI kp), .ref mw, .ref mm])), (ms, .inl (cI, 2128, .inl (xf (x_bki v (xw_f (v.2.1 rk)) i)))), (mb, .inl (cI, 2128, .inl (xf v))), (mw, .inl (cI, 51072, .inl w)), (mm, .inl (cI, 320, .inl mi))]) H → va_D (xk_in W0v) ([(m0, .inr (4, [.ref ms, .ref mb, .int (nI kp), .ref mw, .ref mm])), (ms, .inl (cI, 2128, .inl (xf (x_bki v (xw_f (v.2.1 rk)) i)))), (mb, .inl (cI, 2128, .inl (xf v))), (mw, .inl (cI, 51072, .inl w)), (mm, .inl (cI, 320, .inl mi))]) → va_S (xk_in W0v) s.heap H locs → lv_has ls 6 [(5, .int (nI i)), (4, .int (nI (xw_t (v.2.1 rk)) - nI (xw_f (v.2.1 rk)))), (3, .int (nI (xw_f (v.2.1 rk)))), (0, .ref m0)] → W p l e ({ frames := 2, cells := 0, slots := 0, locals := 45 }) s m ([.ref m0, .int r]).toArray below meth c H locs 0 0 (MQ below (xk_W D vwCl W0v W1v (some (.int (sp_back v r).1))) ([.ref m0, .int r]).toArray s 0 0 (xk_in W0v)) (F0 m 83 ls []) := by
            intro n
            induction n with
            | zero =>
              intro i H locs ls hn hP hD hS hl
              obtain ⟨hi, hn⟩ := hn
              have hin : i = (xw_t (v.2.1 rk)) := hn
              rw [hin] at hP hD
              refine lv_iload hx hb dX5_back_83 (lv_at hl 0 rfl) ?_
              refine lv_iload_n hx hb dX5_back_85 rfl (lv_at hl 2 rfl) ?_
              refine lv_iload hx hb dX5_back_86 (lv_at hl 1 rfl) ?_
              refine lv_iadd hx hb dX5_back_88 ?_
              refine lv_topi (fun y ey => ?_)
              obtain rfl : y = nI (xw_t (v.2.1 rk)) := ey.trans (by rw [pk_sub (by omega), nI_add]; congr 1; omega)
              refine lv_icmp_ge (tgt := 123) hx hb dX5_back_89 (by decide) (fun c_89 => ?_) (fun c_89 => ?_)
              · skip
                rw [m_bak v hrg hf1 hf2 hisr] at hP hD
                refine lv_aload_n hx hb dX5_back_123 rfl (lv_at hl 3 rfl) ?_
                refine lv_iload hx hb dX5_back_124 (lv_at hl 1 rfl) ?_
                refine xk_callW (ws' := [(m0, .inr (4, [.ref ms, .ref mb, .int (nI (m_kp kp)), .ref mw, .ref mm])), (ms, .inl (cI, 2128, .inl (xf (x_bak v (xw_f (v.2.1 rk)) (xw_t (v.2.1 rk)))))), (mb, .inl (cI, 2128, .inl (xf v))), (mw, .inl (cI, 51072, .inl (m_was (xf v) w kp))), (mm, .inl (cI, 320, .inl mi))]) (va_runV (As := [.int (nI (xw_t (v.2.1 rk)) - nI (xw_f (v.2.1 rk)))]) (rest := []) ⟨hx, hb, hml, hown, hts⟩ (j_keeps l D cI cJ cS m0 ms mb mw mm (xf (x_bak v (xw_f (v.2.1 rk)) (xw_t (v.2.1 rk)))) (xf v) w mi kp hkp (nI (xw_t (v.2.1 rk)) - nI (xw_f (v.2.1 rk)))) (cwV 1 hts gX5_back_X5_keeps rfl rfl rfl (by decide +kernel) ⟨Nat.le_of_ble_eq_true rfl, Nat.le_of_ble_eq_true rfl⟩) (xk_preVw hK hN hP hD [0, 1, 2, 3, 4] rfl rfl (ci := 4) rfl 0 rfl) rfl rfl hl.1 rfl (lv_room (Nat.le_of_ble_eq_true rfl)) dX5_back_126 ⟨Nat.zero_le _, Nat.zero_le _⟩) hP hD hS [0, 1, 2, 3, 4] rfl rfl rfl (fun H locs hP hD hS => ?_)
                have e9 : sp_back v r = (nI (xw_t (v.2.1 rk)) - nI (xw_f (v.2.1 rk)), some (x_bak v (xw_f (v.2.1 rk)) (xw_t (v.2.1 rk)))) := by unfold sp_back; rw [if_pos (xb_ne c_4), hxr, if_pos (xb_ne c_22), if_pos hisr]
                exact xk_iretW hx hb hr hlk hP hS (by rw [e9]) (by rw [← hW1, e9]; rfl) dX5_back_129
              · skip
                exact absurd (nI_le (a := (xw_t (v.2.1 rk))) (b := i) (by omega) (by omega)) c_89
            | succ n ih =>
              intro i H locs ls hn hP hD hS hl
              obtain ⟨hi, hn⟩ := hn
              refine lv_iload hx hb dX5_back_83 (lv_at hl 0 rfl) ?_
              refine lv_iload_n hx hb dX5_back_85 rfl (lv_at hl 2 rfl) ?_
              refine lv_iload hx hb dX5_back_86 (lv_at hl 1 rfl) ?_
              refine lv_iadd hx hb dX5_back_88 ?_
              refine lv_topi (fun y ey => ?_)
              obtain rfl : y = nI (xw_t (v.2.1 rk)) := ey.trans (by rw [pk_sub (by omega), nI_add]; congr 1; omega)
              refine lv_icmp_ge (tgt := 123) hx hb dX5_back_89 (by decide) (fun c_89 => ?_) (fun c_89 => ?_)
              · skip
                exact absurd (xn_le_of (by omega) (by omega) c_89) (by omega)
              · skip
                refine lv_aload_n hx hb dX5_back_92 rfl (lv_at hl 3 rfl) ?_
                refine va_get (D := D) (ci := 4) (v := .ref ms) (C := RX5) (T := TX5) (N := 5) hx hb hts hiX5 hown hK hP 0 rfl rfl 0 (by decide) (hts (.fieldLink RX5 7 "PointerSweepModel" "st" "[I") (by decide +kernel)) (fun _ h9 => h9) rfl dX5_back_93 ?_
                refine lv_sipush (v := 1320) hx hb dX5_back_96 (by decide) ?_
                refine lv_iload hx hb dX5_back_99 (lv_at hl 0 rfl) ?_
                refine lv_iadd hx hb dX5_back_101 ?_
                refine lv_iconst (v := 2) hx hb dX5_back_102 (by decide) ?_
                refine xa_iast (ws' := [(m0, .inr (4, [.ref ms, .ref mb, .int (nI kp), .ref mw, .ref mm])), (ms, .inl (cI, 2128, .inl (upd (xf (x_bki v (xw_f (v.2.1 rk)) i)) (1320 + i) 2))), (mb, .inl (cI, 2128, .inl (xf v))), (mw, .inl (cI, 51072, .inl w)), (mm, .inl (cI, 320, .inl mi))]) hx hb hK hP hD hS 1 0 rfl rfl (1320 + i) (nI_add 1320 i) (by omega) (by decide) dX5_back_103 rfl (fun H locs hP hD hS => ?_)
                refine lv_aload_n hx hb dX5_back_104 rfl (lv_at hl 3 rfl) ?_
                refine va_get (D := D) (ci := 4) (v := .ref ms) (C := RX5) (T := TX5) (N := 5) hx hb hts hiX5 hown hK hP 0 rfl rfl 0 (by decide) (hts (.fieldLink RX5 7 "PointerSweepModel" "st" "[I") (by decide +kernel)) (fun _ h9 => h9) rfl dX5_back_105 ?_
                refine lv_sipush (v := 1832) hx hb dX5_back_108 (by decide) ?_
                refine lv_iload hx hb dX5_back_111 (lv_at hl 0 rfl) ?_
                refine lv_iadd hx hb dX5_back_113 ?_
                refine lv_bipush (v := (-4)) hx hb dX5_back_114 (by decide) ?_
                refine xa_iast (ws' := [(m0, .inr (4, [.ref ms, .ref mb, .int (nI kp), .ref mw, .ref mm])), (ms, .inl (cI, 2128, .inl (upd (upd (xf (x_bki v (xw_f (v.2.1 rk)) i)) (1320 + i) 2) (1832 + i) (-4)))), (mb, .inl (cI, 2128, .inl (xf v))), (mw, .inl (cI, 51072, .inl w)), (mm, .inl (cI, 320, .inl mi))]) hx hb hK hP hD hS 1 0 rfl rfl (1832 + i) (nI_add 1832 i) (by omega) (by decide) dX5_back_116 rfl (fun H locs hP hD hS => ?_)
                rw [m_bki v hi (by omega)] at hP hD
                refine lv_iinc (v := (nI (i + 1))) (lv' := [(5, .int (nI (i + 1))), (4, .int (nI (xw_t (v.2.1 rk)) - nI (xw_f (v.2.1 rk)))), (3, .int (nI (xw_f (v.2.1 rk)))), (0, .ref m0)]) hx hb dX5_back_117 hl (k := 0) rfl (nI_1 i) (by decide) rfl (fun ls hl => ?_)
                refine lv_goto (tgt := 83) hx hb dX5_back_120 (by decide) ?_
                exact ih (i + 1) H locs ls ⟨by omega, by omega⟩ hP hD hS (lv_sub hl [0, 1, 2, 3] rfl)
          refine loop ((xw_t (v.2.1 rk)) - (xw_f (v.2.1 rk))) (xw_f (v.2.1 rk)) H locs ls ⟨Nat.le_refl _, by omega⟩ ?_ ?_ hS (lv_sub hl [0, 1, 2, 4] rfl)
          · rw [x_bki_0]; exact hP
          · rw [x_bki_0]; exact hD
        · skip
          refine lv_bipush (v := (-2)) hx hb dX5_back_73 (by decide) ?_
          have e9 : sp_back v r = (-2, none) := by unfold sp_back; rw [if_pos (xb_ne c_4), hxr, if_pos (xb_ne c_22), if_neg (fun z => c_70 ((m_isr hrg hf1 hf2).mpr z).2)]
          exact xk_iretW hx hb hr hlk hP hS (by rw [e9]) (by rw [← hW1, e9]; rfl) dX5_back_75
    · skip
      refine lv_bipush (v := (-11)) hx hb dX5_back_25 (by decide) ?_
      have e9 : sp_back v r = (-11, none) := (by unfold sp_back; rw [if_pos (xb_ne c_4), hxr, if_neg (x_bt c_22)])
      exact xk_iretW hx hb hr hlk hP hS (by rw [e9]) (by rw [← hW1, e9]; rfl) dX5_back_27
  · skip
    refine lv_iconst (v := (-1)) hx hb dX5_back_7 (by decide) ?_
    have e9 : sp_back v r = (-1, none) := if_neg (x_bt c_4)
    exact xk_iretW hx hb hr hlk hP hS (by rw [e9]) (by rw [← hW1, e9]; rfl) dX5_back_8
