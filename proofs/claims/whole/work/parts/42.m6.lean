set_option maxHeartbeats 4000000 in
set_option maxRecDepth 100000 in
theorem y_narrow (l : Launch) (D : va_G) (cI cJ cS : ClassId) (m0 ms mb mw mm : Nat) (v : xV) (b w mi : Nat → Int32) (kp : Nat) (hkp : kp ≤ 24) (hv : x_ok v) (hX : v.2.2.2.2.2.2.2.1 = false → ∀ k, v.2.2.2.2.2.1 k = false) (hs0 : v.2.2.2.2.2.2.2.1 = false → v.2.2.2.2.2.2.2.2.1 = 0) (r q n k : Int32) : xk_Wr l yX5_narrow wsX5_narrow ({ frames := 2, cells := 0, slots := 0, locals := 45 }) D vwCl (xt cI cJ cS) (xm cI m0 ms mb mw mm v b w mi kp) [.ref m0, .int r, .int q, .int n, .int k] (xmo cI m0 ms mb mw mm v b w mi kp (sp_narrow v r q n k).2) (some (.int (sp_narrow v r q n k).1)) := by
  refine xk_wr2 (cc := cX5_narrow) (maxL := 7) (ret := (some .int)) (by decide) rfl (Nat.le_of_ble_eq_true rfl) (fun p e s m below meth c ls W0v W1v hW1 hx hb hr hlk hml hown hts hl hP hK hN hD hS => ?_)
  replace hl : lv_has ls 7 [(0, .ref m0), (1, .int r), (2, .int q), (3, .int n), (4, .int k)] := hl
  have hiX5 : ∀ w ∈ u_ws RX5 TX5 5, w ∈ wsX5_narrow := by decide +kernel
  replace hP : va_P D vwCl ([(m0, .inr (4, [.ref ms, .ref mb, .int (nI kp), .ref mw, .ref mm])), (ms, .inl (cI, 2128, .inl (xf v))), (mb, .inl (cI, 2128, .inl b)), (mw, .inl (cI, 51072, .inl w)), (mm, .inl (cI, 320, .inl mi))]) s.heap := hP
  replace hD : va_D _ ([(m0, .inr (4, [.ref ms, .ref mb, .int (nI kp), .ref mw, .ref mm])), (ms, .inl (cI, 2128, .inl (xf v))), (mb, .inl (cI, 2128, .inl b)), (mw, .inl (cI, 51072, .inl w)), (mm, .inl (cI, 320, .inl mi))]) := hD
  refine lv_iload_n hx hb dX5_narrow_0 rfl (lv_at hl 1 rfl) ?_
  refine xk_callR (va_runS (As := [.int r]) (rest := []) ⟨hx, hb, hml, hown, hts⟩ (j_isRegister l D cI cJ cS r) (va_cwS 1 hts gX5_narrow_X5_isRegister rfl rfl rfl (by decide +kernel) ⟨Nat.le_of_ble_eq_true rfl, Nat.le_of_ble_eq_true rfl⟩) (xk_preSr hK hN hP [] rfl) rfl rfl hl.1 rfl (lv_room (Nat.le_of_ble_eq_true rfl)) dX5_narrow_1 ⟨Nat.zero_le _, Nat.zero_le _⟩) ?_
  refine lv_if_eq (tgt := 32) hx hb dX5_narrow_4 (by decide) (fun c_4 => ?_) (fun c_4 => ?_)
  · skip
    refine lv_iconst (v := (-1)) hx hb dX5_narrow_32 (by decide) ?_
    have e9 : sp_narrow v r q n k = (-1, none) := if_neg (fun z => x_bt c_4 z.1)
    exact xk_iretW hx hb hr hlk hP hS (by rw [e9]) (by rw [← hW1, e9]; rfl) dX5_narrow_33
  · skip
    refine lv_iload_n hx hb dX5_narrow_7 rfl (lv_at hl 2 rfl) ?_
    refine xk_callR (va_runS (As := [.int q]) (rest := []) ⟨hx, hb, hml, hown, hts⟩ (j_isRegister l D cI cJ cS q) (va_cwS 1 hts gX5_narrow_X5_isRegister rfl rfl rfl (by decide +kernel) ⟨Nat.le_of_ble_eq_true rfl, Nat.le_of_ble_eq_true rfl⟩) (xk_preSr hK hN hP [] rfl) rfl rfl hl.1 rfl (lv_room (Nat.le_of_ble_eq_true rfl)) dX5_narrow_8 ⟨Nat.zero_le _, Nat.zero_le _⟩) ?_
    refine lv_if_eq (tgt := 32) hx hb dX5_narrow_11 (by decide) (fun c_11 => ?_) (fun c_11 => ?_)
    · skip
      refine lv_iconst (v := (-1)) hx hb dX5_narrow_32 (by decide) ?_
      have e9 : sp_narrow v r q n k = (-1, none) := if_neg (fun z => x_bt c_11 z.2.1)
      exact xk_iretW hx hb hr hlk hP hS (by rw [e9]) (by rw [← hW1, e9]; rfl) dX5_narrow_33
    · skip
      refine lv_iload_n hx hb dX5_narrow_14 rfl (lv_at hl 3 rfl) ?_
      refine lv_iconst (v := 1) hx hb dX5_narrow_15 (by decide) ?_
      refine lv_icmp_lt (tgt := 32) hx hb dX5_narrow_16 (by decide) (fun c_16 => ?_) (fun c_16 => ?_)
      · skip
        refine lv_iconst (v := (-1)) hx hb dX5_narrow_32 (by decide) ?_
        have e9 : sp_narrow v r q n k = (-1, none) := if_neg (fun z => z.2.2.1 c_16)
        exact xk_iretW hx hb hr hlk hP hS (by rw [e9]) (by rw [← hW1, e9]; rfl) dX5_narrow_33
      · skip
        refine lv_iload hx hb dX5_narrow_19 (lv_at hl 4 rfl) ?_
        refine lv_i2l hx hb dX5_narrow_21 rfl ?_
        refine lv_lconst (v := 0) hx hb dX5_narrow_22 (by decide) ?_
        refine lv_ldc2 hx hb hown (hts (.constantLong RX5 67 (3)) (by decide +kernel)) dX5_narrow_23 ?_
        refine xk_callR (va_runS (As := [.long ((k : Int32).toInt64), .long 0, .long 3]) (rest := []) ⟨hx, hb, hml, hown, hts⟩ (j_in l D cI cJ cS ((k : Int32).toInt64) 0 3) (va_cwS 3 hts gX5_narrow_X5_in rfl rfl rfl (by decide +kernel) ⟨Nat.le_of_ble_eq_true rfl, Nat.le_of_ble_eq_true rfl⟩) (xk_preSr hK hN hP [] rfl) rfl rfl hl.1 rfl (lv_room (Nat.le_of_ble_eq_true rfl)) dX5_narrow_26 ⟨Nat.zero_le _, Nat.zero_le _⟩) ?_
        refine lv_if_ne (tgt := 34) hx hb dX5_narrow_29 (by decide) (fun c_29 => ?_) (fun c_29 => ?_)
        · skip
          obtain ⟨rk, hrk, er⟩ := xi_of (xb_ne c_4)
          have hxr : xN r = rk := by rw [er]; exact xN_nI (by omega)
          rw [er] at hl
          obtain ⟨qk, hqk, eq⟩ := xi_of (xb_ne c_11)
          have hxq : xN q = qk := by rw [eq]; exact xN_nI (by omega)
          rw [eq] at hl
          refine lv_iload_n hx hb dX5_narrow_34 rfl (lv_at hl 2 rfl) ?_
          refine xk_callR (va_runS (As := [.int (nI qk)]) (rest := []) ⟨hx, hb, hml, hown, hts⟩ (j_reg l D cI cJ cS qk) (va_cwS 1 hts gX5_narrow_X5_reg rfl rfl rfl (by decide +kernel) ⟨Nat.le_of_ble_eq_true rfl, Nat.le_of_ble_eq_true rfl⟩) (xk_preSr hK hN hP [] rfl) rfl rfl hl.1 rfl (lv_room (Nat.le_of_ble_eq_true rfl)) dX5_narrow_35 ⟨Nat.zero_le _, Nat.zero_le _⟩) ?_
          refine lv_istore (lv' := [(5, .int (nI (1280 + 5 * qk))), (0, .ref m0), (1, .int (nI rk)), (2, .int (nI qk)), (3, .int n), (4, .int k)]) hx hb dX5_narrow_38 hl (by decide) rfl (fun ls hl => ?_)
          refine lv_aload_n hx hb dX5_narrow_40 rfl (lv_at hl 1 rfl) ?_
          refine va_get (D := D) (ci := 4) (v := .ref ms) (C := RX5) (T := TX5) (N := 5) hx hb hts hiX5 hown hK hP 0 rfl rfl 0 (by decide) (hts (.fieldLink RX5 7 "PointerSweepModel" "st" "[I") (by decide +kernel)) (fun _ h9 => h9) rfl dX5_narrow_41 ?_
          refine lv_iload hx hb dX5_narrow_44 (lv_at hl 0 rfl) ?_
          refine lv_iconst (v := 0) hx hb dX5_narrow_46 (by decide) ?_
          refine lv_iadd hx hb dX5_narrow_47 ?_
          refine xa_iald hx hb hK hP 1 0 rfl rfl (1280 + 5 * qk + 0) (nI_add (1280 + 5 * qk) 0) (by omega) (by decide) dX5_narrow_48 ?_
          refine lv_topi (fun y ey => ?_)
          obtain rfl : y = xb (xw_p (v.2.1 qk)) := ey.trans (xf_r v hqk (by decide))
          refine lv_if_ne (tgt := 55) hx hb dX5_narrow_49 (by decide) (fun c_49 => ?_) (fun c_49 => ?_)
          · skip
            refine lv_aload_n hx hb dX5_narrow_55 rfl (lv_at hl 1 rfl) ?_
            refine va_get (D := D) (ci := 4) (v := .ref ms) (C := RX5) (T := TX5) (N := 5) hx hb hts hiX5 hown hK hP 0 rfl rfl 0 (by decide) (hts (.fieldLink RX5 7 "PointerSweepModel" "st" "[I") (by decide +kernel)) (fun _ h9 => h9) rfl dX5_narrow_56 ?_
            refine lv_iload hx hb dX5_narrow_59 (lv_at hl 0 rfl) ?_
            refine lv_iconst (v := 1) hx hb dX5_narrow_61 (by decide) ?_
            refine lv_iadd hx hb dX5_narrow_62 ?_
            refine xa_iald hx hb hK hP 1 0 rfl rfl (1280 + 5 * qk + 1) (nI_add (1280 + 5 * qk) 1) (by omega) (by decide) dX5_narrow_63 ?_
            refine lv_topi (fun y ey => ?_)
            obtain rfl : y = (v.2.1 qk).1 := ey.trans (xf_r v hqk (by decide))
            refine lv_istore (lv' := [(6, .int ((v.2.1 qk).1)), (5, .int (nI (1280 + 5 * qk))), (0, .ref m0), (1, .int (nI rk)), (2, .int (nI qk)), (3, .int n), (4, .int k)]) hx hb dX5_narrow_64 hl (by decide) rfl (fun ls hl => ?_)
            refine lv_iload hx hb dX5_narrow_66 (lv_at hl 0 rfl) ?_
            refine lv_aload_n hx hb dX5_narrow_68 rfl (lv_at hl 2 rfl) ?_
            refine va_get (D := D) (ci := 4) (v := .ref ms) (C := RX5) (T := TX5) (N := 5) hx hb hts hiX5 hown hK hP 0 rfl rfl 0 (by decide) (hts (.fieldLink RX5 7 "PointerSweepModel" "st" "[I") (by decide +kernel)) (fun _ h9 => h9) rfl dX5_narrow_69 ?_
            refine lv_iload hx hb dX5_narrow_72 (lv_at hl 1 rfl) ?_
            refine lv_iconst (v := 2) hx hb dX5_narrow_74 (by decide) ?_
            refine lv_iadd hx hb dX5_narrow_75 ?_
            refine xa_iald hx hb hK hP 1 0 rfl rfl (1280 + 5 * qk + 2) (nI_add (1280 + 5 * qk) 2) (by omega) (by decide) dX5_narrow_76 ?_
            refine lv_topi (fun y ey => ?_)
            obtain rfl : y = nI (xw_f (v.2.1 qk)) := ey.trans (xf_r v hqk (by decide))
            refine lv_icmp_lt (tgt := 100) hx hb dX5_narrow_77 (by decide) (fun c_77 => ?_) (fun c_77 => ?_)
            · skip
              refine lv_bipush (v := (-13)) hx hb dX5_narrow_100 (by decide) ?_
              have e9 : sp_narrow v r q n k = (-13, none) := (by unfold sp_narrow; rw [if_pos ⟨xb_ne c_4, xb_ne c_11, c_16, (m_k4.mp (xb_ne c_29)).1, (m_k4.mp (xb_ne c_29)).2⟩, hxq, if_pos (xb_ne c_49), if_neg (by rw [m_nc1 (x_ok_r hv qk) c_77]; decide)])
              exact xk_iretW hx hb hr hlk hP hS (by rw [e9]) (by rw [← hW1, e9]; rfl) dX5_narrow_102
            · skip
              refine lv_iload hx hb dX5_narrow_80 (lv_at hl 0 rfl) ?_
              refine lv_i2l hx hb dX5_narrow_82 rfl ?_
              refine lv_iload_n hx hb dX5_narrow_83 rfl (lv_at hl 5 rfl) ?_
              refine lv_i2l hx hb dX5_narrow_84 rfl ?_
              refine lv_ladd hx hb dX5_narrow_85 ?_
              refine lv_aload_n hx hb dX5_narrow_86 rfl (lv_at hl 2 rfl) ?_
              refine va_get (D := D) (ci := 4) (v := .ref ms) (C := RX5) (T := TX5) (N := 5) hx hb hts hiX5 hown hK hP 0 rfl rfl 0 (by decide) (hts (.fieldLink RX5 7 "PointerSweepModel" "st" "[I") (by decide +kernel)) (fun _ h9 => h9) rfl dX5_narrow_87 ?_
              refine lv_iload hx hb dX5_narrow_90 (lv_at hl 1 rfl) ?_
              refine lv_iconst (v := 3) hx hb dX5_narrow_92 (by decide) ?_
              refine lv_iadd hx hb dX5_narrow_93 ?_
              refine xa_iald hx hb hK hP 1 0 rfl rfl (1280 + 5 * qk + 3) (nI_add (1280 + 5 * qk) 3) (by omega) (by decide) dX5_narrow_94 ?_
              refine lv_topi (fun y ey => ?_)
              obtain rfl : y = nI (xw_t (v.2.1 qk)) := ey.trans (xf_r v hqk (by decide))
              refine lv_i2l hx hb dX5_narrow_95 rfl ?_
              refine W.lcmp hx hb dX5_narrow_96 ?_
              refine lv_if_le (tgt := 103) hx hb dX5_narrow_97 (by decide) (fun c_97 => ?_) (fun c_97 => ?_)
              · skip
                have hcv := (m_nc3 (x_ok_r hv qk) c_77 (Int32.not_lt.mpr c_97))
                obtain ⟨ew, hf1, hf2, hf3⟩ := xw_ok2_p (hv.2.1 qk) (xb_ne c_49)
                obtain ⟨ak, nk, ea, en, hn1, han, hxn, hxa⟩ := x_cov0 (hv.2.1 qk) (xb_ne c_49) hcv c_16
                obtain ⟨rr, hrr, err, hxk⟩ := x_and4 hf3 (m_k4.mp (xb_ne c_29)).1 (m_k4.mp (xb_ne c_29)).2
                rw [en, ea] at hl
                refine lv_aload_n hx hb dX5_narrow_103 rfl (lv_at hl 2 rfl) ?_
                refine xk_callW (ws' := [(m0, .inr (4, [.ref ms, .ref mb, .int (nI kp), .ref mw, .ref mm])), (ms, .inl (cI, 2128, .inl (xf v))), (mb, .inl (cI, 2128, .inl (xf v))), (mw, .inl (cI, 51072, .inl w)), (mm, .inl (cI, 320, .inl mi))]) (va_runV (As := []) (rest := []) ⟨hx, hb, hml, hown, hts⟩ (j_begin l D cI cJ cS m0 ms mb mw mm (xf v) b w mi kp ) (cwV 0 hts gX5_narrow_X5_begin rfl rfl rfl (by decide +kernel) ⟨Nat.le_of_ble_eq_true rfl, Nat.le_of_ble_eq_true rfl⟩) (xk_preVw hK hN hP hD [0, 1, 2, 3, 4] rfl rfl (ci := 4) rfl 0 rfl) rfl rfl hl.1 rfl (lv_room (Nat.le_of_ble_eq_true rfl)) dX5_narrow_104 ⟨Nat.zero_le _, Nat.zero_le _⟩) hP hD hS [0, 1, 2, 3, 4] rfl rfl rfl (fun H locs hP hD hS => ?_)
                refine lv_aload_n hx hb dX5_narrow_107 rfl (lv_at hl 2 rfl) ?_
                refine lv_iload_n hx hb dX5_narrow_108 rfl (lv_at hl 3 rfl) ?_
                refine xk_callR (va_runS (As := [.int (nI rk)]) (rest := [.ref m0]) ⟨hx, hb, hml, hown, hts⟩ (j_reg l D cI cJ cS rk) (va_cwS 1 hts gX5_narrow_X5_reg rfl rfl rfl (by decide +kernel) ⟨Nat.le_of_ble_eq_true rfl, Nat.le_of_ble_eq_true rfl⟩) (xk_preSr hK hN hP [] rfl) rfl rfl hl.1 rfl (lv_room (Nat.le_of_ble_eq_true rfl)) dX5_narrow_109 ⟨Nat.zero_le _, Nat.zero_le _⟩) ?_
                refine lv_iconst (v := 1) hx hb dX5_narrow_112 (by decide) ?_
                refine lv_iload hx hb dX5_narrow_113 (lv_at hl 0 rfl) ?_
                refine lv_iload hx hb dX5_narrow_115 (lv_at hl 0 rfl) ?_
                refine lv_iload hx hb dX5_narrow_117 (lv_at hl 0 rfl) ?_
                refine lv_iload_n hx hb dX5_narrow_119 rfl (lv_at hl 5 rfl) ?_
                refine lv_iadd hx hb dX5_narrow_120 ?_
                refine lv_topi (fun y ey => ?_)
                obtain rfl : y = nI (ak + nk) := ey.trans (nI_add _ _)
                refine lv_aload_n hx hb dX5_narrow_121 rfl (lv_at hl 2 rfl) ?_
                refine va_get (D := D) (ci := 4) (v := .ref ms) (C := RX5) (T := TX5) (N := 5) hx hb hts hiX5 hown hK hP 0 rfl rfl 0 (by decide) (hts (.fieldLink RX5 7 "PointerSweepModel" "st" "[I") (by decide +kernel)) (fun _ h9 => h9) rfl dX5_narrow_122 ?_
                refine lv_iload hx hb dX5_narrow_125 (lv_at hl 1 rfl) ?_
                refine lv_iconst (v := 4) hx hb dX5_narrow_127 (by decide) ?_
                refine lv_iadd hx hb dX5_narrow_128 ?_
                refine xa_iald hx hb hK hP 1 0 rfl rfl (1280 + 5 * qk + 4) (nI_add (1280 + 5 * qk) 4) (by omega) (by decide) dX5_narrow_129 ?_
                refine lv_topi (fun y ey => ?_)
                obtain rfl : y = nI (xw_r (v.2.1 qk)) := ey.trans (xf_r v hqk (by decide))
                refine lv_iload hx hb dX5_narrow_130 (lv_at hl 6 rfl) ?_
                refine lv_iand hx hb dX5_narrow_132 ?_
                refine lv_topi (fun y ey => ?_)
                obtain rfl : y = nI rr := ey.trans err
                refine xk_callW (ws' := [(m0, .inr (4, [.ref ms, .ref mb, .int (nI kp), .ref mw, .ref mm])), (ms, .inl (cI, 2128, .inl (u5 (xf v) (1280 + 5 * rk) 1 (nI ak) (nI ak) (nI (ak + nk)) (nI rr)))), (mb, .inl (cI, 2128, .inl (xf v))), (mw, .inl (cI, 51072, .inl w)), (mm, .inl (cI, 320, .inl mi))]) (va_runV (As := [.int (nI (1280 + 5 * rk)), .int 1, .int (nI ak), .int (nI ak), .int (nI (ak + nk)), .int (nI rr)]) (rest := []) ⟨hx, hb, hml, hown, hts⟩ (j_set l D cI cJ cS m0 ms mb mw mm (xf v) (xf v) w mi kp (1280 + 5 * rk) (by omega) 1 (nI ak) (nI ak) (nI (ak + nk)) (nI rr)) (cwV 6 hts gX5_narrow_X5_set rfl rfl rfl (by decide +kernel) ⟨Nat.le_of_ble_eq_true rfl, Nat.le_of_ble_eq_true rfl⟩) (xk_preVw hK hN hP hD [0, 1, 2, 3, 4] rfl rfl (ci := 4) rfl 0 rfl) rfl rfl hl.1 rfl (lv_room (Nat.le_of_ble_eq_true rfl)) dX5_narrow_133 ⟨Nat.zero_le _, Nat.zero_le _⟩) hP hD hS [0, 1, 2, 3, 4] rfl rfl rfl (fun H locs hP hD hS => ?_)
                rw [m_ptr v hrk] at hP hD
                refine lv_aload_n hx hb dX5_narrow_136 rfl (lv_at hl 2 rfl) ?_
                refine lv_iload hx hb dX5_narrow_137 (lv_at hl 0 rfl) ?_
                refine xk_callW (ws' := [(m0, .inr (4, [.ref ms, .ref mb, .int (nI (m_kp kp)), .ref mw, .ref mm])), (ms, .inl (cI, 2128, .inl (xf (x_reg v rk (nI ak, some (ak, ak + nk, rr)))))), (mb, .inl (cI, 2128, .inl (xf v))), (mw, .inl (cI, 51072, .inl (m_was (xf v) w kp))), (mm, .inl (cI, 320, .inl mi))]) (va_runV (As := [.int (nI ak)]) (rest := []) ⟨hx, hb, hml, hown, hts⟩ (j_keeps l D cI cJ cS m0 ms mb mw mm (xf (x_reg v rk (nI ak, some (ak, ak + nk, rr)))) (xf v) w mi kp hkp (nI ak)) (cwV 1 hts gX5_narrow_X5_keeps rfl rfl rfl (by decide +kernel) ⟨Nat.le_of_ble_eq_true rfl, Nat.le_of_ble_eq_true rfl⟩) (xk_preVw hK hN hP hD [0, 1, 2, 3, 4] rfl rfl (ci := 4) rfl 0 rfl) rfl rfl hl.1 rfl (lv_room (Nat.le_of_ble_eq_true rfl)) dX5_narrow_139 ⟨Nat.zero_le _, Nat.zero_le _⟩) hP hD hS [0, 1, 2, 3, 4] rfl rfl rfl (fun H locs hP hD hS => ?_)
                have e9 : sp_narrow v r q n k = (nI ak, some (x_reg v rk (nI ak, some (ak, ak + nk, rr)))) := (by unfold sp_narrow; rw [if_pos ⟨xb_ne c_4, xb_ne c_11, c_16, (m_k4.mp (xb_ne c_29)).1, (m_k4.mp (xb_ne c_29)).2⟩, hxq, if_pos (xb_ne c_49), if_pos hcv, hxk, hxn, hxr, hxa, ea])
                exact xk_iretW hx hb hr hlk hP hS (by rw [e9]) (by rw [← hW1, e9]; rfl) dX5_narrow_142
              · skip
                refine lv_bipush (v := (-13)) hx hb dX5_narrow_100 (by decide) ?_
                have e9 : sp_narrow v r q n k = (-13, none) := (by unfold sp_narrow; rw [if_pos ⟨xb_ne c_4, xb_ne c_11, c_16, (m_k4.mp (xb_ne c_29)).1, (m_k4.mp (xb_ne c_29)).2⟩, hxq, if_pos (xb_ne c_49), if_neg (by rw [m_nc2 (x_ok_r hv qk) (Int32.not_le.mp c_97)]; decide)])
                exact xk_iretW hx hb hr hlk hP hS (by rw [e9]) (by rw [← hW1, e9]; rfl) dX5_narrow_102
          · skip
            refine lv_bipush (v := (-11)) hx hb dX5_narrow_52 (by decide) ?_
            have e9 : sp_narrow v r q n k = (-11, none) := (by unfold sp_narrow; rw [if_pos ⟨xb_ne c_4, xb_ne c_11, c_16, (m_k4.mp (xb_ne c_29)).1, (m_k4.mp (xb_ne c_29)).2⟩, hxq, if_neg (x_bt c_49)])
            exact xk_iretW hx hb hr hlk hP hS (by rw [e9]) (by rw [← hW1, e9]; rfl) dX5_narrow_54
        · skip
          refine lv_iconst (v := (-1)) hx hb dX5_narrow_32 (by decide) ?_
          have e9 : sp_narrow v r q n k = (-1, none) := if_neg (fun z => x_bt c_29 (m_k4.mpr z.2.2.2))
          exact xk_iretW hx hb hr hlk hP hS (by rw [e9]) (by rw [← hW1, e9]; rfl) dX5_narrow_33
set_option maxHeartbeats 4000000 in
set_option maxRecDepth 100000 in
theorem y_look (l : Launch) (D : va_G) (cI cJ cS : ClassId) (m0 ms mb mw mm : Nat) (v : xV) (b w mi : Nat → Int32) (kp : Nat) (hkp : kp ≤ 24) (hv : x_ok v) (hX : v.2.2.2.2.2.2.2.1 = false → ∀ k, v.2.2.2.2.2.1 k = false) (hs0 : v.2.2.2.2.2.2.2.1 = false → v.2.2.2.2.2.2.2.2.1 = 0) (r q d : Int32) : xk_Wr l yX5_look wsX5_look ({ frames := 3, cells := 0, slots := 0, locals := 71 }) D vwCl (xt cI cJ cS) (xm cI m0 ms mb mw mm v b w mi kp) [.ref m0, .int r, .int q, .int d] (xmo cI m0 ms mb mw mm v b w mi kp (sp_look v r q d).2) (some (.int (sp_look v r q d).1)) := by
  refine xk_wr2 (cc := cX5_look) (maxL := 5) (ret := (some .int)) (by decide) rfl (Nat.le_of_ble_eq_true rfl) (fun p e s m below meth c ls W0v W1v hW1 hx hb hr hlk hml hown hts hl hP hK hN hD hS => ?_)
  replace hl : lv_has ls 5 [(0, .ref m0), (1, .int r), (2, .int q), (3, .int d)] := hl
  have hiX5 : ∀ w ∈ u_ws RX5 TX5 5, w ∈ wsX5_look := by decide +kernel
  replace hP : va_P D vwCl ([(m0, .inr (4, [.ref ms, .ref mb, .int (nI kp), .ref mw, .ref mm])), (ms, .inl (cI, 2128, .inl (xf v))), (mb, .inl (cI, 2128, .inl b)), (mw, .inl (cI, 51072, .inl w)), (mm, .inl (cI, 320, .inl mi))]) s.heap := hP
  replace hD : va_D _ ([(m0, .inr (4, [.ref ms, .ref mb, .int (nI kp), .ref mw, .ref mm])), (ms, .inl (cI, 2128, .inl (xf v))), (mb, .inl (cI, 2128, .inl b)), (mw, .inl (cI, 51072, .inl w)), (mm, .inl (cI, 320, .inl mi))]) := hD
  refine lv_iload_n hx hb dX5_look_0 rfl (lv_at hl 1 rfl) ?_
  refine xk_callR (va_runS (As := [.int r]) (rest := []) ⟨hx, hb, hml, hown, hts⟩ (j_isRegister l D cI cJ cS r) (va_cwS 1 hts gX5_look_X5_isRegister rfl rfl rfl (by decide +kernel) ⟨Nat.le_of_ble_eq_true rfl, Nat.le_of_ble_eq_true rfl⟩) (xk_preSr hK hN hP [] rfl) rfl rfl hl.1 rfl (lv_room (Nat.le_of_ble_eq_true rfl)) dX5_look_1 ⟨Nat.zero_le _, Nat.zero_le _⟩) ?_
  refine lv_if_eq (tgt := 14) hx hb dX5_look_4 (by decide) (fun c_4 => ?_) (fun c_4 => ?_)
  · skip
    refine lv_iconst (v := (-1)) hx hb dX5_look_14 (by decide) ?_
    have e9 : sp_look v r q d = (-1, none) := if_neg (fun z => x_bt c_4 z.1)
    exact xk_iretW hx hb hr hlk hP hS (by rw [e9]) (by rw [← hW1, e9]; rfl) dX5_look_15
  · skip
    refine lv_iload_n hx hb dX5_look_7 rfl (lv_at hl 2 rfl) ?_
    refine xk_callR (va_runS (As := [.int q]) (rest := []) ⟨hx, hb, hml, hown, hts⟩ (j_isRegister l D cI cJ cS q) (va_cwS 1 hts gX5_look_X5_isRegister rfl rfl rfl (by decide +kernel) ⟨Nat.le_of_ble_eq_true rfl, Nat.le_of_ble_eq_true rfl⟩) (xk_preSr hK hN hP [] rfl) rfl rfl hl.1 rfl (lv_room (Nat.le_of_ble_eq_true rfl)) dX5_look_8 ⟨Nat.zero_le _, Nat.zero_le _⟩) ?_
    refine lv_if_ne (tgt := 16) hx hb dX5_look_11 (by decide) (fun c_11 => ?_) (fun c_11 => ?_)
    · skip
      obtain ⟨rk, hrk, er⟩ := xi_of (xb_ne c_4)
      have hxr : xN r = rk := by rw [er]; exact xN_nI (by omega)
      rw [er] at hl
      obtain ⟨qk, hqk, eq⟩ := xi_of (xb_ne c_11)
      have hxq : xN q = qk := by rw [eq]; exact xN_nI (by omega)
      rw [eq] at hl
      refine lv_aload_n hx hb dX5_look_16 rfl (lv_at hl 0 rfl) ?_
      refine lv_iload_n hx hb dX5_look_17 rfl (lv_at hl 2 rfl) ?_
      refine lv_iconst (v := 1) hx hb dX5_look_18 (by decide) ?_
      refine lv_iload_n hx hb dX5_look_19 rfl (lv_at hl 3 rfl) ?_
      refine lv_iconst (v := 1) hx hb dX5_look_20 (by decide) ?_
      refine xk_callR (va_runV (As := [.int (nI qk), .int 1, .int d, .int 1]) (rest := []) ⟨hx, hb, hml, hown, hts⟩ (j_against l D cI cJ cS m0 ms mb mw mm v b w mi kp qk hqk (x_ok_r hv qk) 1 d 1) (cwV 4 hts gX5_look_X5_against rfl rfl rfl (by decide +kernel) ⟨Nat.le_of_ble_eq_true rfl, Nat.le_of_ble_eq_true rfl⟩) (xk_preVr hK hN hP [0, 1, 2, 3, 4] rfl (ci := 4) rfl 0 rfl) rfl rfl hl.1 rfl (lv_room (Nat.le_of_ble_eq_true rfl)) dX5_look_21 ⟨Nat.zero_le _, Nat.zero_le _⟩) ?_
      refine lv_istore (lv' := [(4, .int (x_fault (v.2.1 qk) 1 d 1)), (0, .ref m0), (1, .int (nI rk)), (2, .int (nI qk)), (3, .int d)]) hx hb dX5_look_24 hl (by decide) rfl (fun ls hl => ?_)
      refine lv_iload hx hb dX5_look_26 (lv_at hl 0 rfl) ?_
      refine lv_if_eq (tgt := 34) hx hb dX5_look_28 (by decide) (fun c_28 => ?_) (fun c_28 => ?_)
      · skip
        obtain ⟨ck, ec, hck1, hxc⟩ := x_fault0 (nk := 1) (hv.2.1 qk) c_28 rfl (by decide)
        have hck : ck < 256 := by omega
        refine lv_aload_n hx hb dX5_look_34 rfl (lv_at hl 1 rfl) ?_
        refine xk_callW (ws' := [(m0, .inr (4, [.ref ms, .ref mb, .int (nI kp), .ref mw, .ref mm])), (ms, .inl (cI, 2128, .inl (xf v))), (mb, .inl (cI, 2128, .inl (xf v))), (mw, .inl (cI, 51072, .inl w)), (mm, .inl (cI, 320, .inl mi))]) (va_runV (As := []) (rest := []) ⟨hx, hb, hml, hown, hts⟩ (j_begin l D cI cJ cS m0 ms mb mw mm (xf v) b w mi kp ) (cwV 0 hts gX5_look_X5_begin rfl rfl rfl (by decide +kernel) ⟨Nat.le_of_ble_eq_true rfl, Nat.le_of_ble_eq_true rfl⟩) (xk_preVw hK hN hP hD [0, 1, 2, 3, 4] rfl rfl (ci := 4) rfl 0 rfl) rfl rfl hl.1 rfl (lv_room (Nat.le_of_ble_eq_true rfl)) dX5_look_35 ⟨Nat.zero_le _, Nat.zero_le _⟩) hP hD hS [0, 1, 2, 3, 4] rfl rfl rfl (fun H locs hP hD hS => ?_)
        refine lv_aload_n hx hb dX5_look_38 rfl (lv_at hl 1 rfl) ?_
        refine lv_iload_n hx hb dX5_look_39 rfl (lv_at hl 2 rfl) ?_
        refine xk_callR (va_runS (As := [.int (nI rk)]) (rest := [.ref m0]) ⟨hx, hb, hml, hown, hts⟩ (j_reg l D cI cJ cS rk) (va_cwS 1 hts gX5_look_X5_reg rfl rfl rfl (by decide +kernel) ⟨Nat.le_of_ble_eq_true rfl, Nat.le_of_ble_eq_true rfl⟩) (xk_preSr hK hN hP [] rfl) rfl rfl hl.1 rfl (lv_room (Nat.le_of_ble_eq_true rfl)) dX5_look_40 ⟨Nat.zero_le _, Nat.zero_le _⟩) ?_
        refine lv_iconst (v := 5) hx hb dX5_look_43 (by decide) ?_
        refine lv_aload_n hx hb dX5_look_44 rfl (lv_at hl 1 rfl) ?_
        refine lv_iload_n hx hb dX5_look_45 rfl (lv_at hl 3 rfl) ?_
        refine lv_iload_n hx hb dX5_look_46 rfl (lv_at hl 4 rfl) ?_
        refine xk_callR (va_runV (As := [.int (nI qk), .int d]) (rest := [.int 5, .int (nI (1280 + 5 * rk)), .ref m0]) ⟨hx, hb, hml, hown, hts⟩ (j_cellOf l D cI cJ cS m0 ms mb mw mm v (xf v) w mi kp qk hqk d) (cwV 2 hts gX5_look_X5_cellOf rfl rfl rfl (by decide +kernel) ⟨Nat.le_of_ble_eq_true rfl, Nat.le_of_ble_eq_true rfl⟩) (xk_preVr hK hN hP [0, 1, 2, 3, 4] rfl (ci := 4) rfl 0 rfl) rfl rfl hl.1 rfl (lv_room (Nat.le_of_ble_eq_true rfl)) dX5_look_47 ⟨Nat.zero_le _, Nat.zero_le _⟩) ?_
        refine lv_imul hx hb dX5_look_50 ?_
        refine lv_topi (fun y ey => ?_)
        obtain rfl : y = nI (5 * ck) := ey.trans (by rw [ec, show (5 : Int32) = nI 5 from rfl, pk_mul])
        refine xk_callW (ws' := [(m0, .inr (4, [.ref ms, .ref mb, .int (nI kp), .ref mw, .ref mm])), (ms, .inl (cI, 2128, .inl (xf (x_lok v rk ck)))), (mb, .inl (cI, 2128, .inl (xf v))), (mw, .inl (cI, 51072, .inl w)), (mm, .inl (cI, 320, .inl mi))]) (va_runV (As := [.int (nI (1280 + 5 * rk)), .int (nI (5 * ck))]) (rest := []) ⟨hx, hb, hml, hown, hts⟩ (j_lookUp l D cI cJ cS m0 ms mb mw mm v (xf v) w mi kp hX hv.1 rk ck hrk hck) (cwV 2 hts gX5_look_X5_lookUp rfl rfl rfl (by decide +kernel) ⟨Nat.le_of_ble_eq_true rfl, Nat.le_of_ble_eq_true rfl⟩) (xk_preVw hK hN hP hD [0, 1, 2, 3, 4] rfl rfl (ci := 4) rfl 0 rfl) rfl rfl hl.1 rfl (lv_room (Nat.le_of_ble_eq_true rfl)) dX5_look_51 ⟨Nat.zero_le _, Nat.zero_le _⟩) hP hD hS [0, 1, 2, 3, 4] rfl rfl rfl (fun H locs hP hD hS => ?_)
        refine lv_aload_n hx hb dX5_look_54 rfl (lv_at hl 1 rfl) ?_
        refine lv_aload_n hx hb dX5_look_55 rfl (lv_at hl 1 rfl) ?_
        refine va_get (D := D) (ci := 4) (v := .ref ms) (C := RX5) (T := TX5) (N := 5) hx hb hts hiX5 hown hK hP 0 rfl rfl 0 (by decide) (hts (.fieldLink RX5 7 "PointerSweepModel" "st" "[I") (by decide +kernel)) (fun _ h9 => h9) rfl dX5_look_56 ?_
        refine lv_iload_n hx hb dX5_look_59 rfl (lv_at hl 2 rfl) ?_
        refine xk_callR (va_runS (As := [.int (nI rk)]) (rest := [.ref ms, .ref m0]) ⟨hx, hb, hml, hown, hts⟩ (j_reg l D cI cJ cS rk) (va_cwS 1 hts gX5_look_X5_reg rfl rfl rfl (by decide +kernel) ⟨Nat.le_of_ble_eq_true rfl, Nat.le_of_ble_eq_true rfl⟩) (xk_preSr hK hN hP [] rfl) rfl rfl hl.1 rfl (lv_room (Nat.le_of_ble_eq_true rfl)) dX5_look_60 ⟨Nat.zero_le _, Nat.zero_le _⟩) ?_
        refine lv_iconst (v := 0) hx hb dX5_look_63 (by decide) ?_
        refine lv_iadd hx hb dX5_look_64 ?_
        refine xa_iald hx hb hK hP 1 0 rfl rfl (1280 + 5 * rk + 0) (nI_add (1280 + 5 * rk) 0) (by omega) (by decide) dX5_look_65 ?_
        refine lv_topi (fun y ey => ?_)
        obtain rfl : y = xb (xw_p (x_lk v.2.2.2.2.2.1 (v.1 ck))) := ey.trans (by rw [xf_r _ hrk (by decide)]; show xb (xw_p (va_up v.2.1 rk (x_lk v.2.2.2.2.2.1 (v.1 ck)) rk)) = _; rw [va_up_self])
        refine xk_callW (ws' := [(m0, .inr (4, [.ref ms, .ref mb, .int (nI (m_kp kp)), .ref mw, .ref mm])), (ms, .inl (cI, 2128, .inl (xf (x_lok v rk ck)))), (mb, .inl (cI, 2128, .inl (xf v))), (mw, .inl (cI, 51072, .inl (m_was (xf v) w kp))), (mm, .inl (cI, 320, .inl mi))]) (va_runV (As := [.int (xb (xw_p (x_lk v.2.2.2.2.2.1 (v.1 ck))))]) (rest := []) ⟨hx, hb, hml, hown, hts⟩ (j_keeps l D cI cJ cS m0 ms mb mw mm (xf (x_lok v rk ck)) (xf v) w mi kp hkp (xb (xw_p (x_lk v.2.2.2.2.2.1 (v.1 ck))))) (cwV 1 hts gX5_look_X5_keeps rfl rfl rfl (by decide +kernel) ⟨Nat.le_of_ble_eq_true rfl, Nat.le_of_ble_eq_true rfl⟩) (xk_preVw hK hN hP hD [0, 1, 2, 3, 4] rfl rfl (ci := 4) rfl 0 rfl) rfl rfl hl.1 rfl (lv_room (Nat.le_of_ble_eq_true rfl)) dX5_look_66 ⟨Nat.zero_le _, Nat.zero_le _⟩) hP hD hS [0, 1, 2, 3, 4] rfl rfl rfl (fun H locs hP hD hS => ?_)
        have e9 : sp_look v r q d = (xb (xw_p (x_lk v.2.2.2.2.2.1 (v.1 ck))), some (x_lok v rk ck)) := (by unfold sp_look; rw [if_pos ⟨xb_ne c_4, xb_ne c_11⟩, hxq, if_pos c_28, hxr, hxc])
        exact xk_iretW hx hb hr hlk hP hS (by rw [e9]) (by rw [← hW1, e9]; rfl) dX5_look_69
      · skip
        refine lv_iload hx hb dX5_look_31 (lv_at hl 0 rfl) ?_
        have e9 : sp_look v r q d = (x_fault (v.2.1 qk) 1 d 1, none) := (by unfold sp_look; rw [if_pos ⟨xb_ne c_4, xb_ne c_11⟩, hxq, if_neg c_28])
        exact xk_iretW hx hb hr hlk hP hS (by rw [e9]) (by rw [← hW1, e9]; rfl) dX5_look_33
    · skip
      refine lv_iconst (v := (-1)) hx hb dX5_look_14 (by decide) ?_
      have e9 : sp_look v r q d = (-1, none) := if_neg (fun z => x_bt c_11 z.2)
      exact xk_iretW hx hb hr hlk hP hS (by rw [e9]) (by rw [← hW1, e9]; rfl) dX5_look_15
set_option maxHeartbeats 4000000 in
set_option maxRecDepth 100000 in
theorem y_lay (l : Launch) (D : va_G) (cI cJ cS : ClassId) (m0 ms mb mw mm : Nat) (v : xV) (b w mi : Nat → Int32) (kp : Nat) (hkp : kp ≤ 24) (hv : x_ok v) (hX : v.2.2.2.2.2.2.2.1 = false → ∀ k, v.2.2.2.2.2.1 k = false) (hs0 : v.2.2.2.2.2.2.2.1 = false → v.2.2.2.2.2.2.2.2.1 = 0) (q d r : Int32) : xk_Wr l yX5_lay wsX5_lay ({ frames := 2, cells := 0, slots := 0, locals := 48 }) D vwCl (xt cI cJ cS) (xm cI m0 ms mb mw mm v b w mi kp) [.ref m0, .int q, .int d, .int r] (xmo cI m0 ms mb mw mm v b w mi kp (sp_lay v q d r).2) (some (.int (sp_lay v q d r).1)) := by
  refine xk_wr2 (cc := cX5_lay) (maxL := 6) (ret := (some .int)) (by decide) rfl (Nat.le_of_ble_eq_true rfl) (fun p e s m below meth c ls W0v W1v hW1 hx hb hr hlk hml hown hts hl hP hK hN hD hS => ?_)
  replace hl : lv_has ls 6 [(0, .ref m0), (1, .int q), (2, .int d), (3, .int r)] := hl
  replace hP : va_P D vwCl ([(m0, .inr (4, [.ref ms, .ref mb, .int (nI kp), .ref mw, .ref mm])), (ms, .inl (cI, 2128, .inl (xf v))), (mb, .inl (cI, 2128, .inl b)), (mw, .inl (cI, 51072, .inl w)), (mm, .inl (cI, 320, .inl mi))]) s.heap := hP
  replace hD : va_D _ ([(m0, .inr (4, [.ref ms, .ref mb, .int (nI kp), .ref mw, .ref mm])), (ms, .inl (cI, 2128, .inl (xf v))), (mb, .inl (cI, 2128, .inl b)), (mw, .inl (cI, 51072, .inl w)), (mm, .inl (cI, 320, .inl mi))]) := hD
  refine lv_iload_n hx hb dX5_lay_0 rfl (lv_at hl 1 rfl) ?_
  refine xk_callR (va_runS (As := [.int q]) (rest := []) ⟨hx, hb, hml, hown, hts⟩ (j_isRegister l D cI cJ cS q) (va_cwS 1 hts gX5_lay_X5_isRegister rfl rfl rfl (by decide +kernel) ⟨Nat.le_of_ble_eq_true rfl, Nat.le_of_ble_eq_true rfl⟩) (xk_preSr hK hN hP [] rfl) rfl rfl hl.1 rfl (lv_room (Nat.le_of_ble_eq_true rfl)) dX5_lay_1 ⟨Nat.zero_le _, Nat.zero_le _⟩) ?_
  refine lv_if_eq (tgt := 14) hx hb dX5_lay_4 (by decide) (fun c_4 => ?_) (fun c_4 => ?_)
  · skip
    refine lv_iconst (v := (-1)) hx hb dX5_lay_14 (by decide) ?_
    have e9 : sp_lay v q d r = (-1, none) := if_neg (fun z => x_bt c_4 z.1)
    exact xk_iretW hx hb hr hlk hP hS (by rw [e9]) (by rw [← hW1, e9]; rfl) dX5_lay_15
  · skip
    refine lv_iload_n hx hb dX5_lay_7 rfl (lv_at hl 3 rfl) ?_
    refine xk_callR (va_runS (As := [.int r]) (rest := []) ⟨hx, hb, hml, hown, hts⟩ (j_isRegister l D cI cJ cS r) (va_cwS 1 hts gX5_lay_X5_isRegister rfl rfl rfl (by decide +kernel) ⟨Nat.le_of_ble_eq_true rfl, Nat.le_of_ble_eq_true rfl⟩) (xk_preSr hK hN hP [] rfl) rfl rfl hl.1 rfl (lv_room (Nat.le_of_ble_eq_true rfl)) dX5_lay_8 ⟨Nat.zero_le _, Nat.zero_le _⟩) ?_
    refine lv_if_ne (tgt := 16) hx hb dX5_lay_11 (by decide) (fun c_11 => ?_) (fun c_11 => ?_)
    · skip
      obtain ⟨qk, hqk, eq⟩ := xi_of (xb_ne c_4)
      have hxq : xN q = qk := by rw [eq]; exact xN_nI (by omega)
      rw [eq] at hl
      obtain ⟨rk, hrk, er⟩ := xi_of (xb_ne c_11)
      have hxr : xN r = rk := by rw [er]; exact xN_nI (by omega)
      rw [er] at hl
      refine lv_aload_n hx hb dX5_lay_16 rfl (lv_at hl 0 rfl) ?_
      refine lv_iload_n hx hb dX5_lay_17 rfl (lv_at hl 1 rfl) ?_
      refine lv_iconst (v := 2) hx hb dX5_lay_18 (by decide) ?_
      refine lv_iload_n hx hb dX5_lay_19 rfl (lv_at hl 2 rfl) ?_
      refine lv_iconst (v := 1) hx hb dX5_lay_20 (by decide) ?_
      refine xk_callR (va_runV (As := [.int (nI qk), .int 2, .int d, .int 1]) (rest := []) ⟨hx, hb, hml, hown, hts⟩ (j_against l D cI cJ cS m0 ms mb mw mm v b w mi kp qk hqk (x_ok_r hv qk) 2 d 1) (cwV 4 hts gX5_lay_X5_against rfl rfl rfl (by decide +kernel) ⟨Nat.le_of_ble_eq_true rfl, Nat.le_of_ble_eq_true rfl⟩) (xk_preVr hK hN hP [0, 1, 2, 3, 4] rfl (ci := 4) rfl 0 rfl) rfl rfl hl.1 rfl (lv_room (Nat.le_of_ble_eq_true rfl)) dX5_lay_21 ⟨Nat.zero_le _, Nat.zero_le _⟩) ?_
      refine lv_istore (lv' := [(4, .int (x_fault (v.2.1 qk) 2 d 1)), (0, .ref m0), (1, .int (nI qk)), (2, .int d), (3, .int (nI rk))]) hx hb dX5_lay_24 hl (by decide) rfl (fun ls hl => ?_)
      refine lv_iload hx hb dX5_lay_26 (lv_at hl 0 rfl) ?_
      refine lv_if_eq (tgt := 34) hx hb dX5_lay_28 (by decide) (fun c_28 => ?_) (fun c_28 => ?_)
      · skip
        obtain ⟨ck, ec, hck1, hxc⟩ := x_fault0 (nk := 1) (hv.2.1 qk) c_28 rfl (by decide)
        have hck : ck < 256 := by omega
        refine lv_aload_n hx hb dX5_lay_34 rfl (lv_at hl 1 rfl) ?_
        refine xk_callW (ws' := [(m0, .inr (4, [.ref ms, .ref mb, .int (nI kp), .ref mw, .ref mm])), (ms, .inl (cI, 2128, .inl (xf v))), (mb, .inl (cI, 2128, .inl (xf v))), (mw, .inl (cI, 51072, .inl w)), (mm, .inl (cI, 320, .inl mi))]) (va_runV (As := []) (rest := []) ⟨hx, hb, hml, hown, hts⟩ (j_begin l D cI cJ cS m0 ms mb mw mm (xf v) b w mi kp ) (cwV 0 hts gX5_lay_X5_begin rfl rfl rfl (by decide +kernel) ⟨Nat.le_of_ble_eq_true rfl, Nat.le_of_ble_eq_true rfl⟩) (xk_preVw hK hN hP hD [0, 1, 2, 3, 4] rfl rfl (ci := 4) rfl 0 rfl) rfl rfl hl.1 rfl (lv_room (Nat.le_of_ble_eq_true rfl)) dX5_lay_35 ⟨Nat.zero_le _, Nat.zero_le _⟩) hP hD hS [0, 1, 2, 3, 4] rfl rfl rfl (fun H locs hP hD hS => ?_)
        refine lv_aload_n hx hb dX5_lay_38 rfl (lv_at hl 1 rfl) ?_
        refine lv_iload_n hx hb dX5_lay_39 rfl (lv_at hl 2 rfl) ?_
        refine lv_iload_n hx hb dX5_lay_40 rfl (lv_at hl 3 rfl) ?_
        refine xk_callR (va_runV (As := [.int (nI qk), .int d]) (rest := []) ⟨hx, hb, hml, hown, hts⟩ (j_cellOf l D cI cJ cS m0 ms mb mw mm v (xf v) w mi kp qk hqk d) (cwV 2 hts gX5_lay_X5_cellOf rfl rfl rfl (by decide +kernel) ⟨Nat.le_of_ble_eq_true rfl, Nat.le_of_ble_eq_true rfl⟩) (xk_preVr hK hN hP [0, 1, 2, 3, 4] rfl (ci := 4) rfl 0 rfl) rfl rfl hl.1 rfl (lv_room (Nat.le_of_ble_eq_true rfl)) dX5_lay_41 ⟨Nat.zero_le _, Nat.zero_le _⟩) ?_
        refine lv_topi (fun y ey => ?_)
        obtain rfl : y = nI ck := ey.trans ec
        refine lv_istore (lv' := [(5, .int (nI ck)), (4, .int (x_fault (v.2.1 qk) 2 d 1)), (0, .ref m0), (1, .int (nI qk)), (2, .int d), (3, .int (nI rk))]) hx hb dX5_lay_44 hl (by decide) rfl (fun ls hl => ?_)
        refine lv_aload_n hx hb dX5_lay_46 rfl (lv_at hl 2 rfl) ?_
        refine lv_iconst (v := 5) hx hb dX5_lay_47 (by decide) ?_
        refine lv_iload hx hb dX5_lay_48 (lv_at hl 0 rfl) ?_
        refine lv_imul hx hb dX5_lay_50 ?_
        refine lv_topi (fun y ey => ?_)
        obtain rfl : y = nI (5 * ck) := ey.trans (by rw [show (5 : Int32) = nI 5 from rfl, pk_mul])
        refine lv_iload_n hx hb dX5_lay_51 rfl (lv_at hl 5 rfl) ?_
        refine xk_callR (va_runS (As := [.int (nI rk)]) (rest := [.int (nI (5 * ck)), .ref m0]) ⟨hx, hb, hml, hown, hts⟩ (j_reg l D cI cJ cS rk) (va_cwS 1 hts gX5_lay_X5_reg rfl rfl rfl (by decide +kernel) ⟨Nat.le_of_ble_eq_true rfl, Nat.le_of_ble_eq_true rfl⟩) (xk_preSr hK hN hP [] rfl) rfl rfl hl.1 rfl (lv_room (Nat.le_of_ble_eq_true rfl)) dX5_lay_52 ⟨Nat.zero_le _, Nat.zero_le _⟩) ?_
        refine xk_callW (ws' := [(m0, .inr (4, [.ref ms, .ref mb, .int (nI kp), .ref mw, .ref mm])), (ms, .inl (cI, 2128, .inl (u5 (xf v) (5 * ck) ((xf v) (1280 + 5 * rk)) ((xf v) ((1280 + 5 * rk) + 1)) ((xf v) ((1280 + 5 * rk) + 2)) ((xf v) ((1280 + 5 * rk) + 3)) ((xf v) ((1280 + 5 * rk) + 4))))), (mb, .inl (cI, 2128, .inl (xf v))), (mw, .inl (cI, 51072, .inl w)), (mm, .inl (cI, 320, .inl mi))]) (va_runV (As := [.int (nI (5 * ck)), .int (nI (1280 + 5 * rk))]) (rest := []) ⟨hx, hb, hml, hown, hts⟩ (j_become l D cI cJ cS m0 ms mb mw mm (xf v) (xf v) w mi kp (5 * ck) (1280 + 5 * rk) (by omega) (by omega)) (cwV 2 hts gX5_lay_X5_become rfl rfl rfl (by decide +kernel) ⟨Nat.le_of_ble_eq_true rfl, Nat.le_of_ble_eq_true rfl⟩) (xk_preVw hK hN hP hD [0, 1, 2, 3, 4] rfl rfl (ci := 4) rfl 0 rfl) rfl rfl hl.1 rfl (lv_room (Nat.le_of_ble_eq_true rfl)) dX5_lay_55 ⟨Nat.zero_le _, Nat.zero_le _⟩) hP hD hS [0, 1, 2, 3, 4] rfl rfl rfl (fun H locs hP hD hS => ?_)
        rw [m_bmr v hrk hck] at hP hD
        refine lv_aload_n hx hb dX5_lay_58 rfl (lv_at hl 2 rfl) ?_
        refine lv_iload hx hb dX5_lay_59 (lv_at hl 0 rfl) ?_
        refine xk_callW (ws' := [(m0, .inr (4, [.ref ms, .ref mb, .int (nI kp), .ref mw, .ref mm])), (ms, .inl (cI, 2128, .inl (xf (x_ldy (x_mem v ck (v.2.1 rk)) ck)))), (mb, .inl (cI, 2128, .inl (xf v))), (mw, .inl (cI, 51072, .inl w)), (mm, .inl (cI, 320, .inl mi))]) (va_runV (As := [.int (nI ck)]) (rest := []) ⟨hx, hb, hml, hown, hts⟩ (j_laid l D cI cJ cS m0 ms mb mw mm (x_mem v ck (v.2.1 rk)) (xf v) w mi kp hs0 ck hck) (cwV 1 hts gX5_lay_X5_laid rfl rfl rfl (by decide +kernel) ⟨Nat.le_of_ble_eq_true rfl, Nat.le_of_ble_eq_true rfl⟩) (xk_preVw hK hN hP hD [0, 1, 2, 3, 4] rfl rfl (ci := 4) rfl 0 rfl) rfl rfl hl.1 rfl (lv_room (Nat.le_of_ble_eq_true rfl)) dX5_lay_61 ⟨Nat.zero_le _, Nat.zero_le _⟩) hP hD hS [0, 1, 2, 3, 4] rfl rfl rfl (fun H locs hP hD hS => ?_)
        rw [m_lay] at hP hD
        refine lv_aload_n hx hb dX5_lay_64 rfl (lv_at hl 2 rfl) ?_
        refine lv_iload hx hb dX5_lay_65 (lv_at hl 0 rfl) ?_
        refine xk_callW (ws' := [(m0, .inr (4, [.ref ms, .ref mb, .int (nI (m_kp kp)), .ref mw, .ref mm])), (ms, .inl (cI, 2128, .inl (xf (x_lay v ck (v.2.1 rk))))), (mb, .inl (cI, 2128, .inl (xf v))), (mw, .inl (cI, 51072, .inl (m_was (xf v) w kp))), (mm, .inl (cI, 320, .inl mi))]) (va_runV (As := [.int (nI ck)]) (rest := []) ⟨hx, hb, hml, hown, hts⟩ (j_keeps l D cI cJ cS m0 ms mb mw mm (xf (x_lay v ck (v.2.1 rk))) (xf v) w mi kp hkp (nI ck)) (cwV 1 hts gX5_lay_X5_keeps rfl rfl rfl (by decide +kernel) ⟨Nat.le_of_ble_eq_true rfl, Nat.le_of_ble_eq_true rfl⟩) (xk_preVw hK hN hP hD [0, 1, 2, 3, 4] rfl rfl (ci := 4) rfl 0 rfl) rfl rfl hl.1 rfl (lv_room (Nat.le_of_ble_eq_true rfl)) dX5_lay_67 ⟨Nat.zero_le _, Nat.zero_le _⟩) hP hD hS [0, 1, 2, 3, 4] rfl rfl rfl (fun H locs hP hD hS => ?_)
        have e9 : sp_lay v q d r = (nI ck, some (x_lay v ck (v.2.1 rk))) := (by unfold sp_lay; rw [if_pos ⟨xb_ne c_4, xb_ne c_11⟩, hxq, if_pos c_28, hxc, ec, hxr])
        exact xk_iretW hx hb hr hlk hP hS (by rw [e9]) (by rw [← hW1, e9]; rfl) dX5_lay_70
      · skip
        refine lv_iload hx hb dX5_lay_31 (lv_at hl 0 rfl) ?_
        have e9 : sp_lay v q d r = (x_fault (v.2.1 qk) 2 d 1, none) := (by unfold sp_lay; rw [if_pos ⟨xb_ne c_4, xb_ne c_11⟩, hxq, if_neg c_28])
        exact xk_iretW hx hb hr hlk hP hS (by rw [e9]) (by rw [← hW1, e9]; rfl) dX5_lay_33
    · skip
      refine lv_iconst (v := (-1)) hx hb dX5_lay_14 (by decide) ?_
      have e9 : sp_lay v q d r = (-1, none) := if_neg (fun z => x_bt c_11 z.2)
      exact xk_iretW hx hb hr hlk hP hS (by rw [e9]) (by rw [← hW1, e9]; rfl) dX5_lay_15
