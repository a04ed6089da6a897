set_option maxHeartbeats 4000000 in
set_option maxRecDepth 100000 in
theorem y_told (l : Launch) (D : va_G) (cI cJ cS : ClassId) (m0 ms mb mw mm : Nat) (v : xV) (b w mi : Nat → Int32) (kp : Nat) (hkp : kp ≤ 24) (hv : x_ok v) (hX : v.2.2.2.2.2.2.2.1 = false → ∀ k, v.2.2.2.2.2.1 k = false) (hs0 : v.2.2.2.2.2.2.2.1 = false → v.2.2.2.2.2.2.2.2.1 = 0) (wh i what : Int32) : xk_Rd l yX5_told wsX5_told ({ frames := 1, cells := 0, slots := 0, locals := 25 }) D vwCl (xt cI cJ cS) (xm cI m0 ms mb mw mm v b w mi kp) [.ref m0, .int wh, .int i, .int what] (some (.int (sp_told v wh i what))) := by
  refine xk_rd (cc := cX5_told) (maxL := 5) (ret := (some .int)) (by decide) rfl (Nat.le_of_ble_eq_true rfl) (fun p e s m below meth c ls hx hb hr hlk hml hown hts hl hP hK hN => ?_)
  replace hl : lv_has ls 5 [(0, .ref m0), (1, .int wh), (2, .int i), (3, .int what)] := hl
  have hiX5 : ∀ w ∈ u_ws RX5 TX5 5, w ∈ wsX5_told := by decide +kernel
  replace hP : va_P D vwCl ([(m0, .inr (4, [.ref ms, .ref mb, .int (nI kp), .ref mw, .ref mm])), (ms, .inl (cI, 2128, .inl (xf v))), (mb, .inl (cI, 2128, .inl b)), (mw, .inl (cI, 51072, .inl w)), (mm, .inl (cI, 320, .inl mi))]) s.heap := hP
  refine lv_iload_n hx hb dX5_told_0 rfl (lv_at hl 1 rfl) ?_
  refine lv_i2l hx hb dX5_told_1 rfl ?_
  refine lv_lconst (v := 0) hx hb dX5_told_2 (by decide) ?_
  refine lv_lconst (v := 1) hx hb dX5_told_3 (by decide) ?_
  refine xk_callR (va_runS (As := [.long ((wh : Int32).toInt64), .long 0, .long 1]) (rest := []) ⟨hx, hb, hml, hown, hts⟩ (j_in l D cI cJ cS ((wh : Int32).toInt64) 0 1) (va_cwS 3 hts gX5_told_X5_in rfl rfl rfl (by decide +kernel) ⟨Nat.le_of_ble_eq_true rfl, Nat.le_of_ble_eq_true rfl⟩) (xk_preSr hK hN hP [] rfl) rfl rfl hl.1 rfl (lv_room (Nat.le_of_ble_eq_true rfl)) dX5_told_4 ⟨Nat.zero_le _, Nat.zero_le _⟩) ?_
  refine lv_if_eq (tgt := 44) hx hb dX5_told_7 (by decide) (fun c_7 => ?_) (fun c_7 => ?_)
  · skip
    refine lv_ldc hx hb hown (hts (.constant RX5 65 (-1000000001)) (by decide +kernel)) dX5_told_44 ?_
    exact xk_iretR hx hb hr hlk (m_told_w (by rw [← xin_xi wh (hi := 1) (n := 2) rfl]; exact xb_eq c_7)) dX5_told_46
  · skip
    refine lv_iload_n hx hb dX5_told_10 rfl (lv_at hl 2 rfl) ?_
    refine lv_i2l hx hb dX5_told_11 rfl ?_
    refine lv_lconst (v := 0) hx hb dX5_told_12 (by decide) ?_
    refine lv_iload_n hx hb dX5_told_13 rfl (lv_at hl 1 rfl) ?_
    refine lv_if_ne (tgt := 23) hx hb dX5_told_14 (by decide) (fun c_14 => ?_) (fun c_14 => ?_)
    · skip
      refine lv_ldc2 hx hb hown (hts (.constantLong RX5 96 (255)) (by decide +kernel)) dX5_told_23 ?_
      refine xk_callR (va_runS (As := [.long ((i : Int32).toInt64), .long 0, .long 255]) (rest := []) ⟨hx, hb, hml, hown, hts⟩ (j_in l D cI cJ cS ((i : Int32).toInt64) 0 255) (va_cwS 3 hts gX5_told_X5_in rfl rfl rfl (by decide +kernel) ⟨Nat.le_of_ble_eq_true rfl, Nat.le_of_ble_eq_true rfl⟩) (xk_preSr hK hN hP [] rfl) rfl rfl hl.1 rfl (lv_room (Nat.le_of_ble_eq_true rfl)) dX5_told_26 ⟨Nat.zero_le _, Nat.zero_le _⟩) ?_
      refine lv_if_eq (tgt := 44) hx hb dX5_told_29 (by decide) (fun c_29 => ?_) (fun c_29 => ?_)
      · skip
        refine lv_ldc hx hb hown (hts (.constant RX5 65 (-1000000001)) (by decide +kernel)) dX5_told_44 ?_
        exact xk_iretR hx hb hr hlk (by unfold sp_told; rw [if_neg (fun z => c_14 z.1), if_neg (fun z => by rw [← xin_xi i (hi := 255) (n := 256) rfl, xb_eq c_29] at z; exact absurd z.2 (by decide))]) dX5_told_46
      · skip
        refine lv_iload_n hx hb dX5_told_32 rfl (lv_at hl 3 rfl) ?_
        refine lv_i2l hx hb dX5_told_33 rfl ?_
        refine lv_lconst (v := 0) hx hb dX5_told_34 (by decide) ?_
        refine lv_ldc2 hx hb hown (hts (.constantLong RX5 98 (6)) (by decide +kernel)) dX5_told_35 ?_
        refine xk_callR (va_runS (As := [.long ((what : Int32).toInt64), .long 0, .long 6]) (rest := []) ⟨hx, hb, hml, hown, hts⟩ (j_in l D cI cJ cS ((what : Int32).toInt64) 0 6) (va_cwS 3 hts gX5_told_X5_in rfl rfl rfl (by decide +kernel) ⟨Nat.le_of_ble_eq_true rfl, Nat.le_of_ble_eq_true rfl⟩) (xk_preSr hK hN hP [] rfl) rfl rfl hl.1 rfl (lv_room (Nat.le_of_ble_eq_true rfl)) dX5_told_38 ⟨Nat.zero_le _, Nat.zero_le _⟩) ?_
        refine lv_if_ne (tgt := 47) hx hb dX5_told_41 (by decide) (fun c_41 => ?_) (fun c_41 => ?_)
        · skip
          have hxw : xi wh 2 = true := by rw [← xin_xi wh (hi := 1) (n := 2) rfl]; exact xb_ne c_7
          have hxi8 : xi i 256 = true := by rw [← xin_xi i (hi := 255) (n := 256) rfl]; exact xb_ne c_29
          obtain ⟨ik, hik, ei⟩ := xi_of hxi8
          have hxi : xN i = ik := by rw [ei]; exact xN_nI (by omega)
          obtain ⟨wk, hwk, ew⟩ := xi_of (x := what) (n := 7) (by rw [← xin_xi what (hi := 6) (n := 7) rfl]; exact xb_ne c_41)
          rw [ei, ew] at hl
          refine lv_iload_n hx hb dX5_told_47 rfl (lv_at hl 1 rfl) ?_
          refine lv_if_ne (tgt := 58) hx hb dX5_told_48 (by decide) (fun c_48 => ?_) (fun c_48 => ?_)
          · skip
            refine lv_iconst (v := 5) hx hb dX5_told_58 (by decide) ?_
            refine lv_iload_n hx hb dX5_told_59 rfl (lv_at hl 2 rfl) ?_
            refine lv_imul hx hb dX5_told_60 ?_
            refine lv_topi (fun y ey => ?_)
            obtain rfl : y = nI (5 * ik) := ey.trans (by rw [show (5 : Int32) = nI 5 from rfl, pk_mul])
            refine lv_istore (lv' := [(4, .int (nI (5 * ik))), (0, .ref m0), (1, .int wh), (2, .int (nI ik)), (3, .int (nI wk))]) hx hb dX5_told_61 hl (by decide) rfl (fun ls hl => ?_)
            refine lv_iload_n hx hb dX5_told_63 rfl (lv_at hl 4 rfl) ?_
            refine lv_iconst (v := 5) hx hb dX5_told_64 (by decide) ?_
            refine lv_icmp_ge (tgt := 78) hx hb dX5_told_65 (by decide) (fun c_65 => ?_) (fun c_65 => ?_)
            · skip
              refine lv_iload_n hx hb dX5_told_78 rfl (lv_at hl 4 rfl) ?_
              refine lv_bipush (v := 6) hx hb dX5_told_79 (by decide) ?_
              refine lv_icmp_ne (tgt := 101) hx hb dX5_told_81 (by decide) (fun c_81 => ?_) (fun c_81 => ?_)
              · skip
                refine lv_iload_n hx hb dX5_told_101 rfl (lv_at hl 2 rfl) ?_
                refine lv_if_ne (tgt := 109) hx hb dX5_told_102 (by decide) (fun c_102 => ?_) (fun c_102 => ?_)
                · skip
                  refine lv_aload_n hx hb dX5_told_109 rfl (lv_at hl 1 rfl) ?_
                  refine va_get (D := D) (ci := 4) (v := .ref ms) (C := RX5) (T := TX5) (N := 5) hx hb hts hiX5 hown hK hP 0 rfl rfl 0 (by decide) (hts (.fieldLink RX5 7 "PointerSweepModel" "st" "[I") (by decide +kernel)) (fun _ h9 => h9) rfl dX5_told_110 ?_
                  refine lv_sipush (v := 1320) hx hb dX5_told_113 (by decide) ?_
                  refine lv_iload_n hx hb dX5_told_116 rfl (lv_at hl 3 rfl) ?_
                  refine lv_iadd hx hb dX5_told_117 ?_
                  refine xa_iald hx hb hK hP 1 0 rfl rfl (1320 + ik) (nI_add 1320 ik) (by omega) (by decide) dX5_told_118 ?_
                  exact xk_iretR hx hb hr hlk (by have h5 : wk = 5 := (by have h7 := xn_le_of (a := 5) (by decide) (by omega) c_65; have h8 : wk ≠ 6 := fun q => c_81 (by rw [q]; rfl); omega); unfold sp_told; rw [xf_u v hik, if_neg (fun z => c_14 z.1), if_pos ⟨m_wh1 hxw c_14, hxi8⟩, hxi, ew, h5, x_told_5]) dX5_told_119
                · skip
                  exact absurd c_102 c_14
              · skip
                refine lv_aload_n hx hb dX5_told_84 rfl (lv_at hl 1 rfl) ?_
                refine lv_iload hx hb dX5_told_85 (lv_at hl 0 rfl) ?_
                refine xk_callR (va_runV (As := [.int (nI (5 * ik))]) (rest := []) ⟨hx, hb, hml, hown, hts⟩ (j_isStale l D cI cJ cS m0 ms mb mw mm v b w mi kp hX (5 * ik) (by omega) (v.1 ik) (hv.1 ik) (fun j hj => xf_m v hik hj)) (cwV 1 hts gX5_told_X5_isStale rfl rfl rfl (by decide +kernel) ⟨Nat.le_of_ble_eq_true rfl, Nat.le_of_ble_eq_true rfl⟩) (xk_preVr hK hN hP [0, 1, 2, 3, 4] rfl (ci := 4) rfl 0 rfl) rfl rfl hl.1 rfl (lv_room (Nat.le_of_ble_eq_true rfl)) dX5_told_87 ⟨Nat.zero_le _, Nat.zero_le _⟩) ?_
                refine lv_if_eq (tgt := 97) hx hb dX5_told_90 (by decide) (fun c_90 => ?_) (fun c_90 => ?_)
                · skip
                  refine lv_iconst (v := 0) hx hb dX5_told_97 (by decide) ?_
                  refine lv_goto (tgt := 119) hx hb dX5_told_98 (by decide) ?_
                  exact xk_iretR hx hb hr hlk (by have h6 : wk = 6 := (nI_eq (by omega) (by decide)).mp c_81; unfold sp_told; rw [if_neg (fun z => c_14 z.1), if_pos ⟨m_wh1 hxw c_14, hxi8⟩, hxi, ew, h6, x_told_6]; exact xb_p0 xb_0 c_90) dX5_told_119
                · skip
                  refine lv_iconst (v := 1) hx hb dX5_told_93 (by decide) ?_
                  refine lv_goto (tgt := 119) hx hb dX5_told_94 (by decide) ?_
                  exact xk_iretR hx hb hr hlk (by have h6 : wk = 6 := (nI_eq (by omega) (by decide)).mp c_81; unfold sp_told; rw [if_neg (fun z => c_14 z.1), if_pos ⟨m_wh1 hxw c_14, hxi8⟩, hxi, ew, h6, x_told_6]; exact xb_p1 xb_0 c_90) dX5_told_119
            · skip
              refine lv_aload_n hx hb dX5_told_68 rfl (lv_at hl 1 rfl) ?_
              refine va_get (D := D) (ci := 4) (v := .ref ms) (C := RX5) (T := TX5) (N := 5) hx hb hts hiX5 hown hK hP 0 rfl rfl 0 (by decide) (hts (.fieldLink RX5 7 "PointerSweepModel" "st" "[I") (by decide +kernel)) (fun _ h9 => h9) rfl dX5_told_69 ?_
              refine lv_iload hx hb dX5_told_72 (lv_at hl 0 rfl) ?_
              refine lv_iload_n hx hb dX5_told_74 rfl (lv_at hl 4 rfl) ?_
              refine lv_iadd hx hb dX5_told_75 ?_
              refine xa_iald hx hb hK hP 1 0 rfl rfl (5 * ik + wk) (nI_add (5 * ik) wk) (by omega) (by decide) dX5_told_76 ?_
              exact xk_iretR hx hb hr hlk (by unfold sp_told; rw [xf_m v hik (xn_lt_of (a := 5) (by decide) (by omega) c_65), if_neg (fun z => c_14 z.1), if_pos ⟨m_wh1 hxw c_14, hxi8⟩, hxi, ew, x_told_lt _ _ _ (xn_lt_of (a := 5) (by decide) (by omega) c_65)]) dX5_told_77
          · skip
            exact absurd c_48 c_14
        · skip
          refine lv_ldc hx hb hown (hts (.constant RX5 65 (-1000000001)) (by decide +kernel)) dX5_told_44 ?_
          exact xk_iretR hx hb hr hlk (by unfold sp_told; split; exact (x_told_bad _ _ _ (by rw [← xin_xi what (hi := 6) (n := 7) rfl]; exact xb_eq c_41)).symm; split; exact (x_told_bad _ _ _ (by rw [← xin_xi what (hi := 6) (n := 7) rfl]; exact xb_eq c_41)).symm; rfl) dX5_told_46
    · skip
      refine lv_ldc2 hx hb hown (hts (.constantLong RX5 23 (7)) (by decide +kernel)) dX5_told_17 ?_
      refine lv_goto (tgt := 26) hx hb dX5_told_20 (by decide) ?_
      refine xk_callR (va_runS (As := [.long ((i : Int32).toInt64), .long 0, .long 7]) (rest := []) ⟨hx, hb, hml, hown, hts⟩ (j_in l D cI cJ cS ((i : Int32).toInt64) 0 7) (va_cwS 3 hts gX5_told_X5_in rfl rfl rfl (by decide +kernel) ⟨Nat.le_of_ble_eq_true rfl, Nat.le_of_ble_eq_true rfl⟩) (xk_preSr hK hN hP [] rfl) rfl rfl hl.1 rfl (lv_room (Nat.le_of_ble_eq_true rfl)) dX5_told_26 ⟨Nat.zero_le _, Nat.zero_le _⟩) ?_
      refine lv_if_eq (tgt := 44) hx hb dX5_told_29 (by decide) (fun c_29 => ?_) (fun c_29 => ?_)
      · skip
        refine lv_ldc hx hb hown (hts (.constant RX5 65 (-1000000001)) (by decide +kernel)) dX5_told_44 ?_
        exact xk_iretR hx hb hr hlk (by unfold sp_told; rw [if_neg (fun z => by rw [← xin_xi i (hi := 7) (n := 8) rfl, xb_eq c_29] at z; exact absurd z.2 (by decide)), if_neg (fun z => by rw [c_14] at z; exact absurd z.1 (by decide))]) dX5_told_46
      · skip
        refine lv_iload_n hx hb dX5_told_32 rfl (lv_at hl 3 rfl) ?_
        refine lv_i2l hx hb dX5_told_33 rfl ?_
        refine lv_lconst (v := 0) hx hb dX5_told_34 (by decide) ?_
        refine lv_ldc2 hx hb hown (hts (.constantLong RX5 98 (6)) (by decide +kernel)) dX5_told_35 ?_
        refine xk_callR (va_runS (As := [.long ((what : Int32).toInt64), .long 0, .long 6]) (rest := []) ⟨hx, hb, hml, hown, hts⟩ (j_in l D cI cJ cS ((what : Int32).toInt64) 0 6) (va_cwS 3 hts gX5_told_X5_in rfl rfl rfl (by decide +kernel) ⟨Nat.le_of_ble_eq_true rfl, Nat.le_of_ble_eq_true rfl⟩) (xk_preSr hK hN hP [] rfl) rfl rfl hl.1 rfl (lv_room (Nat.le_of_ble_eq_true rfl)) dX5_told_38 ⟨Nat.zero_le _, Nat.zero_le _⟩) ?_
        refine lv_if_ne (tgt := 47) hx hb dX5_told_41 (by decide) (fun c_41 => ?_) (fun c_41 => ?_)
        · skip
          have hxw : xi wh 2 = true := by rw [← xin_xi wh (hi := 1) (n := 2) rfl]; exact xb_ne c_7
          have hxi8 : xi i 8 = true := by rw [← xin_xi i (hi := 7) (n := 8) rfl]; exact xb_ne c_29
          obtain ⟨ik, hik, ei⟩ := xi_of hxi8
          have hxi : xN i = ik := by rw [ei]; exact xN_nI (by omega)
          obtain ⟨wk, hwk, ew⟩ := xi_of (x := what) (n := 7) (by rw [← xin_xi what (hi := 6) (n := 7) rfl]; exact xb_ne c_41)
          rw [ei, ew] at hl
          refine lv_iload_n hx hb dX5_told_47 rfl (lv_at hl 1 rfl) ?_
          refine lv_if_ne (tgt := 58) hx hb dX5_told_48 (by decide) (fun c_48 => ?_) (fun c_48 => ?_)
          · skip
            exact absurd c_14 c_48
          · skip
            refine lv_iload_n hx hb dX5_told_51 rfl (lv_at hl 2 rfl) ?_
            refine xk_callR (va_runS (As := [.int (nI ik)]) (rest := []) ⟨hx, hb, hml, hown, hts⟩ (j_reg l D cI cJ cS ik) (va_cwS 1 hts gX5_told_X5_reg rfl rfl rfl (by decide +kernel) ⟨Nat.le_of_ble_eq_true rfl, Nat.le_of_ble_eq_true rfl⟩) (xk_preSr hK hN hP [] rfl) rfl rfl hl.1 rfl (lv_room (Nat.le_of_ble_eq_true rfl)) dX5_told_52 ⟨Nat.zero_le _, Nat.zero_le _⟩) ?_
            refine lv_goto (tgt := 61) hx hb dX5_told_55 (by decide) ?_
            refine lv_istore (lv' := [(4, .int (nI (1280 + 5 * ik))), (0, .ref m0), (1, .int wh), (2, .int (nI ik)), (3, .int (nI wk))]) hx hb dX5_told_61 hl (by decide) rfl (fun ls hl => ?_)
            refine lv_iload_n hx hb dX5_told_63 rfl (lv_at hl 4 rfl) ?_
            refine lv_iconst (v := 5) hx hb dX5_told_64 (by decide) ?_
            refine lv_icmp_ge (tgt := 78) hx hb dX5_told_65 (by decide) (fun c_65 => ?_) (fun c_65 => ?_)
            · skip
              refine lv_iload_n hx hb dX5_told_78 rfl (lv_at hl 4 rfl) ?_
              refine lv_bipush (v := 6) hx hb dX5_told_79 (by decide) ?_
              refine lv_icmp_ne (tgt := 101) hx hb dX5_told_81 (by decide) (fun c_81 => ?_) (fun c_81 => ?_)
              · skip
                refine lv_iload_n hx hb dX5_told_101 rfl (lv_at hl 2 rfl) ?_
                refine lv_if_ne (tgt := 109) hx hb dX5_told_102 (by decide) (fun c_102 => ?_) (fun c_102 => ?_)
                · skip
                  exact absurd c_14 c_102
                · skip
                  refine lv_iconst (v := 0) hx hb dX5_told_105 (by decide) ?_
                  refine lv_goto (tgt := 119) hx hb dX5_told_106 (by decide) ?_
                  exact xk_iretR hx hb hr hlk (by have h5 : wk = 5 := (by have h7 := xn_le_of (a := 5) (by decide) (by omega) c_65; have h8 : wk ≠ 6 := fun q => c_81 (by rw [q]; rfl); omega); unfold sp_told; rw [if_pos ⟨c_14, hxi8⟩, hxi, ew, h5, x_told_5]) dX5_told_119
              · skip
                refine lv_aload_n hx hb dX5_told_84 rfl (lv_at hl 1 rfl) ?_
                refine lv_iload hx hb dX5_told_85 (lv_at hl 0 rfl) ?_
                refine xk_callR (va_runV (As := [.int (nI (1280 + 5 * ik))]) (rest := []) ⟨hx, hb, hml, hown, hts⟩ (j_isStale l D cI cJ cS m0 ms mb mw mm v b w mi kp hX (1280 + 5 * ik) (by omega) (v.2.1 ik) (hv.2.1 ik) (fun j hj => xf_r v hik hj)) (cwV 1 hts gX5_told_X5_isStale rfl rfl rfl (by decide +kernel) ⟨Nat.le_of_ble_eq_true rfl, Nat.le_of_ble_eq_true rfl⟩) (xk_preVr hK hN hP [0, 1, 2, 3, 4] rfl (ci := 4) rfl 0 rfl) rfl rfl hl.1 rfl (lv_room (Nat.le_of_ble_eq_true rfl)) dX5_told_87 ⟨Nat.zero_le _, Nat.zero_le _⟩) ?_
                refine lv_if_eq (tgt := 97) hx hb dX5_told_90 (by decide) (fun c_90 => ?_) (fun c_90 => ?_)
                · skip
                  refine lv_iconst (v := 0) hx hb dX5_told_97 (by decide) ?_
                  refine lv_goto (tgt := 119) hx hb dX5_told_98 (by decide) ?_
                  exact xk_iretR hx hb hr hlk (by have h6 : wk = 6 := (nI_eq (by omega) (by decide)).mp c_81; unfold sp_told; rw [if_pos ⟨c_14, hxi8⟩, hxi, ew, h6, x_told_6]; exact xb_p0 xb_0 c_90) dX5_told_119
                · skip
                  refine lv_iconst (v := 1) hx hb dX5_told_93 (by decide) ?_
                  refine lv_goto (tgt := 119) hx hb dX5_told_94 (by decide) ?_
                  exact xk_iretR hx hb hr hlk (by have h6 : wk = 6 := (nI_eq (by omega) (by decide)).mp c_81; unfold sp_told; rw [if_pos ⟨c_14, hxi8⟩, hxi, ew, h6, x_told_6]; exact xb_p1 xb_0 c_90) dX5_told_119
            · skip
              refine lv_aload_n hx hb dX5_told_68 rfl (lv_at hl 1 rfl) ?_
              refine va_get (D := D) (ci := 4) (v := .ref ms) (C := RX5) (T := TX5) (N := 5) hx hb hts hiX5 hown hK hP 0 rfl rfl 0 (by decide) (hts (.fieldLink RX5 7 "PointerSweepModel" "st" "[I") (by decide +kernel)) (fun _ h9 => h9) rfl dX5_told_69 ?_
              refine lv_iload hx hb dX5_told_72 (lv_at hl 0 rfl) ?_
              refine lv_iload_n hx hb dX5_told_74 rfl (lv_at hl 4 rfl) ?_
              refine lv_iadd hx hb dX5_told_75 ?_
              refine xa_iald hx hb hK hP 1 0 rfl rfl (1280 + 5 * ik + wk) (nI_add (1280 + 5 * ik) wk) (by omega) (by decide) dX5_told_76 ?_
              exact xk_iretR hx hb hr hlk (by unfold sp_told; rw [xf_r v hik (xn_lt_of (a := 5) (by decide) (by omega) c_65), if_pos ⟨c_14, hxi8⟩, hxi, ew, x_told_lt _ _ _ (xn_lt_of (a := 5) (by decide) (by omega) c_65)]) dX5_told_77
        · skip
          refine lv_ldc hx hb hown (hts (.constant RX5 65 (-1000000001)) (by decide +kernel)) dX5_told_44 ?_
          exact xk_iretR hx hb hr hlk (by unfold sp_told; split; exact (x_told_bad _ _ _ (by rw [← xin_xi what (hi := 6) (n := 7) rfl]; exact xb_eq c_41)).symm; split; exact (x_told_bad _ _ _ (by rw [← xin_xi what (hi := 6) (n := 7) rfl]; exact xb_eq c_41)).symm; rfl) dX5_told_46
