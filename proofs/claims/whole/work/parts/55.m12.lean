set_option maxHeartbeats 4000000 in
set_option maxRecDepth 100000 in
theorem y_give (l : Launch) (D : va_G) (cI cJ cS : ClassId) (m0 ms mb mw mm : Nat) (v : xV) (b w mi : Nat → Int32) (kp : Nat) (hkp : kp ≤ 24) (hv : x_ok v) (hX : v.2.2.2.2.2.2.2.1 = false → ∀ k, v.2.2.2.2.2.1 k = false) (hs0 : v.2.2.2.2.2.2.2.1 = false → v.2.2.2.2.2.2.2.2.1 = 0) (hrg : x_rg v.2.2.2.1 v.2.2.2.2.2.2.1) (r n : Int32) : xk_Wr l yX5_give wsX5_give ({ frames := 2, cells := 0, slots := 0, locals := 48 }) D vwCl (xt cI cJ cS) (xm cI m0 ms mb mw mm v b w mi kp) [.ref m0, .int r, .int n] (xmo cI m0 ms mb mw mm v b w mi kp (sp_give v r n).2) (some (.int (sp_give v r n).1)) := by
  refine xk_wr2 (cc := cX5_give) (maxL := 6) (ret := (some .int)) (by decide) rfl (Nat.le_of_ble_eq_true rfl) (fun p e s m below meth c ls W0v W1v hW1 hx hb hr hlk hml hown hts hl hP hK hN hD hS => ?_)
  replace hl : lv_has ls 6 [(0, .ref m0), (1, .int r), (2, .int n)] := hl
  have hiX5 : ∀ w ∈ u_ws RX5 TX5 5, w ∈ wsX5_give := by decide +kernel
  replace hP : va_P D vwCl ([(m0, .inr (4, [.ref ms, .ref mb, .int (nI kp), .ref mw, .ref mm])), (ms, .inl (cI, 2128, .inl (xf v))), (mb, .inl (cI, 2128, .inl b)), (mw, .inl (cI, 51072, .inl w)), (mm, .inl (cI, 320, .inl mi))]) s.heap := hP
  replace hD : va_D _ ([(m0, .inr (4, [.ref ms, .ref mb, .int (nI kp), .ref mw, .ref mm])), (ms, .inl (cI, 2128, .inl (xf v))), (mb, .inl (cI, 2128, .inl b)), (mw, .inl (cI, 51072, .inl w)), (mm, .inl (cI, 320, .inl mi))]) := hD
  refine lv_iload_n hx hb dX5_give_0 rfl (lv_at hl 1 rfl) ?_
  refine xk_callR (va_runS (As := [.int r]) (rest := []) ⟨hx, hb, hml, hown, hts⟩ (j_isRegister l D cI cJ cS r) (va_cwS 1 hts gX5_give_X5_isRegister rfl rfl rfl (by decide +kernel) ⟨Nat.le_of_ble_eq_true rfl, Nat.le_of_ble_eq_true rfl⟩) (xk_preSr hK hN hP [] rfl) rfl rfl hl.1 rfl (lv_room (Nat.le_of_ble_eq_true rfl)) dX5_give_1 ⟨Nat.zero_le _, Nat.zero_le _⟩) ?_
  refine lv_if_eq (tgt := 19) hx hb dX5_give_4 (by decide) (fun c_4 => ?_) (fun c_4 => ?_)
  · skip
    refine lv_iconst (v := (-1)) hx hb dX5_give_19 (by decide) ?_
    have e9 : sp_give v r n = (-1, none) := if_neg (fun z => x_bt c_4 z.1)
    exact xk_iretW hx hb hr hlk hP hS (by rw [e9]) (by rw [← hW1, e9]; rfl) dX5_give_20
  · skip
    refine lv_iload_n hx hb dX5_give_7 rfl (lv_at hl 2 rfl) ?_
    refine lv_i2l hx hb dX5_give_8 rfl ?_
    refine lv_lconst (v := 1) hx hb dX5_give_9 (by decide) ?_
    refine lv_ldc2 hx hb hown (hts (.constantLong RX5 46 (64)) (by decide +kernel)) dX5_give_10 ?_
    refine xk_callR (va_runS (As := [.long ((n : Int32).toInt64), .long 1, .long 64]) (rest := []) ⟨hx, hb, hml, hown, hts⟩ (j_in l D cI cJ cS ((n : Int32).toInt64) 1 64) (va_cwS 3 hts gX5_give_X5_in rfl rfl rfl (by decide +kernel) ⟨Nat.le_of_ble_eq_true rfl, Nat.le_of_ble_eq_true rfl⟩) (xk_preSr hK hN hP [] rfl) rfl rfl hl.1 rfl (lv_room (Nat.le_of_ble_eq_true rfl)) dX5_give_13 ⟨Nat.zero_le _, Nat.zero_le _⟩) ?_
    refine lv_if_ne (tgt := 21) hx hb dX5_give_16 (by decide) (fun c_16 => ?_) (fun c_16 => ?_)
    · skip
      obtain ⟨rk, hrk, er⟩ := xi_of (xb_ne c_4)
      have hxr : xN r = rk := by rw [er]; exact xN_nI (by omega)
      rw [er] at hl
      have hnn := (m_1n (n := n) (hi := 64) (M := 64) rfl).mp (xb_ne c_16)
      obtain ⟨nk, hn1, hn2, en, hxn⟩ := x_1n (M := 64) (m := 64) rfl hnn.1 hnn.2
      have hcond : xi r 8 = true ∧ ¬ n < 1 ∧ n ≤ 64 := ⟨xb_ne c_4, hnn.1, hnn.2⟩
      rw [en] at hl
      refine lv_iconst (v := 0) hx hb dX5_give_21 (by decide) ?_
      refine lv_topi (fun y ey => ?_)
      obtain rfl : y = nI 0 := ey.trans rfl
      refine lv_istore_n (lv' := [(3, .int (nI 0)), (0, .ref m0), (1, .int (nI rk)), (2, .int (nI nk))]) hx hb dX5_give_22 rfl hl (by decide) rfl (fun ls hl => ?_)
      refine lv_bipush (v := (-4)) hx hb dX5_give_23 (by decide) ?_
      refine lv_istore (lv' := [(4, .int (-4)), (3, .int (nI 0)), (0, .ref m0), (1, .int (nI rk)), (2, .int (nI nk))]) hx hb dX5_give_25 hl (by decide) rfl (fun ls hl => ?_)
      refine lv_iconst (v := 0) hx hb dX5_give_27 (by decide) ?_
      refine lv_istore (lv' := [(5, .int 0), (4, .int (-4)), (3, .int (nI 0)), (0, .ref m0), (1, .int (nI rk)), (2, .int (nI nk))]) hx hb dX5_give_28 hl (by decide) rfl (fun ls hl => ?_)
      have rest : ∀ (fj : Nat) (ls : Array Slot), fj + nk ≤ 256 ∧ x_ffr (xu v.2.2.2.1 v.2.2.2.2.1) (nI nk) 256 0 0 = nI fj → lv_has ls 6 [(4, .int (nI fj)), (0, .ref m0), (1, .int (nI rk)), (2, .int (nI nk))] → W p l e ({ frames := 2, cells := 0, slots := 0, locals := 48 }) s m ([.ref m0, .int r, .int n]).toArray below meth c s.heap [] 0 0 (MQ below (xk_W D vwCl W0v W1v (some (.int (sp_give v r n).1))) ([.ref m0, .int r, .int n]).toArray s 0 0 (xk_in W0v)) (F0 m 91 ls []) := by
        intro fj ls hfj hl
        obtain ⟨hfj, ef⟩ := hfj
        have hfree : ∀ k, fj ≤ k → k < fj + nk → v.2.2.2.1 k = false ∧ v.2.2.2.2.1 k = false := fun k h1 h2 => xu_free (x_ffr_free (xu v.2.2.2.1 v.2.2.2.2.1) nk hn1 hn2 256 0 0 fj rfl (Nat.le_refl 0) (by omega) (fun k h3 h4 => by omega) hfj ef k h1 h2)
        have loop : ∀ (n9 i : Nat) (H : Heap) (locs : List Loc) (ls : Array Slot), fj ≤ i ∧ i + n9 = fj + nk → va_P D vwCl ([(m0, .inr (4, [.ref ms, .ref mb, .int (nI kp), .ref mw, .ref mm])), (ms, .inl (cI, 2128, .inl (xf (x_gvi v fj i)))), (mb, .inl (cI, 2128, .inl (xf v))), (mw, .inl (cI, 51072, .inl w)), (mm, .inl (cI, 320, .inl mi))]) H → va_D (xk_in W0v) ([(m0, .inr (4, [.ref ms, .ref mb, .int (nI kp), .ref mw, .ref mm])), (ms, .inl (cI, 2128, .inl (xf (x_gvi v fj i)))), (mb, .inl (cI, 2128, .inl (xf v))), (mw, .inl (cI, 51072, .inl w)), (mm, .inl (cI, 320, .inl mi))]) → va_S (xk_in W0v) s.heap H locs → lv_has ls 6 [(5, .int (nI i)), (4, .int (nI fj)), (0, .ref m0), (1, .int (nI rk)), (2, .int (nI nk))] → W p l e ({ frames := 2, cells := 0, slots := 0, locals := 48 }) s m ([.ref m0, .int r, .int n]).toArray below meth c H locs 0 0 (MQ below (xk_W D vwCl W0v W1v (some (.int (sp_give v r n).1))) ([.ref m0, .int r, .int n]).toArray s 0 0 (xk_in W0v)) (F0 m 109 ls []) := by
          intro n9
          induction n9 with
          | zero =>
            intro i H locs ls hn hP hD hS hl
            obtain ⟨hi, hn⟩ := hn
            have hin : i = fj + nk := hn
            rw [hin] at hP hD
            refine lv_iload hx hb dX5_give_109 (lv_at hl 0 rfl) ?_
            refine lv_iload hx hb dX5_give_111 (lv_at hl 1 rfl) ?_
            refine lv_iload_n hx hb dX5_give_113 rfl (lv_at hl 4 rfl) ?_
            refine lv_iadd hx hb dX5_give_114 ?_
            refine lv_topi (fun y ey => ?_)
            obtain rfl : y = nI (fj + nk) := ey.trans (nI_add _ _)
            refine lv_icmp_ge (tgt := 158) hx hb dX5_give_115 (by decide) (fun c_115 => ?_) (fun c_115 => ?_)
            · skip
              refine lv_aload_n hx hb dX5_give_158 rfl (lv_at hl 2 rfl) ?_
              refine lv_iload_n hx hb dX5_give_159 rfl (lv_at hl 3 rfl) ?_
              refine xk_callR (va_runS (As := [.int (nI rk)]) (rest := [.ref m0]) ⟨hx, hb, hml, hown, hts⟩ (j_reg l D cI cJ cS rk) (va_cwS 1 hts gX5_give_X5_reg rfl rfl rfl (by decide +kernel) ⟨Nat.le_of_ble_eq_true rfl, Nat.le_of_ble_eq_true rfl⟩) (xk_preSr hK hN hP [] rfl) rfl rfl hl.1 rfl (lv_room (Nat.le_of_ble_eq_true rfl)) dX5_give_160 ⟨Nat.zero_le _, Nat.zero_le _⟩) ?_
              refine lv_iconst (v := 1) hx hb dX5_give_163 (by decide) ?_
              refine lv_iload hx hb dX5_give_164 (lv_at hl 1 rfl) ?_
              refine lv_iload hx hb dX5_give_166 (lv_at hl 1 rfl) ?_
              refine lv_iload hx hb dX5_give_168 (lv_at hl 1 rfl) ?_
              refine lv_iload_n hx hb dX5_give_170 rfl (lv_at hl 4 rfl) ?_
              refine lv_iadd hx hb dX5_give_171 ?_
              refine lv_topi (fun y ey => ?_)
              obtain rfl : y = nI (fj + nk) := ey.trans (nI_add _ _)
              refine lv_iconst (v := 3) hx hb dX5_give_172 (by decide) ?_
              refine lv_topi (fun y ey => ?_)
              obtain rfl : y = nI 3 := ey.trans rfl
              refine xk_callW (ws' := [(m0, .inr (4, [.ref ms, .ref mb, .int (nI kp), .ref mw, .ref mm])), (ms, .inl (cI, 2128, .inl (u5 (xf (x_gvi v fj (fj + nk))) (1280 + 5 * rk) 1 (nI fj) (nI fj) (nI (fj + nk)) (nI 3)))), (mb, .inl (cI, 2128, .inl (xf v))), (mw, .inl (cI, 51072, .inl w)), (mm, .inl (cI, 320, .inl mi))]) (va_runV (As := [.int (nI (1280 + 5 * rk)), .int 1, .int (nI fj), .int (nI fj), .int (nI (fj + nk)), .int (nI 3)]) (rest := []) ⟨hx, hb, hml, hown, hts⟩ (j_set l D cI cJ cS m0 ms mb mw mm (xf (x_gvi v fj (fj + nk))) (xf v) w mi kp (1280 + 5 * rk) (by omega) 1 (nI fj) (nI fj) (nI (fj + nk)) (nI 3)) (cwV 6 hts gX5_give_X5_set rfl rfl rfl (by decide +kernel) ⟨Nat.le_of_ble_eq_true rfl, Nat.le_of_ble_eq_true rfl⟩) (xk_preVw hK hN hP hD [0, 1, 2, 3, 4] rfl rfl (ci := 4) rfl 0 rfl) rfl rfl hl.1 rfl (lv_room (Nat.le_of_ble_eq_true rfl)) dX5_give_173 ⟨Nat.zero_le _, Nat.zero_le _⟩) hP hD hS [0, 1, 2, 3, 4] rfl rfl rfl (fun H locs hP hD hS => ?_)
              rw [m_ptr _ hrk] at hP hD
              refine lv_aload_n hx hb dX5_give_176 rfl (lv_at hl 2 rfl) ?_
              refine lv_iload hx hb dX5_give_177 (lv_at hl 1 rfl) ?_
              refine xk_callW (ws' := [(m0, .inr (4, [.ref ms, .ref mb, .int (nI (m_kp kp)), .ref mw, .ref mm])), (ms, .inl (cI, 2128, .inl (xf (x_reg (x_gvi v fj (fj + nk)) rk (nI fj, some (fj, fj + nk, 3)))))), (mb, .inl (cI, 2128, .inl (xf v))), (mw, .inl (cI, 51072, .inl (m_was (xf v) w kp))), (mm, .inl (cI, 320, .inl mi))]) (va_runV (As := [.int (nI fj)]) (rest := []) ⟨hx, hb, hml, hown, hts⟩ (j_keeps l D cI cJ cS m0 ms mb mw mm (xf (x_reg (x_gvi v fj (fj + nk)) rk (nI fj, some (fj, fj + nk, 3)))) (xf v) w mi kp hkp (nI fj)) (cwV 1 hts gX5_give_X5_keeps rfl rfl rfl (by decide +kernel) ⟨Nat.le_of_ble_eq_true rfl, Nat.le_of_ble_eq_true rfl⟩) (xk_preVw hK hN hP hD [0, 1, 2, 3, 4] rfl rfl (ci := 4) rfl 0 rfl) rfl rfl hl.1 rfl (lv_room (Nat.le_of_ble_eq_true rfl)) dX5_give_179 ⟨Nat.zero_le _, Nat.zero_le _⟩) hP hD hS [0, 1, 2, 3, 4] rfl rfl rfl (fun H locs hP hD hS => ?_)
              have e9 : sp_give v r n = (nI fj, some (x_giv v rk fj nk)) := by unfold sp_give; rw [if_pos hcond, en, ef, if_neg (x_ge0 (nI_pos' (by omega))), hxr, xN_nI (by omega), xN_nI (by omega)]
              exact xk_iretW hx hb hr hlk hP hS (by rw [e9]) (by rw [← hW1, e9]; rfl) dX5_give_182
            · skip
              exact absurd (nI_le (a := fj + nk) (b := i) (by omega) (by omega)) c_115
          | succ n9 ih =>
            intro i H locs ls hn hP hD hS hl
            obtain ⟨hi, hn⟩ := hn
            refine lv_iload hx hb dX5_give_109 (lv_at hl 0 rfl) ?_
            refine lv_iload hx hb dX5_give_111 (lv_at hl 1 rfl) ?_
            refine lv_iload_n hx hb dX5_give_113 rfl (lv_at hl 4 rfl) ?_
            refine lv_iadd hx hb dX5_give_114 ?_
            refine lv_topi (fun y ey => ?_)
            obtain rfl : y = nI (fj + nk) := ey.trans (nI_add _ _)
            refine lv_icmp_ge (tgt := 158) hx hb dX5_give_115 (by decide) (fun c_115 => ?_) (fun c_115 => ?_)
            · skip
              exact absurd (xn_le_of (by omega) (by omega) c_115) (by omega)
            · skip
              refine lv_aload_n hx hb dX5_give_118 rfl (lv_at hl 2 rfl) ?_
              refine va_get (D := D) (ci := 4) (v := .ref ms) (C := RX5) (T := TX5) (N := 5) hx hb hts hiX5 hown hK hP 0 rfl rfl 0 (by decide) (hts (.fieldLink RX5 7 "PointerSweepModel" "st" "[I") (by decide +kernel)) (fun _ h9 => h9) rfl dX5_give_119 ?_
              refine lv_sipush (v := 1320) hx hb dX5_give_122 (by decide) ?_
              refine lv_iload hx hb dX5_give_125 (lv_at hl 0 rfl) ?_
              refine lv_iadd hx hb dX5_give_127 ?_
              refine lv_iconst (v := 1) hx hb dX5_give_128 (by decide) ?_
              refine xa_iast (ws' := [(m0, .inr (4, [.ref ms, .ref mb, .int (nI kp), .ref mw, .ref mm])), (ms, .inl (cI, 2128, .inl (upd (xf (x_gvi v fj i)) (1320 + i) 1))), (mb, .inl (cI, 2128, .inl (xf v))), (mw, .inl (cI, 51072, .inl w)), (mm, .inl (cI, 320, .inl mi))]) hx hb hK hP hD hS 1 0 rfl rfl (1320 + i) (nI_add 1320 i) (by omega) (by decide) dX5_give_129 rfl (fun H locs hP hD hS => ?_)
              refine lv_aload_n hx hb dX5_give_130 rfl (lv_at hl 2 rfl) ?_
              refine va_get (D := D) (ci := 4) (v := .ref ms) (C := RX5) (T := TX5) (N := 5) hx hb hts hiX5 hown hK hP 0 rfl rfl 0 (by decide) (hts (.fieldLink RX5 7 "PointerSweepModel" "st" "[I") (by decide +kernel)) (fun _ h9 => h9) rfl dX5_give_131 ?_
              refine lv_sipush (v := 1832) hx hb dX5_give_134 (by decide) ?_
              refine lv_iload hx hb dX5_give_137 (lv_at hl 0 rfl) ?_
              refine lv_iadd hx hb dX5_give_139 ?_
              refine lv_iload hx hb dX5_give_140 (lv_at hl 1 rfl) ?_
              refine xa_iast (ws' := [(m0, .inr (4, [.ref ms, .ref mb, .int (nI kp), .ref mw, .ref mm])), (ms, .inl (cI, 2128, .inl (upd (upd (xf (x_gvi v fj i)) (1320 + i) 1) (1832 + i) (nI fj)))), (mb, .inl (cI, 2128, .inl (xf v))), (mw, .inl (cI, 51072, .inl w)), (mm, .inl (cI, 320, .inl mi))]) hx hb hK hP hD hS 1 0 rfl rfl (1832 + i) (nI_add 1832 i) (by omega) (by decide) dX5_give_142 rfl (fun H locs hP hD hS => ?_)
              refine lv_aload_n hx hb dX5_give_143 rfl (lv_at hl 2 rfl) ?_
              refine lv_iconst (v := 5) hx hb dX5_give_144 (by decide) ?_
              refine lv_iload hx hb dX5_give_145 (lv_at hl 0 rfl) ?_
              refine lv_imul hx hb dX5_give_147 ?_
              refine lv_topi (fun y ey => ?_)
              obtain rfl : y = nI (5 * i) := ey.trans (by rw [show (5 : Int32) = nI 5 from rfl, pk_mul])
              refine lv_iconst (v := 0) hx hb dX5_give_148 (by decide) ?_
              refine xk_callW (ws' := [(m0, .inr (4, [.ref ms, .ref mb, .int (nI kp), .ref mw, .ref mm])), (ms, .inl (cI, 2128, .inl (u5 (upd (upd (xf (x_gvi v fj i)) (1320 + i) 1) (1832 + i) (nI fj)) (5 * i) 0 (0) 0 0 0))), (mb, .inl (cI, 2128, .inl (xf v))), (mw, .inl (cI, 51072, .inl w)), (mm, .inl (cI, 320, .inl mi))]) (va_runV (As := [.int (nI (5 * i)), .int 0]) (rest := []) ⟨hx, hb, hml, hown, hts⟩ (j_untag l D cI cJ cS m0 ms mb mw mm (upd (upd (xf (x_gvi v fj i)) (1320 + i) 1) (1832 + i) (nI fj)) (xf v) w mi kp (5 * i) (by omega) false) (cwV 2 hts gX5_give_X5_untag rfl rfl rfl (by decide +kernel) ⟨Nat.le_of_ble_eq_true rfl, Nat.le_of_ble_eq_true rfl⟩) (xk_preVw hK hN hP hD [0, 1, 2, 3, 4] rfl rfl (ci := 4) rfl 0 rfl) rfl rfl hl.1 rfl (lv_room (Nat.le_of_ble_eq_true rfl)) dX5_give_149 ⟨Nat.zero_le _, Nat.zero_le _⟩) hP hD hS [0, 1, 2, 3, 4] rfl rfl rfl (fun H locs hP hD hS => ?_)
              rw [m_gvs v hrg hi (by omega) hfj hfree] at hP hD
              refine lv_iinc (v := (nI (i + 1))) (lv' := [(5, .int (nI (i + 1))), (4, .int (nI fj)), (0, .ref m0), (1, .int (nI rk)), (2, .int (nI nk))]) hx hb dX5_give_152 hl (k := 0) rfl (nI_1 i) (by decide) rfl (fun ls hl => ?_)
              refine lv_goto (tgt := 109) hx hb dX5_give_155 (by decide) ?_
              exact ih (i + 1) H locs ls ⟨by omega, by omega⟩ hP hD hS (lv_sub hl [0, 1, 2, 3, 4] rfl)
        refine lv_iload hx hb dX5_give_91 (lv_at hl 0 rfl) ?_
        refine lv_bipush (v := (-4)) hx hb dX5_give_93 (by decide) ?_
        refine lv_icmp_ne (tgt := 101) hx hb dX5_give_95 (by decide) (fun c_95 => ?_) (fun c_95 => ?_)
        · skip
          refine lv_aload_n hx hb dX5_give_101 rfl (lv_at hl 1 rfl) ?_
          refine xk_callW (ws' := [(m0, .inr (4, [.ref ms, .ref mb, .int (nI kp), .ref mw, .ref mm])), (ms, .inl (cI, 2128, .inl (xf v))), (mb, .inl (cI, 2128, .inl (xf v))), (mw, .inl (cI, 51072, .inl w)), (mm, .inl (cI, 320, .inl mi))]) (va_runV (As := []) (rest := []) ⟨hx, hb, hml, hown, hts⟩ (j_begin l D cI cJ cS m0 ms mb mw mm (xf v) b w mi kp ) (cwV 0 hts gX5_give_X5_begin rfl rfl rfl (by decide +kernel) ⟨Nat.le_of_ble_eq_true rfl, Nat.le_of_ble_eq_true rfl⟩) (xk_preVw hK hN hP hD [0, 1, 2, 3, 4] rfl rfl (ci := 4) rfl 0 rfl) rfl rfl hl.1 rfl (lv_room (Nat.le_of_ble_eq_true rfl)) dX5_give_102 ⟨Nat.zero_le _, Nat.zero_le _⟩) hP hD hS [0, 1, 2, 3, 4] rfl rfl rfl (fun H locs hP hD hS => ?_)
          refine lv_iload hx hb dX5_give_105 (lv_at hl 0 rfl) ?_
          refine lv_istore (lv' := [(5, .int (nI fj)), (4, .int (nI fj)), (0, .ref m0), (1, .int (nI rk)), (2, .int (nI nk))]) hx hb dX5_give_107 hl (by decide) rfl (fun ls hl => ?_)
          refine loop nk fj H locs ls ⟨Nat.le_refl _, rfl⟩ ?_ ?_ hS (lv_sub hl [0, 1, 2, 3, 4] rfl)
          · rw [← m_gv0 v hrg (hfree fj (Nat.le_refl _) (by omega)).1]; exact hP
          · rw [← m_gv0 v hrg (hfree fj (Nat.le_refl _) (by omega)).1]; exact hD
        · skip
          exact absurd c_95 (fun z : nI fj = -4 => by have z2 := congrArg Int32.toInt z; rw [nI_toInt (by omega)] at z2; have e4 : (-4 : Int32).toInt = -4 := rfl; omega)
      have found : ∀ (fj i : Nat) (ls : Array Slot), fj + nk ≤ 256 ∧ x_ffr (xu v.2.2.2.1 v.2.2.2.2.1) (nI nk) 256 0 0 = nI fj → lv_has ls 6 [(5, .int (nI i)), (4, .int (nI fj)), (0, .ref m0), (1, .int (nI rk)), (2, .int (nI nk))] → W p l e ({ frames := 2, cells := 0, slots := 0, locals := 48 }) s m ([.ref m0, .int r, .int n]).toArray below meth c s.heap [] 0 0 (MQ below (xk_W D vwCl W0v W1v (some (.int (sp_give v r n).1))) ([.ref m0, .int r, .int n]).toArray s 0 0 (xk_in W0v)) (F0 m 30 ls []) := by
        intro fj i ls hfj hl
        have hf4 : ¬ nI fj = -4 := fun z => by have z2 := congrArg Int32.toInt z; rw [nI_toInt (by omega)] at z2; have e4 : (-4 : Int32).toInt = -4 := rfl; omega
        refine lv_iload hx hb dX5_give_30 (lv_at hl 0 rfl) ?_
        refine lv_sipush (v := 256) hx hb dX5_give_32 (by decide) ?_
        refine lv_icmp_ge (tgt := 91) hx hb dX5_give_35 (by decide) (fun c_35 => ?_) (fun c_35 => ?_)
        · skip
          exact rest fj ls hfj (lv_sub hl [1, 2, 3, 4] rfl)
        · skip
          refine lv_iload hx hb dX5_give_38 (lv_at hl 1 rfl) ?_
          refine lv_bipush (v := (-4)) hx hb dX5_give_40 (by decide) ?_
          refine lv_icmp_ne (tgt := 91) hx hb dX5_give_42 (by decide) (fun c_42 => ?_) (fun c_42 => ?_)
          · skip
            exact rest fj ls hfj (lv_sub hl [1, 2, 3, 4] rfl)
          · skip
            exact absurd c_42 hf4
      have loop : ∀ (n9 i j : Nat) (ls : Array Slot), i + n9 = 256 ∧ j ≤ i ∧ j < nk ∧ x_ffr (xu v.2.2.2.1 v.2.2.2.2.1) (nI nk) n9 i (nI j) = x_ffr (xu v.2.2.2.1 v.2.2.2.2.1) (nI nk) 256 0 0 → lv_has ls 6 [(5, .int (nI i)), (4, .int (-4)), (3, .int (nI j)), (0, .ref m0), (1, .int (nI rk)), (2, .int (nI nk))] → W p l e ({ frames := 2, cells := 0, slots := 0, locals := 48 }) s m ([.ref m0, .int r, .int n]).toArray below meth c s.heap [] 0 0 (MQ below (xk_W D vwCl W0v W1v (some (.int (sp_give v r n).1))) ([.ref m0, .int r, .int n]).toArray s 0 0 (xk_in W0v)) (F0 m 30 ls []) := by
        intro n9
        induction n9 with
        | zero =>
          intro i j ls hn hl
          obtain ⟨hin, hji, hjn, hv9⟩ := hn
          have hin : i = 256 := hin
          refine lv_iload hx hb dX5_give_30 (lv_at hl 0 rfl) ?_
          refine lv_sipush (v := 256) hx hb dX5_give_32 (by decide) ?_
          refine lv_icmp_ge (tgt := 91) hx hb dX5_give_35 (by decide) (fun c_35 => ?_) (fun c_35 => ?_)
          · skip
            refine lv_iload hx hb dX5_give_91 (lv_at hl 1 rfl) ?_
            refine lv_bipush (v := (-4)) hx hb dX5_give_93 (by decide) ?_
            refine lv_icmp_ne (tgt := 101) hx hb dX5_give_95 (by decide) (fun c_95 => ?_) (fun c_95 => ?_)
            · skip
              exact absurd rfl c_95
            · skip
              refine lv_bipush (v := (-3)) hx hb dX5_give_98 (by decide) ?_
              have e9 : sp_give v r n = (-3, none) := by unfold sp_give; rw [if_pos hcond, en, ← hv9]; rfl
              exact xk_iretW hx hb hr hlk hP hS (by rw [e9]) (by rw [← hW1, e9]; rfl) dX5_give_100
          · skip
            exact absurd (nI_le (a := 256) (b := i) (by omega) (by omega)) c_35
        | succ n9 ih =>
          intro i j ls hn hl
          obtain ⟨hin, hji, hjn, hv9⟩ := hn
          have hst := x_ffr_at (xu v.2.2.2.1 v.2.2.2.2.1) nk hn1 hn2 (n9 + 1) i j hin hji hjn
          replace hv9 : (if (if (xu v.2.2.2.1 v.2.2.2.2.1) i = 0 then nI j + 1 else 0) = nI nk then nI i - nI nk + 1 else x_ffr (xu v.2.2.2.1 v.2.2.2.2.1) (nI nk) n9 (i + 1) (if (xu v.2.2.2.1 v.2.2.2.2.1) i = 0 then nI j + 1 else 0)) = x_ffr (xu v.2.2.2.1 v.2.2.2.2.1) (nI nk) 256 0 0 := hv9
          refine lv_iload hx hb dX5_give_30 (lv_at hl 0 rfl) ?_
          refine lv_sipush (v := 256) hx hb dX5_give_32 (by decide) ?_
          refine lv_icmp_ge (tgt := 91) hx hb dX5_give_35 (by decide) (fun c_35 => ?_) (fun c_35 => ?_)
          · skip
            exact absurd (xn_le_of (a := 256) (by decide) (by omega) c_35) (by omega)
          · skip
            refine lv_iload hx hb dX5_give_38 (lv_at hl 1 rfl) ?_
            refine lv_bipush (v := (-4)) hx hb dX5_give_40 (by decide) ?_
            refine lv_icmp_ne (tgt := 91) hx hb dX5_give_42 (by decide) (fun c_42 => ?_) (fun c_42 => ?_)
            · skip
              exact absurd rfl c_42
            · skip
              refine lv_aload_n hx hb dX5_give_45 rfl (lv_at hl 3 rfl) ?_
              refine va_get (D := D) (ci := 4) (v := .ref ms) (C := RX5) (T := TX5) (N := 5) hx hb hts hiX5 hown hK hP 0 rfl rfl 0 (by decide) (hts (.fieldLink RX5 7 "PointerSweepModel" "st" "[I") (by decide +kernel)) (fun _ h9 => h9) rfl dX5_give_46 ?_
              refine lv_sipush (v := 1320) hx hb dX5_give_49 (by decide) ?_
              refine lv_iload hx hb dX5_give_52 (lv_at hl 0 rfl) ?_
              refine lv_iadd hx hb dX5_give_54 ?_
              refine xa_iald hx hb hK hP 1 0 rfl rfl (1320 + i) (nI_add 1320 i) (by omega) (by decide) dX5_give_55 ?_
              refine lv_topi (fun y ey => ?_)
              obtain rfl : y = (xu v.2.2.2.1 v.2.2.2.2.1) i := ey.trans (xf_u v (by omega))
              refine lv_if_ne (tgt := 65) hx hb dX5_give_56 (by decide) (fun c_56 => ?_) (fun c_56 => ?_)
              · skip
                refine lv_iconst (v := 0) hx hb dX5_give_65 (by decide) ?_
                refine lv_topi (fun y ey => ?_)
                obtain rfl : y = nI 0 := ey.trans rfl
                refine lv_istore_n (lv' := [(3, .int (nI 0)), (5, .int (nI i)), (4, .int (-4)), (0, .ref m0), (1, .int (nI rk)), (2, .int (nI nk))]) hx hb dX5_give_66 rfl hl (by decide) rfl (fun ls hl => ?_)
                refine lv_iload_n hx hb dX5_give_67 rfl (lv_at hl 0 rfl) ?_
                refine lv_iload_n hx hb dX5_give_68 rfl (lv_at hl 5 rfl) ?_
                refine lv_icmp_ne (tgt := 81) hx hb dX5_give_69 (by decide) (fun c_69 => ?_) (fun c_69 => ?_)
                · skip
                  refine lv_bipush (v := (-4)) hx hb dX5_give_81 (by decide) ?_
                  refine lv_istore (lv' := [(4, .int (-4)), (3, .int (nI 0)), (5, .int (nI i)), (0, .ref m0), (1, .int (nI rk)), (2, .int (nI nk))]) hx hb dX5_give_83 hl (by decide) rfl (fun ls hl => ?_)
                  refine lv_iinc (v := (nI (i + 1))) (lv' := [(5, .int (nI (i + 1))), (4, .int (-4)), (3, .int (nI 0)), (0, .ref m0), (1, .int (nI rk)), (2, .int (nI nk))]) hx hb dX5_give_85 hl (k := 2) rfl (nI_1 i) (by decide) rfl (fun ls hl => ?_)
                  refine lv_goto (tgt := 30) hx hb dX5_give_88 (by decide) ?_
                  have hne : ¬ nI 0 = nI nk := c_69
                  rw [if_neg c_56, if_neg (show ¬ (0 : Int32) = nI nk from hne)] at hv9
                  exact ih (i + 1) 0 ls ⟨by omega, by omega, by have h8 : 0 ≠ nk := fun z => hne (by rw [z]); omega, hv9⟩ (lv_sub hl [0, 1, 2, 3, 4, 5] rfl)
                · skip
                  refine lv_iload hx hb dX5_give_72 (lv_at hl 1 rfl) ?_
                  refine lv_iconst (v := 1) hx hb dX5_give_74 (by decide) ?_
                  refine lv_iadd hx hb dX5_give_75 ?_
                  refine lv_iload_n hx hb dX5_give_76 rfl (lv_at hl 5 rfl) ?_
                  refine lv_isub hx hb dX5_give_77 ?_
                  refine lv_goto (tgt := 83) hx hb dX5_give_78 (by decide) ?_
                  refine lv_topi (fun y ey => ?_)
                  obtain rfl : y = nI (i + 1 - nk) := ey.trans (by rw [nI_1, pk_sub (by have hjk : 0 = nk := (nI_eq (by omega) (by omega)).mp c_69; omega)])
                  refine lv_istore (lv' := [(4, .int (nI (i + 1 - nk))), (3, .int (nI 0)), (5, .int (nI i)), (0, .ref m0), (1, .int (nI rk)), (2, .int (nI nk))]) hx hb dX5_give_83 hl (by decide) rfl (fun ls hl => ?_)
                  refine lv_iinc (v := (nI (i + 1))) (lv' := [(5, .int (nI (i + 1))), (4, .int (nI (i + 1 - nk))), (3, .int (nI 0)), (0, .ref m0), (1, .int (nI rk)), (2, .int (nI nk))]) hx hb dX5_give_85 hl (k := 2) rfl (nI_1 i) (by decide) rfl (fun ls hl => ?_)
                  refine lv_goto (tgt := 30) hx hb dX5_give_88 (by decide) ?_
                  have hjk : 0 = nk := (nI_eq (by omega) (by omega)).mp c_69
                  rw [if_neg c_56, if_pos (show (0 : Int32) = nI nk from c_69)] at hv9
                  exact found (i + 1 - nk) (i + 1) ls ⟨by omega, by rw [← hv9, show nI i - nI nk + 1 = (nI i + 1) - nI nk by rw [Int32.sub_eq_add_neg, Int32.sub_eq_add_neg, Int32.add_assoc, Int32.add_assoc, Int32.add_comm (-nI nk) 1], nI_1, pk_sub (by omega)]⟩ (lv_sub hl [0, 1, 3, 4, 5] rfl)
              · skip
                refine lv_iload_n hx hb dX5_give_59 rfl (lv_at hl 2 rfl) ?_
                refine lv_iconst (v := 1) hx hb dX5_give_60 (by decide) ?_
                refine lv_iadd hx hb dX5_give_61 ?_
                refine lv_goto (tgt := 66) hx hb dX5_give_62 (by decide) ?_
                refine lv_topi (fun y ey => ?_)
                obtain rfl : y = nI (j + 1) := ey.trans (nI_1 j)
                refine lv_istore_n (lv' := [(3, .int (nI (j + 1))), (5, .int (nI i)), (4, .int (-4)), (0, .ref m0), (1, .int (nI rk)), (2, .int (nI nk))]) hx hb dX5_give_66 rfl hl (by decide) rfl (fun ls hl => ?_)
                refine lv_iload_n hx hb dX5_give_67 rfl (lv_at hl 0 rfl) ?_
                refine lv_iload_n hx hb dX5_give_68 rfl (lv_at hl 5 rfl) ?_
                refine lv_icmp_ne (tgt := 81) hx hb dX5_give_69 (by decide) (fun c_69 => ?_) (fun c_69 => ?_)
                · skip
                  refine lv_bipush (v := (-4)) hx hb dX5_give_81 (by decide) ?_
                  refine lv_istore (lv' := [(4, .int (-4)), (3, .int (nI (j + 1))), (5, .int (nI i)), (0, .ref m0), (1, .int (nI rk)), (2, .int (nI nk))]) hx hb dX5_give_83 hl (by decide) rfl (fun ls hl => ?_)
                  refine lv_iinc (v := (nI (i + 1))) (lv' := [(5, .int (nI (i + 1))), (4, .int (-4)), (3, .int (nI (j + 1))), (0, .ref m0), (1, .int (nI rk)), (2, .int (nI nk))]) hx hb dX5_give_85 hl (k := 2) rfl (nI_1 i) (by decide) rfl (fun ls hl => ?_)
                  refine lv_goto (tgt := 30) hx hb dX5_give_88 (by decide) ?_
                  have hne : ¬ nI (j + 1) = nI nk := c_69
                  rw [if_pos c_56, nI_1, if_neg hne] at hv9
                  exact ih (i + 1) (j + 1) ls ⟨by omega, by omega, by have h8 : (j + 1) ≠ nk := fun z => hne (by rw [z]); omega, hv9⟩ (lv_sub hl [0, 1, 2, 3, 4, 5] rfl)
                · skip
                  refine lv_iload hx hb dX5_give_72 (lv_at hl 1 rfl) ?_
                  refine lv_iconst (v := 1) hx hb dX5_give_74 (by decide) ?_
                  refine lv_iadd hx hb dX5_give_75 ?_
                  refine lv_iload_n hx hb dX5_give_76 rfl (lv_at hl 5 rfl) ?_
                  refine lv_isub hx hb dX5_give_77 ?_
                  refine lv_goto (tgt := 83) hx hb dX5_give_78 (by decide) ?_
                  refine lv_topi (fun y ey => ?_)
                  obtain rfl : y = nI (i + 1 - nk) := ey.trans (by rw [nI_1, pk_sub (by have hjk : (j + 1) = nk := (nI_eq (by omega) (by omega)).mp c_69; omega)])
                  refine lv_istore (lv' := [(4, .int (nI (i + 1 - nk))), (3, .int (nI (j + 1))), (5, .int (nI i)), (0, .ref m0), (1, .int (nI rk)), (2, .int (nI nk))]) hx hb dX5_give_83 hl (by decide) rfl (fun ls hl => ?_)
                  refine lv_iinc (v := (nI (i + 1))) (lv' := [(5, .int (nI (i + 1))), (4, .int (nI (i + 1 - nk))), (3, .int (nI (j + 1))), (0, .ref m0), (1, .int (nI rk)), (2, .int (nI nk))]) hx hb dX5_give_85 hl (k := 2) rfl (nI_1 i) (by decide) rfl (fun ls hl => ?_)
                  refine lv_goto (tgt := 30) hx hb dX5_give_88 (by decide) ?_
                  have hjk : (j + 1) = nk := (nI_eq (by omega) (by omega)).mp c_69
                  rw [if_pos c_56, nI_1, if_pos c_69] at hv9
                  exact found (i + 1 - nk) (i + 1) ls ⟨by omega, by rw [← hv9, show nI i - nI nk + 1 = (nI i + 1) - nI nk by rw [Int32.sub_eq_add_neg, Int32.sub_eq_add_neg, Int32.add_assoc, Int32.add_assoc, Int32.add_comm (-nI nk) 1], nI_1, pk_sub (by omega)]⟩ (lv_sub hl [0, 1, 3, 4, 5] rfl)
      exact loop 256 0 0 ls ⟨rfl, Nat.le_refl 0, by omega, rfl⟩ (lv_sub hl [0, 1, 2, 3, 4, 5] rfl)
    · skip
      refine lv_iconst (v := (-1)) hx hb dX5_give_19 (by decide) ?_
      have e9 : sp_give v r n = (-1, none) := if_neg (fun z => x_bt c_16 ((m_1n (n := n) (hi := 64) (M := 64) rfl).mpr z.2))
      exact xk_iretW hx hb hr hlk hP hS (by rw [e9]) (by rw [← hW1, e9]; rfl) dX5_give_20
