set_option maxHeartbeats 4000000 in
set_option maxRecDepth 100000 in
theorem y_number (l : Launch) (D : va_G) (cI cJ cS : ClassId) (m0 ms mb mw mm : Nat) (v : xV) (b w mi : Nat → Int32) (kp : Nat) (hkp : kp ≤ 24) (hv : x_ok v) (hX : v.2.2.2.2.2.2.2.1 = false → ∀ k, v.2.2.2.2.2.1 k = false) (hs0 : v.2.2.2.2.2.2.2.1 = false → v.2.2.2.2.2.2.2.2.1 = 0) (r x : Int32) : xk_Wr l yX5_number wsX5_number ({ frames := 2, cells := 0, slots := 0, locals := 45 }) D vwCl (xt cI cJ cS) (xm cI m0 ms mb mw mm v b w mi kp) [.ref m0, .int r, .int x] (xmo cI m0 ms mb mw mm v b w mi kp (sp_number v r x).2) (some (.int (sp_number v r x).1)) := by
  refine xk_wr2 (cc := cX5_number) (maxL := 3) (ret := (some .int)) (by decide) rfl (Nat.le_of_ble_eq_true rfl) (fun p e s m below meth c ls W0v W1v hW1 hx hb hr hlk hml hown hts hl hP hK hN hD hS => ?_)
  replace hl : lv_has ls 3 [(0, .ref m0), (1, .int r), (2, .int x)] := hl
  replace hP : va_P D vwCl ([(m0, .inr (4, [.ref ms, .ref mb, .int (nI kp), .ref mw, .ref mm])), (ms, .inl (cI, 2128, .inl (xf v))), (mb, .inl (cI, 2128, .inl b)), (mw, .inl (cI, 51072, .inl w)), (mm, .inl (cI, 320, .inl mi))]) s.heap := hP
  replace hD : va_D _ ([(m0, .inr (4, [.ref ms, .ref mb, .int (nI kp), .ref mw, .ref mm])), (ms, .inl (cI, 2128, .inl (xf v))), (mb, .inl (cI, 2128, .inl b)), (mw, .inl (cI, 51072, .inl w)), (mm, .inl (cI, 320, .inl mi))]) := hD
  refine lv_iload_n hx hb dX5_number_0 rfl (lv_at hl 1 rfl) ?_
  refine xk_callR (va_runS (As := [.int r]) (rest := []) ⟨hx, hb, hml, hown, hts⟩ (j_isRegister l D cI cJ cS r) (va_cwS 1 hts gX5_number_X5_isRegister rfl rfl rfl (by decide +kernel) ⟨Nat.le_of_ble_eq_true rfl, Nat.le_of_ble_eq_true rfl⟩) (xk_preSr hK hN hP [] rfl) rfl rfl hl.1 rfl (lv_room (Nat.le_of_ble_eq_true rfl)) dX5_number_1 ⟨Nat.zero_le _, Nat.zero_le _⟩) ?_
  refine lv_if_ne (tgt := 9) hx hb dX5_number_4 (by decide) (fun c_4 => ?_) (fun c_4 => ?_)
  · skip
    obtain ⟨rk, hrk, er⟩ := xi_of (xb_ne c_4)
    have hxr : xN r = rk := by rw [er]; exact xN_nI (by omega)
    rw [er] at hl
    refine lv_aload_n hx hb dX5_number_9 rfl (lv_at hl 0 rfl) ?_
    refine xk_callW (ws' := [(m0, .inr (4, [.ref ms, .ref mb, .int (nI kp), .ref mw, .ref mm])), (ms, .inl (cI, 2128, .inl (xf v))), (mb, .inl (cI, 2128, .inl (xf v))), (mw, .inl (cI, 51072, .inl w)), (mm, .inl (cI, 320, .inl mi))]) (va_runV (As := []) (rest := []) ⟨hx, hb, hml, hown, hts⟩ (j_begin l D cI cJ cS m0 ms mb mw mm (xf v) b w mi kp ) (cwV 0 hts gX5_number_X5_begin rfl rfl rfl (by decide +kernel) ⟨Nat.le_of_ble_eq_true rfl, Nat.le_of_ble_eq_true rfl⟩) (xk_preVw hK hN hP hD [0, 1, 2, 3, 4] rfl rfl (ci := 4) rfl 0 rfl) rfl rfl hl.1 rfl (lv_room (Nat.le_of_ble_eq_true rfl)) dX5_number_10 ⟨Nat.zero_le _, Nat.zero_le _⟩) hP hD hS [0, 1, 2, 3, 4] rfl rfl rfl (fun H locs hP hD hS => ?_)
    refine lv_aload_n hx hb dX5_number_13 rfl (lv_at hl 0 rfl) ?_
    refine lv_iload_n hx hb dX5_number_14 rfl (lv_at hl 1 rfl) ?_
    refine xk_callR (va_runS (As := [.int (nI rk)]) (rest := [.ref m0]) ⟨hx, hb, hml, hown, hts⟩ (j_reg l D cI cJ cS rk) (va_cwS 1 hts gX5_number_X5_reg rfl rfl rfl (by decide +kernel) ⟨Nat.le_of_ble_eq_true rfl, Nat.le_of_ble_eq_true rfl⟩) (xk_preSr hK hN hP [] rfl) rfl rfl hl.1 rfl (lv_room (Nat.le_of_ble_eq_true rfl)) dX5_number_15 ⟨Nat.zero_le _, Nat.zero_le _⟩) ?_
    refine lv_iconst (v := 0) hx hb dX5_number_18 (by decide) ?_
    refine lv_iload_n hx hb dX5_number_19 rfl (lv_at hl 2 rfl) ?_
    refine lv_iconst (v := 0) hx hb dX5_number_20 (by decide) ?_
    refine lv_iconst (v := 0) hx hb dX5_number_21 (by decide) ?_
    refine lv_iconst (v := 0) hx hb dX5_number_22 (by decide) ?_
    refine xk_callW (ws' := [(m0, .inr (4, [.ref ms, .ref mb, .int (nI kp), .ref mw, .ref mm])), (ms, .inl (cI, 2128, .inl (u5 (xf v) (1280 + 5 * rk) 0 x 0 0 0))), (mb, .inl (cI, 2128, .inl (xf v))), (mw, .inl (cI, 51072, .inl w)), (mm, .inl (cI, 320, .inl mi))]) (va_runV (As := [.int (nI (1280 + 5 * rk)), .int 0, .int x, .int 0, .int 0, .int 0]) (rest := []) ⟨hx, hb, hml, hown, hts⟩ (j_set l D cI cJ cS m0 ms mb mw mm (xf v) (xf v) w mi kp (1280 + 5 * rk) (by omega) 0 x 0 0 0) (cwV 6 hts gX5_number_X5_set rfl rfl rfl (by decide +kernel) ⟨Nat.le_of_ble_eq_true rfl, Nat.le_of_ble_eq_true rfl⟩) (xk_preVw hK hN hP hD [0, 1, 2, 3, 4] rfl rfl (ci := 4) rfl 0 rfl) rfl rfl hl.1 rfl (lv_room (Nat.le_of_ble_eq_true rfl)) dX5_number_23 ⟨Nat.zero_le _, Nat.zero_le _⟩) hP hD hS [0, 1, 2, 3, 4] rfl rfl rfl (fun H locs hP hD hS => ?_)
    rw [m_num v hrk x] at hP hD
    refine lv_aload_n hx hb dX5_number_26 rfl (lv_at hl 0 rfl) ?_
    refine lv_iconst (v := 0) hx hb dX5_number_27 (by decide) ?_
    refine xk_callW (ws' := [(m0, .inr (4, [.ref ms, .ref mb, .int (nI (m_kp kp)), .ref mw, .ref mm])), (ms, .inl (cI, 2128, .inl (xf (x_reg v rk (x, none))))), (mb, .inl (cI, 2128, .inl (xf v))), (mw, .inl (cI, 51072, .inl (m_was (xf v) w kp))), (mm, .inl (cI, 320, .inl mi))]) (va_runV (As := [.int 0]) (rest := []) ⟨hx, hb, hml, hown, hts⟩ (j_keeps l D cI cJ cS m0 ms mb mw mm (xf (x_reg v rk (x, none))) (xf v) w mi kp hkp 0) (cwV 1 hts gX5_number_X5_keeps rfl rfl rfl (by decide +kernel) ⟨Nat.le_of_ble_eq_true rfl, Nat.le_of_ble_eq_true rfl⟩) (xk_preVw hK hN hP hD [0, 1, 2, 3, 4] rfl rfl (ci := 4) rfl 0 rfl) rfl rfl hl.1 rfl (lv_room (Nat.le_of_ble_eq_true rfl)) dX5_number_28 ⟨Nat.zero_le _, Nat.zero_le _⟩) hP hD hS [0, 1, 2, 3, 4] rfl rfl rfl (fun H locs hP hD hS => ?_)
    have e9 : sp_number v r x = (0, some (x_reg v rk (x, none))) := (by unfold sp_number; rw [if_pos (xb_ne c_4), hxr])
    exact xk_iretW hx hb hr hlk hP hS (by rw [e9]) (by rw [← hW1, e9]; rfl) dX5_number_31
  · skip
    refine lv_iconst (v := (-1)) hx hb dX5_number_7 (by decide) ?_
    have e9 : sp_number v r x = (-1, none) := if_neg (x_bt c_4)
    exact xk_iretW hx hb hr hlk hP hS (by rw [e9]) (by rw [← hW1, e9]; rfl) dX5_number_8
set_option maxHeartbeats 4000000 in
set_option maxRecDepth 100000 in
theorem y_copy (l : Launch) (D : va_G) (cI cJ cS : ClassId) (m0 ms mb mw mm : Nat) (v : xV) (b w mi : Nat → Int32) (kp : Nat) (hkp : kp ≤ 24) (hv : x_ok v) (hX : v.2.2.2.2.2.2.2.1 = false → ∀ k, v.2.2.2.2.2.1 k = false) (hs0 : v.2.2.2.2.2.2.2.1 = false → v.2.2.2.2.2.2.2.2.1 = 0) (r q : Int32) : xk_Wr l yX5_copy wsX5_copy ({ frames := 2, cells := 0, slots := 0, locals := 48 }) D vwCl (xt cI cJ cS) (xm cI m0 ms mb mw mm v b w mi kp) [.ref m0, .int r, .int q] (xmo cI m0 ms mb mw mm v b w mi kp (sp_copy v r q).2) (some (.int (sp_copy v r q).1)) := by
  refine xk_wr2 (cc := cX5_copy) (maxL := 3) (ret := (some .int)) (by decide) rfl (Nat.le_of_ble_eq_true rfl) (fun p e s m below meth c ls W0v W1v hW1 hx hb hr hlk hml hown hts hl hP hK hN hD hS => ?_)
  replace hl : lv_has ls 3 [(0, .ref m0), (1, .int r), (2, .int q)] := hl
  replace hP : va_P D vwCl ([(m0, .inr (4, [.ref ms, .ref mb, .int (nI kp), .ref mw, .ref mm])), (ms, .inl (cI, 2128, .inl (xf v))), (mb, .inl (cI, 2128, .inl b)), (mw, .inl (cI, 51072, .inl w)), (mm, .inl (cI, 320, .inl mi))]) s.heap := hP
  replace hD : va_D _ ([(m0, .inr (4, [.ref ms, .ref mb, .int (nI kp), .ref mw, .ref mm])), (ms, .inl (cI, 2128, .inl (xf v))), (mb, .inl (cI, 2128, .inl b)), (mw, .inl (cI, 51072, .inl w)), (mm, .inl (cI, 320, .inl mi))]) := hD
  refine lv_iload_n hx hb dX5_copy_0 rfl (lv_at hl 1 rfl) ?_
  refine xk_callR (va_runS (As := [.int r]) (rest := []) ⟨hx, hb, hml, hown, hts⟩ (j_isRegister l D cI cJ cS r) (va_cwS 1 hts gX5_copy_X5_isRegister rfl rfl rfl (by decide +kernel) ⟨Nat.le_of_ble_eq_true rfl, Nat.le_of_ble_eq_true rfl⟩) (xk_preSr hK hN hP [] rfl) rfl rfl hl.1 rfl (lv_room (Nat.le_of_ble_eq_true rfl)) dX5_copy_1 ⟨Nat.zero_le _, Nat.zero_le _⟩) ?_
  refine lv_if_eq (tgt := 14) hx hb dX5_copy_4 (by decide) (fun c_4 => ?_) (fun c_4 => ?_)
  · skip
    refine lv_iconst (v := (-1)) hx hb dX5_copy_14 (by decide) ?_
    have e9 : sp_copy v r q = (-1, none) := if_neg (fun z => x_bt c_4 z.1)
    exact xk_iretW hx hb hr hlk hP hS (by rw [e9]) (by rw [← hW1, e9]; rfl) dX5_copy_15
  · skip
    refine lv_iload_n hx hb dX5_copy_7 rfl (lv_at hl 2 rfl) ?_
    refine xk_callR (va_runS (As := [.int q]) (rest := []) ⟨hx, hb, hml, hown, hts⟩ (j_isRegister l D cI cJ cS q) (va_cwS 1 hts gX5_copy_X5_isRegister rfl rfl rfl (by decide +kernel) ⟨Nat.le_of_ble_eq_true rfl, Nat.le_of_ble_eq_true rfl⟩) (xk_preSr hK hN hP [] rfl) rfl rfl hl.1 rfl (lv_room (Nat.le_of_ble_eq_true rfl)) dX5_copy_8 ⟨Nat.zero_le _, Nat.zero_le _⟩) ?_
    refine lv_if_ne (tgt := 16) hx hb dX5_copy_11 (by decide) (fun c_11 => ?_) (fun c_11 => ?_)
    · skip
      obtain ⟨rk, hrk, er⟩ := xi_of (xb_ne c_4)
      have hxr : xN r = rk := by rw [er]; exact xN_nI (by omega)
      rw [er] at hl
      obtain ⟨qk, hqk, eq⟩ := xi_of (xb_ne c_11)
      have hxq : xN q = qk := by rw [eq]; exact xN_nI (by omega)
      rw [eq] at hl
      refine lv_aload_n hx hb dX5_copy_16 rfl (lv_at hl 0 rfl) ?_
      refine xk_callW (ws' := [(m0, .inr (4, [.ref ms, .ref mb, .int (nI kp), .ref mw, .ref mm])), (ms, .inl (cI, 2128, .inl (xf v))), (mb, .inl (cI, 2128, .inl (xf v))), (mw, .inl (cI, 51072, .inl w)), (mm, .inl (cI, 320, .inl mi))]) (va_runV (As := []) (rest := []) ⟨hx, hb, hml, hown, hts⟩ (j_begin l D cI cJ cS m0 ms mb mw mm (xf v) b w mi kp ) (cwV 0 hts gX5_copy_X5_begin rfl rfl rfl (by decide +kernel) ⟨Nat.le_of_ble_eq_true rfl, Nat.le_of_ble_eq_true rfl⟩) (xk_preVw hK hN hP hD [0, 1, 2, 3, 4] rfl rfl (ci := 4) rfl 0 rfl) rfl rfl hl.1 rfl (lv_room (Nat.le_of_ble_eq_true rfl)) dX5_copy_17 ⟨Nat.zero_le _, Nat.zero_le _⟩) hP hD hS [0, 1, 2, 3, 4] rfl rfl rfl (fun H locs hP hD hS => ?_)
      refine lv_aload_n hx hb dX5_copy_20 rfl (lv_at hl 0 rfl) ?_
      refine lv_iload_n hx hb dX5_copy_21 rfl (lv_at hl 1 rfl) ?_
      refine xk_callR (va_runS (As := [.int (nI rk)]) (rest := [.ref m0]) ⟨hx, hb, hml, hown, hts⟩ (j_reg l D cI cJ cS rk) (va_cwS 1 hts gX5_copy_X5_reg rfl rfl rfl (by decide +kernel) ⟨Nat.le_of_ble_eq_true rfl, Nat.le_of_ble_eq_true rfl⟩) (xk_preSr hK hN hP [] rfl) rfl rfl hl.1 rfl (lv_room (Nat.le_of_ble_eq_true rfl)) dX5_copy_22 ⟨Nat.zero_le _, Nat.zero_le _⟩) ?_
      refine lv_iload_n hx hb dX5_copy_25 rfl (lv_at hl 2 rfl) ?_
      refine xk_callR (va_runS (As := [.int (nI qk)]) (rest := [.int (nI (1280 + 5 * rk)), .ref m0]) ⟨hx, hb, hml, hown, hts⟩ (j_reg l D cI cJ cS qk) (va_cwS 1 hts gX5_copy_X5_reg rfl rfl rfl (by decide +kernel) ⟨Nat.le_of_ble_eq_true rfl, Nat.le_of_ble_eq_true rfl⟩) (xk_preSr hK hN hP [] rfl) rfl rfl hl.1 rfl (lv_room (Nat.le_of_ble_eq_true rfl)) dX5_copy_26 ⟨Nat.zero_le _, Nat.zero_le _⟩) ?_
      refine xk_callW (ws' := [(m0, .inr (4, [.ref ms, .ref mb, .int (nI kp), .ref mw, .ref mm])), (ms, .inl (cI, 2128, .inl (u5 (xf v) (1280 + 5 * rk) ((xf v) (1280 + 5 * qk)) ((xf v) ((1280 + 5 * qk) + 1)) ((xf v) ((1280 + 5 * qk) + 2)) ((xf v) ((1280 + 5 * qk) + 3)) ((xf v) ((1280 + 5 * qk) + 4))))), (mb, .inl (cI, 2128, .inl (xf v))), (mw, .inl (cI, 51072, .inl w)), (mm, .inl (cI, 320, .inl mi))]) (va_runV (As := [.int (nI (1280 + 5 * rk)), .int (nI (1280 + 5 * qk))]) (rest := []) ⟨hx, hb, hml, hown, hts⟩ (j_become l D cI cJ cS m0 ms mb mw mm (xf v) (xf v) w mi kp (1280 + 5 * rk) (1280 + 5 * qk) (by omega) (by omega)) (cwV 2 hts gX5_copy_X5_become rfl rfl rfl (by decide +kernel) ⟨Nat.le_of_ble_eq_true rfl, Nat.le_of_ble_eq_true rfl⟩) (xk_preVw hK hN hP hD [0, 1, 2, 3, 4] rfl rfl (ci := 4) rfl 0 rfl) rfl rfl hl.1 rfl (lv_room (Nat.le_of_ble_eq_true rfl)) dX5_copy_29 ⟨Nat.zero_le _, Nat.zero_le _⟩) hP hD hS [0, 1, 2, 3, 4] rfl rfl rfl (fun H locs hP hD hS => ?_)
      rw [m_brr v hrk hqk] at hP hD
      refine lv_aload_n hx hb dX5_copy_32 rfl (lv_at hl 0 rfl) ?_
      refine lv_iconst (v := 0) hx hb dX5_copy_33 (by decide) ?_
      refine xk_callW (ws' := [(m0, .inr (4, [.ref ms, .ref mb, .int (nI (m_kp kp)), .ref mw, .ref mm])), (ms, .inl (cI, 2128, .inl (xf (x_reg v rk (v.2.1 qk))))), (mb, .inl (cI, 2128, .inl (xf v))), (mw, .inl (cI, 51072, .inl (m_was (xf v) w kp))), (mm, .inl (cI, 320, .inl mi))]) (va_runV (As := [.int 0]) (rest := []) ⟨hx, hb, hml, hown, hts⟩ (j_keeps l D cI cJ cS m0 ms mb mw mm (xf (x_reg v rk (v.2.1 qk))) (xf v) w mi kp hkp 0) (cwV 1 hts gX5_copy_X5_keeps rfl rfl rfl (by decide +kernel) ⟨Nat.le_of_ble_eq_true rfl, Nat.le_of_ble_eq_true rfl⟩) (xk_preVw hK hN hP hD [0, 1, 2, 3, 4] rfl rfl (ci := 4) rfl 0 rfl) rfl rfl hl.1 rfl (lv_room (Nat.le_of_ble_eq_true rfl)) dX5_copy_34 ⟨Nat.zero_le _, Nat.zero_le _⟩) hP hD hS [0, 1, 2, 3, 4] rfl rfl rfl (fun H locs hP hD hS => ?_)
      have e9 : sp_copy v r q = (0, some (x_reg v rk (v.2.1 qk))) := (by unfold sp_copy; rw [if_pos ⟨xb_ne c_4, xb_ne c_11⟩, hxr, hxq])
      exact xk_iretW hx hb hr hlk hP hS (by rw [e9]) (by rw [← hW1, e9]; rfl) dX5_copy_37
    · skip
      refine lv_iconst (v := (-1)) hx hb dX5_copy_14 (by decide) ?_
      have e9 : sp_copy v r q = (-1, none) := if_neg (fun z => x_bt c_11 z.2)
      exact xk_iretW hx hb hr hlk hP hS (by rw [e9]) (by rw [← hW1, e9]; rfl) dX5_copy_15
set_option maxHeartbeats 4000000 in
set_option maxRecDepth 100000 in
theorem y_move (l : Launch) (D : va_G) (cI cJ cS : ClassId) (m0 ms mb mw mm : Nat) (v : xV) (b w mi : Nat → Int32) (kp : Nat) (hkp : kp ≤ 24) (hv : x_ok v) (hX : v.2.2.2.2.2.2.2.1 = false → ∀ k, v.2.2.2.2.2.1 k = false) (hs0 : v.2.2.2.2.2.2.2.1 = false → v.2.2.2.2.2.2.2.2.1 = 0) (r d : Int32) : xk_Wr l yX5_move wsX5_move ({ frames := 2, cells := 0, slots := 0, locals := 45 }) D vwCl (xt cI cJ cS) (xm cI m0 ms mb mw mm v b w mi kp) [.ref m0, .int r, .int d] (xmo cI m0 ms mb mw mm v b w mi kp (sp_move v r d).2) (some (.int (sp_move v r d).1)) := by
  refine xk_wr2 (cc := cX5_move) (maxL := 3) (ret := (some .int)) (by decide) rfl (Nat.le_of_ble_eq_true rfl) (fun p e s m below meth c ls W0v W1v hW1 hx hb hr hlk hml hown hts hl hP hK hN hD hS => ?_)
  replace hl : lv_has ls 3 [(0, .ref m0), (1, .int r), (2, .int d)] := hl
  have hiX5 : ∀ w ∈ u_ws RX5 TX5 5, w ∈ wsX5_move := by decide +kernel
  replace hP : va_P D vwCl ([(m0, .inr (4, [.ref ms, .ref mb, .int (nI kp), .ref mw, .ref mm])), (ms, .inl (cI, 2128, .inl (xf v))), (mb, .inl (cI, 2128, .inl b)), (mw, .inl (cI, 51072, .inl w)), (mm, .inl (cI, 320, .inl mi))]) s.heap := hP
  replace hD : va_D _ ([(m0, .inr (4, [.ref ms, .ref mb, .int (nI kp), .ref mw, .ref mm])), (ms, .inl (cI, 2128, .inl (xf v))), (mb, .inl (cI, 2128, .inl b)), (mw, .inl (cI, 51072, .inl w)), (mm, .inl (cI, 320, .inl mi))]) := hD
  refine lv_iload_n hx hb dX5_move_0 rfl (lv_at hl 1 rfl) ?_
  refine xk_callR (va_runS (As := [.int r]) (rest := []) ⟨hx, hb, hml, hown, hts⟩ (j_isRegister l D cI cJ cS r) (va_cwS 1 hts gX5_move_X5_isRegister rfl rfl rfl (by decide +kernel) ⟨Nat.le_of_ble_eq_true rfl, Nat.le_of_ble_eq_true rfl⟩) (xk_preSr hK hN hP [] rfl) rfl rfl hl.1 rfl (lv_room (Nat.le_of_ble_eq_true rfl)) dX5_move_1 ⟨Nat.zero_le _, Nat.zero_le _⟩) ?_
  refine lv_if_ne (tgt := 10) hx hb dX5_move_4 (by decide) (fun c_4 => ?_) (fun c_4 => ?_)
  · skip
    obtain ⟨rk, hrk, er⟩ := xi_of (xb_ne c_4)
    have hxr : xN r = rk := by rw [er]; exact xN_nI (by omega)
    rw [er] at hl
    refine lv_aload_n hx hb dX5_move_10 rfl (lv_at hl 0 rfl) ?_
    refine va_get (D := D) (ci := 4) (v := .ref ms) (C := RX5) (T := TX5) (N := 5) hx hb hts hiX5 hown hK hP 0 rfl rfl 0 (by decide) (hts (.fieldLink RX5 7 "PointerSweepModel" "st" "[I") (by decide +kernel)) (fun _ h9 => h9) rfl dX5_move_11 ?_
    refine lv_iload_n hx hb dX5_move_14 rfl (lv_at hl 1 rfl) ?_
    refine xk_callR (va_runS (As := [.int (nI rk)]) (rest := [.ref ms]) ⟨hx, hb, hml, hown, hts⟩ (j_reg l D cI cJ cS rk) (va_cwS 1 hts gX5_move_X5_reg rfl rfl rfl (by decide +kernel) ⟨Nat.le_of_ble_eq_true rfl, Nat.le_of_ble_eq_true rfl⟩) (xk_preSr hK hN hP [] rfl) rfl rfl hl.1 rfl (lv_room (Nat.le_of_ble_eq_true rfl)) dX5_move_15 ⟨Nat.zero_le _, Nat.zero_le _⟩) ?_
    refine lv_iconst (v := 0) hx hb dX5_move_18 (by decide) ?_
    refine lv_iadd hx hb dX5_move_19 ?_
    refine xa_iald hx hb hK hP 1 0 rfl rfl (1280 + 5 * rk + 0) (nI_add (1280 + 5 * rk) 0) (by omega) (by decide) dX5_move_20 ?_
    refine lv_topi (fun y ey => ?_)
    obtain rfl : y = xb (xw_p (v.2.1 rk)) := ey.trans (xf_r v hrk (by decide))
    refine lv_if_ne (tgt := 27) hx hb dX5_move_21 (by decide) (fun c_21 => ?_) (fun c_21 => ?_)
    · skip
      refine lv_aload_n hx hb dX5_move_27 rfl (lv_at hl 0 rfl) ?_
      refine xk_callW (ws' := [(m0, .inr (4, [.ref ms, .ref mb, .int (nI kp), .ref mw, .ref mm])), (ms, .inl (cI, 2128, .inl (xf v))), (mb, .inl (cI, 2128, .inl (xf v))), (mw, .inl (cI, 51072, .inl w)), (mm, .inl (cI, 320, .inl mi))]) (va_runV (As := []) (rest := []) ⟨hx, hb, hml, hown, hts⟩ (j_begin l D cI cJ cS m0 ms mb mw mm (xf v) b w mi kp ) (cwV 0 hts gX5_move_X5_begin rfl rfl rfl (by decide +kernel) ⟨Nat.le_of_ble_eq_true rfl, Nat.le_of_ble_eq_true rfl⟩) (xk_preVw hK hN hP hD [0, 1, 2, 3, 4] rfl rfl (ci := 4) rfl 0 rfl) rfl rfl hl.1 rfl (lv_room (Nat.le_of_ble_eq_true rfl)) dX5_move_28 ⟨Nat.zero_le _, Nat.zero_le _⟩) hP hD hS [0, 1, 2, 3, 4] rfl rfl rfl (fun H locs hP hD hS => ?_)
      refine lv_aload_n hx hb dX5_move_31 rfl (lv_at hl 0 rfl) ?_
      refine va_get (D := D) (ci := 4) (v := .ref ms) (C := RX5) (T := TX5) (N := 5) hx hb hts hiX5 hown hK hP 0 rfl rfl 0 (by decide) (hts (.fieldLink RX5 7 "PointerSweepModel" "st" "[I") (by decide +kernel)) (fun _ h9 => h9) rfl dX5_move_32 ?_
      refine lv_iload_n hx hb dX5_move_35 rfl (lv_at hl 1 rfl) ?_
      refine xk_callR (va_runS (As := [.int (nI rk)]) (rest := [.ref ms]) ⟨hx, hb, hml, hown, hts⟩ (j_reg l D cI cJ cS rk) (va_cwS 1 hts gX5_move_X5_reg rfl rfl rfl (by decide +kernel) ⟨Nat.le_of_ble_eq_true rfl, Nat.le_of_ble_eq_true rfl⟩) (xk_preSr hK hN hP [] rfl) rfl rfl hl.1 rfl (lv_room (Nat.le_of_ble_eq_true rfl)) dX5_move_36 ⟨Nat.zero_le _, Nat.zero_le _⟩) ?_
      refine lv_iconst (v := 1) hx hb dX5_move_39 (by decide) ?_
      refine lv_iadd hx hb dX5_move_40 ?_
      refine lv_dup2_11 hx hb dX5_move_41 rfl rfl ?_
      refine xa_iald hx hb hK hP 1 0 rfl rfl (1280 + 5 * rk + 1) (nI_add (1280 + 5 * rk) 1) (by omega) (by decide) dX5_move_42 ?_
      refine lv_topi (fun y ey => ?_)
      obtain rfl : y = (v.2.1 rk).1 := ey.trans (xf_r v hrk (by decide))
      refine lv_iload_n hx hb dX5_move_43 rfl (lv_at hl 2 rfl) ?_
      refine lv_iadd hx hb dX5_move_44 ?_
      refine xa_iast (ws' := [(m0, .inr (4, [.ref ms, .ref mb, .int (nI kp), .ref mw, .ref mm])), (ms, .inl (cI, 2128, .inl (upd (xf v) (1280 + 5 * rk + 1) (((v.2.1 rk).1) + d)))), (mb, .inl (cI, 2128, .inl (xf v))), (mw, .inl (cI, 51072, .inl w)), (mm, .inl (cI, 320, .inl mi))]) hx hb hK hP hD hS 1 0 rfl rfl (1280 + 5 * rk + 1) (nI_add (1280 + 5 * rk) 1) (by omega) (by decide) dX5_move_45 rfl (fun H locs hP hD hS => ?_)
      rw [m_mov v hrk (xb_ne c_21)] at hP hD
      refine lv_aload_n hx hb dX5_move_46 rfl (lv_at hl 0 rfl) ?_
      refine lv_aload_n hx hb dX5_move_47 rfl (lv_at hl 0 rfl) ?_
      refine va_get (D := D) (ci := 4) (v := .ref ms) (C := RX5) (T := TX5) (N := 5) hx hb hts hiX5 hown hK hP 0 rfl rfl 0 (by decide) (hts (.fieldLink RX5 7 "PointerSweepModel" "st" "[I") (by decide +kernel)) (fun _ h9 => h9) rfl dX5_move_48 ?_
      refine lv_iload_n hx hb dX5_move_51 rfl (lv_at hl 1 rfl) ?_
      refine xk_callR (va_runS (As := [.int (nI rk)]) (rest := [.ref ms, .ref m0]) ⟨hx, hb, hml, hown, hts⟩ (j_reg l D cI cJ cS rk) (va_cwS 1 hts gX5_move_X5_reg rfl rfl rfl (by decide +kernel) ⟨Nat.le_of_ble_eq_true rfl, Nat.le_of_ble_eq_true rfl⟩) (xk_preSr hK hN hP [] rfl) rfl rfl hl.1 rfl (lv_room (Nat.le_of_ble_eq_true rfl)) dX5_move_52 ⟨Nat.zero_le _, Nat.zero_le _⟩) ?_
      refine lv_iconst (v := 1) hx hb dX5_move_55 (by decide) ?_
      refine lv_iadd hx hb dX5_move_56 ?_
      refine xa_iald hx hb hK hP 1 0 rfl rfl (1280 + 5 * rk + 1) (nI_add (1280 + 5 * rk) 1) (by omega) (by decide) dX5_move_57 ?_
      refine lv_topi (fun y ey => ?_)
      obtain rfl : y = (v.2.1 rk).1 + d := ey.trans (by rw [xf_r _ hrk (by decide), x_reg_at]; rfl)
      refine xk_callW (ws' := [(m0, .inr (4, [.ref ms, .ref mb, .int (nI (m_kp kp)), .ref mw, .ref mm])), (ms, .inl (cI, 2128, .inl (xf (x_reg v rk ((v.2.1 rk).1 + d, some (xw_f (v.2.1 rk), xw_t (v.2.1 rk), xw_r (v.2.1 rk))))))), (mb, .inl (cI, 2128, .inl (xf v))), (mw, .inl (cI, 51072, .inl (m_was (xf v) w kp))), (mm, .inl (cI, 320, .inl mi))]) (va_runV (As := [.int ((v.2.1 rk).1 + d)]) (rest := []) ⟨hx, hb, hml, hown, hts⟩ (j_keeps l D cI cJ cS m0 ms mb mw mm (xf (x_reg v rk ((v.2.1 rk).1 + d, some (xw_f (v.2.1 rk), xw_t (v.2.1 rk), xw_r (v.2.1 rk))))) (xf v) w mi kp hkp ((v.2.1 rk).1 + d)) (cwV 1 hts gX5_move_X5_keeps rfl rfl rfl (by decide +kernel) ⟨Nat.le_of_ble_eq_true rfl, Nat.le_of_ble_eq_true rfl⟩) (xk_preVw hK hN hP hD [0, 1, 2, 3, 4] rfl rfl (ci := 4) rfl 0 rfl) rfl rfl hl.1 rfl (lv_room (Nat.le_of_ble_eq_true rfl)) dX5_move_58 ⟨Nat.zero_le _, Nat.zero_le _⟩) hP hD hS [0, 1, 2, 3, 4] rfl rfl rfl (fun H locs hP hD hS => ?_)
      have e9 : sp_move v r d = ((v.2.1 rk).1 + d, some (x_reg v rk ((v.2.1 rk).1 + d, some (xw_f (v.2.1 rk), xw_t (v.2.1 rk), xw_r (v.2.1 rk))))) := (by unfold sp_move; rw [if_pos (xb_ne c_4), hxr, if_pos (xb_ne c_21)])
      exact xk_iretW hx hb hr hlk hP hS (by rw [e9]) (by rw [← hW1, e9]; rfl) dX5_move_61
    · skip
      refine lv_ldc hx hb hown (hts (.constant RX5 66 (-1000000011)) (by decide +kernel)) dX5_move_24 ?_
      have e9 : sp_move v r d = (-1000000011, none) := (by unfold sp_move; rw [if_pos (xb_ne c_4), hxr, if_neg (x_bt c_21)])
      exact xk_iretW hx hb hr hlk hP hS (by rw [e9]) (by rw [← hW1, e9]; rfl) dX5_move_26
  · skip
    refine lv_ldc hx hb hown (hts (.constant RX5 65 (-1000000001)) (by decide +kernel)) dX5_move_7 ?_
    have e9 : sp_move v r d = (-1000000001, none) := if_neg (x_bt c_4)
    exact xk_iretW hx hb hr hlk hP hS (by rw [e9]) (by rw [← hW1, e9]; rfl) dX5_move_9
