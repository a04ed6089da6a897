set_option maxHeartbeats 4000000 in
set_option maxRecDepth 100000 in
theorem x_back (l : Launch) (D : va_G) (cI cJ cS : ClassId) (h0 ca hh ka : Nat) (fk : Nat → Option Nat) (ad : Nat → Nat) (ads : Nat → Nat → Nat) (N4 : Nat) (h4 : N4 = 24) (cr : Nat → Int64) (v : xV) (vs : Nat → xV) (nx sz : Nat) (hka : ∀ i, i < 24 → fk i = some (ads i 0)) (hnx : nx < 24) (hsz : sz ≤ 24) (hv : x_ok v) (r : Int32) : xk_Wr l yX4_back wsX4_back ({ frames := 4, cells := 0, slots := 0, locals := 123 }) D vwCl (xt cI cJ cS) (xx cI cJ cS h0 ca hh ka fk ad ads N4 cr v vs nx sz) [.ref h0, .int r] (xxo cI cJ cS h0 ca hh ka fk ad ads N4 cr v vs nx sz (sp_back v r).2) (some (.int (sp_back v r).1)) := by
  refine xk_wr2 (cc := cX4_back) (maxL := 6) (ret := (some .int)) (by decide) rfl (Nat.le_of_ble_eq_true rfl) (fun p e s m below meth c ls W0v W1v hW1 hx hb hr hlk hml hown hts hl hP hK hN hD hS => ?_)
  replace hl : lv_has ls 6 [(0, .ref h0), (1, .int r)] := hl
  have hiX2 : ∀ w ∈ u_ws RX2 TX2 10, w ∈ wsX4_back := by decide +kernel
  have hiX4 : ∀ w ∈ u_ws RX4 TX4 3, w ∈ wsX4_back := by decide +kernel
  replace hP : va_P D vwCl ([(h0, .inr (3, [.ref (ad 0), .ref hh, .ref ca])), (ca, .inl (cJ, 64, .inr (.inl cr))), (hh, .inr (1, [.ref ka, .int (nI nx), .int (nI sz)])), (ka, .inl (cS, 24, .inr (.inr (.inr (.inr fk)))))] ++ (xst cI cJ ad v ++ xpl cI cJ ads vs N4)) s.heap := hP
  replace hD : va_D _ ([(h0, .inr (3, [.ref (ad 0), .ref hh, .ref ca])), (ca, .inl (cJ, 64, .inr (.inl cr))), (hh, .inr (1, [.ref ka, .int (nI nx), .int (nI sz)])), (ka, .inl (cS, 24, .inr (.inr (.inr (.inr fk)))))] ++ (xst cI cJ ad v ++ xpl cI cJ ads vs N4)) := hD
  refine lv_iload_n hx hb dX4_back_0 rfl (lv_at hl 1 rfl) ?_
  refine xk_callR (va_runS (As := [.int r]) (rest := []) ⟨hx, hb, hml, hown, hts⟩ (k_isRegister l D cI cJ cS r) (va_cwS 1 hts gX4_back_X4_isRegister rfl rfl rfl (by decide +kernel) ⟨Nat.le_of_ble_eq_true rfl, Nat.le_of_ble_eq_true rfl⟩) (xk_preSr hK hN hP [] rfl) rfl rfl hl.1 rfl (lv_room (Nat.le_of_ble_eq_true rfl)) dX4_back_1 ⟨Nat.zero_le _, Nat.zero_le _⟩) ?_
  refine lv_if_ne (tgt := 9) hx hb dX4_back_4 (by decide) (fun c_4 => ?_) (fun c_4 => ?_)
  · skip
    obtain ⟨rk, hrk, er⟩ := xi_of (xb_ne c_4)
    have hxr : xN r = rk := by rw [er]; exact xN_nI (by omega)
    refine lv_aload_n hx hb dX4_back_9 rfl (lv_at hl 0 rfl) ?_
    refine va_get (D := D) (ci := 3) (v := .ref (ad 0)) (C := RX4) (T := TX4) (N := 3) hx hb hts hiX4 hown hK hP 0 rfl rfl 0 (by decide) (hts (.fieldLink RX4 12 "PointerSweep" "now" "LPointerSweep$State;") (by decide +kernel)) (fun _ h9 => h9) rfl dX4_back_10 ?_
    refine va_get (D := D) (ci := 2) (v := .ref (ad 2)) (C := RX2) (T := TX2) (N := 10) hx hb hts hiX2 hown hK hP 4 rfl rfl 1 (by decide) (hts (.fieldLink RX4 43 "PointerSweep$State" "registers" "[J") (by decide +kernel)) (fun _ h9 => h9) rfl dX4_back_13 ?_
    refine lv_iload_n hx hb dX4_back_16 rfl (lv_at hl 1 rfl) ?_
    refine xa_lald hx hb hK hP 6 1 rfl rfl rk er hrk (by decide) dX4_back_17 ?_
    refine lv_lstore_n (lv' := [(2, .long (xw_enc (v.2.1 rk))), (0, .ref h0), (1, .int r)]) hx hb dX4_back_18 rfl hl (by decide) rfl (fun ls hl => ?_)
    refine lv_lload_n hx hb dX4_back_19 rfl (lv_at hl 0 rfl) ?_
    refine xk_callR (va_runS (As := [.long (xw_enc (v.2.1 rk))]) (rest := []) ⟨hx, hb, hml, hown, hts⟩ (k_isPointer l D cI cJ cS (v.2.1 rk) ((x_ok_r hv) rk) ) (va_cwS 1 hts gX4_back_X3_isPointer rfl rfl rfl (by decide +kernel) ⟨Nat.le_of_ble_eq_true rfl, Nat.le_of_ble_eq_true rfl⟩) (xk_preSr hK hN hP [] rfl) rfl rfl hl.1 rfl (lv_room (Nat.le_of_ble_eq_true rfl)) dX4_back_20 ⟨Nat.zero_le _, Nat.zero_le _⟩) ?_
    refine lv_if_ne (tgt := 29) hx hb dX4_back_23 (by decide) (fun c_23 => ?_) (fun c_23 => ?_)
    · skip
      obtain ⟨ew, hf1, hf2, hf3⟩ := xw_ok2_p (hv.2.1 rk) (xb_ne c_23)
      refine lv_lload_n hx hb dX4_back_29 rfl (lv_at hl 0 rfl) ?_
      refine xk_callR (va_runS (As := [.long (xw_enc (v.2.1 rk))]) (rest := []) ⟨hx, hb, hml, hown, hts⟩ (k_from l D cI cJ cS (v.2.1 rk) ((x_ok_r hv) rk) ) (va_cwS 1 hts gX4_back_X3_from rfl rfl rfl (by decide +kernel) ⟨Nat.le_of_ble_eq_true rfl, Nat.le_of_ble_eq_true rfl⟩) (xk_preSr hK hN hP [] rfl) rfl rfl hl.1 rfl (lv_room (Nat.le_of_ble_eq_true rfl)) dX4_back_30 ⟨Nat.zero_le _, Nat.zero_le _⟩) ?_
      refine lv_istore (lv' := [(4, .int (nI (xw_f (v.2.1 rk)))), (2, .long (xw_enc (v.2.1 rk))), (0, .ref h0), (1, .int r)]) hx hb dX4_back_33 hl (by decide) rfl (fun ls hl => ?_)
      refine lv_lload_n hx hb dX4_back_35 rfl (lv_at hl 1 rfl) ?_
      refine xk_callR (va_runS (As := [.long (xw_enc (v.2.1 rk))]) (rest := []) ⟨hx, hb, hml, hown, hts⟩ (k_to l D cI cJ cS (v.2.1 rk) ((x_ok_r hv) rk) ) (va_cwS 1 hts gX4_back_X3_to rfl rfl rfl (by decide +kernel) ⟨Nat.le_of_ble_eq_true rfl, Nat.le_of_ble_eq_true rfl⟩) (xk_preSr hK hN hP [] rfl) rfl rfl hl.1 rfl (lv_room (Nat.le_of_ble_eq_true rfl)) dX4_back_36 ⟨Nat.zero_le _, Nat.zero_le _⟩) ?_
      refine lv_istore (lv' := [(5, .int (nI (xw_t (v.2.1 rk)))), (4, .int (nI (xw_f (v.2.1 rk)))), (2, .long (xw_enc (v.2.1 rk))), (0, .ref h0), (1, .int r)]) hx hb dX4_back_39 hl (by decide) rfl (fun ls hl => ?_)
      refine lv_aload_n hx hb dX4_back_41 rfl (lv_at hl 3 rfl) ?_
      refine va_get (D := D) (ci := 3) (v := .ref (ad 0)) (C := RX4) (T := TX4) (N := 3) hx hb hts hiX4 hown hK hP 0 rfl rfl 0 (by decide) (hts (.fieldLink RX4 12 "PointerSweep" "now" "LPointerSweep$State;") (by decide +kernel)) (fun _ h9 => h9) rfl dX4_back_42 ?_
      refine lv_iload hx hb dX4_back_45 (lv_at hl 1 rfl) ?_
      refine lv_iload hx hb dX4_back_47 (lv_at hl 0 rfl) ?_
      refine xk_callR (va_runV (As := [.int (nI (xw_f (v.2.1 rk))), .int (nI (xw_t (v.2.1 rk)))]) (rest := []) ⟨hx, hb, hml, hown, hts⟩ (k_isRangeF l D cI cJ cS ad v (xw_f (v.2.1 rk)) (by omega) (xw_t (v.2.1 rk)) (by omega)) (cwV 2 hts gX4_back_X2_isRange rfl rfl rfl (by decide +kernel) ⟨Nat.le_of_ble_eq_true rfl, Nat.le_of_ble_eq_true rfl⟩) (xk_preVmr hK hN hP (ci := 2) rfl 0 rfl) rfl rfl hl.1 rfl (lv_room (Nat.le_of_ble_eq_true rfl)) dX4_back_49 ⟨Nat.zero_le _, Nat.zero_le _⟩) ?_
      refine lv_if_ne (tgt := 58) hx hb dX4_back_52 (by decide) (fun c_52 => ?_) (fun c_52 => ?_)
      · skip
        refine lv_aload_n hx hb dX4_back_58 rfl (lv_at hl 3 rfl) ?_
        refine va_get (D := D) (ci := 3) (v := .ref hh) (C := RX4) (T := TX4) (N := 3) hx hb hts hiX4 hown hK hP 0 rfl rfl 1 (by decide) (hts (.fieldLink RX4 19 "PointerSweep" "history" "LPointerSweep$History;") (by decide +kernel)) (fun _ h9 => h9) rfl dX4_back_59 ?_
        refine lv_aload_n hx hb dX4_back_62 rfl (lv_at hl 3 rfl) ?_
        refine va_get (D := D) (ci := 3) (v := .ref (ad 0)) (C := RX4) (T := TX4) (N := 3) hx hb hts hiX4 hown hK hP 0 rfl rfl 0 (by decide) (hts (.fieldLink RX4 12 "PointerSweep" "now" "LPointerSweep$State;") (by decide +kernel)) (fun _ h9 => h9) rfl dX4_back_63 ?_
        refine xk_callS (X := [(h0, .inr (3, [.ref (ad 0), .ref hh, .ref ca])), (ca, .inl (cJ, 64, .inr (.inl cr)))]) (va_runV (As := [.ref (ad 0)]) (rest := []) ⟨hx, hb, hml, hown, hts⟩ (k_keep l D cI cJ cS hh ka fk ad ads v vs nx sz hka hnx hsz N4 h4) (cwV 1 hts gX4_back_X1_keep rfl rfl rfl (by decide +kernel) ⟨Nat.le_of_ble_eq_true rfl, Nat.le_of_ble_eq_true rfl⟩) (xk_preVs (X := [(h0, .inr (3, [.ref (ad 0), .ref hh, .ref ca])), (ca, .inl (cJ, 64, .inr (.inl cr)))]) hK hN hP hD (ci := 1) rfl 0 rfl) rfl rfl hl.1 rfl (lv_room (Nat.le_of_ble_eq_true rfl)) dX4_back_66 ⟨Nat.zero_le _, Nat.zero_le _⟩) hP hD hS (xh_fst _ _ _ _ _ _ _ _ _ _ _ _ _ _ _ _ _) (fun H locs hP hD hS => ?_)
        replace hP : va_P D vwCl ([(h0, .inr (3, [.ref (ad 0), .ref hh, .ref ca])), (ca, .inl (cJ, 64, .inr (.inl cr))), (hh, .inr (1, [.ref ka, .int (nI (x_nx nx)), .int (nI (x_sz sz))])), (ka, .inl (cS, 24, .inr (.inr (.inr (.inr fk)))))] ++ (xst cI cJ ad v ++ xpl cI cJ ads (va_up vs nx v) N4)) H := hP
        replace hD : va_D _ ([(h0, .inr (3, [.ref (ad 0), .ref hh, .ref ca])), (ca, .inl (cJ, 64, .inr (.inl cr))), (hh, .inr (1, [.ref ka, .int (nI (x_nx nx)), .int (nI (x_sz sz))])), (ka, .inl (cS, 24, .inr (.inr (.inr (.inr fk)))))] ++ (xst cI cJ ad v ++ xpl cI cJ ads (va_up vs nx v) N4)) := hD
        refine lv_aload_n hx hb dX4_back_69 rfl (lv_at hl 3 rfl) ?_
        refine va_get (D := D) (ci := 3) (v := .ref (ad 0)) (C := RX4) (T := TX4) (N := 3) hx hb hts hiX4 hown hK hP 0 rfl rfl 0 (by decide) (hts (.fieldLink RX4 12 "PointerSweep" "now" "LPointerSweep$State;") (by decide +kernel)) (fun _ h9 => h9) rfl dX4_back_70 ?_
        refine lv_iload hx hb dX4_back_73 (lv_at hl 1 rfl) ?_
        refine lv_iload hx hb dX4_back_75 (lv_at hl 0 rfl) ?_
        refine xk_callM (va_runV (As := [.int (nI (xw_f (v.2.1 rk))), .int (nI (xw_t (v.2.1 rk)))]) (rest := []) ⟨hx, hb, hml, hown, hts⟩ (k_giveBackF l D cI cJ cS ad v (xw_f (v.2.1 rk)) (xw_t (v.2.1 rk)) (by omega) (by omega) (by omega)) (cwV 2 hts gX4_back_X2_giveBack rfl rfl rfl (by decide +kernel) ⟨Nat.le_of_ble_eq_true rfl, Nat.le_of_ble_eq_true rfl⟩) (xk_preVm hK hN hP hD (ci := 2) rfl 0 rfl) rfl rfl hl.1 rfl (lv_room (Nat.le_of_ble_eq_true rfl)) dX4_back_77 ⟨Nat.zero_le _, Nat.zero_le _⟩) hP hD hS rfl (fun H locs hP hD hS => ?_)
        replace hP : va_P D vwCl ([(h0, .inr (3, [.ref (ad 0), .ref hh, .ref ca])), (ca, .inl (cJ, 64, .inr (.inl cr))), (hh, .inr (1, [.ref ka, .int (nI (x_nx nx)), .int (nI (x_sz sz))])), (ka, .inl (cS, 24, .inr (.inr (.inr (.inr fk)))))] ++ (xst cI cJ ad (v.1, v.2.1, v.2.2.1, (x_sub v.2.2.2.1 (xw_f (v.2.1 rk)) (xw_t (v.2.1 rk))), (x_add v.2.2.2.2.1 (xw_f (v.2.1 rk)) (xw_t (v.2.1 rk))), v.2.2.2.2.2.1, (va_up v.2.2.2.2.2.2.1 (xw_f (v.2.1 rk)) false), v.2.2.2.2.2.2.2.1, v.2.2.2.2.2.2.2.2.1, v.2.2.2.2.2.2.2.2.2) ++ xpl cI cJ ads (va_up vs nx v) N4)) H := hP
        replace hD : va_D _ ([(h0, .inr (3, [.ref (ad 0), .ref hh, .ref ca])), (ca, .inl (cJ, 64, .inr (.inl cr))), (hh, .inr (1, [.ref ka, .int (nI (x_nx nx)), .int (nI (x_sz sz))])), (ka, .inl (cS, 24, .inr (.inr (.inr (.inr fk)))))] ++ (xst cI cJ ad (v.1, v.2.1, v.2.2.1, (x_sub v.2.2.2.1 (xw_f (v.2.1 rk)) (xw_t (v.2.1 rk))), (x_add v.2.2.2.2.1 (xw_f (v.2.1 rk)) (xw_t (v.2.1 rk))), v.2.2.2.2.2.1, (va_up v.2.2.2.2.2.2.1 (xw_f (v.2.1 rk)) false), v.2.2.2.2.2.2.2.1, v.2.2.2.2.2.2.2.2.1, v.2.2.2.2.2.2.2.2.2) ++ xpl cI cJ ads (va_up vs nx v) N4)) := hD
        refine lv_iload hx hb dX4_back_80 (lv_at hl 0 rfl) ?_
        refine lv_iload hx hb dX4_back_82 (lv_at hl 1 rfl) ?_
        refine lv_isub hx hb dX4_back_84 ?_
        have e9 : sp_back v r = (nI (xw_t (v.2.1 rk)) - nI (xw_f (v.2.1 rk)), some (x_bak v (xw_f (v.2.1 rk)) (xw_t (v.2.1 rk)))) := (by unfold sp_back; rw [if_pos (xb_ne c_4), hxr, if_pos (xb_ne c_23), if_pos (xb_ne c_52)])
        exact xk_iretW hx hb hr hlk hP hS (by rw [e9]) (by rw [← hW1, e9]; rfl) dX4_back_85
      · skip
        refine lv_bipush (v := (-2)) hx hb dX4_back_55 (by decide) ?_
        have e9 : sp_back v r = (-2, none) := (by unfold sp_back; rw [if_pos (xb_ne c_4), hxr, if_pos (xb_ne c_23), if_neg (x_bt c_52)])
        exact xk_iretW hx hb hr hlk hP hS (by rw [e9]) (by rw [← hW1, e9]; rfl) dX4_back_57
    · skip
      refine lv_bipush (v := (-11)) hx hb dX4_back_26 (by decide) ?_
      have e9 : sp_back v r = (-11, none) := (by unfold sp_back; rw [if_pos (xb_ne c_4), hxr, if_neg (x_bt c_23)])
      exact xk_iretW hx hb hr hlk hP hS (by rw [e9]) (by rw [← hW1, e9]; rfl) dX4_back_28
  · skip
    refine lv_iconst (v := (-1)) hx hb dX4_back_7 (by decide) ?_
    have e9 : sp_back v r = (-1, none) := if_neg (x_bt c_4)
    exact xk_iretW hx hb hr hlk hP hS (by rw [e9]) (by rw [← hW1, e9]; rfl) dX4_back_8
set_option maxHeartbeats 4000000 in
set_option maxRecDepth 100000 in
theorem x_move (l : Launch) (D : va_G) (cI cJ cS : ClassId) (h0 ca hh ka : Nat) (fk : Nat → Option Nat) (ad : Nat → Nat) (ads : Nat → Nat → Nat) (N4 : Nat) (h4 : N4 = 24) (cr : Nat → Int64) (v : xV) (vs : Nat → xV) (nx sz : Nat) (hka : ∀ i, i < 24 → fk i = some (ads i 0)) (hnx : nx < 24) (hsz : sz ≤ 24) (hv : x_ok v) (r d : Int32) : xk_Wr l yX4_move wsX4_move ({ frames := 4, cells := 0, slots := 0, locals := 123 }) D vwCl (xt cI cJ cS) (xx cI cJ cS h0 ca hh ka fk ad ads N4 cr v vs nx sz) [.ref h0, .int r, .int d] (xxo cI cJ cS h0 ca hh ka fk ad ads N4 cr v vs nx sz (sp_move v r d).2) (some (.int (sp_move v r d).1)) := by
  refine xk_wr2 (cc := cX4_move) (maxL := 6) (ret := (some .int)) (by decide) rfl (Nat.le_of_ble_eq_true rfl) (fun p e s m below meth c ls W0v W1v hW1 hx hb hr hlk hml hown hts hl hP hK hN hD hS => ?_)
  replace hl : lv_has ls 6 [(0, .ref h0), (1, .int r), (2, .int d)] := hl
  have hiX2 : ∀ w ∈ u_ws RX2 TX2 10, w ∈ wsX4_move := by decide +kernel
  have hiX4 : ∀ w ∈ u_ws RX4 TX4 3, w ∈ wsX4_move := by decide +kernel
  replace hP : va_P D vwCl ([(h0, .inr (3, [.ref (ad 0), .ref hh, .ref ca])), (ca, .inl (cJ, 64, .inr (.inl cr))), (hh, .inr (1, [.ref ka, .int (nI nx), .int (nI sz)])), (ka, .inl (cS, 24, .inr (.inr (.inr (.inr fk)))))] ++ (xst cI cJ ad v ++ xpl cI cJ ads vs N4)) s.heap := hP
  replace hD : va_D _ ([(h0, .inr (3, [.ref (ad 0), .ref hh, .ref ca])), (ca, .inl (cJ, 64, .inr (.inl cr))), (hh, .inr (1, [.ref ka, .int (nI nx), .int (nI sz)])), (ka, .inl (cS, 24, .inr (.inr (.inr (.inr fk)))))] ++ (xst cI cJ ad v ++ xpl cI cJ ads vs N4)) := hD
  refine lv_iload_n hx hb dX4_move_0 rfl (lv_at hl 1 rfl) ?_
  refine xk_callR (va_runS (As := [.int r]) (rest := []) ⟨hx, hb, hml, hown, hts⟩ (k_isRegister l D cI cJ cS r) (va_cwS 1 hts gX4_move_X4_isRegister rfl rfl rfl (by decide +kernel) ⟨Nat.le_of_ble_eq_true rfl, Nat.le_of_ble_eq_true rfl⟩) (xk_preSr hK hN hP [] rfl) rfl rfl hl.1 rfl (lv_room (Nat.le_of_ble_eq_true rfl)) dX4_move_1 ⟨Nat.zero_le _, Nat.zero_le _⟩) ?_
  refine lv_if_ne (tgt := 10) hx hb dX4_move_4 (by decide) (fun c_4 => ?_) (fun c_4 => ?_)
  · skip
    obtain ⟨rk, hrk, er⟩ := xi_of (xb_ne c_4)
    have hxr : xN r = rk := by rw [er]; exact xN_nI (by omega)
    refine lv_aload_n hx hb dX4_move_10 rfl (lv_at hl 0 rfl) ?_
    refine va_get (D := D) (ci := 3) (v := .ref (ad 0)) (C := RX4) (T := TX4) (N := 3) hx hb hts hiX4 hown hK hP 0 rfl rfl 0 (by decide) (hts (.fieldLink RX4 12 "PointerSweep" "now" "LPointerSweep$State;") (by decide +kernel)) (fun _ h9 => h9) rfl dX4_move_11 ?_
    refine va_get (D := D) (ci := 2) (v := .ref (ad 2)) (C := RX2) (T := TX2) (N := 10) hx hb hts hiX2 hown hK hP 4 rfl rfl 1 (by decide) (hts (.fieldLink RX4 43 "PointerSweep$State" "registers" "[J") (by decide +kernel)) (fun _ h9 => h9) rfl dX4_move_14 ?_
    refine lv_iload_n hx hb dX4_move_17 rfl (lv_at hl 1 rfl) ?_
    refine xa_lald hx hb hK hP 6 1 rfl rfl rk er hrk (by decide) dX4_move_18 ?_
    refine lv_lstore_n (lv' := [(3, .long (xw_enc (v.2.1 rk))), (0, .ref h0), (1, .int r), (2, .int d)]) hx hb dX4_move_19 rfl hl (by decide) rfl (fun ls hl => ?_)
    refine lv_lload_n hx hb dX4_move_20 rfl (lv_at hl 0 rfl) ?_
    refine xk_callR (va_runS (As := [.long (xw_enc (v.2.1 rk))]) (rest := []) ⟨hx, hb, hml, hown, hts⟩ (k_isPointer l D cI cJ cS (v.2.1 rk) ((x_ok_r hv) rk) ) (va_cwS 1 hts gX4_move_X3_isPointer rfl rfl rfl (by decide +kernel) ⟨Nat.le_of_ble_eq_true rfl, Nat.le_of_ble_eq_true rfl⟩) (xk_preSr hK hN hP [] rfl) rfl rfl hl.1 rfl (lv_room (Nat.le_of_ble_eq_true rfl)) dX4_move_21 ⟨Nat.zero_le _, Nat.zero_le _⟩) ?_
    refine lv_if_ne (tgt := 30) hx hb dX4_move_24 (by decide) (fun c_24 => ?_) (fun c_24 => ?_)
    · skip
      obtain ⟨ew, hf1, hf2, hf3⟩ := xw_ok2_p (hv.2.1 rk) (xb_ne c_24)
      refine lv_aload_n hx hb dX4_move_30 rfl (lv_at hl 1 rfl) ?_
      refine va_get (D := D) (ci := 3) (v := .ref hh) (C := RX4) (T := TX4) (N := 3) hx hb hts hiX4 hown hK hP 0 rfl rfl 1 (by decide) (hts (.fieldLink RX4 19 "PointerSweep" "history" "LPointerSweep$History;") (by decide +kernel)) (fun _ h9 => h9) rfl dX4_move_31 ?_
      refine lv_aload_n hx hb dX4_move_34 rfl (lv_at hl 1 rfl) ?_
      refine va_get (D := D) (ci := 3) (v := .ref (ad 0)) (C := RX4) (T := TX4) (N := 3) hx hb hts hiX4 hown hK hP 0 rfl rfl 0 (by decide) (hts (.fieldLink RX4 12 "PointerSweep" "now" "LPointerSweep$State;") (by decide +kernel)) (fun _ h9 => h9) rfl dX4_move_35 ?_
      refine xk_callS (X := [(h0, .inr (3, [.ref (ad 0), .ref hh, .ref ca])), (ca, .inl (cJ, 64, .inr (.inl cr)))]) (va_runV (As := [.ref (ad 0)]) (rest := []) ⟨hx, hb, hml, hown, hts⟩ (k_keep l D cI cJ cS hh ka fk ad ads v vs nx sz hka hnx hsz N4 h4) (cwV 1 hts gX4_move_X1_keep rfl rfl rfl (by decide +kernel) ⟨Nat.le_of_ble_eq_true rfl, Nat.le_of_ble_eq_true rfl⟩) (xk_preVs (X := [(h0, .inr (3, [.ref (ad 0), .ref hh, .ref ca])), (ca, .inl (cJ, 64, .inr (.inl cr)))]) hK hN hP hD (ci := 1) rfl 0 rfl) rfl rfl hl.1 rfl (lv_room (Nat.le_of_ble_eq_true rfl)) dX4_move_38 ⟨Nat.zero_le _, Nat.zero_le _⟩) hP hD hS (xh_fst _ _ _ _ _ _ _ _ _ _ _ _ _ _ _ _ _) (fun H locs hP hD hS => ?_)
      replace hP : va_P D vwCl ([(h0, .inr (3, [.ref (ad 0), .ref hh, .ref ca])), (ca, .inl (cJ, 64, .inr (.inl cr))), (hh, .inr (1, [.ref ka, .int (nI (x_nx nx)), .int (nI (x_sz sz))])), (ka, .inl (cS, 24, .inr (.inr (.inr (.inr fk)))))] ++ (xst cI cJ ad v ++ xpl cI cJ ads (va_up vs nx v) N4)) H := hP
      replace hD : va_D _ ([(h0, .inr (3, [.ref (ad 0), .ref hh, .ref ca])), (ca, .inl (cJ, 64, .inr (.inl cr))), (hh, .inr (1, [.ref ka, .int (nI (x_nx nx)), .int (nI (x_sz sz))])), (ka, .inl (cS, 24, .inr (.inr (.inr (.inr fk)))))] ++ (xst cI cJ ad v ++ xpl cI cJ ads (va_up vs nx v) N4)) := hD
      refine lv_lload_n hx hb dX4_move_41 rfl (lv_at hl 0 rfl) ?_
      refine xk_callR (va_runS (As := [.long (xw_enc (v.2.1 rk))]) (rest := []) ⟨hx, hb, hml, hown, hts⟩ (k_at l D cI cJ cS (v.2.1 rk) ((x_ok_r hv) rk) ) (va_cwS 1 hts gX4_move_X3_at rfl rfl rfl (by decide +kernel) ⟨Nat.le_of_ble_eq_true rfl, Nat.le_of_ble_eq_true rfl⟩) (xk_preSr hK hN hP [] rfl) rfl rfl hl.1 rfl (lv_room (Nat.le_of_ble_eq_true rfl)) dX4_move_42 ⟨Nat.zero_le _, Nat.zero_le _⟩) ?_
      refine lv_iload_n hx hb dX4_move_45 rfl (lv_at hl 3 rfl) ?_
      refine lv_iadd hx hb dX4_move_46 ?_
      refine lv_istore (lv' := [(5, .int ((v.2.1 rk).1 + d)), (3, .long (xw_enc (v.2.1 rk))), (0, .ref h0), (1, .int r), (2, .int d)]) hx hb dX4_move_47 hl (by decide) rfl (fun ls hl => ?_)
      refine lv_aload_n hx hb dX4_move_49 rfl (lv_at hl 2 rfl) ?_
      refine va_get (D := D) (ci := 3) (v := .ref (ad 0)) (C := RX4) (T := TX4) (N := 3) hx hb hts hiX4 hown hK hP 0 rfl rfl 0 (by decide) (hts (.fieldLink RX4 12 "PointerSweep" "now" "LPointerSweep$State;") (by decide +kernel)) (fun _ h9 => h9) rfl dX4_move_50 ?_
      refine va_get (D := D) (ci := 2) (v := .ref (ad 2)) (C := RX2) (T := TX2) (N := 10) hx hb hts hiX2 hown hK hP 4 rfl rfl 1 (by decide) (hts (.fieldLink RX4 43 "PointerSweep$State" "registers" "[J") (by decide +kernel)) (fun _ h9 => h9) rfl dX4_move_53 ?_
      refine lv_iload_n hx hb dX4_move_56 rfl (lv_at hl 3 rfl) ?_
      refine lv_lload_n hx hb dX4_move_57 rfl (lv_at hl 1 rfl) ?_
      refine xk_callR (va_runS (As := [.long (xw_enc (v.2.1 rk))]) (rest := [.int r, .ref (ad 2)]) ⟨hx, hb, hml, hown, hts⟩ (k_from l D cI cJ cS (v.2.1 rk) ((x_ok_r hv) rk) ) (va_cwS 1 hts gX4_move_X3_from rfl rfl rfl (by decide +kernel) ⟨Nat.le_of_ble_eq_true rfl, Nat.le_of_ble_eq_true rfl⟩) (xk_preSr hK hN hP [] rfl) rfl rfl hl.1 rfl (lv_room (Nat.le_of_ble_eq_true rfl)) dX4_move_58 ⟨Nat.zero_le _, Nat.zero_le _⟩) ?_
      refine lv_lload_n hx hb dX4_move_61 rfl (lv_at hl 1 rfl) ?_
      refine xk_callR (va_runS (As := [.long (xw_enc (v.2.1 rk))]) (rest := [.int (nI (xw_f (v.2.1 rk))), .int r, .ref (ad 2)]) ⟨hx, hb, hml, hown, hts⟩ (k_to l D cI cJ cS (v.2.1 rk) ((x_ok_r hv) rk) ) (va_cwS 1 hts gX4_move_X3_to rfl rfl rfl (by decide +kernel) ⟨Nat.le_of_ble_eq_true rfl, Nat.le_of_ble_eq_true rfl⟩) (xk_preSr hK hN hP [] rfl) rfl rfl hl.1 rfl (lv_room (Nat.le_of_ble_eq_true rfl)) dX4_move_62 ⟨Nat.zero_le _, Nat.zero_le _⟩) ?_
      refine lv_iload hx hb dX4_move_65 (lv_at hl 0 rfl) ?_
      refine lv_lload_n hx hb dX4_move_67 rfl (lv_at hl 1 rfl) ?_
      refine xk_callR (va_runS (As := [.long (xw_enc (v.2.1 rk))]) (rest := [.int ((v.2.1 rk).1 + d), .int (nI (xw_t (v.2.1 rk))), .int (nI (xw_f (v.2.1 rk))), .int r, .ref (ad 2)]) ⟨hx, hb, hml, hown, hts⟩ (k_rights l D cI cJ cS (v.2.1 rk) ((x_ok_r hv) rk) ) (va_cwS 1 hts gX4_move_X3_rights rfl rfl rfl (by decide +kernel) ⟨Nat.le_of_ble_eq_true rfl, Nat.le_of_ble_eq_true rfl⟩) (xk_preSr hK hN hP [] rfl) rfl rfl hl.1 rfl (lv_room (Nat.le_of_ble_eq_true rfl)) dX4_move_68 ⟨Nat.zero_le _, Nat.zero_le _⟩) ?_
      refine xk_callR (va_runS (As := [.int (nI (xw_f (v.2.1 rk))), .int (nI (xw_t (v.2.1 rk))), .int ((v.2.1 rk).1 + d), .int (nI (xw_r (v.2.1 rk)))]) (rest := [.int r, .ref (ad 2)]) ⟨hx, hb, hml, hown, hts⟩ (k_ofPointer l D cI cJ cS (xw_f (v.2.1 rk)) (xw_t (v.2.1 rk)) ((v.2.1 rk).1 + d) (xw_r (v.2.1 rk)) (by omega) (by omega) hf3) (va_cwS 4 hts gX4_move_X3_ofPointer rfl rfl rfl (by decide +kernel) ⟨Nat.le_of_ble_eq_true rfl, Nat.le_of_ble_eq_true rfl⟩) (xk_preSr hK hN hP [] rfl) rfl rfl hl.1 rfl (lv_room (Nat.le_of_ble_eq_true rfl)) dX4_move_71 ⟨Nat.zero_le _, Nat.zero_le _⟩) ?_
      refine xa_lastW (w := (((v.2.1 rk).1 + d), some ((xw_f (v.2.1 rk)), (xw_t (v.2.1 rk)), (xw_r (v.2.1 rk))))) (ws' := [(h0, .inr (3, [.ref (ad 0), .ref hh, .ref ca])), (ca, .inl (cJ, 64, .inr (.inl cr))), (hh, .inr (1, [.ref ka, .int (nI (x_nx nx)), .int (nI (x_sz sz))])), (ka, .inl (cS, 24, .inr (.inr (.inr (.inr fk)))))] ++ (xst cI cJ ad (v.1, (va_up v.2.1 rk (((v.2.1 rk).1 + d), some ((xw_f (v.2.1 rk)), (xw_t (v.2.1 rk)), (xw_r (v.2.1 rk))))), v.2.2.1, v.2.2.2.1, v.2.2.2.2.1, v.2.2.2.2.2.1, v.2.2.2.2.2.2.1, v.2.2.2.2.2.2.2.1, v.2.2.2.2.2.2.2.2.1, v.2.2.2.2.2.2.2.2.2) ++ xpl cI cJ ads (va_up vs nx v) N4)) hx hb hK hP hD hS 6 1 rfl rfl rk er hrk (by decide) dX4_move_74 rfl (fun H locs hP hD hS => ?_)
      refine lv_iload hx hb dX4_move_75 (lv_at hl 0 rfl) ?_
      have e9 : sp_move v r d = ((v.2.1 rk).1 + d, some (x_reg v rk ((v.2.1 rk).1 + d, some (xw_f (v.2.1 rk), xw_t (v.2.1 rk), xw_r (v.2.1 rk))))) := (by unfold sp_move; rw [if_pos (xb_ne c_4), hxr, if_pos (xb_ne c_24)])
      exact xk_iretW hx hb hr hlk hP hS (by rw [e9]) (by rw [← hW1, e9]; rfl) dX4_move_77
    · skip
      refine lv_ldc hx hb hown (hts (.constant RX4 75 (-1000000011)) (by decide +kernel)) dX4_move_27 ?_
      have e9 : sp_move v r d = (-1000000011, none) := (by unfold sp_move; rw [if_pos (xb_ne c_4), hxr, if_neg (x_bt c_24)])
      exact xk_iretW hx hb hr hlk hP hS (by rw [e9]) (by rw [← hW1, e9]; rfl) dX4_move_29
  · skip
    refine lv_ldc hx hb hown (hts (.constant RX4 74 (-1000000001)) (by decide +kernel)) dX4_move_7 ?_
    have e9 : sp_move v r d = (-1000000001, none) := if_neg (x_bt c_4)
    exact xk_iretW hx hb hr hlk hP hS (by rw [e9]) (by rw [← hW1, e9]; rfl) dX4_move_9
set_option maxHeartbeats 4000000 in
set_option maxRecDepth 100000 in
theorem x_narrow (l : Launch) (D : va_G) (cI cJ cS : ClassId) (h0 ca hh ka : Nat) (fk : Nat → Option Nat) (ad : Nat → Nat) (ads : Nat → Nat → Nat) (N4 : Nat) (h4 : N4 = 24) (cr : Nat → Int64) (v : xV) (vs : Nat → xV) (nx sz : Nat) (hka : ∀ i, i < 24 → fk i = some (ads i 0)) (hnx : nx < 24) (hsz : sz ≤ 24) (hv : x_ok v) (r q n k : Int32) : xk_Wr l yX4_narrow wsX4_narrow ({ frames := 4, cells := 0, slots := 0, locals := 123 }) D vwCl (xt cI cJ cS) (xx cI cJ cS h0 ca hh ka fk ad ads N4 cr v vs nx sz) [.ref h0, .int r, .int q, .int n, .int k] (xxo cI cJ cS h0 ca hh ka fk ad ads N4 cr v vs nx sz (sp_narrow v r q n k).2) (some (.int (sp_narrow v r q n k).1)) := by
  refine xk_wr2 (cc := cX4_narrow) (maxL := 8) (ret := (some .int)) (by decide) rfl (Nat.le_of_ble_eq_true rfl) (fun p e s m below meth c ls W0v W1v hW1 hx hb hr hlk hml hown hts hl hP hK hN hD hS => ?_)
  replace hl : lv_has ls 8 [(0, .ref h0), (1, .int r), (2, .int q), (3, .int n), (4, .int k)] := hl
  have hiX2 : ∀ w ∈ u_ws RX2 TX2 10, w ∈ wsX4_narrow := by decide +kernel
  have hiX4 : ∀ w ∈ u_ws RX4 TX4 3, w ∈ wsX4_narrow := by decide +kernel
  replace hP : va_P D vwCl ([(h0, .inr (3, [.ref (ad 0), .ref hh, .ref ca])), (ca, .inl (cJ, 64, .inr (.inl cr))), (hh, .inr (1, [.ref ka, .int (nI nx), .int (nI sz)])), (ka, .inl (cS, 24, .inr (.inr (.inr (.inr fk)))))] ++ (xst cI cJ ad v ++ xpl cI cJ ads vs N4)) s.heap := hP
  replace hD : va_D _ ([(h0, .inr (3, [.ref (ad 0), .ref hh, .ref ca])), (ca, .inl (cJ, 64, .inr (.inl cr))), (hh, .inr (1, [.ref ka, .int (nI nx), .int (nI sz)])), (ka, .inl (cS, 24, .inr (.inr (.inr (.inr fk)))))] ++ (xst cI cJ ad v ++ xpl cI cJ ads vs N4)) := hD
  refine lv_iload_n hx hb dX4_narrow_0 rfl (lv_at hl 1 rfl) ?_
  refine xk_callR (va_runS (As := [.int r]) (rest := []) ⟨hx, hb, hml, hown, hts⟩ (k_isRegister l D cI cJ cS r) (va_cwS 1 hts gX4_narrow_X4_isRegister rfl rfl rfl (by decide +kernel) ⟨Nat.le_of_ble_eq_true rfl, Nat.le_of_ble_eq_true rfl⟩) (xk_preSr hK hN hP [] rfl) rfl rfl hl.1 rfl (lv_room (Nat.le_of_ble_eq_true rfl)) dX4_narrow_1 ⟨Nat.zero_le _, Nat.zero_le _⟩) ?_
  refine lv_if_eq (tgt := 30) hx hb dX4_narrow_4 (by decide) (fun c_4 => ?_) (fun c_4 => ?_)
  · skip
    refine lv_iconst (v := (-1)) hx hb dX4_narrow_30 (by decide) ?_
    have e9 : sp_narrow v r q n k = (-1, none) := if_neg (fun z => x_bt c_4 z.1)
    exact xk_iretW hx hb hr hlk hP hS (by rw [e9]) (by rw [← hW1, e9]; rfl) dX4_narrow_31
  · skip
    refine lv_iload_n hx hb dX4_narrow_7 rfl (lv_at hl 2 rfl) ?_
    refine xk_callR (va_runS (As := [.int q]) (rest := []) ⟨hx, hb, hml, hown, hts⟩ (k_isRegister l D cI cJ cS q) (va_cwS 1 hts gX4_narrow_X4_isRegister rfl rfl rfl (by decide +kernel) ⟨Nat.le_of_ble_eq_true rfl, Nat.le_of_ble_eq_true rfl⟩) (xk_preSr hK hN hP [] rfl) rfl rfl hl.1 rfl (lv_room (Nat.le_of_ble_eq_true rfl)) dX4_narrow_8 ⟨Nat.zero_le _, Nat.zero_le _⟩) ?_
    refine lv_if_eq (tgt := 30) hx hb dX4_narrow_11 (by decide) (fun c_11 => ?_) (fun c_11 => ?_)
    · skip
      refine lv_iconst (v := (-1)) hx hb dX4_narrow_30 (by decide) ?_
      have e9 : sp_narrow v r q n k = (-1, none) := if_neg (fun z => x_bt c_11 z.2.1)
      exact xk_iretW hx hb hr hlk hP hS (by rw [e9]) (by rw [← hW1, e9]; rfl) dX4_narrow_31
    · skip
      refine lv_iload_n hx hb dX4_narrow_14 rfl (lv_at hl 3 rfl) ?_
      refine lv_iconst (v := 1) hx hb dX4_narrow_15 (by decide) ?_
      refine lv_icmp_lt (tgt := 30) hx hb dX4_narrow_16 (by decide) (fun c_16 => ?_) (fun c_16 => ?_)
      · skip
        refine lv_iconst (v := (-1)) hx hb dX4_narrow_30 (by decide) ?_
        have e9 : sp_narrow v r q n k = (-1, none) := if_neg (fun z => z.2.2.1 c_16)
        exact xk_iretW hx hb hr hlk hP hS (by rw [e9]) (by rw [← hW1, e9]; rfl) dX4_narrow_31
      · skip
        refine lv_iload hx hb dX4_narrow_19 (lv_at hl 4 rfl) ?_
        refine lv_if_lt (tgt := 30) hx hb dX4_narrow_21 (by decide) (fun c_21 => ?_) (fun c_21 => ?_)
        · skip
          refine lv_iconst (v := (-1)) hx hb dX4_narrow_30 (by decide) ?_
          have e9 : sp_narrow v r q n k = (-1, none) := if_neg (fun z => z.2.2.2.1 c_21)
          exact xk_iretW hx hb hr hlk hP hS (by rw [e9]) (by rw [← hW1, e9]; rfl) dX4_narrow_31
        · skip
          refine lv_iload hx hb dX4_narrow_24 (lv_at hl 4 rfl) ?_
          refine lv_iconst (v := 3) hx hb dX4_narrow_26 (by decide) ?_
          refine lv_icmp_le (tgt := 32) hx hb dX4_narrow_27 (by decide) (fun c_27 => ?_) (fun c_27 => ?_)
          · skip
            obtain ⟨rk, hrk, er⟩ := xi_of (xb_ne c_4)
            have hxr : xN r = rk := by rw [er]; exact xN_nI (by omega)
            obtain ⟨qk, hqk, eq⟩ := xi_of (xb_ne c_11)
            have hxq : xN q = qk := by rw [eq]; exact xN_nI (by omega)
            refine lv_aload_n hx hb dX4_narrow_32 rfl (lv_at hl 0 rfl) ?_
            refine va_get (D := D) (ci := 3) (v := .ref (ad 0)) (C := RX4) (T := TX4) (N := 3) hx hb hts hiX4 hown hK hP 0 rfl rfl 0 (by decide) (hts (.fieldLink RX4 12 "PointerSweep" "now" "LPointerSweep$State;") (by decide +kernel)) (fun _ h9 => h9) rfl dX4_narrow_33 ?_
            refine va_get (D := D) (ci := 2) (v := .ref (ad 2)) (C := RX2) (T := TX2) (N := 10) hx hb hts hiX2 hown hK hP 4 rfl rfl 1 (by decide) (hts (.fieldLink RX4 43 "PointerSweep$State" "registers" "[J") (by decide +kernel)) (fun _ h9 => h9) rfl dX4_narrow_36 ?_
            refine lv_iload_n hx hb dX4_narrow_39 rfl (lv_at hl 2 rfl) ?_
            refine xa_lald hx hb hK hP 6 1 rfl rfl qk eq hqk (by decide) dX4_narrow_40 ?_
            refine lv_lstore (lv' := [(5, .long (xw_enc (v.2.1 qk))), (0, .ref h0), (1, .int r), (2, .int q), (3, .int n), (4, .int k)]) hx hb dX4_narrow_41 hl (by decide) rfl (fun ls hl => ?_)
            refine lv_lload hx hb dX4_narrow_43 (lv_at hl 0 rfl) ?_
            refine xk_callR (va_runS (As := [.long (xw_enc (v.2.1 qk))]) (rest := []) ⟨hx, hb, hml, hown, hts⟩ (k_isPointer l D cI cJ cS (v.2.1 qk) ((x_ok_r hv) qk) ) (va_cwS 1 hts gX4_narrow_X3_isPointer rfl rfl rfl (by decide +kernel) ⟨Nat.le_of_ble_eq_true rfl, Nat.le_of_ble_eq_true rfl⟩) (xk_preSr hK hN hP [] rfl) rfl rfl hl.1 rfl (lv_room (Nat.le_of_ble_eq_true rfl)) dX4_narrow_45 ⟨Nat.zero_le _, Nat.zero_le _⟩) ?_
            refine lv_if_ne (tgt := 54) hx hb dX4_narrow_48 (by decide) (fun c_48 => ?_) (fun c_48 => ?_)
            · skip
              refine lv_lload hx hb dX4_narrow_54 (lv_at hl 0 rfl) ?_
              refine lv_iconst (v := 0) hx hb dX4_narrow_56 (by decide) ?_
              refine lv_iload_n hx hb dX4_narrow_57 rfl (lv_at hl 4 rfl) ?_
              refine xk_callR (va_runS (As := [.long (xw_enc (v.2.1 qk)), .int 0, .int n]) (rest := []) ⟨hx, hb, hml, hown, hts⟩ (k_covers l D cI cJ cS (v.2.1 qk) ((x_ok_r hv) qk) 0 n) (va_cwS 3 hts gX4_narrow_X3_covers rfl rfl rfl (by decide +kernel) ⟨Nat.le_of_ble_eq_true rfl, Nat.le_of_ble_eq_true rfl⟩) (xk_preSr hK hN hP [] rfl) rfl rfl hl.1 rfl (lv_room (Nat.le_of_ble_eq_true rfl)) dX4_narrow_58 ⟨Nat.zero_le _, Nat.zero_le _⟩) ?_
              refine lv_if_ne (tgt := 67) hx hb dX4_narrow_61 (by decide) (fun c_61 => ?_) (fun c_61 => ?_)
              · skip
                obtain ⟨ew, hf1, hf2, hf3⟩ := xw_ok2_p (hv.2.1 qk) (xb_ne c_48)
                obtain ⟨ak, nk, ea, en, hn1, han, hxn, hxa⟩ := x_cov0 (hv.2.1 qk) (xb_ne c_48) (xb_ne c_61) c_16
                obtain ⟨rr, hrr, err, hxk⟩ := x_and4 hf3 c_21 c_27
                rw [en] at hl
                refine lv_aload_n hx hb dX4_narrow_67 rfl (lv_at hl 1 rfl) ?_
                refine va_get (D := D) (ci := 3) (v := .ref hh) (C := RX4) (T := TX4) (N := 3) hx hb hts hiX4 hown hK hP 0 rfl rfl 1 (by decide) (hts (.fieldLink RX4 19 "PointerSweep" "history" "LPointerSweep$History;") (by decide +kernel)) (fun _ h9 => h9) rfl dX4_narrow_68 ?_
                refine lv_aload_n hx hb dX4_narrow_71 rfl (lv_at hl 1 rfl) ?_
                refine va_get (D := D) (ci := 3) (v := .ref (ad 0)) (C := RX4) (T := TX4) (N := 3) hx hb hts hiX4 hown hK hP 0 rfl rfl 0 (by decide) (hts (.fieldLink RX4 12 "PointerSweep" "now" "LPointerSweep$State;") (by decide +kernel)) (fun _ h9 => h9) rfl dX4_narrow_72 ?_
                refine xk_callS (X := [(h0, .inr (3, [.ref (ad 0), .ref hh, .ref ca])), (ca, .inl (cJ, 64, .inr (.inl cr)))]) (va_runV (As := [.ref (ad 0)]) (rest := []) ⟨hx, hb, hml, hown, hts⟩ (k_keep l D cI cJ cS hh ka fk ad ads v vs nx sz hka hnx hsz N4 h4) (cwV 1 hts gX4_narrow_X1_keep rfl rfl rfl (by decide +kernel) ⟨Nat.le_of_ble_eq_true rfl, Nat.le_of_ble_eq_true rfl⟩) (xk_preVs (X := [(h0, .inr (3, [.ref (ad 0), .ref hh, .ref ca])), (ca, .inl (cJ, 64, .inr (.inl cr)))]) hK hN hP hD (ci := 1) rfl 0 rfl) rfl rfl hl.1 rfl (lv_room (Nat.le_of_ble_eq_true rfl)) dX4_narrow_75 ⟨Nat.zero_le _, Nat.zero_le _⟩) hP hD hS (xh_fst _ _ _ _ _ _ _ _ _ _ _ _ _ _ _ _ _) (fun H locs hP hD hS => ?_)
                replace hP : va_P D vwCl ([(h0, .inr (3, [.ref (ad 0), .ref hh, .ref ca])), (ca, .inl (cJ, 64, .inr (.inl cr))), (hh, .inr (1, [.ref ka, .int (nI (x_nx nx)), .int (nI (x_sz sz))])), (ka, .inl (cS, 24, .inr (.inr (.inr (.inr fk)))))] ++ (xst cI cJ ad v ++ xpl cI cJ ads (va_up vs nx v) N4)) H := hP
                replace hD : va_D _ ([(h0, .inr (3, [.ref (ad 0), .ref hh, .ref ca])), (ca, .inl (cJ, 64, .inr (.inl cr))), (hh, .inr (1, [.ref ka, .int (nI (x_nx nx)), .int (nI (x_sz sz))])), (ka, .inl (cS, 24, .inr (.inr (.inr (.inr fk)))))] ++ (xst cI cJ ad v ++ xpl cI cJ ads (va_up vs nx v) N4)) := hD
                refine lv_lload hx hb dX4_narrow_78 (lv_at hl 0 rfl) ?_
                refine xk_callR (va_runS (As := [.long (xw_enc (v.2.1 qk))]) (rest := []) ⟨hx, hb, hml, hown, hts⟩ (k_at l D cI cJ cS (v.2.1 qk) ((x_ok_r hv) qk) ) (va_cwS 1 hts gX4_narrow_X3_at rfl rfl rfl (by decide +kernel) ⟨Nat.le_of_ble_eq_true rfl, Nat.le_of_ble_eq_true rfl⟩) (xk_preSr hK hN hP [] rfl) rfl rfl hl.1 rfl (lv_room (Nat.le_of_ble_eq_true rfl)) dX4_narrow_80 ⟨Nat.zero_le _, Nat.zero_le _⟩) ?_
                refine lv_topi (fun y ey => ?_)
                obtain rfl : y = nI ak := ey.trans ea
                refine lv_istore (lv' := [(7, .int (nI ak)), (5, .long (xw_enc (v.2.1 qk))), (0, .ref h0), (1, .int r), (2, .int q), (3, .int (nI nk)), (4, .int k)]) hx hb dX4_narrow_83 hl (by decide) rfl (fun ls hl => ?_)
                refine lv_aload_n hx hb dX4_narrow_85 rfl (lv_at hl 2 rfl) ?_
                refine va_get (D := D) (ci := 3) (v := .ref (ad 0)) (C := RX4) (T := TX4) (N := 3) hx hb hts hiX4 hown hK hP 0 rfl rfl 0 (by decide) (hts (.fieldLink RX4 12 "PointerSweep" "now" "LPointerSweep$State;") (by decide +kernel)) (fun _ h9 => h9) rfl dX4_narrow_86 ?_
                refine va_get (D := D) (ci := 2) (v := .ref (ad 2)) (C := RX2) (T := TX2) (N := 10) hx hb hts hiX2 hown hK hP 4 rfl rfl 1 (by decide) (hts (.fieldLink RX4 43 "PointerSweep$State" "registers" "[J") (by decide +kernel)) (fun _ h9 => h9) rfl dX4_narrow_89 ?_
                refine lv_iload_n hx hb dX4_narrow_92 rfl (lv_at hl 3 rfl) ?_
                refine lv_iload hx hb dX4_narrow_93 (lv_at hl 0 rfl) ?_
                refine lv_iload hx hb dX4_narrow_95 (lv_at hl 0 rfl) ?_
                refine lv_iload_n hx hb dX4_narrow_97 rfl (lv_at hl 5 rfl) ?_
                refine lv_iadd hx hb dX4_narrow_98 ?_
                refine lv_topi (fun y ey => ?_)
                obtain rfl : y = nI (ak + nk) := ey.trans (nI_add _ _)
                refine lv_iload hx hb dX4_narrow_99 (lv_at hl 0 rfl) ?_
                refine lv_lload hx hb dX4_narrow_101 (lv_at hl 1 rfl) ?_
                refine xk_callR (va_runS (As := [.long (xw_enc (v.2.1 qk))]) (rest := [.int (nI ak), .int (nI (ak + nk)), .int (nI ak), .int r, .ref (ad 2)]) ⟨hx, hb, hml, hown, hts⟩ (k_rights l D cI cJ cS (v.2.1 qk) ((x_ok_r hv) qk) ) (va_cwS 1 hts gX4_narrow_X3_rights rfl rfl rfl (by decide +kernel) ⟨Nat.le_of_ble_eq_true rfl, Nat.le_of_ble_eq_true rfl⟩) (xk_preSr hK hN hP [] rfl) rfl rfl hl.1 rfl (lv_room (Nat.le_of_ble_eq_true rfl)) dX4_narrow_103 ⟨Nat.zero_le _, Nat.zero_le _⟩) ?_
                refine lv_iload hx hb dX4_narrow_106 (lv_at hl 6 rfl) ?_
                refine lv_iand hx hb dX4_narrow_108 ?_
                refine lv_topi (fun y ey => ?_)
                obtain rfl : y = nI rr := ey.trans err
                refine xk_callR (va_runS (As := [.int (nI ak), .int (nI (ak + nk)), .int (nI ak), .int (nI rr)]) (rest := [.int r, .ref (ad 2)]) ⟨hx, hb, hml, hown, hts⟩ (k_ofPointer l D cI cJ cS ak (ak + nk) (nI ak) rr (by omega) (by omega) hrr) (va_cwS 4 hts gX4_narrow_X3_ofPointer rfl rfl rfl (by decide +kernel) ⟨Nat.le_of_ble_eq_true rfl, Nat.le_of_ble_eq_true rfl⟩) (xk_preSr hK hN hP [] rfl) rfl rfl hl.1 rfl (lv_room (Nat.le_of_ble_eq_true rfl)) dX4_narrow_109 ⟨Nat.zero_le _, Nat.zero_le _⟩) ?_
                refine xa_lastW (w := ((nI ak), some (ak, (ak + nk), rr))) (ws' := [(h0, .inr (3, [.ref (ad 0), .ref hh, .ref ca])), (ca, .inl (cJ, 64, .inr (.inl cr))), (hh, .inr (1, [.ref ka, .int (nI (x_nx nx)), .int (nI (x_sz sz))])), (ka, .inl (cS, 24, .inr (.inr (.inr (.inr fk)))))] ++ (xst cI cJ ad (v.1, (va_up v.2.1 rk ((nI ak), some (ak, (ak + nk), rr))), v.2.2.1, v.2.2.2.1, v.2.2.2.2.1, v.2.2.2.2.2.1, v.2.2.2.2.2.2.1, v.2.2.2.2.2.2.2.1, v.2.2.2.2.2.2.2.2.1, v.2.2.2.2.2.2.2.2.2) ++ xpl cI cJ ads (va_up vs nx v) N4)) hx hb hK hP hD hS 6 1 rfl rfl rk er hrk (by decide) dX4_narrow_112 rfl (fun H locs hP hD hS => ?_)
                refine lv_iload hx hb dX4_narrow_113 (lv_at hl 0 rfl) ?_
                have e9 : sp_narrow v r q n k = (nI ak, some (x_reg v rk (nI ak, some (ak, ak + nk, rr)))) := (by unfold sp_narrow; rw [if_pos ⟨xb_ne c_4, xb_ne c_11, c_16, c_21, c_27⟩, hxq, if_pos (xb_ne c_48), if_pos (xb_ne c_61), hxk, hxn, hxr, hxa, ea])
                exact xk_iretW hx hb hr hlk hP hS (by rw [e9]) (by rw [← hW1, e9]; rfl) dX4_narrow_115
              · skip
                refine lv_bipush (v := (-13)) hx hb dX4_narrow_64 (by decide) ?_
                have e9 : sp_narrow v r q n k = (-13, none) := (by unfold sp_narrow; rw [if_pos ⟨xb_ne c_4, xb_ne c_11, c_16, c_21, c_27⟩, hxq, if_pos (xb_ne c_48), if_neg (x_bt c_61)])
                exact xk_iretW hx hb hr hlk hP hS (by rw [e9]) (by rw [← hW1, e9]; rfl) dX4_narrow_66
            · skip
              refine lv_bipush (v := (-11)) hx hb dX4_narrow_51 (by decide) ?_
              have e9 : sp_narrow v r q n k = (-11, none) := (by unfold sp_narrow; rw [if_pos ⟨xb_ne c_4, xb_ne c_11, c_16, c_21, c_27⟩, hxq, if_neg (x_bt c_48)])
              exact xk_iretW hx hb hr hlk hP hS (by rw [e9]) (by rw [← hW1, e9]; rfl) dX4_narrow_53
          · skip
            refine lv_iconst (v := (-1)) hx hb dX4_narrow_30 (by decide) ?_
            have e9 : sp_narrow v r q n k = (-1, none) := if_neg (fun z => c_27 z.2.2.2.2)
            exact xk_iretW hx hb hr hlk hP hS (by rw [e9]) (by rw [← hW1, e9]; rfl) dX4_narrow_31
