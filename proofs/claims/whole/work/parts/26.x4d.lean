set_option maxHeartbeats 4000000 in
set_option maxRecDepth 100000 in
theorem x_look (l : Launch) (D : va_G) (cI cJ cS : ClassId) (h0 ca hh ka : Nat) (fk : Nat → Option Nat) (ad : Nat → Nat) (ads : Nat → Nat → Nat) (N4 : Nat) (h4 : N4 = 24) (cr : Nat → Int64) (v : xV) (vs : Nat → xV) (nx sz : Nat) (hka : ∀ i, i < 24 → fk i = some (ads i 0)) (hnx : nx < 24) (hsz : sz ≤ 24) (hv : x_ok v) (r q d : Int32) : xk_Wr l yX4_look wsX4_look ({ frames := 4, cells := 0, slots := 0, locals := 123 }) D vwCl (xt cI cJ cS) (xx cI cJ cS h0 ca hh ka fk ad ads N4 cr v vs nx sz) [.ref h0, .int r, .int q, .int d] (xxo cI cJ cS h0 ca hh ka fk ad ads N4 cr v vs nx sz (sp_look v r q d).2) (some (.int (sp_look v r q d).1)) := by
  refine xk_wr2 (cc := cX4_look) (maxL := 9) (ret := (some .int)) (by decide) rfl (Nat.le_of_ble_eq_true rfl) (fun p e s m below meth c ls W0v W1v hW1 hx hb hr hlk hml hown hts hl hP hK hN hD hS => ?_)
  replace hl : lv_has ls 9 [(0, .ref h0), (1, .int r), (2, .int q), (3, .int d)] := hl
  have hiX2 : ∀ w ∈ u_ws RX2 TX2 10, w ∈ wsX4_look := by decide +kernel
  have hiX4 : ∀ w ∈ u_ws RX4 TX4 3, w ∈ wsX4_look := by decide +kernel
  replace hP : va_P D vwCl ([(h0, .inr (3, [.ref (ad 0), .ref hh, .ref ca])), (ca, .inl (cJ, 64, .inr (.inl cr))), (hh, .inr (1, [.ref ka, .int (nI nx), .int (nI sz)])), (ka, .inl (cS, 24, .inr (.inr (.inr (.inr fk)))))] ++ (xst cI cJ ad v ++ xpl cI cJ ads vs N4)) s.heap := hP
  replace hD : va_D _ ([(h0, .inr (3, [.ref (ad 0), .ref hh, .ref ca])), (ca, .inl (cJ, 64, .inr (.inl cr))), (hh, .inr (1, [.ref ka, .int (nI nx), .int (nI sz)])), (ka, .inl (cS, 24, .inr (.inr (.inr (.inr fk)))))] ++ (xst cI cJ ad v ++ xpl cI cJ ads vs N4)) := hD
  refine lv_iload_n hx hb dX4_look_0 rfl (lv_at hl 1 rfl) ?_
  refine xk_callR (va_runS (As := [.int r]) (rest := []) ⟨hx, hb, hml, hown, hts⟩ (k_isRegister l D cI cJ cS r) (va_cwS 1 hts gX4_look_X4_isRegister rfl rfl rfl (by decide +kernel) ⟨Nat.le_of_ble_eq_true rfl, Nat.le_of_ble_eq_true rfl⟩) (xk_preSr hK hN hP [] rfl) rfl rfl hl.1 rfl (lv_room (Nat.le_of_ble_eq_true rfl)) dX4_look_1 ⟨Nat.zero_le _, Nat.zero_le _⟩) ?_
  refine lv_if_eq (tgt := 14) hx hb dX4_look_4 (by decide) (fun c_4 => ?_) (fun c_4 => ?_)
  · skip
    refine lv_iconst (v := (-1)) hx hb dX4_look_14 (by decide) ?_
    have e9 : sp_look v r q d = (-1, none) := if_neg (fun z => x_bt c_4 z.1)
    exact xk_iretW hx hb hr hlk hP hS (by rw [e9]) (by rw [← hW1, e9]; rfl) dX4_look_15
  · skip
    refine lv_iload_n hx hb dX4_look_7 rfl (lv_at hl 2 rfl) ?_
    refine xk_callR (va_runS (As := [.int q]) (rest := []) ⟨hx, hb, hml, hown, hts⟩ (k_isRegister l D cI cJ cS q) (va_cwS 1 hts gX4_look_X4_isRegister rfl rfl rfl (by decide +kernel) ⟨Nat.le_of_ble_eq_true rfl, Nat.le_of_ble_eq_true rfl⟩) (xk_preSr hK hN hP [] rfl) rfl rfl hl.1 rfl (lv_room (Nat.le_of_ble_eq_true rfl)) dX4_look_8 ⟨Nat.zero_le _, Nat.zero_le _⟩) ?_
    refine lv_if_ne (tgt := 16) hx hb dX4_look_11 (by decide) (fun c_11 => ?_) (fun c_11 => ?_)
    · skip
      obtain ⟨rk, hrk, er⟩ := xi_of (xb_ne c_4)
      have hxr : xN r = rk := by rw [er]; exact xN_nI (by omega)
      obtain ⟨qk, hqk, eq⟩ := xi_of (xb_ne c_11)
      have hxq : xN q = qk := by rw [eq]; exact xN_nI (by omega)
      refine lv_aload_n hx hb dX4_look_16 rfl (lv_at hl 0 rfl) ?_
      refine va_get (D := D) (ci := 3) (v := .ref (ad 0)) (C := RX4) (T := TX4) (N := 3) hx hb hts hiX4 hown hK hP 0 rfl rfl 0 (by decide) (hts (.fieldLink RX4 12 "PointerSweep" "now" "LPointerSweep$State;") (by decide +kernel)) (fun _ h9 => h9) rfl dX4_look_17 ?_
      refine va_get (D := D) (ci := 2) (v := .ref (ad 2)) (C := RX2) (T := TX2) (N := 10) hx hb hts hiX2 hown hK hP 4 rfl rfl 1 (by decide) (hts (.fieldLink RX4 43 "PointerSweep$State" "registers" "[J") (by decide +kernel)) (fun _ h9 => h9) rfl dX4_look_20 ?_
      refine lv_iload_n hx hb dX4_look_23 rfl (lv_at hl 2 rfl) ?_
      refine xa_lald hx hb hK hP 6 1 rfl rfl qk eq hqk (by decide) dX4_look_24 ?_
      refine lv_lstore (lv' := [(4, .long (xw_enc (v.2.1 qk))), (0, .ref h0), (1, .int r), (2, .int q), (3, .int d)]) hx hb dX4_look_25 hl (by decide) rfl (fun ls hl => ?_)
      refine lv_lload hx hb dX4_look_27 (lv_at hl 0 rfl) ?_
      refine lv_iconst (v := 1) hx hb dX4_look_29 (by decide) ?_
      refine lv_iload_n hx hb dX4_look_30 rfl (lv_at hl 4 rfl) ?_
      refine lv_iconst (v := 1) hx hb dX4_look_31 (by decide) ?_
      refine xk_callR (va_runS (As := [.long (xw_enc (v.2.1 qk)), .int 1, .int d, .int 1]) (rest := []) ⟨hx, hb, hml, hown, hts⟩ (k_faultOf l D cI cJ cS (v.2.1 qk) ((x_ok_r hv) qk) 1 d 1) (va_cwS 4 hts gX4_look_X4_faultOf rfl rfl rfl (by decide +kernel) ⟨Nat.le_of_ble_eq_true rfl, Nat.le_of_ble_eq_true rfl⟩) (xk_preSr hK hN hP [] rfl) rfl rfl hl.1 rfl (lv_room (Nat.le_of_ble_eq_true rfl)) dX4_look_32 ⟨Nat.zero_le _, Nat.zero_le _⟩) ?_
      refine lv_istore (lv' := [(6, .int (x_fault (v.2.1 qk) 1 d 1)), (4, .long (xw_enc (v.2.1 qk))), (0, .ref h0), (1, .int r), (2, .int q), (3, .int d)]) hx hb dX4_look_35 hl (by decide) rfl (fun ls hl => ?_)
      refine lv_iload hx hb dX4_look_37 (lv_at hl 0 rfl) ?_
      refine lv_if_eq (tgt := 45) hx hb dX4_look_39 (by decide) (fun c_39 => ?_) (fun c_39 => ?_)
      · skip
        obtain ⟨ck, ec, hck1, hxc⟩ := x_fault0 (nk := 1) (hv.2.1 qk) c_39 rfl (by decide)
        have hck : ck < 256 := by omega
        refine lv_aload_n hx hb dX4_look_45 rfl (lv_at hl 2 rfl) ?_
        refine va_get (D := D) (ci := 3) (v := .ref hh) (C := RX4) (T := TX4) (N := 3) hx hb hts hiX4 hown hK hP 0 rfl rfl 1 (by decide) (hts (.fieldLink RX4 19 "PointerSweep" "history" "LPointerSweep$History;") (by decide +kernel)) (fun _ h9 => h9) rfl dX4_look_46 ?_
        refine lv_aload_n hx hb dX4_look_49 rfl (lv_at hl 2 rfl) ?_
        refine va_get (D := D) (ci := 3) (v := .ref (ad 0)) (C := RX4) (T := TX4) (N := 3) hx hb hts hiX4 hown hK hP 0 rfl rfl 0 (by decide) (hts (.fieldLink RX4 12 "PointerSweep" "now" "LPointerSweep$State;") (by decide +kernel)) (fun _ h9 => h9) rfl dX4_look_50 ?_
        refine xk_callS (X := [(h0, .inr (3, [.ref (ad 0), .ref hh, .ref ca])), (ca, .inl (cJ, 64, .inr (.inl cr)))]) (va_runV (As := [.ref (ad 0)]) (rest := []) ⟨hx, hb, hml, hown, hts⟩ (k_keep l D cI cJ cS hh ka fk ad ads v vs nx sz hka hnx hsz N4 h4) (cwV 1 hts gX4_look_X1_keep rfl rfl rfl (by decide +kernel) ⟨Nat.le_of_ble_eq_true rfl, Nat.le_of_ble_eq_true rfl⟩) (xk_preVs (X := [(h0, .inr (3, [.ref (ad 0), .ref hh, .ref ca])), (ca, .inl (cJ, 64, .inr (.inl cr)))]) hK hN hP hD (ci := 1) rfl 0 rfl) rfl rfl hl.1 rfl (lv_room (Nat.le_of_ble_eq_true rfl)) dX4_look_53 ⟨Nat.zero_le _, Nat.zero_le _⟩) hP hD hS (xh_fst _ _ _ _ _ _ _ _ _ _ _ _ _ _ _ _ _) (fun H locs hP hD hS => ?_)
        replace hP : va_P D vwCl ([(h0, .inr (3, [.ref (ad 0), .ref hh, .ref ca])), (ca, .inl (cJ, 64, .inr (.inl cr))), (hh, .inr (1, [.ref ka, .int (nI (x_nx nx)), .int (nI (x_sz sz))])), (ka, .inl (cS, 24, .inr (.inr (.inr (.inr fk)))))] ++ (xst cI cJ ad v ++ xpl cI cJ ads (va_up vs nx v) N4)) H := hP
        replace hD : va_D _ ([(h0, .inr (3, [.ref (ad 0), .ref hh, .ref ca])), (ca, .inl (cJ, 64, .inr (.inl cr))), (hh, .inr (1, [.ref ka, .int (nI (x_nx nx)), .int (nI (x_sz sz))])), (ka, .inl (cS, 24, .inr (.inr (.inr (.inr fk)))))] ++ (xst cI cJ ad v ++ xpl cI cJ ads (va_up vs nx v) N4)) := hD
        refine lv_aload_n hx hb dX4_look_56 rfl (lv_at hl 2 rfl) ?_
        refine va_get (D := D) (ci := 3) (v := .ref (ad 0)) (C := RX4) (T := TX4) (N := 3) hx hb hts hiX4 hown hK hP 0 rfl rfl 0 (by decide) (hts (.fieldLink RX4 12 "PointerSweep" "now" "LPointerSweep$State;") (by decide +kernel)) (fun _ h9 => h9) rfl dX4_look_57 ?_
        refine lv_lload hx hb dX4_look_60 (lv_at hl 1 rfl) ?_
        refine xk_callR (va_runS (As := [.long (xw_enc (v.2.1 qk))]) (rest := [.ref (ad 0)]) ⟨hx, hb, hml, hown, hts⟩ (k_at l D cI cJ cS (v.2.1 qk) ((x_ok_r hv) qk) ) (va_cwS 1 hts gX4_look_X3_at rfl rfl rfl (by decide +kernel) ⟨Nat.le_of_ble_eq_true rfl, Nat.le_of_ble_eq_true rfl⟩) (xk_preSr hK hN hP [] rfl) rfl rfl hl.1 rfl (lv_room (Nat.le_of_ble_eq_true rfl)) dX4_look_62 ⟨Nat.zero_le _, Nat.zero_le _⟩) ?_
        refine lv_iload_n hx hb dX4_look_65 rfl (lv_at hl 5 rfl) ?_
        refine lv_iadd hx hb dX4_look_66 ?_
        refine lv_topi (fun y ey => ?_)
        obtain rfl : y = nI ck := ey.trans ec
        refine xk_callM (va_runV (As := [.int (nI ck)]) (rest := []) ⟨hx, hb, hml, hown, hts⟩ (k_lookUpF l D cI cJ cS ad v (x_ok_m hv) ck hck) (cwV 1 hts gX4_look_X2_lookUp rfl rfl rfl (by decide +kernel) ⟨Nat.le_of_ble_eq_true rfl, Nat.le_of_ble_eq_true rfl⟩) (xk_preVm hK hN hP hD (ci := 2) rfl 0 rfl) rfl rfl hl.1 rfl (lv_room (Nat.le_of_ble_eq_true rfl)) dX4_look_67 ⟨Nat.zero_le _, Nat.zero_le _⟩) hP hD hS rfl (fun H locs hP hD hS => ?_)
        replace hP : va_P D vwCl ([(h0, .inr (3, [.ref (ad 0), .ref hh, .ref ca])), (ca, .inl (cJ, 64, .inr (.inl cr))), (hh, .inr (1, [.ref ka, .int (nI (x_nx nx)), .int (nI (x_sz sz))])), (ka, .inl (cS, 24, .inr (.inr (.inr (.inr fk)))))] ++ (xst cI cJ ad (v.1, v.2.1, (x_tk v.2.2.2.2.2.1 (v.1 ck) v.2.2.1), v.2.2.2.1, v.2.2.2.2.1, v.2.2.2.2.2.1, v.2.2.2.2.2.2.1, v.2.2.2.2.2.2.2.1, v.2.2.2.2.2.2.2.2.1, v.2.2.2.2.2.2.2.2.2) ++ xpl cI cJ ads (va_up vs nx v) N4)) H := hP
        replace hD : va_D _ ([(h0, .inr (3, [.ref (ad 0), .ref hh, .ref ca])), (ca, .inl (cJ, 64, .inr (.inl cr))), (hh, .inr (1, [.ref ka, .int (nI (x_nx nx)), .int (nI (x_sz sz))])), (ka, .inl (cS, 24, .inr (.inr (.inr (.inr fk)))))] ++ (xst cI cJ ad (v.1, v.2.1, (x_tk v.2.2.2.2.2.1 (v.1 ck) v.2.2.1), v.2.2.2.1, v.2.2.2.2.1, v.2.2.2.2.2.1, v.2.2.2.2.2.2.1, v.2.2.2.2.2.2.2.1, v.2.2.2.2.2.2.2.2.1, v.2.2.2.2.2.2.2.2.2) ++ xpl cI cJ ads (va_up vs nx v) N4)) := hD
        refine lv_lstore (lv' := [(7, .long (xw_enc (x_lk v.2.2.2.2.2.1 (v.1 ck)))), (6, .int (x_fault (v.2.1 qk) 1 d 1)), (4, .long (xw_enc (v.2.1 qk))), (0, .ref h0), (1, .int r), (2, .int q), (3, .int d)]) hx hb dX4_look_70 hl (by decide) rfl (fun ls hl => ?_)
        refine lv_aload_n hx hb dX4_look_72 rfl (lv_at hl 3 rfl) ?_
        refine va_get (D := D) (ci := 3) (v := .ref (ad 0)) (C := RX4) (T := TX4) (N := 3) hx hb hts hiX4 hown hK hP 0 rfl rfl 0 (by decide) (hts (.fieldLink RX4 12 "PointerSweep" "now" "LPointerSweep$State;") (by decide +kernel)) (fun _ h9 => h9) rfl dX4_look_73 ?_
        refine va_get (D := D) (ci := 2) (v := .ref (ad 2)) (C := RX2) (T := TX2) (N := 10) hx hb hts hiX2 hown hK hP 4 rfl rfl 1 (by decide) (hts (.fieldLink RX4 43 "PointerSweep$State" "registers" "[J") (by decide +kernel)) (fun _ h9 => h9) rfl dX4_look_76 ?_
        refine lv_iload_n hx hb dX4_look_79 rfl (lv_at hl 4 rfl) ?_
        refine lv_lload hx hb dX4_look_80 (lv_at hl 0 rfl) ?_
        refine xa_lastW (w := (x_lk v.2.2.2.2.2.1 (v.1 ck))) (ws' := [(h0, .inr (3, [.ref (ad 0), .ref hh, .ref ca])), (ca, .inl (cJ, 64, .inr (.inl cr))), (hh, .inr (1, [.ref ka, .int (nI (x_nx nx)), .int (nI (x_sz sz))])), (ka, .inl (cS, 24, .inr (.inr (.inr (.inr fk)))))] ++ (xst cI cJ ad (v.1, (va_up v.2.1 rk (x_lk v.2.2.2.2.2.1 (v.1 ck))), (x_tk v.2.2.2.2.2.1 (v.1 ck) v.2.2.1), v.2.2.2.1, v.2.2.2.2.1, v.2.2.2.2.2.1, v.2.2.2.2.2.2.1, v.2.2.2.2.2.2.2.1, v.2.2.2.2.2.2.2.2.1, v.2.2.2.2.2.2.2.2.2) ++ xpl cI cJ ads (va_up vs nx v) N4)) hx hb hK hP hD hS 6 1 rfl rfl rk er hrk (by decide) dX4_look_82 rfl (fun H locs hP hD hS => ?_)
        refine lv_lload hx hb dX4_look_83 (lv_at hl 0 rfl) ?_
        refine xk_callR (va_runS (As := [.long (xw_enc (x_lk v.2.2.2.2.2.1 (v.1 ck)))]) (rest := []) ⟨hx, hb, hml, hown, hts⟩ (k_isPointer l D cI cJ cS (x_lk v.2.2.2.2.2.1 (v.1 ck)) (x_lk_ok (x_ok_m hv ck)) ) (va_cwS 1 hts gX4_look_X3_isPointer rfl rfl rfl (by decide +kernel) ⟨Nat.le_of_ble_eq_true rfl, Nat.le_of_ble_eq_true rfl⟩) (xk_preSr hK hN hP [] rfl) rfl rfl hl.1 rfl (lv_room (Nat.le_of_ble_eq_true rfl)) dX4_look_85 ⟨Nat.zero_le _, Nat.zero_le _⟩) ?_
        refine xk_callR (va_runS (As := [.int (xb (xw_p (x_lk v.2.2.2.2.2.1 (v.1 ck))))]) (rest := []) ⟨hx, hb, hml, hown, hts⟩ (k_oneIf l D cI cJ cS (xw_p (x_lk v.2.2.2.2.2.1 (v.1 ck)))) (va_cwS 1 hts gX4_look_X4_oneIf rfl rfl rfl (by decide +kernel) ⟨Nat.le_of_ble_eq_true rfl, Nat.le_of_ble_eq_true rfl⟩) (xk_preSr hK hN hP [] rfl) rfl rfl hl.1 rfl (lv_room (Nat.le_of_ble_eq_true rfl)) dX4_look_88 ⟨Nat.zero_le _, Nat.zero_le _⟩) ?_
        have e9 : sp_look v r q d = (xb (xw_p (x_lk v.2.2.2.2.2.1 (v.1 ck))), some (x_lok v rk ck)) := (by unfold sp_look; rw [if_pos ⟨xb_ne c_4, xb_ne c_11⟩, hxq, if_pos c_39, hxr, hxc])
        exact xk_iretW hx hb hr hlk hP hS (by rw [e9]) (by rw [← hW1, e9]; rfl) dX4_look_91
      · skip
        refine lv_iload hx hb dX4_look_42 (lv_at hl 0 rfl) ?_
        have e9 : sp_look v r q d = (x_fault (v.2.1 qk) 1 d 1, none) := (by unfold sp_look; rw [if_pos ⟨xb_ne c_4, xb_ne c_11⟩, hxq, if_neg c_39])
        exact xk_iretW hx hb hr hlk hP hS (by rw [e9]) (by rw [← hW1, e9]; rfl) dX4_look_44
    · skip
      refine lv_iconst (v := (-1)) hx hb dX4_look_14 (by decide) ?_
      have e9 : sp_look v r q d = (-1, none) := if_neg (fun z => x_bt c_11 z.2)
      exact xk_iretW hx hb hr hlk hP hS (by rw [e9]) (by rw [← hW1, e9]; rfl) dX4_look_15
set_option maxHeartbeats 4000000 in
set_option maxRecDepth 100000 in
theorem x_layc (l : Launch) (D : va_G) (cI cJ cS : ClassId) (h0 ca hh ka : Nat) (fk : Nat → Option Nat) (ad : Nat → Nat) (ads : Nat → Nat → Nat) (N4 : Nat) (h4 : N4 = 24) (cr : Nat → Int64) (v : xV) (vs : Nat → xV) (nx sz : Nat) (hka : ∀ i, i < 24 → fk i = some (ads i 0)) (hnx : nx < 24) (hsz : sz ≤ 24) (hv : x_ok v) (q d r : Int32) : xk_Wr l yX4_lay wsX4_lay ({ frames := 4, cells := 0, slots := 0, locals := 123 }) D vwCl (xt cI cJ cS) (xx cI cJ cS h0 ca hh ka fk ad ads N4 cr v vs nx sz) [.ref h0, .int q, .int d, .int r] (xxo cI cJ cS h0 ca hh ka fk ad ads N4 cr v vs nx sz (sp_lay v q d r).2) (some (.int (sp_lay v q d r).1)) := by
  refine xk_wr2 (cc := cX4_lay) (maxL := 8) (ret := (some .int)) (by decide) rfl (Nat.le_of_ble_eq_true rfl) (fun p e s m below meth c ls W0v W1v hW1 hx hb hr hlk hml hown hts hl hP hK hN hD hS => ?_)
  replace hl : lv_has ls 8 [(0, .ref h0), (1, .int q), (2, .int d), (3, .int r)] := hl
  have hiX2 : ∀ w ∈ u_ws RX2 TX2 10, w ∈ wsX4_lay := by decide +kernel
  have hiX4 : ∀ w ∈ u_ws RX4 TX4 3, w ∈ wsX4_lay := by decide +kernel
  replace hP : va_P D vwCl ([(h0, .inr (3, [.ref (ad 0), .ref hh, .ref ca])), (ca, .inl (cJ, 64, .inr (.inl cr))), (hh, .inr (1, [.ref ka, .int (nI nx), .int (nI sz)])), (ka, .inl (cS, 24, .inr (.inr (.inr (.inr fk)))))] ++ (xst cI cJ ad v ++ xpl cI cJ ads vs N4)) s.heap := hP
  replace hD : va_D _ ([(h0, .inr (3, [.ref (ad 0), .ref hh, .ref ca])), (ca, .inl (cJ, 64, .inr (.inl cr))), (hh, .inr (1, [.ref ka, .int (nI nx), .int (nI sz)])), (ka, .inl (cS, 24, .inr (.inr (.inr (.inr fk)))))] ++ (xst cI cJ ad v ++ xpl cI cJ ads vs N4)) := hD
  refine lv_iload_n hx hb dX4_lay_0 rfl (lv_at hl 1 rfl) ?_
  refine xk_callR (va_runS (As := [.int q]) (rest := []) ⟨hx, hb, hml, hown, hts⟩ (k_isRegister l D cI cJ cS q) (va_cwS 1 hts gX4_lay_X4_isRegister rfl rfl rfl (by decide +kernel) ⟨Nat.le_of_ble_eq_true rfl, Nat.le_of_ble_eq_true rfl⟩) (xk_preSr hK hN hP [] rfl) rfl rfl hl.1 rfl (lv_room (Nat.le_of_ble_eq_true rfl)) dX4_lay_1 ⟨Nat.zero_le _, Nat.zero_le _⟩) ?_
  refine lv_if_eq (tgt := 14) hx hb dX4_lay_4 (by decide) (fun c_4 => ?_) (fun c_4 => ?_)
  · skip
    refine lv_iconst (v := (-1)) hx hb dX4_lay_14 (by decide) ?_
    have e9 : sp_lay v q d r = (-1, none) := if_neg (fun z => x_bt c_4 z.1)
    exact xk_iretW hx hb hr hlk hP hS (by rw [e9]) (by rw [← hW1, e9]; rfl) dX4_lay_15
  · skip
    refine lv_iload_n hx hb dX4_lay_7 rfl (lv_at hl 3 rfl) ?_
    refine xk_callR (va_runS (As := [.int r]) (rest := []) ⟨hx, hb, hml, hown, hts⟩ (k_isRegister l D cI cJ cS r) (va_cwS 1 hts gX4_lay_X4_isRegister rfl rfl rfl (by decide +kernel) ⟨Nat.le_of_ble_eq_true rfl, Nat.le_of_ble_eq_true rfl⟩) (xk_preSr hK hN hP [] rfl) rfl rfl hl.1 rfl (lv_room (Nat.le_of_ble_eq_true rfl)) dX4_lay_8 ⟨Nat.zero_le _, Nat.zero_le _⟩) ?_
    refine lv_if_ne (tgt := 16) hx hb dX4_lay_11 (by decide) (fun c_11 => ?_) (fun c_11 => ?_)
    · skip
      obtain ⟨qk, hqk, eq⟩ := xi_of (xb_ne c_4)
      have hxq : xN q = qk := by rw [eq]; exact xN_nI (by omega)
      obtain ⟨rk, hrk, er⟩ := xi_of (xb_ne c_11)
      have hxr : xN r = rk := by rw [er]; exact xN_nI (by omega)
      refine lv_aload_n hx hb dX4_lay_16 rfl (lv_at hl 0 rfl) ?_
      refine va_get (D := D) (ci := 3) (v := .ref (ad 0)) (C := RX4) (T := TX4) (N := 3) hx hb hts hiX4 hown hK hP 0 rfl rfl 0 (by decide) (hts (.fieldLink RX4 12 "PointerSweep" "now" "LPointerSweep$State;") (by decide +kernel)) (fun _ h9 => h9) rfl dX4_lay_17 ?_
      refine va_get (D := D) (ci := 2) (v := .ref (ad 2)) (C := RX2) (T := TX2) (N := 10) hx hb hts hiX2 hown hK hP 4 rfl rfl 1 (by decide) (hts (.fieldLink RX4 43 "PointerSweep$State" "registers" "[J") (by decide +kernel)) (fun _ h9 => h9) rfl dX4_lay_20 ?_
      refine lv_iload_n hx hb dX4_lay_23 rfl (lv_at hl 1 rfl) ?_
      refine xa_lald hx hb hK hP 6 1 rfl rfl qk eq hqk (by decide) dX4_lay_24 ?_
      refine lv_lstore (lv' := [(4, .long (xw_enc (v.2.1 qk))), (0, .ref h0), (1, .int q), (2, .int d), (3, .int r)]) hx hb dX4_lay_25 hl (by decide) rfl (fun ls hl => ?_)
      refine lv_lload hx hb dX4_lay_27 (lv_at hl 0 rfl) ?_
      refine lv_iconst (v := 2) hx hb dX4_lay_29 (by decide) ?_
      refine lv_iload_n hx hb dX4_lay_30 rfl (lv_at hl 3 rfl) ?_
      refine lv_iconst (v := 1) hx hb dX4_lay_31 (by decide) ?_
      refine xk_callR (va_runS (As := [.long (xw_enc (v.2.1 qk)), .int 2, .int d, .int 1]) (rest := []) ⟨hx, hb, hml, hown, hts⟩ (k_faultOf l D cI cJ cS (v.2.1 qk) ((x_ok_r hv) qk) 2 d 1) (va_cwS 4 hts gX4_lay_X4_faultOf rfl rfl rfl (by decide +kernel) ⟨Nat.le_of_ble_eq_true rfl, Nat.le_of_ble_eq_true rfl⟩) (xk_preSr hK hN hP [] rfl) rfl rfl hl.1 rfl (lv_room (Nat.le_of_ble_eq_true rfl)) dX4_lay_32 ⟨Nat.zero_le _, Nat.zero_le _⟩) ?_
      refine lv_istore (lv' := [(6, .int (x_fault (v.2.1 qk) 2 d 1)), (4, .long (xw_enc (v.2.1 qk))), (0, .ref h0), (1, .int q), (2, .int d), (3, .int r)]) hx hb dX4_lay_35 hl (by decide) rfl (fun ls hl => ?_)
      refine lv_iload hx hb dX4_lay_37 (lv_at hl 0 rfl) ?_
      refine lv_if_eq (tgt := 45) hx hb dX4_lay_39 (by decide) (fun c_39 => ?_) (fun c_39 => ?_)
      · skip
        obtain ⟨ck, ec, hck1, hxc⟩ := x_fault0 (nk := 1) (hv.2.1 qk) c_39 rfl (by decide)
        have hck : ck < 256 := by omega
        refine lv_aload_n hx hb dX4_lay_45 rfl (lv_at hl 2 rfl) ?_
        refine va_get (D := D) (ci := 3) (v := .ref hh) (C := RX4) (T := TX4) (N := 3) hx hb hts hiX4 hown hK hP 0 rfl rfl 1 (by decide) (hts (.fieldLink RX4 19 "PointerSweep" "history" "LPointerSweep$History;") (by decide +kernel)) (fun _ h9 => h9) rfl dX4_lay_46 ?_
        refine lv_aload_n hx hb dX4_lay_49 rfl (lv_at hl 2 rfl) ?_
        refine va_get (D := D) (ci := 3) (v := .ref (ad 0)) (C := RX4) (T := TX4) (N := 3) hx hb hts hiX4 hown hK hP 0 rfl rfl 0 (by decide) (hts (.fieldLink RX4 12 "PointerSweep" "now" "LPointerSweep$State;") (by decide +kernel)) (fun _ h9 => h9) rfl dX4_lay_50 ?_
        refine xk_callS (X := [(h0, .inr (3, [.ref (ad 0), .ref hh, .ref ca])), (ca, .inl (cJ, 64, .inr (.inl cr)))]) (va_runV (As := [.ref (ad 0)]) (rest := []) ⟨hx, hb, hml, hown, hts⟩ (k_keep l D cI cJ cS hh ka fk ad ads v vs nx sz hka hnx hsz N4 h4) (cwV 1 hts gX4_lay_X1_keep rfl rfl rfl (by decide +kernel) ⟨Nat.le_of_ble_eq_true rfl, Nat.le_of_ble_eq_true rfl⟩) (xk_preVs (X := [(h0, .inr (3, [.ref (ad 0), .ref hh, .ref ca])), (ca, .inl (cJ, 64, .inr (.inl cr)))]) hK hN hP hD (ci := 1) rfl 0 rfl) rfl rfl hl.1 rfl (lv_room (Nat.le_of_ble_eq_true rfl)) dX4_lay_53 ⟨Nat.zero_le _, Nat.zero_le _⟩) hP hD hS (xh_fst _ _ _ _ _ _ _ _ _ _ _ _ _ _ _ _ _) (fun H locs hP hD hS => ?_)
        replace hP : va_P D vwCl ([(h0, .inr (3, [.ref (ad 0), .ref hh, .ref ca])), (ca, .inl (cJ, 64, .inr (.inl cr))), (hh, .inr (1, [.ref ka, .int (nI (x_nx nx)), .int (nI (x_sz sz))])), (ka, .inl (cS, 24, .inr (.inr (.inr (.inr fk)))))] ++ (xst cI cJ ad v ++ xpl cI cJ ads (va_up vs nx v) N4)) H := hP
        replace hD : va_D _ ([(h0, .inr (3, [.ref (ad 0), .ref hh, .ref ca])), (ca, .inl (cJ, 64, .inr (.inl cr))), (hh, .inr (1, [.ref ka, .int (nI (x_nx nx)), .int (nI (x_sz sz))])), (ka, .inl (cS, 24, .inr (.inr (.inr (.inr fk)))))] ++ (xst cI cJ ad v ++ xpl cI cJ ads (va_up vs nx v) N4)) := hD
        refine lv_lload hx hb dX4_lay_56 (lv_at hl 1 rfl) ?_
        refine xk_callR (va_runS (As := [.long (xw_enc (v.2.1 qk))]) (rest := []) ⟨hx, hb, hml, hown, hts⟩ (k_at l D cI cJ cS (v.2.1 qk) ((x_ok_r hv) qk) ) (va_cwS 1 hts gX4_lay_X3_at rfl rfl rfl (by decide +kernel) ⟨Nat.le_of_ble_eq_true rfl, Nat.le_of_ble_eq_true rfl⟩) (xk_preSr hK hN hP [] rfl) rfl rfl hl.1 rfl (lv_room (Nat.le_of_ble_eq_true rfl)) dX4_lay_58 ⟨Nat.zero_le _, Nat.zero_le _⟩) ?_
        refine lv_iload_n hx hb dX4_lay_61 rfl (lv_at hl 4 rfl) ?_
        refine lv_iadd hx hb dX4_lay_62 ?_
        refine lv_topi (fun y ey => ?_)
        obtain rfl : y = nI ck := ey.trans ec
        refine lv_istore (lv' := [(7, .int (nI ck)), (6, .int (x_fault (v.2.1 qk) 2 d 1)), (4, .long (xw_enc (v.2.1 qk))), (0, .ref h0), (1, .int q), (2, .int d), (3, .int r)]) hx hb dX4_lay_63 hl (by decide) rfl (fun ls hl => ?_)
        refine lv_aload_n hx hb dX4_lay_65 rfl (lv_at hl 3 rfl) ?_
        refine va_get (D := D) (ci := 3) (v := .ref (ad 0)) (C := RX4) (T := TX4) (N := 3) hx hb hts hiX4 hown hK hP 0 rfl rfl 0 (by decide) (hts (.fieldLink RX4 12 "PointerSweep" "now" "LPointerSweep$State;") (by decide +kernel)) (fun _ h9 => h9) rfl dX4_lay_66 ?_
        refine lv_iload hx hb dX4_lay_69 (lv_at hl 0 rfl) ?_
        refine lv_aload_n hx hb dX4_lay_71 rfl (lv_at hl 3 rfl) ?_
        refine va_get (D := D) (ci := 3) (v := .ref (ad 0)) (C := RX4) (T := TX4) (N := 3) hx hb hts hiX4 hown hK hP 0 rfl rfl 0 (by decide) (hts (.fieldLink RX4 12 "PointerSweep" "now" "LPointerSweep$State;") (by decide +kernel)) (fun _ h9 => h9) rfl dX4_lay_72 ?_
        refine va_get (D := D) (ci := 2) (v := .ref (ad 2)) (C := RX2) (T := TX2) (N := 10) hx hb hts hiX2 hown hK hP 4 rfl rfl 1 (by decide) (hts (.fieldLink RX4 43 "PointerSweep$State" "registers" "[J") (by decide +kernel)) (fun _ h9 => h9) rfl dX4_lay_75 ?_
        refine lv_iload_n hx hb dX4_lay_78 rfl (lv_at hl 6 rfl) ?_
        refine xa_lald hx hb hK hP 6 1 rfl rfl rk er hrk (by decide) dX4_lay_79 ?_
        refine xk_callM (va_runV (As := [.int (nI ck), .long (xw_enc (v.2.1 rk))]) (rest := []) ⟨hx, hb, hml, hown, hts⟩ (k_layDownF l D cI cJ cS ad v hv.2.2 ck hck (v.2.1 rk) ((x_ok_r hv) rk)) (cwV 2 hts gX4_lay_X2_layDown rfl rfl rfl (by decide +kernel) ⟨Nat.le_of_ble_eq_true rfl, Nat.le_of_ble_eq_true rfl⟩) (xk_preVm hK hN hP hD (ci := 2) rfl 0 rfl) rfl rfl hl.1 rfl (lv_room (Nat.le_of_ble_eq_true rfl)) dX4_lay_80 ⟨Nat.zero_le _, Nat.zero_le _⟩) hP hD hS rfl (fun H locs hP hD hS => ?_)
        replace hP : va_P D vwCl ([(h0, .inr (3, [.ref (ad 0), .ref hh, .ref ca])), (ca, .inl (cJ, 64, .inr (.inl cr))), (hh, .inr (1, [.ref ka, .int (nI (x_nx nx)), .int (nI (x_sz sz))])), (ka, .inl (cS, 24, .inr (.inr (.inr (.inr fk)))))] ++ (xst cI cJ ad ((va_up v.1 ck (v.2.1 rk)), v.2.1, v.2.2.1, v.2.2.2.1, v.2.2.2.2.1, v.2.2.2.2.2.1, v.2.2.2.2.2.2.1, v.2.2.2.2.2.2.2.1, v.2.2.2.2.2.2.2.2.1, (x_dk v.2.2.2.2.2.2.2.2.1 (v.2.1 rk) ck v.2.2.2.2.2.2.2.2.2)) ++ xpl cI cJ ads (va_up vs nx v) N4)) H := hP
        replace hD : va_D _ ([(h0, .inr (3, [.ref (ad 0), .ref hh, .ref ca])), (ca, .inl (cJ, 64, .inr (.inl cr))), (hh, .inr (1, [.ref ka, .int (nI (x_nx nx)), .int (nI (x_sz sz))])), (ka, .inl (cS, 24, .inr (.inr (.inr (.inr fk)))))] ++ (xst cI cJ ad ((va_up v.1 ck (v.2.1 rk)), v.2.1, v.2.2.1, v.2.2.2.1, v.2.2.2.2.1, v.2.2.2.2.2.1, v.2.2.2.2.2.2.1, v.2.2.2.2.2.2.2.1, v.2.2.2.2.2.2.2.2.1, (x_dk v.2.2.2.2.2.2.2.2.1 (v.2.1 rk) ck v.2.2.2.2.2.2.2.2.2)) ++ xpl cI cJ ads (va_up vs nx v) N4)) := hD
        refine lv_iload hx hb dX4_lay_83 (lv_at hl 0 rfl) ?_
        have e9 : sp_lay v q d r = (nI ck, some (x_lay v ck (v.2.1 rk))) := (by unfold sp_lay; rw [if_pos ⟨xb_ne c_4, xb_ne c_11⟩, hxq, if_pos c_39, hxc, ec, hxr])
        exact xk_iretW hx hb hr hlk hP hS (by rw [e9]) (by rw [← hW1, e9]; rfl) dX4_lay_85
      · skip
        refine lv_iload hx hb dX4_lay_42 (lv_at hl 0 rfl) ?_
        have e9 : sp_lay v q d r = (x_fault (v.2.1 qk) 2 d 1, none) := (by unfold sp_lay; rw [if_pos ⟨xb_ne c_4, xb_ne c_11⟩, hxq, if_neg c_39])
        exact xk_iretW hx hb hr hlk hP hS (by rw [e9]) (by rw [← hW1, e9]; rfl) dX4_lay_44
    · skip
      refine lv_iconst (v := (-1)) hx hb dX4_lay_14 (by decide) ?_
      have e9 : sp_lay v q d r = (-1, none) := if_neg (fun z => x_bt c_11 z.2)
      exact xk_iretW hx hb hr hlk hP hS (by rw [e9]) (by rw [← hW1, e9]; rfl) dX4_lay_15
