theorem xh_fst (cI cJ cS : ClassId) (hh ka : Nat) (fk : Nat → Option Nat) (ad : Nat → Nat) (ads : Nat → Nat → Nat) (N4 : Nat) (v v2 : xV) (vs vs2 : Nat → xV) (nx sz nx2 sz2 : Nat) : (([(hh, .inr (1, [.ref ka, .int (nI nx), .int (nI sz)])), (ka, .inl (cS, 24, .inr (.inr (.inr (.inr fk)))))] : va_W) ++ (xst cI cJ ad v ++ xpl cI cJ ads vs N4)).map (fun x => x.1) = (([(hh, .inr (1, [.ref ka, .int (nI nx2), .int (nI sz2)])), (ka, .inl (cS, 24, .inr (.inr (.inr (.inr fk)))))] : va_W) ++ (xst cI cJ ad v2 ++ xpl cI cJ ads vs2 N4)).map (fun x => x.1) := by
  rw [List.map_append, List.map_append, List.map_append, List.map_append, xpl_fst cI cJ ads vs vs2 N4, xst_fst cI cJ ad v v2]
  rfl
theorem x_bt {b : Bool} (h : xb b = 0) : ¬ b = true := by rw [xb_eq h]; decide
set_option maxHeartbeats 4000000 in
set_option maxRecDepth 100000 in
theorem x_number (l : Launch) (D : va_G) (cI cJ cS : ClassId) (h0 ca hh ka : Nat) (fk : Nat → Option Nat) (ad : Nat → Nat) (ads : Nat → Nat → Nat) (N4 : Nat) (h4 : N4 = 24) (cr : Nat → Int64) (v : xV) (vs : Nat → xV) (nx sz : Nat) (hka : ∀ i, i < 24 → fk i = some (ads i 0)) (hnx : nx < 24) (hsz : sz ≤ 24) (hv : x_ok v) (r x : Int32) : xk_Wr l yX4_number wsX4_number ({ frames := 4, cells := 0, slots := 0, locals := 123 }) D vwCl (xt cI cJ cS) (xx cI cJ cS h0 ca hh ka fk ad ads N4 cr v vs nx sz) [.ref h0, .int r, .int x] (xxo cI cJ cS h0 ca hh ka fk ad ads N4 cr v vs nx sz (sp_number v r x).2) (some (.int (sp_number v r x).1)) := by
  refine xk_wr2 (cc := cX4_number) (maxL := 3) (ret := (some .int)) (by decide) rfl (Nat.le_of_ble_eq_true rfl) (fun p e s m below meth c ls W0v W1v hW1 hx hb hr hlk hml hown hts hl hP hK hN hD hS => ?_)
  replace hl : lv_has ls 3 [(0, .ref h0), (1, .int r), (2, .int x)] := hl
  have hiX2 : ∀ w ∈ u_ws RX2 TX2 10, w ∈ wsX4_number := by decide +kernel
  have hiX4 : ∀ w ∈ u_ws RX4 TX4 3, w ∈ wsX4_number := by decide +kernel
  replace hP : va_P D vwCl ([(h0, .inr (3, [.ref (ad 0), .ref hh, .ref ca])), (ca, .inl (cJ, 64, .inr (.inl cr))), (hh, .inr (1, [.ref ka, .int (nI nx), .int (nI sz)])), (ka, .inl (cS, 24, .inr (.inr (.inr (.inr fk)))))] ++ (xst cI cJ ad v ++ xpl cI cJ ads vs N4)) s.heap := hP
  replace hD : va_D _ ([(h0, .inr (3, [.ref (ad 0), .ref hh, .ref ca])), (ca, .inl (cJ, 64, .inr (.inl cr))), (hh, .inr (1, [.ref ka, .int (nI nx), .int (nI sz)])), (ka, .inl (cS, 24, .inr (.inr (.inr (.inr fk)))))] ++ (xst cI cJ ad v ++ xpl cI cJ ads vs N4)) := hD
  refine lv_iload_n hx hb dX4_number_0 rfl (lv_at hl 1 rfl) ?_
  refine xk_callR (va_runS (As := [.int r]) (rest := []) ⟨hx, hb, hml, hown, hts⟩ (k_isRegister l D cI cJ cS r) (va_cwS 1 hts gX4_number_X4_isRegister rfl rfl rfl (by decide +kernel) ⟨Nat.le_of_ble_eq_true rfl, Nat.le_of_ble_eq_true rfl⟩) (xk_preSr hK hN hP [] rfl) rfl rfl hl.1 rfl (lv_room (Nat.le_of_ble_eq_true rfl)) dX4_number_1 ⟨Nat.zero_le _, Nat.zero_le _⟩) ?_
  refine lv_if_ne (tgt := 9) hx hb dX4_number_4 (by decide) (fun c_4 => ?_) (fun c_4 => ?_)
  · skip
    obtain ⟨rk, hrk, er⟩ := xi_of (xb_ne c_4)
    have hxr : xN r = rk := by rw [er]; exact xN_nI (by omega)
    refine lv_aload_n hx hb dX4_number_9 rfl (lv_at hl 0 rfl) ?_
    refine va_get (D := D) (ci := 3) (v := .ref hh) (C := RX4) (T := TX4) (N := 3) hx hb hts hiX4 hown hK hP 0 rfl rfl 1 (by decide) (hts (.fieldLink RX4 19 "PointerSweep" "history" "LPointerSweep$History;") (by decide +kernel)) (fun _ h9 => h9) rfl dX4_number_10 ?_
    refine lv_aload_n hx hb dX4_number_13 rfl (lv_at hl 0 rfl) ?_
    refine va_get (D := D) (ci := 3) (v := .ref (ad 0)) (C := RX4) (T := TX4) (N := 3) hx hb hts hiX4 hown hK hP 0 rfl rfl 0 (by decide) (hts (.fieldLink RX4 12 "PointerSweep" "now" "LPointerSweep$State;") (by decide +kernel)) (fun _ h9 => h9) rfl dX4_number_14 ?_
    refine xk_callS (X := [(h0, .inr (3, [.ref (ad 0), .ref hh, .ref ca])), (ca, .inl (cJ, 64, .inr (.inl cr)))]) (va_runV (As := [.ref (ad 0)]) (rest := []) ⟨hx, hb, hml, hown, hts⟩ (k_keep l D cI cJ cS hh ka fk ad ads v vs nx sz hka hnx hsz N4 h4) (cwV 1 hts gX4_number_X1_keep rfl rfl rfl (by decide +kernel) ⟨Nat.le_of_ble_eq_true rfl, Nat.le_of_ble_eq_true rfl⟩) (xk_preVs (X := [(h0, .inr (3, [.ref (ad 0), .ref hh, .ref ca])), (ca, .inl (cJ, 64, .inr (.inl cr)))]) hK hN hP hD (ci := 1) rfl 0 rfl) rfl rfl hl.1 rfl (lv_room (Nat.le_of_ble_eq_true rfl)) dX4_number_17 ⟨Nat.zero_le _, Nat.zero_le _⟩) hP hD hS (xh_fst _ _ _ _ _ _ _ _ _ _ _ _ _ _ _ _ _) (fun H locs hP hD hS => ?_)
    replace hP : va_P D vwCl ([(h0, .inr (3, [.ref (ad 0), .ref hh, .ref ca])), (ca, .inl (cJ, 64, .inr (.inl cr))), (hh, .inr (1, [.ref ka, .int (nI (x_nx nx)), .int (nI (x_sz sz))])), (ka, .inl (cS, 24, .inr (.inr (.inr (.inr fk)))))] ++ (xst cI cJ ad v ++ xpl cI cJ ads (va_up vs nx v) N4)) H := hP
    replace hD : va_D _ ([(h0, .inr (3, [.ref (ad 0), .ref hh, .ref ca])), (ca, .inl (cJ, 64, .inr (.inl cr))), (hh, .inr (1, [.ref ka, .int (nI (x_nx nx)), .int (nI (x_sz sz))])), (ka, .inl (cS, 24, .inr (.inr (.inr (.inr fk)))))] ++ (xst cI cJ ad v ++ xpl cI cJ ads (va_up vs nx v) N4)) := hD
    refine lv_aload_n hx hb dX4_number_20 rfl (lv_at hl 0 rfl) ?_
    refine va_get (D := D) (ci := 3) (v := .ref (ad 0)) (C := RX4) (T := TX4) (N := 3) hx hb hts hiX4 hown hK hP 0 rfl rfl 0 (by decide) (hts (.fieldLink RX4 12 "PointerSweep" "now" "LPointerSweep$State;") (by decide +kernel)) (fun _ h9 => h9) rfl dX4_number_21 ?_
    refine va_get (D := D) (ci := 2) (v := .ref (ad 2)) (C := RX2) (T := TX2) (N := 10) hx hb hts hiX2 hown hK hP 4 rfl rfl 1 (by decide) (hts (.fieldLink RX4 43 "PointerSweep$State" "registers" "[J") (by decide +kernel)) (fun _ h9 => h9) rfl dX4_number_24 ?_
    refine lv_iload_n hx hb dX4_number_27 rfl (lv_at hl 1 rfl) ?_
    refine lv_iload_n hx hb dX4_number_28 rfl (lv_at hl 2 rfl) ?_
    refine xk_callR (va_runS (As := [.int x]) (rest := [.int r, .ref (ad 2)]) ⟨hx, hb, hml, hown, hts⟩ (k_ofNumber l D cI cJ cS x) (va_cwS 1 hts gX4_number_X3_ofNumber rfl rfl rfl (by decide +kernel) ⟨Nat.le_of_ble_eq_true rfl, Nat.le_of_ble_eq_true rfl⟩) (xk_preSr hK hN hP [] rfl) rfl rfl hl.1 rfl (lv_room (Nat.le_of_ble_eq_true rfl)) dX4_number_29 ⟨Nat.zero_le _, Nat.zero_le _⟩) ?_
    refine xa_lastW (w := (x, none)) (ws' := [(h0, .inr (3, [.ref (ad 0), .ref hh, .ref ca])), (ca, .inl (cJ, 64, .inr (.inl cr))), (hh, .inr (1, [.ref ka, .int (nI (x_nx nx)), .int (nI (x_sz sz))])), (ka, .inl (cS, 24, .inr (.inr (.inr (.inr fk)))))] ++ (xst cI cJ ad (v.1, (va_up v.2.1 rk (x, none)), v.2.2.1, v.2.2.2.1, v.2.2.2.2.1, v.2.2.2.2.2.1, v.2.2.2.2.2.2.1, v.2.2.2.2.2.2.2.1, v.2.2.2.2.2.2.2.2.1, v.2.2.2.2.2.2.2.2.2) ++ xpl cI cJ ads (va_up vs nx v) N4)) hx hb hK hP hD hS 6 1 rfl rfl rk er hrk (by decide) dX4_number_32 rfl (fun H locs hP hD hS => ?_)
    refine lv_iconst (v := 0) hx hb dX4_number_33 (by decide) ?_
    have e9 : sp_number v r x = (0, some (x_reg v rk (x, none))) := (by unfold sp_number; rw [if_pos (xb_ne c_4), hxr])
    exact xk_iretW hx hb hr hlk hP hS (by rw [e9]) (by rw [← hW1, e9]; rfl) dX4_number_34
  · skip
    refine lv_iconst (v := (-1)) hx hb dX4_number_7 (by decide) ?_
    have e9 : sp_number v r x = (-1, none) := if_neg (x_bt c_4)
    exact xk_iretW hx hb hr hlk hP hS (by rw [e9]) (by rw [← hW1, e9]; rfl) dX4_number_8
set_option maxHeartbeats 4000000 in
set_option maxRecDepth 100000 in
theorem x_copy (l : Launch) (D : va_G) (cI cJ cS : ClassId) (h0 ca hh ka : Nat) (fk : Nat → Option Nat) (ad : Nat → Nat) (ads : Nat → Nat → Nat) (N4 : Nat) (h4 : N4 = 24) (cr : Nat → Int64) (v : xV) (vs : Nat → xV) (nx sz : Nat) (hka : ∀ i, i < 24 → fk i = some (ads i 0)) (hnx : nx < 24) (hsz : sz ≤ 24) (hv : x_ok v) (r q : Int32) : xk_Wr l yX4_copy wsX4_copy ({ frames := 4, cells := 0, slots := 0, locals := 123 }) D vwCl (xt cI cJ cS) (xx cI cJ cS h0 ca hh ka fk ad ads N4 cr v vs nx sz) [.ref h0, .int r, .int q] (xxo cI cJ cS h0 ca hh ka fk ad ads N4 cr v vs nx sz (sp_copy v r q).2) (some (.int (sp_copy v r q).1)) := by
  refine xk_wr2 (cc := cX4_copy) (maxL := 3) (ret := (some .int)) (by decide) rfl (Nat.le_of_ble_eq_true rfl) (fun p e s m below meth c ls W0v W1v hW1 hx hb hr hlk hml hown hts hl hP hK hN hD hS => ?_)
  replace hl : lv_has ls 3 [(0, .ref h0), (1, .int r), (2, .int q)] := hl
  have hiX2 : ∀ w ∈ u_ws RX2 TX2 10, w ∈ wsX4_copy := by decide +kernel
  have hiX4 : ∀ w ∈ u_ws RX4 TX4 3, w ∈ wsX4_copy := by decide +kernel
  replace hP : va_P D vwCl ([(h0, .inr (3, [.ref (ad 0), .ref hh, .ref ca])), (ca, .inl (cJ, 64, .inr (.inl cr))), (hh, .inr (1, [.ref ka, .int (nI nx), .int (nI sz)])), (ka, .inl (cS, 24, .inr (.inr (.inr (.inr fk)))))] ++ (xst cI cJ ad v ++ xpl cI cJ ads vs N4)) s.heap := hP
  replace hD : va_D _ ([(h0, .inr (3, [.ref (ad 0), .ref hh, .ref ca])), (ca, .inl (cJ, 64, .inr (.inl cr))), (hh, .inr (1, [.ref ka, .int (nI nx), .int (nI sz)])), (ka, .inl (cS, 24, .inr (.inr (.inr (.inr fk)))))] ++ (xst cI cJ ad v ++ xpl cI cJ ads vs N4)) := hD
  refine lv_iload_n hx hb dX4_copy_0 rfl (lv_at hl 1 rfl) ?_
  refine xk_callR (va_runS (As := [.int r]) (rest := []) ⟨hx, hb, hml, hown, hts⟩ (k_isRegister l D cI cJ cS r) (va_cwS 1 hts gX4_copy_X4_isRegister rfl rfl rfl (by decide +kernel) ⟨Nat.le_of_ble_eq_true rfl, Nat.le_of_ble_eq_true rfl⟩) (xk_preSr hK hN hP [] rfl) rfl rfl hl.1 rfl (lv_room (Nat.le_of_ble_eq_true rfl)) dX4_copy_1 ⟨Nat.zero_le _, Nat.zero_le _⟩) ?_
  refine lv_if_eq (tgt := 14) hx hb dX4_copy_4 (by decide) (fun c_4 => ?_) (fun c_4 => ?_)
  · skip
    refine lv_iconst (v := (-1)) hx hb dX4_copy_14 (by decide) ?_
    have e9 : sp_copy v r q = (-1, none) := if_neg (fun z => x_bt c_4 z.1)
    exact xk_iretW hx hb hr hlk hP hS (by rw [e9]) (by rw [← hW1, e9]; rfl) dX4_copy_15
  · skip
    refine lv_iload_n hx hb dX4_copy_7 rfl (lv_at hl 2 rfl) ?_
    refine xk_callR (va_runS (As := [.int q]) (rest := []) ⟨hx, hb, hml, hown, hts⟩ (k_isRegister l D cI cJ cS q) (va_cwS 1 hts gX4_copy_X4_isRegister rfl rfl rfl (by decide +kernel) ⟨Nat.le_of_ble_eq_true rfl, Nat.le_of_ble_eq_true rfl⟩) (xk_preSr hK hN hP [] rfl) rfl rfl hl.1 rfl (lv_room (Nat.le_of_ble_eq_true rfl)) dX4_copy_8 ⟨Nat.zero_le _, Nat.zero_le _⟩) ?_
    refine lv_if_ne (tgt := 16) hx hb dX4_copy_11 (by decide) (fun c_11 => ?_) (fun c_11 => ?_)
    · skip
      obtain ⟨rk, hrk, er⟩ := xi_of (xb_ne c_4)
      have hxr : xN r = rk := by rw [er]; exact xN_nI (by omega)
      obtain ⟨qk, hqk, eq⟩ := xi_of (xb_ne c_11)
      have hxq : xN q = qk := by rw [eq]; exact xN_nI (by omega)
      refine lv_aload_n hx hb dX4_copy_16 rfl (lv_at hl 0 rfl) ?_
      refine va_get (D := D) (ci := 3) (v := .ref hh) (C := RX4) (T := TX4) (N := 3) hx hb hts hiX4 hown hK hP 0 rfl rfl 1 (by decide) (hts (.fieldLink RX4 19 "PointerSweep" "history" "LPointerSweep$History;") (by decide +kernel)) (fun _ h9 => h9) rfl dX4_copy_17 ?_
      refine lv_aload_n hx hb dX4_copy_20 rfl (lv_at hl 0 rfl) ?_
      refine va_get (D := D) (ci := 3) (v := .ref (ad 0)) (C := RX4) (T := TX4) (N := 3) hx hb hts hiX4 hown hK hP 0 rfl rfl 0 (by decide) (hts (.fieldLink RX4 12 "PointerSweep" "now" "LPointerSweep$State;") (by decide +kernel)) (fun _ h9 => h9) rfl dX4_copy_21 ?_
      refine xk_callS (X := [(h0, .inr (3, [.ref (ad 0), .ref hh, .ref ca])), (ca, .inl (cJ, 64, .inr (.inl cr)))]) (va_runV (As := [.ref (ad 0)]) (rest := []) ⟨hx, hb, hml, hown, hts⟩ (k_keep l D cI cJ cS hh ka fk ad ads v vs nx sz hka hnx hsz N4 h4) (cwV 1 hts gX4_copy_X1_keep rfl rfl rfl (by decide +kernel) ⟨Nat.le_of_ble_eq_true rfl, Nat.le_of_ble_eq_true rfl⟩) (xk_preVs (X := [(h0, .inr (3, [.ref (ad 0), .ref hh, .ref ca])), (ca, .inl (cJ, 64, .inr (.inl cr)))]) hK hN hP hD (ci := 1) rfl 0 rfl) rfl rfl hl.1 rfl (lv_room (Nat.le_of_ble_eq_true rfl)) dX4_copy_24 ⟨Nat.zero_le _, Nat.zero_le _⟩) hP hD hS (xh_fst _ _ _ _ _ _ _ _ _ _ _ _ _ _ _ _ _) (fun H locs hP hD hS => ?_)
      replace hP : va_P D vwCl ([(h0, .inr (3, [.ref (ad 0), .ref hh, .ref ca])), (ca, .inl (cJ, 64, .inr (.inl cr))), (hh, .inr (1, [.ref ka, .int (nI (x_nx nx)), .int (nI (x_sz sz))])), (ka, .inl (cS, 24, .inr (.inr (.inr (.inr fk)))))] ++ (xst cI cJ ad v ++ xpl cI cJ ads (va_up vs nx v) N4)) H := hP
      replace hD : va_D _ ([(h0, .inr (3, [.ref (ad 0), .ref hh, .ref ca])), (ca, .inl (cJ, 64, .inr (.inl cr))), (hh, .inr (1, [.ref ka, .int (nI (x_nx nx)), .int (nI (x_sz sz))])), (ka, .inl (cS, 24, .inr (.inr (.inr (.inr fk)))))] ++ (xst cI cJ ad v ++ xpl cI cJ ads (va_up vs nx v) N4)) := hD
      refine lv_aload_n hx hb dX4_copy_27 rfl (lv_at hl 0 rfl) ?_
      refine va_get (D := D) (ci := 3) (v := .ref (ad 0)) (C := RX4) (T := TX4) (N := 3) hx hb hts hiX4 hown hK hP 0 rfl rfl 0 (by decide) (hts (.fieldLink RX4 12 "PointerSweep" "now" "LPointerSweep$State;") (by decide +kernel)) (fun _ h9 => h9) rfl dX4_copy_28 ?_
      refine va_get (D := D) (ci := 2) (v := .ref (ad 2)) (C := RX2) (T := TX2) (N := 10) hx hb hts hiX2 hown hK hP 4 rfl rfl 1 (by decide) (hts (.fieldLink RX4 43 "PointerSweep$State" "registers" "[J") (by decide +kernel)) (fun _ h9 => h9) rfl dX4_copy_31 ?_
      refine lv_iload_n hx hb dX4_copy_34 rfl (lv_at hl 1 rfl) ?_
      refine lv_aload_n hx hb dX4_copy_35 rfl (lv_at hl 0 rfl) ?_
      refine va_get (D := D) (ci := 3) (v := .ref (ad 0)) (C := RX4) (T := TX4) (N := 3) hx hb hts hiX4 hown hK hP 0 rfl rfl 0 (by decide) (hts (.fieldLink RX4 12 "PointerSweep" "now" "LPointerSweep$State;") (by decide +kernel)) (fun _ h9 => h9) rfl dX4_copy_36 ?_
      refine va_get (D := D) (ci := 2) (v := .ref (ad 2)) (C := RX2) (T := TX2) (N := 10) hx hb hts hiX2 hown hK hP 4 rfl rfl 1 (by decide) (hts (.fieldLink RX4 43 "PointerSweep$State" "registers" "[J") (by decide +kernel)) (fun _ h9 => h9) rfl dX4_copy_39 ?_
      refine lv_iload_n hx hb dX4_copy_42 rfl (lv_at hl 2 rfl) ?_
      refine xa_lald hx hb hK hP 6 1 rfl rfl qk eq hqk (by decide) dX4_copy_43 ?_
      refine xa_lastW (w := (v.2.1 qk)) (ws' := [(h0, .inr (3, [.ref (ad 0), .ref hh, .ref ca])), (ca, .inl (cJ, 64, .inr (.inl cr))), (hh, .inr (1, [.ref ka, .int (nI (x_nx nx)), .int (nI (x_sz sz))])), (ka, .inl (cS, 24, .inr (.inr (.inr (.inr fk)))))] ++ (xst cI cJ ad (v.1, (va_up v.2.1 rk (v.2.1 qk)), v.2.2.1, v.2.2.2.1, v.2.2.2.2.1, v.2.2.2.2.2.1, v.2.2.2.2.2.2.1, v.2.2.2.2.2.2.2.1, v.2.2.2.2.2.2.2.2.1, v.2.2.2.2.2.2.2.2.2) ++ xpl cI cJ ads (va_up vs nx v) N4)) hx hb hK hP hD hS 6 1 rfl rfl rk er hrk (by decide) dX4_copy_44 rfl (fun H locs hP hD hS => ?_)
      refine lv_iconst (v := 0) hx hb dX4_copy_45 (by decide) ?_
      have e9 : sp_copy v r q = (0, some (x_reg v rk (v.2.1 qk))) := (by unfold sp_copy; rw [if_pos ⟨xb_ne c_4, xb_ne c_11⟩, hxr, hxq])
      exact xk_iretW hx hb hr hlk hP hS (by rw [e9]) (by rw [← hW1, e9]; rfl) dX4_copy_46
    · skip
      refine lv_iconst (v := (-1)) hx hb dX4_copy_14 (by decide) ?_
      have e9 : sp_copy v r q = (-1, none) := if_neg (fun z => x_bt c_11 z.2)
      exact xk_iretW hx hb hr hlk hP hS (by rw [e9]) (by rw [← hW1, e9]; rfl) dX4_copy_15
set_option maxHeartbeats 4000000 in
set_option maxRecDepth 100000 in
theorem x_sweep (l : Launch) (D : va_G) (cI cJ cS : ClassId) (h0 ca hh ka : Nat) (fk : Nat → Option Nat) (ad : Nat → Nat) (ads : Nat → Nat → Nat) (N4 : Nat) (h4 : N4 = 24) (cr : Nat → Int64) (v : xV) (vs : Nat → xV) (nx sz : Nat) (hka : ∀ i, i < 24 → fk i = some (ads i 0)) (hnx : nx < 24) (hsz : sz ≤ 24) (hv : x_ok v) : xk_Wr l yX4_sweep wsX4_sweep ({ frames := 4, cells := 0, slots := 0, locals := 123 }) D vwCl (xt cI cJ cS) (xx cI cJ cS h0 ca hh ka fk ad ads N4 cr v vs nx sz) [.ref h0] (xxo cI cJ cS h0 ca hh ka fk ad ads N4 cr v vs nx sz (sp_sweep v).2) (some (.int (sp_sweep v).1)) := by
  refine xk_wr2 (cc := cX4_sweep) (maxL := 1) (ret := (some .int)) (by decide) rfl (Nat.le_of_ble_eq_true rfl) (fun p e s m below meth c ls W0v W1v hW1 hx hb hr hlk hml hown hts hl hP hK hN hD hS => ?_)
  replace hl : lv_has ls 1 [(0, .ref h0)] := hl
  have hiX2 : ∀ w ∈ u_ws RX2 TX2 10, w ∈ wsX4_sweep := by decide +kernel
  have hiX4 : ∀ w ∈ u_ws RX4 TX4 3, w ∈ wsX4_sweep := by decide +kernel
  replace hP : va_P D vwCl ([(h0, .inr (3, [.ref (ad 0), .ref hh, .ref ca])), (ca, .inl (cJ, 64, .inr (.inl cr))), (hh, .inr (1, [.ref ka, .int (nI nx), .int (nI sz)])), (ka, .inl (cS, 24, .inr (.inr (.inr (.inr fk)))))] ++ (xst cI cJ ad v ++ xpl cI cJ ads vs N4)) s.heap := hP
  replace hD : va_D _ ([(h0, .inr (3, [.ref (ad 0), .ref hh, .ref ca])), (ca, .inl (cJ, 64, .inr (.inl cr))), (hh, .inr (1, [.ref ka, .int (nI nx), .int (nI sz)])), (ka, .inl (cS, 24, .inr (.inr (.inr (.inr fk)))))] ++ (xst cI cJ ad v ++ xpl cI cJ ads vs N4)) := hD
  refine lv_aload_n hx hb dX4_sweep_0 rfl (lv_at hl 0 rfl) ?_
  refine va_get (D := D) (ci := 3) (v := .ref (ad 0)) (C := RX4) (T := TX4) (N := 3) hx hb hts hiX4 hown hK hP 0 rfl rfl 0 (by decide) (hts (.fieldLink RX4 12 "PointerSweep" "now" "LPointerSweep$State;") (by decide +kernel)) (fun _ h9 => h9) rfl dX4_sweep_1 ?_
  refine va_get (D := D) (ci := 2) (v := .int (xb v.2.2.2.2.2.2.2.1)) (C := RX2) (T := TX2) (N := 10) hx hb hts hiX2 hown hK hP 4 rfl rfl 7 (by decide) (hts (.fieldLink RX4 105 "PointerSweep$State" "sweeping" "Z") (by decide +kernel)) (fun _ h9 => h9) rfl dX4_sweep_4 ?_
  refine lv_if_eq (tgt := 13) hx hb dX4_sweep_7 (by decide) (fun c_7 => ?_) (fun c_7 => ?_)
  · skip
    refine lv_aload_n hx hb dX4_sweep_13 rfl (lv_at hl 0 rfl) ?_
    refine va_get (D := D) (ci := 3) (v := .ref hh) (C := RX4) (T := TX4) (N := 3) hx hb hts hiX4 hown hK hP 0 rfl rfl 1 (by decide) (hts (.fieldLink RX4 19 "PointerSweep" "history" "LPointerSweep$History;") (by decide +kernel)) (fun _ h9 => h9) rfl dX4_sweep_14 ?_
    refine lv_aload_n hx hb dX4_sweep_17 rfl (lv_at hl 0 rfl) ?_
    refine va_get (D := D) (ci := 3) (v := .ref (ad 0)) (C := RX4) (T := TX4) (N := 3) hx hb hts hiX4 hown hK hP 0 rfl rfl 0 (by decide) (hts (.fieldLink RX4 12 "PointerSweep" "now" "LPointerSweep$State;") (by decide +kernel)) (fun _ h9 => h9) rfl dX4_sweep_18 ?_
    refine xk_callS (X := [(h0, .inr (3, [.ref (ad 0), .ref hh, .ref ca])), (ca, .inl (cJ, 64, .inr (.inl cr)))]) (va_runV (As := [.ref (ad 0)]) (rest := []) ⟨hx, hb, hml, hown, hts⟩ (k_keep l D cI cJ cS hh ka fk ad ads v vs nx sz hka hnx hsz N4 h4) (cwV 1 hts gX4_sweep_X1_keep rfl rfl rfl (by decide +kernel) ⟨Nat.le_of_ble_eq_true rfl, Nat.le_of_ble_eq_true rfl⟩) (xk_preVs (X := [(h0, .inr (3, [.ref (ad 0), .ref hh, .ref ca])), (ca, .inl (cJ, 64, .inr (.inl cr)))]) hK hN hP hD (ci := 1) rfl 0 rfl) rfl rfl hl.1 rfl (lv_room (Nat.le_of_ble_eq_true rfl)) dX4_sweep_21 ⟨Nat.zero_le _, Nat.zero_le _⟩) hP hD hS (xh_fst _ _ _ _ _ _ _ _ _ _ _ _ _ _ _ _ _) (fun H locs hP hD hS => ?_)
    replace hP : va_P D vwCl ([(h0, .inr (3, [.ref (ad 0), .ref hh, .ref ca])), (ca, .inl (cJ, 64, .inr (.inl cr))), (hh, .inr (1, [.ref ka, .int (nI (x_nx nx)), .int (nI (x_sz sz))])), (ka, .inl (cS, 24, .inr (.inr (.inr (.inr fk)))))] ++ (xst cI cJ ad v ++ xpl cI cJ ads (va_up vs nx v) N4)) H := hP
    replace hD : va_D _ ([(h0, .inr (3, [.ref (ad 0), .ref hh, .ref ca])), (ca, .inl (cJ, 64, .inr (.inl cr))), (hh, .inr (1, [.ref ka, .int (nI (x_nx nx)), .int (nI (x_sz sz))])), (ka, .inl (cS, 24, .inr (.inr (.inr (.inr fk)))))] ++ (xst cI cJ ad v ++ xpl cI cJ ads (va_up vs nx v) N4)) := hD
    refine lv_aload_n hx hb dX4_sweep_24 rfl (lv_at hl 0 rfl) ?_
    refine va_get (D := D) (ci := 3) (v := .ref (ad 0)) (C := RX4) (T := TX4) (N := 3) hx hb hts hiX4 hown hK hP 0 rfl rfl 0 (by decide) (hts (.fieldLink RX4 12 "PointerSweep" "now" "LPointerSweep$State;") (by decide +kernel)) (fun _ h9 => h9) rfl dX4_sweep_25 ?_
    refine xk_callM (va_runV (As := []) (rest := []) ⟨hx, hb, hml, hown, hts⟩ (k_beginSweepF l D cI cJ cS ad v ) (cwV 0 hts gX4_sweep_X2_beginSweep rfl rfl rfl (by decide +kernel) ⟨Nat.le_of_ble_eq_true rfl, Nat.le_of_ble_eq_true rfl⟩) (xk_preVm hK hN hP hD (ci := 2) rfl 0 rfl) rfl rfl hl.1 rfl (lv_room (Nat.le_of_ble_eq_true rfl)) dX4_sweep_28 ⟨Nat.zero_le _, Nat.zero_le _⟩) hP hD hS rfl (fun H locs hP hD hS => ?_)
    replace hP : va_P D vwCl ([(h0, .inr (3, [.ref (ad 0), .ref hh, .ref ca])), (ca, .inl (cJ, 64, .inr (.inl cr))), (hh, .inr (1, [.ref ka, .int (nI (x_nx nx)), .int (nI (x_sz sz))])), (ka, .inl (cS, 24, .inr (.inr (.inr (.inr fk)))))] ++ (xst cI cJ ad (v.1, v.2.1, v.2.2.1, v.2.2.2.1, v.2.2.2.2.1, v.2.2.2.2.1, v.2.2.2.2.2.2.1, true, v.2.2.2.2.2.2.2.2.1, v.2.2.2.2.2.2.2.2.2) ++ xpl cI cJ ads (va_up vs nx v) N4)) H := hP
    replace hD : va_D _ ([(h0, .inr (3, [.ref (ad 0), .ref hh, .ref ca])), (ca, .inl (cJ, 64, .inr (.inl cr))), (hh, .inr (1, [.ref ka, .int (nI (x_nx nx)), .int (nI (x_sz sz))])), (ka, .inl (cS, 24, .inr (.inr (.inr (.inr fk)))))] ++ (xst cI cJ ad (v.1, v.2.1, v.2.2.1, v.2.2.2.1, v.2.2.2.2.1, v.2.2.2.2.1, v.2.2.2.2.2.2.1, true, v.2.2.2.2.2.2.2.2.1, v.2.2.2.2.2.2.2.2.2) ++ xpl cI cJ ads (va_up vs nx v) N4)) := hD
    have e9 : sp_sweep v = (nI (xs_w v.2.2.2.2.1 0 256), some (x_swp v)) := if_neg (x_bt c_7)
    exact xk_iretW hx hb hr hlk hP hS (by rw [e9]) (by rw [← hW1, e9]; rfl) dX4_sweep_31
  · skip
    refine lv_bipush (v := (-2)) hx hb dX4_sweep_10 (by decide) ?_
    have e9 : sp_sweep v = (-2, none) := if_pos (xb_ne c_7)
    exact xk_iretW hx hb hr hlk hP hS (by rw [e9]) (by rw [← hW1, e9]; rfl) dX4_sweep_12
