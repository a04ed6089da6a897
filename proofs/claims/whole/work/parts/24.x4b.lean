set_option maxHeartbeats 4000000 in
set_option maxRecDepth 100000 in
theorem k_faultOf (l : Launch) (D : va_G) (cI cJ cS : ClassId) (w : xw) (hw : xw_ok w) (right d n : Int32) : xk_Rd l yX4_faultOf wsX4_faultOf ({ frames := 2, cells := 0, slots := 0, locals := 46 }) D vwCl (xt cI cJ cS) ([]) [.long (xw_enc w), .int right, .int d, .int n] (some (.int (x_fault w right d n))) := by
  refine xk_rd (cc := cX4_faultOf) (maxL := 5) (ret := (some .int)) (by decide) rfl (Nat.le_of_ble_eq_true rfl) (fun p e s m below meth c ls hx hb hr hlk hml hown hts hl hP hK hN => ?_)
  replace hl : lv_has ls 5 [(0, .long (xw_enc w)), (2, .int right), (3, .int d), (4, .int n)] := hl
  refine lv_lload_n hx hb dX4_faultOf_0 rfl (lv_at hl 0 rfl) ?_
  refine xk_callR (va_runS (As := [.long (xw_enc w)]) (rest := []) ⟨hx, hb, hml, hown, hts⟩ (k_isPointer l D cI cJ cS w hw ) (va_cwS 1 hts gX4_faultOf_X3_isPointer rfl rfl rfl (by decide +kernel) ⟨Nat.le_of_ble_eq_true rfl, Nat.le_of_ble_eq_true rfl⟩) (xk_preSr hK hN hP [] rfl) rfl rfl hl.1 rfl (lv_room (Nat.le_of_ble_eq_true rfl)) dX4_faultOf_1 ⟨Nat.zero_le _, Nat.zero_le _⟩) ?_
  refine lv_if_ne (tgt := 10) hx hb dX4_faultOf_4 (by decide) (fun c_4 => ?_) (fun c_4 => ?_)
  · skip
    refine lv_lload_n hx hb dX4_faultOf_10 rfl (lv_at hl 0 rfl) ?_
    refine xk_callR (va_runS (As := [.long (xw_enc w)]) (rest := []) ⟨hx, hb, hml, hown, hts⟩ (k_rights l D cI cJ cS w hw ) (va_cwS 1 hts gX4_faultOf_X3_rights rfl rfl rfl (by decide +kernel) ⟨Nat.le_of_ble_eq_true rfl, Nat.le_of_ble_eq_true rfl⟩) (xk_preSr hK hN hP [] rfl) rfl rfl hl.1 rfl (lv_room (Nat.le_of_ble_eq_true rfl)) dX4_faultOf_11 ⟨Nat.zero_le _, Nat.zero_le _⟩) ?_
    refine lv_iload_n hx hb dX4_faultOf_14 rfl (lv_at hl 1 rfl) ?_
    refine lv_iand hx hb dX4_faultOf_15 ?_
    refine lv_if_ne (tgt := 22) hx hb dX4_faultOf_16 (by decide) (fun c_16 => ?_) (fun c_16 => ?_)
    · skip
      refine lv_lload_n hx hb dX4_faultOf_22 rfl (lv_at hl 0 rfl) ?_
      refine lv_iload_n hx hb dX4_faultOf_23 rfl (lv_at hl 2 rfl) ?_
      refine lv_iload hx hb dX4_faultOf_24 (lv_at hl 3 rfl) ?_
      refine xk_callR (va_runS (As := [.long (xw_enc w), .int d, .int n]) (rest := []) ⟨hx, hb, hml, hown, hts⟩ (k_covers l D cI cJ cS w hw d n) (va_cwS 3 hts gX4_faultOf_X3_covers rfl rfl rfl (by decide +kernel) ⟨Nat.le_of_ble_eq_true rfl, Nat.le_of_ble_eq_true rfl⟩) (xk_preSr hK hN hP [] rfl) rfl rfl hl.1 rfl (lv_room (Nat.le_of_ble_eq_true rfl)) dX4_faultOf_26 ⟨Nat.zero_le _, Nat.zero_le _⟩) ?_
      refine lv_if_eq (tgt := 36) hx hb dX4_faultOf_29 (by decide) (fun c_29 => ?_) (fun c_29 => ?_)
      · skip
        refine lv_bipush (v := (-13)) hx hb dX4_faultOf_36 (by decide) ?_
        exact xk_iretR hx hb hr hlk (by unfold x_fault; rw [if_pos (xb_ne c_4), if_neg c_16, if_neg (x_bt c_29)]) dX4_faultOf_38
      · skip
        refine lv_iconst (v := 0) hx hb dX4_faultOf_32 (by decide) ?_
        refine lv_goto (tgt := 38) hx hb dX4_faultOf_33 (by decide) ?_
        exact xk_iretR hx hb hr hlk (by unfold x_fault; rw [if_pos (xb_ne c_4), if_neg c_16, if_pos (xb_ne c_29)]) dX4_faultOf_38
    · skip
      refine lv_bipush (v := (-12)) hx hb dX4_faultOf_19 (by decide) ?_
      exact xk_iretR hx hb hr hlk (by unfold x_fault; rw [if_pos (xb_ne c_4), if_pos c_16]) dX4_faultOf_21
  · skip
    refine lv_bipush (v := (-11)) hx hb dX4_faultOf_7 (by decide) ?_
    exact xk_iretR hx hb hr hlk (by unfold x_fault; rw [if_neg (x_bt c_4)]) dX4_faultOf_9
set_option maxHeartbeats 4000000 in
set_option maxRecDepth 100000 in
theorem x_step (l : Launch) (D : va_G) (cI cJ cS : ClassId) (h0 ca hh ka : Nat) (fk : Nat → Option Nat) (ad : Nat → Nat) (ads : Nat → Nat → Nat) (N4 : Nat) (h4 : N4 = 24) (cr : Nat → Int64) (v : xV) (vs : Nat → xV) (nx sz : Nat) (hka : ∀ i, i < 24 → fk i = some (ads i 0)) (hnx : nx < 24) (hsz : sz ≤ 24) (hv : x_ok v) (n : Int32) : xk_Wr l yX4_step wsX4_step ({ frames := 6, cells := 0, slots := 0, locals := 139 }) D vwCl (xt cI cJ cS) (xx cI cJ cS h0 ca hh ka fk ad ads N4 cr v vs nx sz) [.ref h0, .int n] (xxo cI cJ cS h0 ca hh ka fk ad ads N4 cr v vs nx sz (sp_step v n).2) (some (.int (sp_step v n).1)) := by
  refine xk_wr2 (cc := cX4_step) (maxL := 2) (ret := (some .int)) (by decide) rfl (Nat.le_of_ble_eq_true rfl) (fun p e s m below meth c ls W0v W1v hW1 hx hb hr hlk hml hown hts hl hP hK hN hD hS => ?_)
  replace hl : lv_has ls 2 [(0, .ref h0), (1, .int n)] := hl
  have hiX2 : ∀ w ∈ u_ws RX2 TX2 10, w ∈ wsX4_step := by decide +kernel
  have hiX4 : ∀ w ∈ u_ws RX4 TX4 3, w ∈ wsX4_step := by decide +kernel
  replace hP : va_P D vwCl ([(h0, .inr (3, [.ref (ad 0), .ref hh, .ref ca])), (ca, .inl (cJ, 64, .inr (.inl cr))), (hh, .inr (1, [.ref ka, .int (nI nx), .int (nI sz)])), (ka, .inl (cS, 24, .inr (.inr (.inr (.inr fk)))))] ++ (xst cI cJ ad v ++ xpl cI cJ ads vs N4)) s.heap := hP
  replace hD : va_D _ ([(h0, .inr (3, [.ref (ad 0), .ref hh, .ref ca])), (ca, .inl (cJ, 64, .inr (.inl cr))), (hh, .inr (1, [.ref ka, .int (nI nx), .int (nI sz)])), (ka, .inl (cS, 24, .inr (.inr (.inr (.inr fk)))))] ++ (xst cI cJ ad v ++ xpl cI cJ ads vs N4)) := hD
  refine lv_iload_n hx hb dX4_step_0 rfl (lv_at hl 1 rfl) ?_
  refine lv_iconst (v := 1) hx hb dX4_step_1 (by decide) ?_
  refine lv_icmp_lt (tgt := 11) hx hb dX4_step_2 (by decide) (fun c_2 => ?_) (fun c_2 => ?_)
  · skip
    refine lv_iconst (v := (-1)) hx hb dX4_step_11 (by decide) ?_
    have e9 : sp_step v n = (-1, none) := if_neg (fun z => z.1 c_2)
    exact xk_iretW hx hb hr hlk hP hS (by rw [e9]) (by rw [← hW1, e9]; rfl) dX4_step_12
  · skip
    refine lv_iload_n hx hb dX4_step_5 rfl (lv_at hl 1 rfl) ?_
    refine lv_bipush (v := 16) hx hb dX4_step_6 (by decide) ?_
    refine lv_icmp_le (tgt := 13) hx hb dX4_step_8 (by decide) (fun c_8 => ?_) (fun c_8 => ?_)
    · skip
      refine lv_aload_n hx hb dX4_step_13 rfl (lv_at hl 0 rfl) ?_
      refine va_get (D := D) (ci := 3) (v := .ref (ad 0)) (C := RX4) (T := TX4) (N := 3) hx hb hts hiX4 hown hK hP 0 rfl rfl 0 (by decide) (hts (.fieldLink RX4 12 "PointerSweep" "now" "LPointerSweep$State;") (by decide +kernel)) (fun _ h9 => h9) rfl dX4_step_14 ?_
      refine va_get (D := D) (ci := 2) (v := .int (xb v.2.2.2.2.2.2.2.1)) (C := RX2) (T := TX2) (N := 10) hx hb hts hiX2 hown hK hP 4 rfl rfl 7 (by decide) (hts (.fieldLink RX4 105 "PointerSweep$State" "sweeping" "Z") (by decide +kernel)) (fun _ h9 => h9) rfl dX4_step_17 ?_
      refine lv_if_ne (tgt := 26) hx hb dX4_step_20 (by decide) (fun c_20 => ?_) (fun c_20 => ?_)
      · skip
        obtain ⟨nk, hn1, hn2, en, hxn⟩ := x_1n (M := 16) (m := 16) rfl c_2 c_8
        rw [en] at hl
        refine lv_aload_n hx hb dX4_step_26 rfl (lv_at hl 0 rfl) ?_
        refine va_get (D := D) (ci := 3) (v := .ref hh) (C := RX4) (T := TX4) (N := 3) hx hb hts hiX4 hown hK hP 0 rfl rfl 1 (by decide) (hts (.fieldLink RX4 19 "PointerSweep" "history" "LPointerSweep$History;") (by decide +kernel)) (fun _ h9 => h9) rfl dX4_step_27 ?_
        refine lv_aload_n hx hb dX4_step_30 rfl (lv_at hl 0 rfl) ?_
        refine va_get (D := D) (ci := 3) (v := .ref (ad 0)) (C := RX4) (T := TX4) (N := 3) hx hb hts hiX4 hown hK hP 0 rfl rfl 0 (by decide) (hts (.fieldLink RX4 12 "PointerSweep" "now" "LPointerSweep$State;") (by decide +kernel)) (fun _ h9 => h9) rfl dX4_step_31 ?_
        refine xk_callS (X := [(h0, .inr (3, [.ref (ad 0), .ref hh, .ref ca])), (ca, .inl (cJ, 64, .inr (.inl cr)))]) (va_runV (As := [.ref (ad 0)]) (rest := []) ⟨hx, hb, hml, hown, hts⟩ (k_keep l D cI cJ cS hh ka fk ad ads v vs nx sz hka hnx hsz N4 h4) (cwV 1 hts gX4_step_X1_keep rfl rfl rfl (by decide +kernel) ⟨Nat.le_of_ble_eq_true rfl, Nat.le_of_ble_eq_true rfl⟩) (xk_preVs (X := [(h0, .inr (3, [.ref (ad 0), .ref hh, .ref ca])), (ca, .inl (cJ, 64, .inr (.inl cr)))]) hK hN hP hD (ci := 1) rfl 0 rfl) rfl rfl hl.1 rfl (lv_room (Nat.le_of_ble_eq_true rfl)) dX4_step_34 ⟨Nat.zero_le _, Nat.zero_le _⟩) hP hD hS (xh_fst _ _ _ _ _ _ _ _ _ _ _ _ _ _ _ _ _) (fun H locs hP hD hS => ?_)
        replace hP : va_P D vwCl ([(h0, .inr (3, [.ref (ad 0), .ref hh, .ref ca])), (ca, .inl (cJ, 64, .inr (.inl cr))), (hh, .inr (1, [.ref ka, .int (nI (x_nx nx)), .int (nI (x_sz sz))])), (ka, .inl (cS, 24, .inr (.inr (.inr (.inr fk)))))] ++ (xst cI cJ ad v ++ xpl cI cJ ads (va_up vs nx v) N4)) H := hP
        replace hD : va_D _ ([(h0, .inr (3, [.ref (ad 0), .ref hh, .ref ca])), (ca, .inl (cJ, 64, .inr (.inl cr))), (hh, .inr (1, [.ref ka, .int (nI (x_nx nx)), .int (nI (x_sz sz))])), (ka, .inl (cS, 24, .inr (.inr (.inr (.inr fk)))))] ++ (xst cI cJ ad v ++ xpl cI cJ ads (va_up vs nx v) N4)) := hD
        refine lv_aload_n hx hb dX4_step_37 rfl (lv_at hl 0 rfl) ?_
        refine va_get (D := D) (ci := 3) (v := .ref (ad 0)) (C := RX4) (T := TX4) (N := 3) hx hb hts hiX4 hown hK hP 0 rfl rfl 0 (by decide) (hts (.fieldLink RX4 12 "PointerSweep" "now" "LPointerSweep$State;") (by decide +kernel)) (fun _ h9 => h9) rfl dX4_step_38 ?_
        refine lv_iload_n hx hb dX4_step_41 rfl (lv_at hl 1 rfl) ?_
        refine xk_callM (va_runV (As := [.int (nI nk)]) (rest := []) ⟨hx, hb, hml, hown, hts⟩ (k_lookAtNextPagesF l D cI cJ cS ad v (x_ok_m hv) hv.2.2 nk hn1 hn2) (cwV 1 hts gX4_step_X2_lookAtNextPages rfl rfl rfl (by decide +kernel) ⟨Nat.le_of_ble_eq_true rfl, Nat.le_of_ble_eq_true rfl⟩) (xk_preVm hK hN hP hD (ci := 2) rfl 0 rfl) rfl rfl hl.1 rfl (lv_room (Nat.le_of_ble_eq_true rfl)) dX4_step_42 ⟨Nat.zero_le _, Nat.zero_le _⟩) hP hD hS rfl (fun H locs hP hD hS => ?_)
        replace hP : va_P D vwCl ([(h0, .inr (3, [.ref (ad 0), .ref hh, .ref ca])), (ca, .inl (cJ, 64, .inr (.inl cr))), (hh, .inr (1, [.ref ka, .int (nI (x_nx nx)), .int (nI (x_sz sz))])), (ka, .inl (cS, 24, .inr (.inr (.inr (.inr fk)))))] ++ (xst cI cJ ad ((x_cl v.2.2.2.2.2.1 v.1 (16 * v.2.2.2.2.2.2.2.2.1) (16 * x_stop v.2.2.2.2.2.2.2.2.1 nk)), v.2.1, (x_pt v.2.2.2.2.2.1 v.1 v.2.2.2.2.2.2.2.2.1 nk v.2.2.1), v.2.2.2.1, v.2.2.2.2.1, v.2.2.2.2.2.1, v.2.2.2.2.2.2.1, v.2.2.2.2.2.2.2.1, (x_stop v.2.2.2.2.2.2.2.2.1 nk), v.2.2.2.2.2.2.2.2.2) ++ xpl cI cJ ads (va_up vs nx v) N4)) H := hP
        replace hD : va_D _ ([(h0, .inr (3, [.ref (ad 0), .ref hh, .ref ca])), (ca, .inl (cJ, 64, .inr (.inl cr))), (hh, .inr (1, [.ref ka, .int (nI (x_nx nx)), .int (nI (x_sz sz))])), (ka, .inl (cS, 24, .inr (.inr (.inr (.inr fk)))))] ++ (xst cI cJ ad ((x_cl v.2.2.2.2.2.1 v.1 (16 * v.2.2.2.2.2.2.2.2.1) (16 * x_stop v.2.2.2.2.2.2.2.2.1 nk)), v.2.1, (x_pt v.2.2.2.2.2.1 v.1 v.2.2.2.2.2.2.2.2.1 nk v.2.2.1), v.2.2.2.1, v.2.2.2.2.1, v.2.2.2.2.2.1, v.2.2.2.2.2.2.1, v.2.2.2.2.2.2.2.1, (x_stop v.2.2.2.2.2.2.2.2.1 nk), v.2.2.2.2.2.2.2.2.2) ++ xpl cI cJ ads (va_up vs nx v) N4)) := hD
        have e9 : sp_step v n = (x_cn v.2.2.2.2.2.1 v.1 (16 * v.2.2.2.2.2.2.2.2.1) (16 * x_stop v.2.2.2.2.2.2.2.2.1 nk), some (x_stp v nk)) := (by unfold sp_step; rw [if_pos ⟨c_2, c_8⟩, if_pos (xb_ne c_20), hxn])
        exact xk_iretW hx hb hr hlk hP hS (by rw [e9]) (by rw [← hW1, e9]; rfl) dX4_step_45
      · skip
        refine lv_bipush (v := (-2)) hx hb dX4_step_23 (by decide) ?_
        have e9 : sp_step v n = (-2, none) := (by unfold sp_step; rw [if_pos ⟨c_2, c_8⟩, if_neg (x_bt c_20)])
        exact xk_iretW hx hb hr hlk hP hS (by rw [e9]) (by rw [← hW1, e9]; rfl) dX4_step_25
    · skip
      refine lv_iconst (v := (-1)) hx hb dX4_step_11 (by decide) ?_
      have e9 : sp_step v n = (-1, none) := if_neg (fun z => c_8 z.2)
      exact xk_iretW hx hb hr hlk hP hS (by rw [e9]) (by rw [← hW1, e9]; rfl) dX4_step_12
set_option maxHeartbeats 4000000 in
set_option maxRecDepth 100000 in
theorem x_endc (l : Launch) (D : va_G) (cI cJ cS : ClassId) (h0 ca hh ka : Nat) (fk : Nat → Option Nat) (ad : Nat → Nat) (ads : Nat → Nat → Nat) (N4 : Nat) (h4 : N4 = 24) (cr : Nat → Int64) (v : xV) (vs : Nat → xV) (nx sz : Nat) (hka : ∀ i, i < 24 → fk i = some (ads i 0)) (hnx : nx < 24) (hsz : sz ≤ 24) (hv : x_ok v) : xk_Wr l yX4_end wsX4_end ({ frames := 6, cells := 0, slots := 0, locals := 136 }) D vwCl (xt cI cJ cS) (xx cI cJ cS h0 ca hh ka fk ad ads N4 cr v vs nx sz) [.ref h0] (xxo cI cJ cS h0 ca hh ka fk ad ads N4 cr v vs nx sz (sp_end v).2) (some (.int (sp_end v).1)) := by
  refine xk_wr2 (cc := cX4_end) (maxL := 1) (ret := (some .int)) (by decide) rfl (Nat.le_of_ble_eq_true rfl) (fun p e s m below meth c ls W0v W1v hW1 hx hb hr hlk hml hown hts hl hP hK hN hD hS => ?_)
  replace hl : lv_has ls 1 [(0, .ref h0)] := hl
  have hiX2 : ∀ w ∈ u_ws RX2 TX2 10, w ∈ wsX4_end := by decide +kernel
  have hiX4 : ∀ w ∈ u_ws RX4 TX4 3, w ∈ wsX4_end := by decide +kernel
  replace hP : va_P D vwCl ([(h0, .inr (3, [.ref (ad 0), .ref hh, .ref ca])), (ca, .inl (cJ, 64, .inr (.inl cr))), (hh, .inr (1, [.ref ka, .int (nI nx), .int (nI sz)])), (ka, .inl (cS, 24, .inr (.inr (.inr (.inr fk)))))] ++ (xst cI cJ ad v ++ xpl cI cJ ads vs N4)) s.heap := hP
  replace hD : va_D _ ([(h0, .inr (3, [.ref (ad 0), .ref hh, .ref ca])), (ca, .inl (cJ, 64, .inr (.inl cr))), (hh, .inr (1, [.ref ka, .int (nI nx), .int (nI sz)])), (ka, .inl (cS, 24, .inr (.inr (.inr (.inr fk)))))] ++ (xst cI cJ ad v ++ xpl cI cJ ads vs N4)) := hD
  refine lv_aload_n hx hb dX4_end_0 rfl (lv_at hl 0 rfl) ?_
  refine va_get (D := D) (ci := 3) (v := .ref (ad 0)) (C := RX4) (T := TX4) (N := 3) hx hb hts hiX4 hown hK hP 0 rfl rfl 0 (by decide) (hts (.fieldLink RX4 12 "PointerSweep" "now" "LPointerSweep$State;") (by decide +kernel)) (fun _ h9 => h9) rfl dX4_end_1 ?_
  refine va_get (D := D) (ci := 2) (v := .int (xb v.2.2.2.2.2.2.2.1)) (C := RX2) (T := TX2) (N := 10) hx hb hts hiX2 hown hK hP 4 rfl rfl 7 (by decide) (hts (.fieldLink RX4 105 "PointerSweep$State" "sweeping" "Z") (by decide +kernel)) (fun _ h9 => h9) rfl dX4_end_4 ?_
  refine lv_if_eq (tgt := 22) hx hb dX4_end_7 (by decide) (fun c_7 => ?_) (fun c_7 => ?_)
  · skip
    refine lv_bipush (v := (-2)) hx hb dX4_end_22 (by decide) ?_
    have e9 : sp_end v = (-2, none) := if_neg (fun z => x_bt c_7 z.1)
    exact xk_iretW hx hb hr hlk hP hS (by rw [e9]) (by rw [← hW1, e9]; rfl) dX4_end_24
  · skip
    refine lv_aload_n hx hb dX4_end_10 rfl (lv_at hl 0 rfl) ?_
    refine va_get (D := D) (ci := 3) (v := .ref (ad 0)) (C := RX4) (T := TX4) (N := 3) hx hb hts hiX4 hown hK hP 0 rfl rfl 0 (by decide) (hts (.fieldLink RX4 12 "PointerSweep" "now" "LPointerSweep$State;") (by decide +kernel)) (fun _ h9 => h9) rfl dX4_end_11 ?_
    refine va_get (D := D) (ci := 2) (v := .int (nI v.2.2.2.2.2.2.2.2.1)) (C := RX2) (T := TX2) (N := 10) hx hb hts hiX2 hown hK hP 4 rfl rfl 8 (by decide) (hts (.fieldLink RX4 116 "PointerSweep$State" "seenPages" "I") (by decide +kernel)) (fun _ h9 => h9) rfl dX4_end_14 ?_
    refine lv_bipush (v := 16) hx hb dX4_end_17 (by decide) ?_
    refine lv_icmp_ge (tgt := 25) hx hb dX4_end_19 (by decide) (fun c_19 => ?_) (fun c_19 => ?_)
    · skip
      refine lv_aload_n hx hb dX4_end_25 rfl (lv_at hl 0 rfl) ?_
      refine va_get (D := D) (ci := 3) (v := .ref hh) (C := RX4) (T := TX4) (N := 3) hx hb hts hiX4 hown hK hP 0 rfl rfl 1 (by decide) (hts (.fieldLink RX4 19 "PointerSweep" "history" "LPointerSweep$History;") (by decide +kernel)) (fun _ h9 => h9) rfl dX4_end_26 ?_
      refine lv_aload_n hx hb dX4_end_29 rfl (lv_at hl 0 rfl) ?_
      refine va_get (D := D) (ci := 3) (v := .ref (ad 0)) (C := RX4) (T := TX4) (N := 3) hx hb hts hiX4 hown hK hP 0 rfl rfl 0 (by decide) (hts (.fieldLink RX4 12 "PointerSweep" "now" "LPointerSweep$State;") (by decide +kernel)) (fun _ h9 => h9) rfl dX4_end_30 ?_
      refine xk_callS (X := [(h0, .inr (3, [.ref (ad 0), .ref hh, .ref ca])), (ca, .inl (cJ, 64, .inr (.inl cr)))]) (va_runV (As := [.ref (ad 0)]) (rest := []) ⟨hx, hb, hml, hown, hts⟩ (k_keep l D cI cJ cS hh ka fk ad ads v vs nx sz hka hnx hsz N4 h4) (cwV 1 hts gX4_end_X1_keep rfl rfl rfl (by decide +kernel) ⟨Nat.le_of_ble_eq_true rfl, Nat.le_of_ble_eq_true rfl⟩) (xk_preVs (X := [(h0, .inr (3, [.ref (ad 0), .ref hh, .ref ca])), (ca, .inl (cJ, 64, .inr (.inl cr)))]) hK hN hP hD (ci := 1) rfl 0 rfl) rfl rfl hl.1 rfl (lv_room (Nat.le_of_ble_eq_true rfl)) dX4_end_33 ⟨Nat.zero_le _, Nat.zero_le _⟩) hP hD hS (xh_fst _ _ _ _ _ _ _ _ _ _ _ _ _ _ _ _ _) (fun H locs hP hD hS => ?_)
      replace hP : va_P D vwCl ([(h0, .inr (3, [.ref (ad 0), .ref hh, .ref ca])), (ca, .inl (cJ, 64, .inr (.inl cr))), (hh, .inr (1, [.ref ka, .int (nI (x_nx nx)), .int (nI (x_sz sz))])), (ka, .inl (cS, 24, .inr (.inr (.inr (.inr fk)))))] ++ (xst cI cJ ad v ++ xpl cI cJ ads (va_up vs nx v) N4)) H := hP
      replace hD : va_D _ ([(h0, .inr (3, [.ref (ad 0), .ref hh, .ref ca])), (ca, .inl (cJ, 64, .inr (.inl cr))), (hh, .inr (1, [.ref ka, .int (nI (x_nx nx)), .int (nI (x_sz sz))])), (ka, .inl (cS, 24, .inr (.inr (.inr (.inr fk)))))] ++ (xst cI cJ ad v ++ xpl cI cJ ads (va_up vs nx v) N4)) := hD
      refine lv_aload_n hx hb dX4_end_36 rfl (lv_at hl 0 rfl) ?_
      refine va_get (D := D) (ci := 3) (v := .ref (ad 0)) (C := RX4) (T := TX4) (N := 3) hx hb hts hiX4 hown hK hP 0 rfl rfl 0 (by decide) (hts (.fieldLink RX4 12 "PointerSweep" "now" "LPointerSweep$State;") (by decide +kernel)) (fun _ h9 => h9) rfl dX4_end_37 ?_
      refine xk_callM (va_runV (As := []) (rest := []) ⟨hx, hb, hml, hown, hts⟩ (k_finishSweepF l D cI cJ cS ad v (x_ok_m hv) (x_ok_r hv)) (cwV 0 hts gX4_end_X2_finishSweep rfl rfl rfl (by decide +kernel) ⟨Nat.le_of_ble_eq_true rfl, Nat.le_of_ble_eq_true rfl⟩) (xk_preVm hK hN hP hD (ci := 2) rfl 0 rfl) rfl rfl hl.1 rfl (lv_room (Nat.le_of_ble_eq_true rfl)) dX4_end_40 ⟨Nat.zero_le _, Nat.zero_le _⟩) hP hD hS rfl (fun H locs hP hD hS => ?_)
      replace hP : va_P D vwCl ([(h0, .inr (3, [.ref (ad 0), .ref hh, .ref ca])), (ca, .inl (cJ, 64, .inr (.inl cr))), (hh, .inr (1, [.ref ka, .int (nI (x_nx nx)), .int (nI (x_sz sz))])), (ka, .inl (cS, 24, .inr (.inr (.inr (.inr fk)))))] ++ (xst cI cJ ad ((x_dm v.2.2.2.2.2.1 v.2.2.2.2.2.2.2.2.2 v.1 16), (x_cl v.2.2.2.2.2.1 v.2.1 0 8), (x_et v.2.2.2.2.2.1 v.2.2.2.2.2.2.2.2.2 v.1 v.2.1 v.2.2.1), v.2.2.2.1, (fun i => v.2.2.2.2.1 i && !v.2.2.2.2.2.1 i), (fun i => v.2.2.2.2.2.1 i && !v.2.2.2.2.2.1 i), v.2.2.2.2.2.2.1, false, 0, (fun _ => false)) ++ xpl cI cJ ads (va_up vs nx v) N4)) H := hP
      replace hD : va_D _ ([(h0, .inr (3, [.ref (ad 0), .ref hh, .ref ca])), (ca, .inl (cJ, 64, .inr (.inl cr))), (hh, .inr (1, [.ref ka, .int (nI (x_nx nx)), .int (nI (x_sz sz))])), (ka, .inl (cS, 24, .inr (.inr (.inr (.inr fk)))))] ++ (xst cI cJ ad ((x_dm v.2.2.2.2.2.1 v.2.2.2.2.2.2.2.2.2 v.1 16), (x_cl v.2.2.2.2.2.1 v.2.1 0 8), (x_et v.2.2.2.2.2.1 v.2.2.2.2.2.2.2.2.2 v.1 v.2.1 v.2.2.1), v.2.2.2.1, (fun i => v.2.2.2.2.1 i && !v.2.2.2.2.2.1 i), (fun i => v.2.2.2.2.2.1 i && !v.2.2.2.2.2.1 i), v.2.2.2.2.2.2.1, false, 0, (fun _ => false)) ++ xpl cI cJ ads (va_up vs nx v) N4)) := hD
      have e9 : sp_end v = (nI (xs_w v.2.2.2.2.2.1 0 256), some (x_end v)) := if_pos ⟨xb_ne c_7, xn_le_of (a := 16) (by decide) (by have := hv.2.2; omega) c_19⟩
      exact xk_iretW hx hb hr hlk hP hS (by rw [e9]) (by rw [← hW1, e9]; rfl) dX4_end_43
    · skip
      refine lv_bipush (v := (-2)) hx hb dX4_end_22 (by decide) ?_
      have e9 : sp_end v = (-2, none) := if_neg (fun z => c_19 (nI_le (a := 16) z.2 (by have := hv.2.2; omega)))
      exact xk_iretW hx hb hr hlk hP hS (by rw [e9]) (by rw [← hW1, e9]; rfl) dX4_end_24
set_option maxHeartbeats 4000000 in
set_option maxRecDepth 100000 in
theorem x_undo0 (l : Launch) (D : va_G) (cI cJ cS : ClassId) (h0 ca hh ka : Nat) (fk : Nat → Option Nat) (ad : Nat → Nat) (ads : Nat → Nat → Nat) (N4 : Nat) (h4 : N4 = 24) (cr : Nat → Int64) (v : xV) (vs : Nat → xV) (nx sz : Nat) (hka : ∀ i, i < 24 → fk i = some (ads i 0)) (hnx : nx < 24) (hsz : sz ≤ 24) (hv : x_ok v) (hs0 : sz = 0) : xk_Wr l yX4_undo wsX4_undo ({ frames := 4, cells := 0, slots := 0, locals := 123 }) D vwCl (xt cI cJ cS) (xx cI cJ cS h0 ca hh ka fk ad ads N4 cr v vs nx sz) [.ref h0] (xx cI cJ cS h0 ca hh ka fk ad ads N4 cr v vs nx sz) (some (.int (-2))) := by
  refine xk_wr2 (cc := cX4_undo) (maxL := 1) (ret := (some .int)) (by decide) rfl (Nat.le_of_ble_eq_true rfl) (fun p e s m below meth c ls W0v W1v hW1 hx hb hr hlk hml hown hts hl hP hK hN hD hS => ?_)
  replace hl : lv_has ls 1 [(0, .ref h0)] := hl
  have hiX1 : ∀ w ∈ u_ws RX1 TX1 3, w ∈ wsX4_undo := by decide +kernel
  have hiX4 : ∀ w ∈ u_ws RX4 TX4 3, w ∈ wsX4_undo := by decide +kernel
  replace hP : va_P D vwCl ([(h0, .inr (3, [.ref (ad 0), .ref hh, .ref ca])), (ca, .inl (cJ, 64, .inr (.inl cr))), (hh, .inr (1, [.ref ka, .int (nI nx), .int (nI sz)])), (ka, .inl (cS, 24, .inr (.inr (.inr (.inr fk)))))] ++ (xst cI cJ ad v ++ xpl cI cJ ads vs N4)) s.heap := hP
  replace hD : va_D _ ([(h0, .inr (3, [.ref (ad 0), .ref hh, .ref ca])), (ca, .inl (cJ, 64, .inr (.inl cr))), (hh, .inr (1, [.ref ka, .int (nI nx), .int (nI sz)])), (ka, .inl (cS, 24, .inr (.inr (.inr (.inr fk)))))] ++ (xst cI cJ ad v ++ xpl cI cJ ads vs N4)) := hD
  refine lv_aload_n hx hb dX4_undo_0 rfl (lv_at hl 0 rfl) ?_
  refine va_get (D := D) (ci := 3) (v := .ref hh) (C := RX4) (T := TX4) (N := 3) hx hb hts hiX4 hown hK hP 0 rfl rfl 1 (by decide) (hts (.fieldLink RX4 19 "PointerSweep" "history" "LPointerSweep$History;") (by decide +kernel)) (fun _ h9 => h9) rfl dX4_undo_1 ?_
  refine va_get (D := D) (ci := 1) (v := .int (nI sz)) (C := RX1) (T := TX1) (N := 3) hx hb hts hiX1 hown hK hP 2 rfl rfl 2 (by decide) (hts (.fieldLink RX4 167 "PointerSweep$History" "size" "I") (by decide +kernel)) (fun _ h9 => h9) rfl dX4_undo_4 ?_
  refine lv_if_ne (tgt := 13) hx hb dX4_undo_7 (by decide) (fun c_7 => ?_) (fun c_7 => ?_)
  · skip
    exact absurd (by rw [hs0]; rfl) c_7
  · skip
    refine lv_bipush (v := (-2)) hx hb dX4_undo_10 (by decide) ?_
    exact xk_iretW hx hb hr hlk hP hS rfl hW1 dX4_undo_12
set_option maxHeartbeats 4000000 in
set_option maxRecDepth 100000 in
theorem x_undo1 (l : Launch) (D : va_G) (cI cJ cS : ClassId) (h0 ca hh ka : Nat) (fk : Nat → Option Nat) (ad : Nat → Nat) (ads : Nat → Nat → Nat) (N4 : Nat) (h4 : N4 = 24) (cr : Nat → Int64) (v : xV) (vs : Nat → xV) (nx sz : Nat) (hka : ∀ i, i < 24 → fk i = some (ads i 0)) (hnx : nx < 24) (hsz : sz ≤ 24) (hv : x_ok v) (hs0 : 0 < sz) : xk_Wr l yX4_undo wsX4_undo ({ frames := 4, cells := 0, slots := 0, locals := 123 }) D vwCl (xt cI cJ cS) (xx cI cJ cS h0 ca hh ka fk ad ads N4 cr v vs nx sz) [.ref h0] (xx cI cJ cS h0 ca hh ka fk ad ads N4 cr (vs (x_pv nx)) vs (x_pv nx) (sz - 1)) (some (.int 1)) := by
  refine xk_wr2 (cc := cX4_undo) (maxL := 1) (ret := (some .int)) (by decide) rfl (Nat.le_of_ble_eq_true rfl) (fun p e s m below meth c ls W0v W1v hW1 hx hb hr hlk hml hown hts hl hP hK hN hD hS => ?_)
  replace hl : lv_has ls 1 [(0, .ref h0)] := hl
  have hiX1 : ∀ w ∈ u_ws RX1 TX1 3, w ∈ wsX4_undo := by decide +kernel
  have hiX4 : ∀ w ∈ u_ws RX4 TX4 3, w ∈ wsX4_undo := by decide +kernel
  replace hP : va_P D vwCl ([(h0, .inr (3, [.ref (ad 0), .ref hh, .ref ca])), (ca, .inl (cJ, 64, .inr (.inl cr))), (hh, .inr (1, [.ref ka, .int (nI nx), .int (nI sz)])), (ka, .inl (cS, 24, .inr (.inr (.inr (.inr fk)))))] ++ (xst cI cJ ad v ++ xpl cI cJ ads vs N4)) s.heap := hP
  replace hD : va_D _ ([(h0, .inr (3, [.ref (ad 0), .ref hh, .ref ca])), (ca, .inl (cJ, 64, .inr (.inl cr))), (hh, .inr (1, [.ref ka, .int (nI nx), .int (nI sz)])), (ka, .inl (cS, 24, .inr (.inr (.inr (.inr fk)))))] ++ (xst cI cJ ad v ++ xpl cI cJ ads vs N4)) := hD
  refine lv_aload_n hx hb dX4_undo_0 rfl (lv_at hl 0 rfl) ?_
  refine va_get (D := D) (ci := 3) (v := .ref hh) (C := RX4) (T := TX4) (N := 3) hx hb hts hiX4 hown hK hP 0 rfl rfl 1 (by decide) (hts (.fieldLink RX4 19 "PointerSweep" "history" "LPointerSweep$History;") (by decide +kernel)) (fun _ h9 => h9) rfl dX4_undo_1 ?_
  refine va_get (D := D) (ci := 1) (v := .int (nI sz)) (C := RX1) (T := TX1) (N := 3) hx hb hts hiX1 hown hK hP 2 rfl rfl 2 (by decide) (hts (.fieldLink RX4 167 "PointerSweep$History" "size" "I") (by decide +kernel)) (fun _ h9 => h9) rfl dX4_undo_4 ?_
  refine lv_if_ne (tgt := 13) hx hb dX4_undo_7 (by decide) (fun c_7 => ?_) (fun c_7 => ?_)
  · skip
    refine lv_aload_n hx hb dX4_undo_13 rfl (lv_at hl 0 rfl) ?_
    refine va_get (D := D) (ci := 3) (v := .ref hh) (C := RX4) (T := TX4) (N := 3) hx hb hts hiX4 hown hK hP 0 rfl rfl 1 (by decide) (hts (.fieldLink RX4 19 "PointerSweep" "history" "LPointerSweep$History;") (by decide +kernel)) (fun _ h9 => h9) rfl dX4_undo_14 ?_
    refine lv_aload_n hx hb dX4_undo_17 rfl (lv_at hl 0 rfl) ?_
    refine va_get (D := D) (ci := 3) (v := .ref (ad 0)) (C := RX4) (T := TX4) (N := 3) hx hb hts hiX4 hown hK hP 0 rfl rfl 0 (by decide) (hts (.fieldLink RX4 12 "PointerSweep" "now" "LPointerSweep$State;") (by decide +kernel)) (fun _ h9 => h9) rfl dX4_undo_18 ?_
    refine xk_callS (X := [(h0, .inr (3, [.ref (ad 0), .ref hh, .ref ca])), (ca, .inl (cJ, 64, .inr (.inl cr)))]) (va_runV (As := [.ref (ad 0)]) (rest := []) ⟨hx, hb, hml, hown, hts⟩ (k_takeBack l D cI cJ cS hh ka fk ad ads v vs nx sz hka hnx hsz N4 h4 hs0) (cwV 1 hts gX4_undo_X1_takeBack rfl rfl rfl (by decide +kernel) ⟨Nat.le_of_ble_eq_true rfl, Nat.le_of_ble_eq_true rfl⟩) (xk_preVs (X := [(h0, .inr (3, [.ref (ad 0), .ref hh, .ref ca])), (ca, .inl (cJ, 64, .inr (.inl cr)))]) hK hN hP hD (ci := 1) rfl 0 rfl) rfl rfl hl.1 rfl (lv_room (Nat.le_of_ble_eq_true rfl)) dX4_undo_21 ⟨Nat.zero_le _, Nat.zero_le _⟩) hP hD hS (xh_fst _ _ _ _ _ _ _ _ _ _ _ _ _ _ _ _ _) (fun H locs hP hD hS => ?_)
    replace hP : va_P D vwCl ([(h0, .inr (3, [.ref (ad 0), .ref hh, .ref ca])), (ca, .inl (cJ, 64, .inr (.inl cr))), (hh, .inr (1, [.ref ka, .int (nI (x_pv nx)), .int (nI (sz - 1))])), (ka, .inl (cS, 24, .inr (.inr (.inr (.inr fk)))))] ++ (xst cI cJ ad (((vs (x_pv nx)).1), ((vs (x_pv nx)).2.1), ((vs (x_pv nx)).2.2.1), ((vs (x_pv nx)).2.2.2.1), ((vs (x_pv nx)).2.2.2.2.1), ((vs (x_pv nx)).2.2.2.2.2.1), ((vs (x_pv nx)).2.2.2.2.2.2.1), ((vs (x_pv nx)).2.2.2.2.2.2.2.1), ((vs (x_pv nx)).2.2.2.2.2.2.2.2.1), ((vs (x_pv nx)).2.2.2.2.2.2.2.2.2)) ++ xpl cI cJ ads vs N4)) H := hP
    replace hD : va_D _ ([(h0, .inr (3, [.ref (ad 0), .ref hh, .ref ca])), (ca, .inl (cJ, 64, .inr (.inl cr))), (hh, .inr (1, [.ref ka, .int (nI (x_pv nx)), .int (nI (sz - 1))])), (ka, .inl (cS, 24, .inr (.inr (.inr (.inr fk)))))] ++ (xst cI cJ ad (((vs (x_pv nx)).1), ((vs (x_pv nx)).2.1), ((vs (x_pv nx)).2.2.1), ((vs (x_pv nx)).2.2.2.1), ((vs (x_pv nx)).2.2.2.2.1), ((vs (x_pv nx)).2.2.2.2.2.1), ((vs (x_pv nx)).2.2.2.2.2.2.1), ((vs (x_pv nx)).2.2.2.2.2.2.2.1), ((vs (x_pv nx)).2.2.2.2.2.2.2.2.1), ((vs (x_pv nx)).2.2.2.2.2.2.2.2.2)) ++ xpl cI cJ ads vs N4)) := hD
    refine lv_iconst (v := 1) hx hb dX4_undo_24 (by decide) ?_
    exact xk_iretW hx hb hr hlk hP hS rfl hW1 dX4_undo_25
  · skip
    exact absurd c_7 (nI_ne0 hs0 (by omega))
set_option maxHeartbeats 4000000 in
set_option maxRecDepth 100000 in
theorem x_give (l : Launch) (D : va_G) (cI cJ cS : ClassId) (h0 ca hh ka : Nat) (fk : Nat → Option Nat) (ad : Nat → Nat) (ads : Nat → Nat → Nat) (N4 : Nat) (h4 : N4 = 24) (cr : Nat → Int64) (v : xV) (vs : Nat → xV) (nx sz : Nat) (hka : ∀ i, i < 24 → fk i = some (ads i 0)) (hnx : nx < 24) (hsz : sz ≤ 24) (hv : x_ok v) (r n : Int32) : xk_Wr l yX4_give wsX4_give ({ frames := 4, cells := 0, slots := 0, locals := 123 }) D vwCl (xt cI cJ cS) (xx cI cJ cS h0 ca hh ka fk ad ads N4 cr v vs nx sz) [.ref h0, .int r, .int n] (xxo cI cJ cS h0 ca hh ka fk ad ads N4 cr v vs nx sz (sp_give v r n).2) (some (.int (sp_give v r n).1)) := by
  refine xk_wr2 (cc := cX4_give) (maxL := 4) (ret := (some .int)) (by decide) rfl (Nat.le_of_ble_eq_true rfl) (fun p e s m below meth c ls W0v W1v hW1 hx hb hr hlk hml hown hts hl hP hK hN hD hS => ?_)
  replace hl : lv_has ls 4 [(0, .ref h0), (1, .int r), (2, .int n)] := hl
  have hiX2 : ∀ w ∈ u_ws RX2 TX2 10, w ∈ wsX4_give := by decide +kernel
  have hiX4 : ∀ w ∈ u_ws RX4 TX4 3, w ∈ wsX4_give := by decide +kernel
  replace hP : va_P D vwCl ([(h0, .inr (3, [.ref (ad 0), .ref hh, .ref ca])), (ca, .inl (cJ, 64, .inr (.inl cr))), (hh, .inr (1, [.ref ka, .int (nI nx), .int (nI sz)])), (ka, .inl (cS, 24, .inr (.inr (.inr (.inr fk)))))] ++ (xst cI cJ ad v ++ xpl cI cJ ads vs N4)) s.heap := hP
  replace hD : va_D _ ([(h0, .inr (3, [.ref (ad 0), .ref hh, .ref ca])), (ca, .inl (cJ, 64, .inr (.inl cr))), (hh, .inr (1, [.ref ka, .int (nI nx), .int (nI sz)])), (ka, .inl (cS, 24, .inr (.inr (.inr (.inr fk)))))] ++ (xst cI cJ ad v ++ xpl cI cJ ads vs N4)) := hD
  refine lv_iload_n hx hb dX4_give_0 rfl (lv_at hl 1 rfl) ?_
  refine xk_callR (va_runS (As := [.int r]) (rest := []) ⟨hx, hb, hml, hown, hts⟩ (k_isRegister l D cI cJ cS r) (va_cwS 1 hts gX4_give_X4_isRegister rfl rfl rfl (by decide +kernel) ⟨Nat.le_of_ble_eq_true rfl, Nat.le_of_ble_eq_true rfl⟩) (xk_preSr hK hN hP [] rfl) rfl rfl hl.1 rfl (lv_room (Nat.le_of_ble_eq_true rfl)) dX4_give_1 ⟨Nat.zero_le _, Nat.zero_le _⟩) ?_
  refine lv_if_eq (tgt := 18) hx hb dX4_give_4 (by decide) (fun c_4 => ?_) (fun c_4 => ?_)
  · skip
    refine lv_iconst (v := (-1)) hx hb dX4_give_18 (by decide) ?_
    have e9 : sp_give v r n = (-1, none) := if_neg (fun z => x_bt c_4 z.1)
    exact xk_iretW hx hb hr hlk hP hS (by rw [e9]) (by rw [← hW1, e9]; rfl) dX4_give_19
  · skip
    refine lv_iload_n hx hb dX4_give_7 rfl (lv_at hl 2 rfl) ?_
    refine lv_iconst (v := 1) hx hb dX4_give_8 (by decide) ?_
    refine lv_icmp_lt (tgt := 18) hx hb dX4_give_9 (by decide) (fun c_9 => ?_) (fun c_9 => ?_)
    · skip
      refine lv_iconst (v := (-1)) hx hb dX4_give_18 (by decide) ?_
      have e9 : sp_give v r n = (-1, none) := if_neg (fun z => z.2.1 c_9)
      exact xk_iretW hx hb hr hlk hP hS (by rw [e9]) (by rw [← hW1, e9]; rfl) dX4_give_19
    · skip
      refine lv_iload_n hx hb dX4_give_12 rfl (lv_at hl 2 rfl) ?_
      refine lv_bipush (v := 64) hx hb dX4_give_13 (by decide) ?_
      refine lv_icmp_le (tgt := 20) hx hb dX4_give_15 (by decide) (fun c_15 => ?_) (fun c_15 => ?_)
      · skip
        refine lv_aload_n hx hb dX4_give_20 rfl (lv_at hl 0 rfl) ?_
        refine va_get (D := D) (ci := 3) (v := .ref (ad 0)) (C := RX4) (T := TX4) (N := 3) hx hb hts hiX4 hown hK hP 0 rfl rfl 0 (by decide) (hts (.fieldLink RX4 12 "PointerSweep" "now" "LPointerSweep$State;") (by decide +kernel)) (fun _ h9 => h9) rfl dX4_give_21 ?_
        refine lv_iload_n hx hb dX4_give_24 rfl (lv_at hl 2 rfl) ?_
        refine xk_callR (va_runV (As := [.int n]) (rest := []) ⟨hx, hb, hml, hown, hts⟩ (k_firstFreeRowF l D cI cJ cS ad v n) (cwV 1 hts gX4_give_X2_firstFreeRow rfl rfl rfl (by decide +kernel) ⟨Nat.le_of_ble_eq_true rfl, Nat.le_of_ble_eq_true rfl⟩) (xk_preVmr hK hN hP (ci := 2) rfl 0 rfl) rfl rfl hl.1 rfl (lv_room (Nat.le_of_ble_eq_true rfl)) dX4_give_25 ⟨Nat.zero_le _, Nat.zero_le _⟩) ?_
        refine lv_istore_n (lv' := [(3, .int (x_ffr (xu v.2.2.2.1 v.2.2.2.2.1) n 256 0 0)), (0, .ref h0), (1, .int r), (2, .int n)]) hx hb dX4_give_28 rfl hl (by decide) rfl (fun ls hl => ?_)
        refine lv_iload_n hx hb dX4_give_29 rfl (lv_at hl 0 rfl) ?_
        refine lv_if_ge (tgt := 36) hx hb dX4_give_30 (by decide) (fun c_30 => ?_) (fun c_30 => ?_)
        · skip
          obtain ⟨rk, hrk, er⟩ := xi_of (xb_ne c_4)
          have hxr : xN r = rk := by rw [er]; exact xN_nI (by omega)
          obtain ⟨nk, hn1, hn2, en, hxn⟩ := x_1n (M := 64) (m := 64) rfl c_9 c_15
          obtain ⟨fj, hfj, ef⟩ := x_ffr_in en hn1 hn2 c_30
          rw [ef, en, er] at hl
          refine lv_aload_n hx hb dX4_give_36 rfl (lv_at hl 1 rfl) ?_
          refine va_get (D := D) (ci := 3) (v := .ref hh) (C := RX4) (T := TX4) (N := 3) hx hb hts hiX4 hown hK hP 0 rfl rfl 1 (by decide) (hts (.fieldLink RX4 19 "PointerSweep" "history" "LPointerSweep$History;") (by decide +kernel)) (fun _ h9 => h9) rfl dX4_give_37 ?_
          refine lv_aload_n hx hb dX4_give_40 rfl (lv_at hl 1 rfl) ?_
          refine va_get (D := D) (ci := 3) (v := .ref (ad 0)) (C := RX4) (T := TX4) (N := 3) hx hb hts hiX4 hown hK hP 0 rfl rfl 0 (by decide) (hts (.fieldLink RX4 12 "PointerSweep" "now" "LPointerSweep$State;") (by decide +kernel)) (fun _ h9 => h9) rfl dX4_give_41 ?_
          refine xk_callS (X := [(h0, .inr (3, [.ref (ad 0), .ref hh, .ref ca])), (ca, .inl (cJ, 64, .inr (.inl cr)))]) (va_runV (As := [.ref (ad 0)]) (rest := []) ⟨hx, hb, hml, hown, hts⟩ (k_keep l D cI cJ cS hh ka fk ad ads v vs nx sz hka hnx hsz N4 h4) (cwV 1 hts gX4_give_X1_keep rfl rfl rfl (by decide +kernel) ⟨Nat.le_of_ble_eq_true rfl, Nat.le_of_ble_eq_true rfl⟩) (xk_preVs (X := [(h0, .inr (3, [.ref (ad 0), .ref hh, .ref ca])), (ca, .inl (cJ, 64, .inr (.inl cr)))]) hK hN hP hD (ci := 1) rfl 0 rfl) rfl rfl hl.1 rfl (lv_room (Nat.le_of_ble_eq_true rfl)) dX4_give_44 ⟨Nat.zero_le _, Nat.zero_le _⟩) hP hD hS (xh_fst _ _ _ _ _ _ _ _ _ _ _ _ _ _ _ _ _) (fun H locs hP hD hS => ?_)
          replace hP : va_P D vwCl ([(h0, .inr (3, [.ref (ad 0), .ref hh, .ref ca])), (ca, .inl (cJ, 64, .inr (.inl cr))), (hh, .inr (1, [.ref ka, .int (nI (x_nx nx)), .int (nI (x_sz sz))])), (ka, .inl (cS, 24, .inr (.inr (.inr (.inr fk)))))] ++ (xst cI cJ ad v ++ xpl cI cJ ads (va_up vs nx v) N4)) H := hP
          replace hD : va_D _ ([(h0, .inr (3, [.ref (ad 0), .ref hh, .ref ca])), (ca, .inl (cJ, 64, .inr (.inl cr))), (hh, .inr (1, [.ref ka, .int (nI (x_nx nx)), .int (nI (x_sz sz))])), (ka, .inl (cS, 24, .inr (.inr (.inr (.inr fk)))))] ++ (xst cI cJ ad v ++ xpl cI cJ ads (va_up vs nx v) N4)) := hD
          refine lv_aload_n hx hb dX4_give_47 rfl (lv_at hl 1 rfl) ?_
          refine va_get (D := D) (ci := 3) (v := .ref (ad 0)) (C := RX4) (T := TX4) (N := 3) hx hb hts hiX4 hown hK hP 0 rfl rfl 0 (by decide) (hts (.fieldLink RX4 12 "PointerSweep" "now" "LPointerSweep$State;") (by decide +kernel)) (fun _ h9 => h9) rfl dX4_give_48 ?_
          refine lv_iload_n hx hb dX4_give_51 rfl (lv_at hl 0 rfl) ?_
          refine lv_iload_n hx hb dX4_give_52 rfl (lv_at hl 0 rfl) ?_
          refine lv_iload_n hx hb dX4_give_53 rfl (lv_at hl 3 rfl) ?_
          refine lv_iadd hx hb dX4_give_54 ?_
          refine lv_topi (fun y ey => ?_)
          obtain rfl : y = nI (fj + nk) := ey.trans (nI_add _ _)
          refine xk_callM (va_runV (As := [.int (nI fj), .int (nI (fj + nk))]) (rest := []) ⟨hx, hb, hml, hown, hts⟩ (k_giveOutF l D cI cJ cS ad v fj (fj + nk) (by omega) (by omega) (by omega)) (cwV 2 hts gX4_give_X2_giveOut rfl rfl rfl (by decide +kernel) ⟨Nat.le_of_ble_eq_true rfl, Nat.le_of_ble_eq_true rfl⟩) (xk_preVm hK hN hP hD (ci := 2) rfl 0 rfl) rfl rfl hl.1 rfl (lv_room (Nat.le_of_ble_eq_true rfl)) dX4_give_55 ⟨Nat.zero_le _, Nat.zero_le _⟩) hP hD hS rfl (fun H locs hP hD hS => ?_)
          replace hP : va_P D vwCl ([(h0, .inr (3, [.ref (ad 0), .ref hh, .ref ca])), (ca, .inl (cJ, 64, .inr (.inl cr))), (hh, .inr (1, [.ref ka, .int (nI (x_nx nx)), .int (nI (x_sz sz))])), (ka, .inl (cS, 24, .inr (.inr (.inr (.inr fk)))))] ++ (xst cI cJ ad ((x_clr v.1 fj (fj + nk)), v.2.1, v.2.2.1, (x_add v.2.2.2.1 fj (fj + nk)), v.2.2.2.2.1, v.2.2.2.2.2.1, (va_up v.2.2.2.2.2.2.1 fj true), v.2.2.2.2.2.2.2.1, v.2.2.2.2.2.2.2.2.1, v.2.2.2.2.2.2.2.2.2) ++ xpl cI cJ ads (va_up vs nx v) N4)) H := hP
          replace hD : va_D _ ([(h0, .inr (3, [.ref (ad 0), .ref hh, .ref ca])), (ca, .inl (cJ, 64, .inr (.inl cr))), (hh, .inr (1, [.ref ka, .int (nI (x_nx nx)), .int (nI (x_sz sz))])), (ka, .inl (cS, 24, .inr (.inr (.inr (.inr fk)))))] ++ (xst cI cJ ad ((x_clr v.1 fj (fj + nk)), v.2.1, v.2.2.1, (x_add v.2.2.2.1 fj (fj + nk)), v.2.2.2.2.1, v.2.2.2.2.2.1, (va_up v.2.2.2.2.2.2.1 fj true), v.2.2.2.2.2.2.2.1, v.2.2.2.2.2.2.2.2.1, v.2.2.2.2.2.2.2.2.2) ++ xpl cI cJ ads (va_up vs nx v) N4)) := hD
          refine lv_aload_n hx hb dX4_give_58 rfl (lv_at hl 1 rfl) ?_
          refine va_get (D := D) (ci := 3) (v := .ref (ad 0)) (C := RX4) (T := TX4) (N := 3) hx hb hts hiX4 hown hK hP 0 rfl rfl 0 (by decide) (hts (.fieldLink RX4 12 "PointerSweep" "now" "LPointerSweep$State;") (by decide +kernel)) (fun _ h9 => h9) rfl dX4_give_59 ?_
          refine va_get (D := D) (ci := 2) (v := .ref (ad 2)) (C := RX2) (T := TX2) (N := 10) hx hb hts hiX2 hown hK hP 4 rfl rfl 1 (by decide) (hts (.fieldLink RX4 43 "PointerSweep$State" "registers" "[J") (by decide +kernel)) (fun _ h9 => h9) rfl dX4_give_62 ?_
          refine lv_iload_n hx hb dX4_give_65 rfl (lv_at hl 2 rfl) ?_
          refine lv_iload_n hx hb dX4_give_66 rfl (lv_at hl 0 rfl) ?_
          refine lv_iload_n hx hb dX4_give_67 rfl (lv_at hl 0 rfl) ?_
          refine lv_iload_n hx hb dX4_give_68 rfl (lv_at hl 3 rfl) ?_
          refine lv_iadd hx hb dX4_give_69 ?_
          refine lv_topi (fun y ey => ?_)
          obtain rfl : y = nI (fj + nk) := ey.trans (nI_add _ _)
          refine lv_iload_n hx hb dX4_give_70 rfl (lv_at hl 0 rfl) ?_
          refine lv_iconst (v := 3) hx hb dX4_give_71 (by decide) ?_
          refine xk_callR (va_runS (As := [.int (nI fj), .int (nI (fj + nk)), .int (nI fj), .int 3]) (rest := [.int (nI rk), .ref (ad 2)]) ⟨hx, hb, hml, hown, hts⟩ (k_ofPointer l D cI cJ cS fj (fj + nk) (nI fj) 3 (by omega) (by omega) (by decide)) (va_cwS 4 hts gX4_give_X3_ofPointer rfl rfl rfl (by decide +kernel) ⟨Nat.le_of_ble_eq_true rfl, Nat.le_of_ble_eq_true rfl⟩) (xk_preSr hK hN hP [] rfl) rfl rfl hl.1 rfl (lv_room (Nat.le_of_ble_eq_true rfl)) dX4_give_72 ⟨Nat.zero_le _, Nat.zero_le _⟩) ?_
          refine xa_lastW (w := ((nI fj), some (fj, (fj + nk), 3))) (ws' := [(h0, .inr (3, [.ref (ad 0), .ref hh, .ref ca])), (ca, .inl (cJ, 64, .inr (.inl cr))), (hh, .inr (1, [.ref ka, .int (nI (x_nx nx)), .int (nI (x_sz sz))])), (ka, .inl (cS, 24, .inr (.inr (.inr (.inr fk)))))] ++ (xst cI cJ ad ((x_clr v.1 fj (fj + nk)), (va_up v.2.1 rk ((nI fj), some (fj, (fj + nk), 3))), v.2.2.1, (x_add v.2.2.2.1 fj (fj + nk)), v.2.2.2.2.1, v.2.2.2.2.2.1, (va_up v.2.2.2.2.2.2.1 fj true), v.2.2.2.2.2.2.2.1, v.2.2.2.2.2.2.2.2.1, v.2.2.2.2.2.2.2.2.2) ++ xpl cI cJ ads (va_up vs nx v) N4)) hx hb hK hP hD hS 6 1 rfl rfl rk rfl hrk (by decide) dX4_give_75 rfl (fun H locs hP hD hS => ?_)
          refine lv_iload_n hx hb dX4_give_76 rfl (lv_at hl 0 rfl) ?_
          have e9 : sp_give v r n = (nI fj, some (x_giv v rk fj nk)) := (by unfold sp_give; rw [if_pos ⟨xb_ne c_4, c_9, c_15⟩, if_neg (x_ge0 c_30), ef, hxr, hxn, xN_nI (by omega)])
          exact xk_iretW hx hb hr hlk hP hS (by rw [e9]) (by rw [← hW1, e9]; rfl) dX4_give_77
        · skip
          refine lv_bipush (v := (-3)) hx hb dX4_give_33 (by decide) ?_
          have e9 : sp_give v r n = (-3, none) := (by unfold sp_give; rw [if_pos ⟨xb_ne c_4, c_9, c_15⟩, if_pos (x_lt0 c_30)])
          exact xk_iretW hx hb hr hlk hP hS (by rw [e9]) (by rw [← hW1, e9]; rfl) dX4_give_35
      · skip
        refine lv_iconst (v := (-1)) hx hb dX4_give_18 (by decide) ?_
        have e9 : sp_give v r n = (-1, none) := if_neg (fun z => c_15 z.2.2)
        exact xk_iretW hx hb hr hlk hP hS (by rw [e9]) (by rw [← hW1, e9]; rfl) dX4_give_19
