set_option maxHeartbeats 4000000 in
set_option maxRecDepth 100000 in
theorem x_blockc (l : Launch) (D : va_G) (cI cJ cS : ClassId) (h0 ca hh ka : Nat) (fk : Nat → Option Nat) (ad : Nat → Nat) (ads : Nat → Nat → Nat) (N4 : Nat) (h4 : N4 = 24) (cr : Nat → Int64) (v : xV) (vs : Nat → xV) (nx sz : Nat) (hka : ∀ i, i < 24 → fk i = some (ads i 0)) (hnx : nx < 24) (hsz : sz ≤ 24) (hv : x_ok v) (q d t g n : Int32) : xk_Wr l yX4_block wsX4_block ({ frames := 5, cells := 0, slots := 0, locals := 123 }) D vwCl (xt cI cJ cS) (xx cI cJ cS h0 ca hh ka fk ad ads N4 cr v vs nx sz) [.ref h0, .int q, .int d, .int t, .int g, .int n] (xxo cI cJ cS h0 ca hh ka fk ad ads N4 (if (sp_block v q d t g n).2.isSome = true then x_crr v.2.2.2.2.2.1 v.1 (xN ((v.2.1 (xN t)).1 + g)) cr (xN n) else cr) v vs nx sz (sp_block v q d t g n).2) (some (.int (sp_block v q d t g n).1)) := by
  refine xk_wr2 (cc := cX4_block) (maxL := 11) (ret := (some .int)) (by decide) rfl (Nat.le_of_ble_eq_true rfl) (fun p e s m below meth c ls W0v W1v hW1 hx hb hr hlk hml hown hts hl hP hK hN hD hS => ?_)
  replace hl : lv_has ls 11 [(0, .ref h0), (1, .int q), (2, .int d), (3, .int t), (4, .int g), (5, .int n)] := hl
  have hiX2 : ∀ w ∈ u_ws RX2 TX2 10, w ∈ wsX4_block := by decide +kernel
  have hiX4 : ∀ w ∈ u_ws RX4 TX4 3, w ∈ wsX4_block := by decide +kernel
  replace hP : va_P D vwCl ([(h0, .inr (3, [.ref (ad 0), .ref hh, .ref ca])), (ca, .inl (cJ, 64, .inr (.inl cr))), (hh, .inr (1, [.ref ka, .int (nI nx), .int (nI sz)])), (ka, .inl (cS, 24, .inr (.inr (.inr (.inr fk)))))] ++ (xst cI cJ ad v ++ xpl cI cJ ads vs N4)) s.heap := hP
  replace hD : va_D _ ([(h0, .inr (3, [.ref (ad 0), .ref hh, .ref ca])), (ca, .inl (cJ, 64, .inr (.inl cr))), (hh, .inr (1, [.ref ka, .int (nI nx), .int (nI sz)])), (ka, .inl (cS, 24, .inr (.inr (.inr (.inr fk)))))] ++ (xst cI cJ ad v ++ xpl cI cJ ads vs N4)) := hD
  refine lv_iload_n hx hb dX4_block_0 rfl (lv_at hl 1 rfl) ?_
  refine xk_callR (va_runS (As := [.int q]) (rest := []) ⟨hx, hb, hml, hown, hts⟩ (k_isRegister l D cI cJ cS q) (va_cwS 1 hts gX4_block_X4_isRegister rfl rfl rfl (by decide +kernel) ⟨Nat.le_of_ble_eq_true rfl, Nat.le_of_ble_eq_true rfl⟩) (xk_preSr hK hN hP [] rfl) rfl rfl hl.1 rfl (lv_room (Nat.le_of_ble_eq_true rfl)) dX4_block_1 ⟨Nat.zero_le _, Nat.zero_le _⟩) ?_
  refine lv_if_eq (tgt := 27) hx hb dX4_block_4 (by decide) (fun c_4 => ?_) (fun c_4 => ?_)
  · skip
    refine lv_iconst (v := (-1)) hx hb dX4_block_27 (by decide) ?_
    have e9 : sp_block v q d t g n = (-1, none) := if_neg (fun z => x_bt c_4 z.1)
    exact xk_iretW hx hb hr hlk hP hS (by rw [e9]) (by rw [← hW1, e9]; rfl) dX4_block_28
  · skip
    refine lv_iload_n hx hb dX4_block_7 rfl (lv_at hl 3 rfl) ?_
    refine xk_callR (va_runS (As := [.int t]) (rest := []) ⟨hx, hb, hml, hown, hts⟩ (k_isRegister l D cI cJ cS t) (va_cwS 1 hts gX4_block_X4_isRegister rfl rfl rfl (by decide +kernel) ⟨Nat.le_of_ble_eq_true rfl, Nat.le_of_ble_eq_true rfl⟩) (xk_preSr hK hN hP [] rfl) rfl rfl hl.1 rfl (lv_room (Nat.le_of_ble_eq_true rfl)) dX4_block_8 ⟨Nat.zero_le _, Nat.zero_le _⟩) ?_
    refine lv_if_eq (tgt := 27) hx hb dX4_block_11 (by decide) (fun c_11 => ?_) (fun c_11 => ?_)
    · skip
      refine lv_iconst (v := (-1)) hx hb dX4_block_27 (by decide) ?_
      have e9 : sp_block v q d t g n = (-1, none) := if_neg (fun z => x_bt c_11 z.2.1)
      exact xk_iretW hx hb hr hlk hP hS (by rw [e9]) (by rw [← hW1, e9]; rfl) dX4_block_28
    · skip
      refine lv_iload hx hb dX4_block_14 (lv_at hl 5 rfl) ?_
      refine lv_iconst (v := 1) hx hb dX4_block_16 (by decide) ?_
      refine lv_icmp_lt (tgt := 27) hx hb dX4_block_17 (by decide) (fun c_17 => ?_) (fun c_17 => ?_)
      · skip
        refine lv_iconst (v := (-1)) hx hb dX4_block_27 (by decide) ?_
        have e9 : sp_block v q d t g n = (-1, none) := if_neg (fun z => z.2.2.1 c_17)
        exact xk_iretW hx hb hr hlk hP hS (by rw [e9]) (by rw [← hW1, e9]; rfl) dX4_block_28
      · skip
        refine lv_iload hx hb dX4_block_20 (lv_at hl 5 rfl) ?_
        refine lv_bipush (v := 64) hx hb dX4_block_22 (by decide) ?_
        refine lv_icmp_le (tgt := 29) hx hb dX4_block_24 (by decide) (fun c_24 => ?_) (fun c_24 => ?_)
        · skip
          obtain ⟨qk, hqk, eq⟩ := xi_of (xb_ne c_4)
          have hxq : xN q = qk := by rw [eq]; exact xN_nI (by omega)
          obtain ⟨tk, htk, et⟩ := xi_of (xb_ne c_11)
          have hxt : xN t = tk := by rw [et]; exact xN_nI (by omega)
          refine lv_aload_n hx hb dX4_block_29 rfl (lv_at hl 0 rfl) ?_
          refine va_get (D := D) (ci := 3) (v := .ref (ad 0)) (C := RX4) (T := TX4) (N := 3) hx hb hts hiX4 hown hK hP 0 rfl rfl 0 (by decide) (hts (.fieldLink RX4 12 "PointerSweep" "now" "LPointerSweep$State;") (by decide +kernel)) (fun _ h9 => h9) rfl dX4_block_30 ?_
          refine va_get (D := D) (ci := 2) (v := .ref (ad 2)) (C := RX2) (T := TX2) (N := 10) hx hb hts hiX2 hown hK hP 4 rfl rfl 1 (by decide) (hts (.fieldLink RX4 43 "PointerSweep$State" "registers" "[J") (by decide +kernel)) (fun _ h9 => h9) rfl dX4_block_33 ?_
          refine lv_iload_n hx hb dX4_block_36 rfl (lv_at hl 1 rfl) ?_
          refine xa_lald hx hb hK hP 6 1 rfl rfl qk eq hqk (by decide) dX4_block_37 ?_
          refine lv_lstore (lv' := [(6, .long (xw_enc (v.2.1 qk))), (0, .ref h0), (1, .int q), (2, .int d), (3, .int t), (4, .int g), (5, .int n)]) hx hb dX4_block_38 hl (by decide) rfl (fun ls hl => ?_)
          refine lv_lload hx hb dX4_block_40 (lv_at hl 0 rfl) ?_
          refine lv_iconst (v := 2) hx hb dX4_block_42 (by decide) ?_
          refine lv_iload_n hx hb dX4_block_43 rfl (lv_at hl 3 rfl) ?_
          refine lv_iload hx hb dX4_block_44 (lv_at hl 6 rfl) ?_
          refine xk_callR (va_runS (As := [.long (xw_enc (v.2.1 qk)), .int 2, .int d, .int n]) (rest := []) ⟨hx, hb, hml, hown, hts⟩ (k_faultOf l D cI cJ cS (v.2.1 qk) ((x_ok_r hv) qk) 2 d n) (va_cwS 4 hts gX4_block_X4_faultOf rfl rfl rfl (by decide +kernel) ⟨Nat.le_of_ble_eq_true rfl, Nat.le_of_ble_eq_true rfl⟩) (xk_preSr hK hN hP [] rfl) rfl rfl hl.1 rfl (lv_room (Nat.le_of_ble_eq_true rfl)) dX4_block_46 ⟨Nat.zero_le _, Nat.zero_le _⟩) ?_
          refine lv_istore (lv' := [(8, .int (x_fault (v.2.1 qk) 2 d n)), (6, .long (xw_enc (v.2.1 qk))), (0, .ref h0), (1, .int q), (2, .int d), (3, .int t), (4, .int g), (5, .int n)]) hx hb dX4_block_49 hl (by decide) rfl (fun ls hl => ?_)
          refine lv_iload hx hb dX4_block_51 (lv_at hl 0 rfl) ?_
          refine lv_if_eq (tgt := 59) hx hb dX4_block_53 (by decide) (fun c_53 => ?_) (fun c_53 => ?_)
          · skip
            refine lv_aload_n hx hb dX4_block_59 rfl (lv_at hl 2 rfl) ?_
            refine va_get (D := D) (ci := 3) (v := .ref (ad 0)) (C := RX4) (T := TX4) (N := 3) hx hb hts hiX4 hown hK hP 0 rfl rfl 0 (by decide) (hts (.fieldLink RX4 12 "PointerSweep" "now" "LPointerSweep$State;") (by decide +kernel)) (fun _ h9 => h9) rfl dX4_block_60 ?_
            refine va_get (D := D) (ci := 2) (v := .ref (ad 2)) (C := RX2) (T := TX2) (N := 10) hx hb hts hiX2 hown hK hP 4 rfl rfl 1 (by decide) (hts (.fieldLink RX4 43 "PointerSweep$State" "registers" "[J") (by decide +kernel)) (fun _ h9 => h9) rfl dX4_block_63 ?_
            refine lv_iload_n hx hb dX4_block_66 rfl (lv_at hl 5 rfl) ?_
            refine xa_lald hx hb hK hP 6 1 rfl rfl tk et htk (by decide) dX4_block_67 ?_
            refine lv_lstore (lv' := [(9, .long (xw_enc (v.2.1 tk))), (8, .int (x_fault (v.2.1 qk) 2 d n)), (6, .long (xw_enc (v.2.1 qk))), (0, .ref h0), (1, .int q), (2, .int d), (3, .int t), (4, .int g), (5, .int n)]) hx hb dX4_block_68 hl (by decide) rfl (fun ls hl => ?_)
            refine lv_lload hx hb dX4_block_70 (lv_at hl 0 rfl) ?_
            refine lv_iconst (v := 1) hx hb dX4_block_72 (by decide) ?_
            refine lv_iload hx hb dX4_block_73 (lv_at hl 7 rfl) ?_
            refine lv_iload hx hb dX4_block_75 (lv_at hl 8 rfl) ?_
            refine xk_callR (va_runS (As := [.long (xw_enc (v.2.1 tk)), .int 1, .int g, .int n]) (rest := []) ⟨hx, hb, hml, hown, hts⟩ (k_faultOf l D cI cJ cS (v.2.1 tk) ((x_ok_r hv) tk) 1 g n) (va_cwS 4 hts gX4_block_X4_faultOf rfl rfl rfl (by decide +kernel) ⟨Nat.le_of_ble_eq_true rfl, Nat.le_of_ble_eq_true rfl⟩) (xk_preSr hK hN hP [] rfl) rfl rfl hl.1 rfl (lv_room (Nat.le_of_ble_eq_true rfl)) dX4_block_77 ⟨Nat.zero_le _, Nat.zero_le _⟩) ?_
            refine lv_istore (lv' := [(8, .int (x_fault (v.2.1 tk) 1 g n)), (9, .long (xw_enc (v.2.1 tk))), (6, .long (xw_enc (v.2.1 qk))), (0, .ref h0), (1, .int q), (2, .int d), (3, .int t), (4, .int g), (5, .int n)]) hx hb dX4_block_80 hl (by decide) rfl (fun ls hl => ?_)
            refine lv_iload hx hb dX4_block_82 (lv_at hl 0 rfl) ?_
            refine lv_if_eq (tgt := 90) hx hb dX4_block_84 (by decide) (fun c_84 => ?_) (fun c_84 => ?_)
            · skip
              obtain ⟨nk, hn1, hn2, en, hxn⟩ := x_1n (M := 64) (m := 64) rfl c_17 c_24
              obtain ⟨ck, ec, hck, hxc⟩ := x_fault0 (hv.2.1 qk) c_53 en (by omega)
              obtain ⟨sk, es, hsk, hxs⟩ := x_fault0 (hv.2.1 tk) c_84 en (by omega)
              rw [en] at hl
              refine lv_aload_n hx hb dX4_block_90 rfl (lv_at hl 3 rfl) ?_
              refine va_get (D := D) (ci := 3) (v := .ref hh) (C := RX4) (T := TX4) (N := 3) hx hb hts hiX4 hown hK hP 0 rfl rfl 1 (by decide) (hts (.fieldLink RX4 19 "PointerSweep" "history" "LPointerSweep$History;") (by decide +kernel)) (fun _ h9 => h9) rfl dX4_block_91 ?_
              refine lv_aload_n hx hb dX4_block_94 rfl (lv_at hl 3 rfl) ?_
              refine va_get (D := D) (ci := 3) (v := .ref (ad 0)) (C := RX4) (T := TX4) (N := 3) hx hb hts hiX4 hown hK hP 0 rfl rfl 0 (by decide) (hts (.fieldLink RX4 12 "PointerSweep" "now" "LPointerSweep$State;") (by decide +kernel)) (fun _ h9 => h9) rfl dX4_block_95 ?_
              refine xk_callS (X := [(h0, .inr (3, [.ref (ad 0), .ref hh, .ref ca])), (ca, .inl (cJ, 64, .inr (.inl cr)))]) (va_runV (As := [.ref (ad 0)]) (rest := []) ⟨hx, hb, hml, hown, hts⟩ (k_keep l D cI cJ cS hh ka fk ad ads v vs nx sz hka hnx hsz N4 h4) (cwV 1 hts gX4_block_X1_keep rfl rfl rfl (by decide +kernel) ⟨Nat.le_of_ble_eq_true rfl, Nat.le_of_ble_eq_true rfl⟩) (xk_preVs (X := [(h0, .inr (3, [.ref (ad 0), .ref hh, .ref ca])), (ca, .inl (cJ, 64, .inr (.inl cr)))]) hK hN hP hD (ci := 1) rfl 0 rfl) rfl rfl hl.1 rfl (lv_room (Nat.le_of_ble_eq_true rfl)) dX4_block_98 ⟨Nat.zero_le _, Nat.zero_le _⟩) hP hD hS (xh_fst _ _ _ _ _ _ _ _ _ _ _ _ _ _ _ _ _) (fun H locs hP hD hS => ?_)
              replace hP : va_P D vwCl ([(h0, .inr (3, [.ref (ad 0), .ref hh, .ref ca])), (ca, .inl (cJ, 64, .inr (.inl cr))), (hh, .inr (1, [.ref ka, .int (nI (x_nx nx)), .int (nI (x_sz sz))])), (ka, .inl (cS, 24, .inr (.inr (.inr (.inr fk)))))] ++ (xst cI cJ ad v ++ xpl cI cJ ads (va_up vs nx v) N4)) H := hP
              replace hD : va_D _ ([(h0, .inr (3, [.ref (ad 0), .ref hh, .ref ca])), (ca, .inl (cJ, 64, .inr (.inl cr))), (hh, .inr (1, [.ref ka, .int (nI (x_nx nx)), .int (nI (x_sz sz))])), (ka, .inl (cS, 24, .inr (.inr (.inr (.inr fk)))))] ++ (xst cI cJ ad v ++ xpl cI cJ ads (va_up vs nx v) N4)) := hD
              refine lv_aload_n hx hb dX4_block_101 rfl (lv_at hl 3 rfl) ?_
              refine lv_lload hx hb dX4_block_102 (lv_at hl 2 rfl) ?_
              refine xk_callR (va_runS (As := [.long (xw_enc (v.2.1 qk))]) (rest := [.ref h0]) ⟨hx, hb, hml, hown, hts⟩ (k_at l D cI cJ cS (v.2.1 qk) ((x_ok_r hv) qk) ) (va_cwS 1 hts gX4_block_X3_at rfl rfl rfl (by decide +kernel) ⟨Nat.le_of_ble_eq_true rfl, Nat.le_of_ble_eq_true rfl⟩) (xk_preSr hK hN hP [] rfl) rfl rfl hl.1 rfl (lv_room (Nat.le_of_ble_eq_true rfl)) dX4_block_104 ⟨Nat.zero_le _, Nat.zero_le _⟩) ?_
              refine lv_iload_n hx hb dX4_block_107 rfl (lv_at hl 5 rfl) ?_
              refine lv_iadd hx hb dX4_block_108 ?_
              refine lv_topi (fun y ey => ?_)
              obtain rfl : y = nI ck := ey.trans ec
              refine lv_lload hx hb dX4_block_109 (lv_at hl 1 rfl) ?_
              refine xk_callR (va_runS (As := [.long (xw_enc (v.2.1 tk))]) (rest := [.int (nI ck), .ref h0]) ⟨hx, hb, hml, hown, hts⟩ (k_at l D cI cJ cS (v.2.1 tk) ((x_ok_r hv) tk) ) (va_cwS 1 hts gX4_block_X3_at rfl rfl rfl (by decide +kernel) ⟨Nat.le_of_ble_eq_true rfl, Nat.le_of_ble_eq_true rfl⟩) (xk_preSr hK hN hP [] rfl) rfl rfl hl.1 rfl (lv_room (Nat.le_of_ble_eq_true rfl)) dX4_block_111 ⟨Nat.zero_le _, Nat.zero_le _⟩) ?_
              refine lv_iload hx hb dX4_block_114 (lv_at hl 7 rfl) ?_
              refine lv_iadd hx hb dX4_block_116 ?_
              refine lv_topi (fun y ey => ?_)
              obtain rfl : y = nI sk := ey.trans es
              refine lv_iload hx hb dX4_block_117 (lv_at hl 8 rfl) ?_
              refine xk_callS (X := ([] : va_W)) (va_runV (As := [.int (nI ck), .int (nI sk), .int (nI nk)]) (rest := []) ⟨hx, hb, hml, hown, hts⟩ (k_carry l D cI cJ cS h0 ca hh ka fk ad ads N4 h4 cr v (va_up vs nx v) (x_nx nx) (x_sz sz) hka (x_nx_lt hnx) (Nat.min_le_left _ _) hv ck sk nk hck hsk hn2) (cwV 3 hts gX4_block_X4_carry rfl rfl rfl (by decide +kernel) ⟨Nat.le_of_ble_eq_true rfl, Nat.le_of_ble_eq_true rfl⟩) (xk_preVs (X := ([] : va_W)) hK hN hP hD (ci := 3) rfl 0 rfl) rfl rfl hl.1 rfl (lv_room (Nat.le_of_ble_eq_true rfl)) dX4_block_119 ⟨Nat.zero_le _, Nat.zero_le _⟩) hP hD hS (xx_fst _ _ _ _ _ _ _ _ _ _ _ _ _ _ _ _ _ _ _ _ _) (fun H locs hP hD hS => ?_)
              replace hP : va_P D vwCl ([(h0, .inr (3, [.ref (ad 0), .ref hh, .ref ca])), (ca, .inl (cJ, 64, .inr (.inl (x_crr v.2.2.2.2.2.1 v.1 sk cr nk)))), (hh, .inr (1, [.ref ka, .int (nI (x_nx nx)), .int (nI (x_sz sz))])), (ka, .inl (cS, 24, .inr (.inr (.inr (.inr fk)))))] ++ (xst cI cJ ad ((x_mov v.2.2.2.2.2.1 v.1 ck sk nk), v.2.1, (x_tks v.2.2.2.2.2.1 v.1 sk v.2.2.1 nk), v.2.2.2.1, v.2.2.2.2.1, v.2.2.2.2.2.1, v.2.2.2.2.2.2.1, v.2.2.2.2.2.2.2.1, v.2.2.2.2.2.2.2.2.1, (x_dks v.2.2.2.2.2.2.2.2.1 v.2.2.2.2.2.1 v.1 ck sk v.2.2.2.2.2.2.2.2.2 nk)) ++ xpl cI cJ ads (va_up vs nx v) N4)) H := hP
              replace hD : va_D _ ([(h0, .inr (3, [.ref (ad 0), .ref hh, .ref ca])), (ca, .inl (cJ, 64, .inr (.inl (x_crr v.2.2.2.2.2.1 v.1 sk cr nk)))), (hh, .inr (1, [.ref ka, .int (nI (x_nx nx)), .int (nI (x_sz sz))])), (ka, .inl (cS, 24, .inr (.inr (.inr (.inr fk)))))] ++ (xst cI cJ ad ((x_mov v.2.2.2.2.2.1 v.1 ck sk nk), v.2.1, (x_tks v.2.2.2.2.2.1 v.1 sk v.2.2.1 nk), v.2.2.2.1, v.2.2.2.2.1, v.2.2.2.2.2.1, v.2.2.2.2.2.2.1, v.2.2.2.2.2.2.2.1, v.2.2.2.2.2.2.2.2.1, (x_dks v.2.2.2.2.2.2.2.2.1 v.2.2.2.2.2.1 v.1 ck sk v.2.2.2.2.2.2.2.2.2 nk)) ++ xpl cI cJ ads (va_up vs nx v) N4)) := hD
              refine lv_iload hx hb dX4_block_122 (lv_at hl 8 rfl) ?_
              have e9 : sp_block v q d t g n = (nI nk, some (x_blk v ck sk nk)) := (by unfold sp_block; rw [if_pos ⟨xb_ne c_4, xb_ne c_11, c_17, c_24⟩, hxq, if_pos c_53, hxt, if_pos c_84, hxc, hxs, hxn, en])
              exact xk_iretW hx hb hr hlk hP hS (by rw [e9]) (by rw [← hW1, e9, hxt, hxs, hxn]; rfl) dX4_block_124
            · skip
              refine lv_iload hx hb dX4_block_87 (lv_at hl 0 rfl) ?_
              have e9 : sp_block v q d t g n = (x_fault (v.2.1 tk) 1 g n, none) := (by unfold sp_block; rw [if_pos ⟨xb_ne c_4, xb_ne c_11, c_17, c_24⟩, hxq, if_pos c_53, hxt, if_neg c_84])
              exact xk_iretW hx hb hr hlk hP hS (by rw [e9]) (by rw [← hW1, e9]; rfl) dX4_block_89
          · skip
            refine lv_iload hx hb dX4_block_56 (lv_at hl 0 rfl) ?_
            have e9 : sp_block v q d t g n = (x_fault (v.2.1 qk) 2 d n, none) := (by unfold sp_block; rw [if_pos ⟨xb_ne c_4, xb_ne c_11, c_17, c_24⟩, hxq, if_neg c_53])
            exact xk_iretW hx hb hr hlk hP hS (by rw [e9]) (by rw [← hW1, e9]; rfl) dX4_block_58
        · skip
          refine lv_iconst (v := (-1)) hx hb dX4_block_27 (by decide) ?_
          have e9 : sp_block v q d t g n = (-1, none) := if_neg (fun z => c_24 z.2.2.2)
          exact xk_iretW hx hb hr hlk hP hS (by rw [e9]) (by rw [← hW1, e9]; rfl) dX4_block_28
