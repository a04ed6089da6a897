set_option maxHeartbeats 4000000 in
set_option maxRecDepth 100000 in
theorem k_carry (l : Launch) (D : va_G) (cI cJ cS : ClassId) (h0 ca hh ka : Nat) (fk : Nat → Option Nat) (ad : Nat → Nat) (ads : Nat → Nat → Nat) (N4 : Nat) (h4 : N4 = 24) (cr : Nat → Int64) (v : xV) (vs : Nat → xV) (nx sz : Nat) (hka : ∀ i, i < 24 → fk i = some (ads i 0)) (hnx : nx < 24) (hsz : sz ≤ 24) (hv : x_ok v) (a1 b1 nk : Nat) (ha1 : a1 + nk ≤ 256) (hb1 : b1 + nk ≤ 256) (hnk : nk ≤ 64) : xk_Wr l yX4_carry wsX4_carry ({ frames := 4, cells := 0, slots := 0, locals := 91 }) D vwCl (xt cI cJ cS) (xx cI cJ cS h0 ca hh ka fk ad ads N4 cr v vs nx sz) [.ref h0, .int (nI a1), .int (nI b1), .int (nI nk)] (xx cI cJ cS h0 ca hh ka fk ad ads N4 (x_crr v.2.2.2.2.2.1 v.1 b1 cr nk) (x_blk v a1 b1 nk) vs nx sz) none := by
  refine xk_wr2 (cc := cX4_carry) (maxL := 5) (ret := none) (by decide) rfl (Nat.le_of_ble_eq_true rfl) (fun p e s m below meth c ls W0v W1v hW1 hx hb hr hlk hml hown hts hl hP hK hN hD hS => ?_)
  replace hl : lv_has ls 5 [(0, .ref h0), (1, .int (nI a1)), (2, .int (nI b1)), (3, .int (nI nk))] := hl
  have hiX4 : ∀ w ∈ u_ws RX4 TX4 3, w ∈ wsX4_carry := by decide +kernel
  replace hP : va_P D vwCl ([(h0, .inr (3, [.ref (ad 0), .ref hh, .ref ca])), (ca, .inl (cJ, 64, .inr (.inl cr))), (hh, .inr (1, [.ref ka, .int (nI nx), .int (nI sz)])), (ka, .inl (cS, 24, .inr (.inr (.inr (.inr fk)))))] ++ (xst cI cJ ad v ++ xpl cI cJ ads vs N4)) s.heap := hP
  replace hD : va_D _ ([(h0, .inr (3, [.ref (ad 0), .ref hh, .ref ca])), (ca, .inl (cJ, 64, .inr (.inl cr))), (hh, .inr (1, [.ref ka, .int (nI nx), .int (nI sz)])), (ka, .inl (cS, 24, .inr (.inr (.inr (.inr fk)))))] ++ (xst cI cJ ad v ++ xpl cI cJ ads vs N4)) := hD
  have loop2 : ∀ (n i : Nat) (H : Heap) (locs : List Loc) (ls : Array Slot), i + n = nk → va_P D vwCl ([(h0, .inr (3, [.ref (ad 0), .ref hh, .ref ca])), (ca, .inl (cJ, 64, .inr (.inl (x_crr v.2.2.2.2.2.1 v.1 b1 cr nk)))), (hh, .inr (1, [.ref ka, .int (nI nx), .int (nI sz)])), (ka, .inl (cS, 24, .inr (.inr (.inr (.inr fk)))))] ++ (xst cI cJ ad ((x_mov v.2.2.2.2.2.1 v.1 a1 b1 i), v.2.1, (x_tks v.2.2.2.2.2.1 v.1 b1 v.2.2.1 nk), v.2.2.2.1, v.2.2.2.2.1, v.2.2.2.2.2.1, v.2.2.2.2.2.2.1, v.2.2.2.2.2.2.2.1, v.2.2.2.2.2.2.2.2.1, (x_dks v.2.2.2.2.2.2.2.2.1 v.2.2.2.2.2.1 v.1 a1 b1 v.2.2.2.2.2.2.2.2.2 i)) ++ xpl cI cJ ads vs N4)) H → va_D (xk_in W0v) ([(h0, .inr (3, [.ref (ad 0), .ref hh, .ref ca])), (ca, .inl (cJ, 64, .inr (.inl (x_crr v.2.2.2.2.2.1 v.1 b1 cr nk)))), (hh, .inr (1, [.ref ka, .int (nI nx), .int (nI sz)])), (ka, .inl (cS, 24, .inr (.inr (.inr (.inr fk)))))] ++ (xst cI cJ ad ((x_mov v.2.2.2.2.2.1 v.1 a1 b1 i), v.2.1, (x_tks v.2.2.2.2.2.1 v.1 b1 v.2.2.1 nk), v.2.2.2.1, v.2.2.2.2.1, v.2.2.2.2.2.1, v.2.2.2.2.2.2.1, v.2.2.2.2.2.2.2.1, v.2.2.2.2.2.2.2.2.1, (x_dks v.2.2.2.2.2.2.2.2.1 v.2.2.2.2.2.1 v.1 a1 b1 v.2.2.2.2.2.2.2.2.2 i)) ++ xpl cI cJ ads vs N4)) → va_S (xk_in W0v) s.heap H locs → lv_has ls 5 [(4, .int (nI i)), (0, .ref h0), (1, .int (nI a1)), (2, .int (nI b1)), (3, .int (nI nk))] → W p l e ({ frames := 4, cells := 0, slots := 0, locals := 91 }) s m ([.ref h0, .int (nI a1), .int (nI b1), .int (nI nk)]).toArray below meth c H locs 0 0 (MQ below (xk_W D vwCl W0v W1v none) ([.ref h0, .int (nI a1), .int (nI b1), .int (nI nk)]).toArray s 0 0 (xk_in W0v)) (F0 m 36 ls []) := by
    intro n
    induction n with
    | zero =>
      intro i H locs ls hn hP hD hS hl
      have hin : i = nk := hn
      refine lv_iload hx hb dX4_carry_36 (lv_at hl 0 rfl) ?_
      refine lv_iload_n hx hb dX4_carry_38 rfl (lv_at hl 4 rfl) ?_
      refine lv_icmp_ge (tgt := 66) hx hb dX4_carry_39 (by decide) (fun c_39 => ?_) (fun c_39 => ?_)
      · skip
        exact xk_vretW hx hb hr hlk hP hS (by rw [← hW1, hin]; rfl) dX4_carry_66
      · skip
        exact absurd (nI_le (a := nk) (b := i) (by omega) (by omega)) c_39
    | succ n ih =>
      intro i H locs ls hn hP hD hS hl
      refine lv_iload hx hb dX4_carry_36 (lv_at hl 0 rfl) ?_
      refine lv_iload_n hx hb dX4_carry_38 rfl (lv_at hl 4 rfl) ?_
      refine lv_icmp_ge (tgt := 66) hx hb dX4_carry_39 (by decide) (fun c_39 => ?_) (fun c_39 => ?_)
      · skip
        exact absurd (xn_le_of (by omega) (by omega) c_39) (by omega)
      · skip
        refine lv_aload_n hx hb dX4_carry_42 rfl (lv_at hl 1 rfl) ?_
        refine va_get (D := D) (ci := 3) (v := .ref (ad 0)) (C := RX4) (T := TX4) (N := 3) hx hb hts hiX4 hown hK hP 0 rfl rfl 0 (by decide) (hts (.fieldLink RX4 12 "PointerSweep" "now" "LPointerSweep$State;") (by decide +kernel)) (fun _ h9 => h9) rfl dX4_carry_43 ?_
        refine lv_iload_n hx hb dX4_carry_46 rfl (lv_at hl 2 rfl) ?_
        refine lv_iload hx hb dX4_carry_47 (lv_at hl 0 rfl) ?_
        refine lv_iadd hx hb dX4_carry_49 ?_
        refine lv_topi (fun y ey => ?_)
        obtain rfl : y = nI (a1 + i) := ey.trans (nI_add _ _)
        refine lv_aload_n hx hb dX4_carry_50 rfl (lv_at hl 1 rfl) ?_
        refine va_get (D := D) (ci := 3) (v := .ref ca) (C := RX4) (T := TX4) (N := 3) hx hb hts hiX4 hown hK hP 0 rfl rfl 2 (by decide) (hts (.fieldLink RX4 23 "PointerSweep" "carried" "[J") (by decide +kernel)) (fun _ h9 => h9) rfl dX4_carry_51 ?_
        refine lv_iload hx hb dX4_carry_54 (lv_at hl 0 rfl) ?_
        refine xa_lald hx hb hK hP 1 1 rfl rfl i rfl (by omega) (by decide) dX4_carry_56 ?_
        refine lv_topl (fun y ey => ?_)
        obtain rfl : y = xw_enc (x_lk v.2.2.2.2.2.1 (v.1 (b1 + i))) := ey.trans (x_crr_at (by omega))
        refine xk_callM (va_runV (As := [.int (nI (a1 + i)), .long (xw_enc (x_lk v.2.2.2.2.2.1 (v.1 (b1 + i))))]) (rest := []) ⟨hx, hb, hml, hown, hts⟩ (k_layDownF l D cI cJ cS ad ((x_mov v.2.2.2.2.2.1 v.1 a1 b1 i), v.2.1, (x_tks v.2.2.2.2.2.1 v.1 b1 v.2.2.1 nk), v.2.2.2.1, v.2.2.2.2.1, v.2.2.2.2.2.1, v.2.2.2.2.2.2.1, v.2.2.2.2.2.2.2.1, v.2.2.2.2.2.2.2.2.1, (x_dks v.2.2.2.2.2.2.2.2.1 v.2.2.2.2.2.1 v.1 a1 b1 v.2.2.2.2.2.2.2.2.2 i)) hv.2.2 (a1 + i) (by omega) (x_lk v.2.2.2.2.2.1 (v.1 (b1 + i))) (x_lk_ok (x_ok_m hv _))) (cwV 2 hts gX4_carry_X2_layDown rfl rfl rfl (by decide +kernel) ⟨Nat.le_of_ble_eq_true rfl, Nat.le_of_ble_eq_true rfl⟩) (xk_preVm hK hN hP hD (ci := 2) rfl 0 rfl) rfl rfl hl.1 rfl (lv_room (Nat.le_of_ble_eq_true rfl)) dX4_carry_57 ⟨Nat.zero_le _, Nat.zero_le _⟩) hP hD hS rfl (fun H locs hP hD hS => ?_)
        replace hP : va_P D vwCl ([(h0, .inr (3, [.ref (ad 0), .ref hh, .ref ca])), (ca, .inl (cJ, 64, .inr (.inl (x_crr v.2.2.2.2.2.1 v.1 b1 cr nk)))), (hh, .inr (1, [.ref ka, .int (nI nx), .int (nI sz)])), (ka, .inl (cS, 24, .inr (.inr (.inr (.inr fk)))))] ++ (xst cI cJ ad ((va_up (x_mov v.2.2.2.2.2.1 v.1 a1 b1 i) (a1 + i) (x_lk v.2.2.2.2.2.1 (v.1 (b1 + i)))), v.2.1, (x_tks v.2.2.2.2.2.1 v.1 b1 v.2.2.1 nk), v.2.2.2.1, v.2.2.2.2.1, v.2.2.2.2.2.1, v.2.2.2.2.2.2.1, v.2.2.2.2.2.2.2.1, v.2.2.2.2.2.2.2.2.1, (x_dk v.2.2.2.2.2.2.2.2.1 (x_lk v.2.2.2.2.2.1 (v.1 (b1 + i))) (a1 + i) (x_dks v.2.2.2.2.2.2.2.2.1 v.2.2.2.2.2.1 v.1 a1 b1 v.2.2.2.2.2.2.2.2.2 i))) ++ xpl cI cJ ads vs N4)) H := hP
        replace hD : va_D _ ([(h0, .inr (3, [.ref (ad 0), .ref hh, .ref ca])), (ca, .inl (cJ, 64, .inr (.inl (x_crr v.2.2.2.2.2.1 v.1 b1 cr nk)))), (hh, .inr (1, [.ref ka, .int (nI nx), .int (nI sz)])), (ka, .inl (cS, 24, .inr (.inr (.inr (.inr fk)))))] ++ (xst cI cJ ad ((va_up (x_mov v.2.2.2.2.2.1 v.1 a1 b1 i) (a1 + i) (x_lk v.2.2.2.2.2.1 (v.1 (b1 + i)))), v.2.1, (x_tks v.2.2.2.2.2.1 v.1 b1 v.2.2.1 nk), v.2.2.2.1, v.2.2.2.2.1, v.2.2.2.2.2.1, v.2.2.2.2.2.2.1, v.2.2.2.2.2.2.2.1, v.2.2.2.2.2.2.2.2.1, (x_dk v.2.2.2.2.2.2.2.2.1 (x_lk v.2.2.2.2.2.1 (v.1 (b1 + i))) (a1 + i) (x_dks v.2.2.2.2.2.2.2.2.1 v.2.2.2.2.2.1 v.1 a1 b1 v.2.2.2.2.2.2.2.2.2 i))) ++ xpl cI cJ ads vs N4)) := hD
        refine lv_iinc (v := (nI (i + 1))) (lv' := [(4, .int (nI (i + 1))), (0, .ref h0), (1, .int (nI a1)), (2, .int (nI b1)), (3, .int (nI nk))]) hx hb dX4_carry_60 hl (k := 0) rfl (nI_1 i) (by decide) rfl (fun ls hl => ?_)
        refine lv_goto (tgt := 36) hx hb dX4_carry_63 (by decide) ?_
        rw [x_mov_s] at hP hD
        exact ih (i + 1) H locs ls (by omega) hP hD hS (lv_sub hl [0, 1, 2, 3, 4] rfl)
  have loop1 : ∀ (n i : Nat) (H : Heap) (locs : List Loc) (ls : Array Slot), i + n = nk → va_P D vwCl ([(h0, .inr (3, [.ref (ad 0), .ref hh, .ref ca])), (ca, .inl (cJ, 64, .inr (.inl (x_crr v.2.2.2.2.2.1 v.1 b1 cr i)))), (hh, .inr (1, [.ref ka, .int (nI nx), .int (nI sz)])), (ka, .inl (cS, 24, .inr (.inr (.inr (.inr fk)))))] ++ (xst cI cJ ad (v.1, v.2.1, (x_tks v.2.2.2.2.2.1 v.1 b1 v.2.2.1 i), v.2.2.2.1, v.2.2.2.2.1, v.2.2.2.2.2.1, v.2.2.2.2.2.2.1, v.2.2.2.2.2.2.2.1, v.2.2.2.2.2.2.2.2.1, v.2.2.2.2.2.2.2.2.2) ++ xpl cI cJ ads vs N4)) H → va_D (xk_in W0v) ([(h0, .inr (3, [.ref (ad 0), .ref hh, .ref ca])), (ca, .inl (cJ, 64, .inr (.inl (x_crr v.2.2.2.2.2.1 v.1 b1 cr i)))), (hh, .inr (1, [.ref ka, .int (nI nx), .int (nI sz)])), (ka, .inl (cS, 24, .inr (.inr (.inr (.inr fk)))))] ++ (xst cI cJ ad (v.1, v.2.1, (x_tks v.2.2.2.2.2.1 v.1 b1 v.2.2.1 i), v.2.2.2.1, v.2.2.2.2.1, v.2.2.2.2.2.1, v.2.2.2.2.2.2.1, v.2.2.2.2.2.2.2.1, v.2.2.2.2.2.2.2.2.1, v.2.2.2.2.2.2.2.2.2) ++ xpl cI cJ ads vs N4)) → va_S (xk_in W0v) s.heap H locs → lv_has ls 5 [(4, .int (nI i)), (0, .ref h0), (1, .int (nI a1)), (2, .int (nI b1)), (3, .int (nI nk))] → W p l e ({ frames := 4, cells := 0, slots := 0, locals := 91 }) s m ([.ref h0, .int (nI a1), .int (nI b1), .int (nI nk)]).toArray below meth c H locs 0 0 (MQ below (xk_W D vwCl W0v W1v none) ([.ref h0, .int (nI a1), .int (nI b1), .int (nI nk)]).toArray s 0 0 (xk_in W0v)) (F0 m 3 ls []) := by
    intro n
    induction n with
    | zero =>
      intro i H locs ls hn hP hD hS hl
      have hin : i = nk := hn
      refine lv_iload hx hb dX4_carry_3 (lv_at hl 0 rfl) ?_
      refine lv_iload_n hx hb dX4_carry_5 rfl (lv_at hl 4 rfl) ?_
      refine lv_icmp_ge (tgt := 33) hx hb dX4_carry_6 (by decide) (fun c_6 => ?_) (fun c_6 => ?_)
      · skip
        refine lv_iconst (v := 0) hx hb dX4_carry_33 (by decide) ?_
        refine lv_istore (lv' := [(4, .int 0), (0, .ref h0), (1, .int (nI a1)), (2, .int (nI b1)), (3, .int (nI nk))]) hx hb dX4_carry_34 hl (by decide) rfl (fun ls hl => ?_)
        refine loop2 nk 0 H locs ls (by omega) ?_ ?_ hS (lv_sub hl [0, 1, 2, 3, 4] rfl)
        · rw [x_mov_0]; rw [hin] at hP; exact hP
        · rw [x_mov_0]; rw [hin] at hD; exact hD
      · skip
        exact absurd (nI_le (a := nk) (b := i) (by omega) (by omega)) c_6
    | succ n ih =>
      intro i H locs ls hn hP hD hS hl
      refine lv_iload hx hb dX4_carry_3 (lv_at hl 0 rfl) ?_
      refine lv_iload_n hx hb dX4_carry_5 rfl (lv_at hl 4 rfl) ?_
      refine lv_icmp_ge (tgt := 33) hx hb dX4_carry_6 (by decide) (fun c_6 => ?_) (fun c_6 => ?_)
      · skip
        exact absurd (xn_le_of (by omega) (by omega) c_6) (by omega)
      · skip
        refine lv_aload_n hx hb dX4_carry_9 rfl (lv_at hl 1 rfl) ?_
        refine va_get (D := D) (ci := 3) (v := .ref ca) (C := RX4) (T := TX4) (N := 3) hx hb hts hiX4 hown hK hP 0 rfl rfl 2 (by decide) (hts (.fieldLink RX4 23 "PointerSweep" "carried" "[J") (by decide +kernel)) (fun _ h9 => h9) rfl dX4_carry_10 ?_
        refine lv_iload hx hb dX4_carry_13 (lv_at hl 0 rfl) ?_
        refine lv_aload_n hx hb dX4_carry_15 rfl (lv_at hl 1 rfl) ?_
        refine va_get (D := D) (ci := 3) (v := .ref (ad 0)) (C := RX4) (T := TX4) (N := 3) hx hb hts hiX4 hown hK hP 0 rfl rfl 0 (by decide) (hts (.fieldLink RX4 12 "PointerSweep" "now" "LPointerSweep$State;") (by decide +kernel)) (fun _ h9 => h9) rfl dX4_carry_16 ?_
        refine lv_iload_n hx hb dX4_carry_19 rfl (lv_at hl 3 rfl) ?_
        refine lv_iload hx hb dX4_carry_20 (lv_at hl 0 rfl) ?_
        refine lv_iadd hx hb dX4_carry_22 ?_
        refine lv_topi (fun y ey => ?_)
        obtain rfl : y = nI (b1 + i) := ey.trans (nI_add _ _)
        refine xk_callM (va_runV (As := [.int (nI (b1 + i))]) (rest := [.int (nI i), .ref ca]) ⟨hx, hb, hml, hown, hts⟩ (k_lookUpF l D cI cJ cS ad (v.1, v.2.1, (x_tks v.2.2.2.2.2.1 v.1 b1 v.2.2.1 i), v.2.2.2.1, v.2.2.2.2.1, v.2.2.2.2.2.1, v.2.2.2.2.2.2.1, v.2.2.2.2.2.2.2.1, v.2.2.2.2.2.2.2.2.1, v.2.2.2.2.2.2.2.2.2) (x_ok_m hv) (b1 + i) (by omega)) (cwV 1 hts gX4_carry_X2_lookUp rfl rfl rfl (by decide +kernel) ⟨Nat.le_of_ble_eq_true rfl, Nat.le_of_ble_eq_true rfl⟩) (xk_preVm hK hN hP hD (ci := 2) rfl 0 rfl) rfl rfl hl.1 rfl (lv_room (Nat.le_of_ble_eq_true rfl)) dX4_carry_23 ⟨Nat.zero_le _, Nat.zero_le _⟩) hP hD hS rfl (fun H locs hP hD hS => ?_)
        replace hP : va_P D vwCl ([(h0, .inr (3, [.ref (ad 0), .ref hh, .ref ca])), (ca, .inl (cJ, 64, .inr (.inl (x_crr v.2.2.2.2.2.1 v.1 b1 cr i)))), (hh, .inr (1, [.ref ka, .int (nI nx), .int (nI sz)])), (ka, .inl (cS, 24, .inr (.inr (.inr (.inr fk)))))] ++ (xst cI cJ ad (v.1, v.2.1, (x_tk v.2.2.2.2.2.1 (v.1 (b1 + i)) (x_tks v.2.2.2.2.2.1 v.1 b1 v.2.2.1 i)), v.2.2.2.1, v.2.2.2.2.1, v.2.2.2.2.2.1, v.2.2.2.2.2.2.1, v.2.2.2.2.2.2.2.1, v.2.2.2.2.2.2.2.2.1, v.2.2.2.2.2.2.2.2.2) ++ xpl cI cJ ads vs N4)) H := hP
        replace hD : va_D _ ([(h0, .inr (3, [.ref (ad 0), .ref hh, .ref ca])), (ca, .inl (cJ, 64, .inr (.inl (x_crr v.2.2.2.2.2.1 v.1 b1 cr i)))), (hh, .inr (1, [.ref ka, .int (nI nx), .int (nI sz)])), (ka, .inl (cS, 24, .inr (.inr (.inr (.inr fk)))))] ++ (xst cI cJ ad (v.1, v.2.1, (x_tk v.2.2.2.2.2.1 (v.1 (b1 + i)) (x_tks v.2.2.2.2.2.1 v.1 b1 v.2.2.1 i)), v.2.2.2.1, v.2.2.2.2.1, v.2.2.2.2.2.1, v.2.2.2.2.2.2.1, v.2.2.2.2.2.2.2.1, v.2.2.2.2.2.2.2.2.1, v.2.2.2.2.2.2.2.2.2) ++ xpl cI cJ ads vs N4)) := hD
        refine xa_last (ws' := [(h0, .inr (3, [.ref (ad 0), .ref hh, .ref ca])), (ca, .inl (cJ, 64, .inr (.inl (vp_updL (x_crr v.2.2.2.2.2.1 v.1 b1 cr i) i (xw_enc (x_lk v.2.2.2.2.2.1 (v.1 (b1 + i)))))))), (hh, .inr (1, [.ref ka, .int (nI nx), .int (nI sz)])), (ka, .inl (cS, 24, .inr (.inr (.inr (.inr fk)))))] ++ (xst cI cJ ad (v.1, v.2.1, (x_tk v.2.2.2.2.2.1 (v.1 (b1 + i)) (x_tks v.2.2.2.2.2.1 v.1 b1 v.2.2.1 i)), v.2.2.2.1, v.2.2.2.2.1, v.2.2.2.2.2.1, v.2.2.2.2.2.2.1, v.2.2.2.2.2.2.2.1, v.2.2.2.2.2.2.2.2.1, v.2.2.2.2.2.2.2.2.2) ++ xpl cI cJ ads vs N4)) hx hb hK hP hD hS 1 1 rfl rfl i rfl (by omega) (by decide) dX4_carry_26 rfl (fun H locs hP hD hS => ?_)
        rw [x_crr_s] at hP hD
        refine lv_iinc (v := (nI (i + 1))) (lv' := [(4, .int (nI (i + 1))), (0, .ref h0), (1, .int (nI a1)), (2, .int (nI b1)), (3, .int (nI nk))]) hx hb dX4_carry_27 hl (k := 0) rfl (nI_1 i) (by decide) rfl (fun ls hl => ?_)
        refine lv_goto (tgt := 3) hx hb dX4_carry_30 (by decide) ?_
        exact ih (i + 1) H locs ls (by omega) hP hD hS (lv_sub hl [0, 1, 2, 3, 4] rfl)
  refine lv_iconst (v := 0) hx hb dX4_carry_0 (by decide) ?_
  refine lv_istore (lv' := [(4, .int 0), (0, .ref h0), (1, .int (nI a1)), (2, .int (nI b1)), (3, .int (nI nk))]) hx hb dX4_carry_1 hl (by decide) rfl (fun ls hl => ?_)
  refine loop1 nk 0 s.heap [] ls (by omega) ?_ ?_ hS (lv_sub hl [0, 1, 2, 3, 4] rfl)
  · rw [x_crr_0]; exact hP
  · rw [x_crr_0]; exact hD
