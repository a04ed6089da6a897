set_option maxHeartbeats 4000000 in
set_option maxRecDepth 100000 in
theorem k_toldOf (l : Launch) (D : va_G) (cI cJ cS : ClassId) (h0 ca hh ka : Nat) (fk : Nat → Option Nat) (ad : Nat → Nat) (ads : Nat → Nat → Nat) (N4 : Nat) (h4 : N4 = 24) (cr : Nat → Int64) (v : xV) (vs : Nat → xV) (nx sz : Nat) (hka : ∀ i, i < 24 → fk i = some (ads i 0)) (hnx : nx < 24) (hsz : sz ≤ 24) (hv : x_ok v) (w : xw) (hw : xw_ok w) (use what : Int32) : xk_Rd l yX4_toldOf wsX4_toldOf ({ frames := 3, cells := 0, slots := 0, locals := 68 }) D vwCl (xt cI cJ cS) (xx cI cJ cS h0 ca hh ka fk ad ads N4 cr v vs nx sz) [.ref h0, .long (xw_enc w), .int use, .int what] (some (.int (x_told v.2.2.2.2.2.1 w use what))) := by
  refine xk_rd (cc := cX4_toldOf) (maxL := 5) (ret := (some .int)) (by decide) rfl (Nat.le_of_ble_eq_true rfl) (fun p e s m below meth c ls hx hb hr hlk hml hown hts hl hP hK hN => ?_)
  replace hl : lv_has ls 5 [(0, .ref h0), (1, .long (xw_enc w)), (3, .int use), (4, .int what)] := hl
  have hiX4 : ∀ w ∈ u_ws RX4 TX4 3, w ∈ wsX4_toldOf := by decide +kernel
  replace hP : va_P D vwCl ([(h0, .inr (3, [.ref (ad 0), .ref hh, .ref ca])), (ca, .inl (cJ, 64, .inr (.inl cr))), (hh, .inr (1, [.ref ka, .int (nI nx), .int (nI sz)])), (ka, .inl (cS, 24, .inr (.inr (.inr (.inr fk)))))] ++ (xst cI cJ ad v ++ xpl cI cJ ads vs N4)) s.heap := hP
  refine lv_iload hx hb dX4_toldOf_0 (lv_at hl 3 rfl) ?_
  by_cases c_2_0 : what = 0
  · refine lv_tableIn (off := 42) (tgt := 44) hx hb dX4_toldOf_2 (by rw [c_2_0]; decide) (by rw [c_2_0]; decide) (by rw [c_2_0]; rfl) (by decide) ?_
    refine lv_lload_n hx hb dX4_toldOf_44 rfl (lv_at hl 1 rfl) ?_
    refine xk_callR (va_runS (As := [.long (xw_enc w)]) (rest := []) ⟨hx, hb, hml, hown, hts⟩ (k_isPointer l D cI cJ cS w hw ) (va_cwS 1 hts gX4_toldOf_X3_isPointer rfl rfl rfl (by decide +kernel) ⟨Nat.le_of_ble_eq_true rfl, Nat.le_of_ble_eq_true rfl⟩) (xk_preSr hK hN hP [] rfl) rfl rfl hl.1 rfl (lv_room (Nat.le_of_ble_eq_true rfl)) dX4_toldOf_45 ⟨Nat.zero_le _, Nat.zero_le _⟩) ?_
    refine xk_callR (va_runS (As := [.int (xb (xw_p w))]) (rest := []) ⟨hx, hb, hml, hown, hts⟩ (k_oneIf l D cI cJ cS (xw_p w)) (va_cwS 1 hts gX4_toldOf_X4_oneIf rfl rfl rfl (by decide +kernel) ⟨Nat.le_of_ble_eq_true rfl, Nat.le_of_ble_eq_true rfl⟩) (xk_preSr hK hN hP [] rfl) rfl rfl hl.1 rfl (lv_room (Nat.le_of_ble_eq_true rfl)) dX4_toldOf_48 ⟨Nat.zero_le _, Nat.zero_le _⟩) ?_
    exact xk_iretR hx hb hr hlk (by unfold x_told; rw [if_pos c_2_0]) dX4_toldOf_51
  by_cases c_2_1 : what = 1
  · refine lv_tableIn (off := 50) (tgt := 52) hx hb dX4_toldOf_2 (by rw [c_2_1]; decide) (by rw [c_2_1]; decide) (by rw [c_2_1]; rfl) (by decide) ?_
    refine lv_lload_n hx hb dX4_toldOf_52 rfl (lv_at hl 1 rfl) ?_
    refine xk_callR (va_runS (As := [.long (xw_enc w)]) (rest := []) ⟨hx, hb, hml, hown, hts⟩ (k_at l D cI cJ cS w hw ) (va_cwS 1 hts gX4_toldOf_X3_at rfl rfl rfl (by decide +kernel) ⟨Nat.le_of_ble_eq_true rfl, Nat.le_of_ble_eq_true rfl⟩) (xk_preSr hK hN hP [] rfl) rfl rfl hl.1 rfl (lv_room (Nat.le_of_ble_eq_true rfl)) dX4_toldOf_53 ⟨Nat.zero_le _, Nat.zero_le _⟩) ?_
    exact xk_iretR hx hb hr hlk (by unfold x_told; rw [if_neg c_2_0, if_pos c_2_1]) dX4_toldOf_56
  by_cases c_2_2 : what = 2
  · refine lv_tableIn (off := 55) (tgt := 57) hx hb dX4_toldOf_2 (by rw [c_2_2]; decide) (by rw [c_2_2]; decide) (by rw [c_2_2]; rfl) (by decide) ?_
    refine lv_lload_n hx hb dX4_toldOf_57 rfl (lv_at hl 1 rfl) ?_
    refine xk_callR (va_runS (As := [.long (xw_enc w)]) (rest := []) ⟨hx, hb, hml, hown, hts⟩ (k_from l D cI cJ cS w hw ) (va_cwS 1 hts gX4_toldOf_X3_from rfl rfl rfl (by decide +kernel) ⟨Nat.le_of_ble_eq_true rfl, Nat.le_of_ble_eq_true rfl⟩) (xk_preSr hK hN hP [] rfl) rfl rfl hl.1 rfl (lv_room (Nat.le_of_ble_eq_true rfl)) dX4_toldOf_58 ⟨Nat.zero_le _, Nat.zero_le _⟩) ?_
    exact xk_iretR hx hb hr hlk (by unfold x_told; rw [if_neg c_2_0, if_neg c_2_1, if_pos c_2_2]) dX4_toldOf_61
  by_cases c_2_3 : what = 3
  · refine lv_tableIn (off := 60) (tgt := 62) hx hb dX4_toldOf_2 (by rw [c_2_3]; decide) (by rw [c_2_3]; decide) (by rw [c_2_3]; rfl) (by decide) ?_
    refine lv_lload_n hx hb dX4_toldOf_62 rfl (lv_at hl 1 rfl) ?_
    refine xk_callR (va_runS (As := [.long (xw_enc w)]) (rest := []) ⟨hx, hb, hml, hown, hts⟩ (k_to l D cI cJ cS w hw ) (va_cwS 1 hts gX4_toldOf_X3_to rfl rfl rfl (by decide +kernel) ⟨Nat.le_of_ble_eq_true rfl, Nat.le_of_ble_eq_true rfl⟩) (xk_preSr hK hN hP [] rfl) rfl rfl hl.1 rfl (lv_room (Nat.le_of_ble_eq_true rfl)) dX4_toldOf_63 ⟨Nat.zero_le _, Nat.zero_le _⟩) ?_
    exact xk_iretR hx hb hr hlk (by unfold x_told; rw [if_neg c_2_0, if_neg c_2_1, if_neg c_2_2, if_pos c_2_3]) dX4_toldOf_66
  by_cases c_2_4 : what = 4
  · refine lv_tableIn (off := 65) (tgt := 67) hx hb dX4_toldOf_2 (by rw [c_2_4]; decide) (by rw [c_2_4]; decide) (by rw [c_2_4]; rfl) (by decide) ?_
    refine lv_lload_n hx hb dX4_toldOf_67 rfl (lv_at hl 1 rfl) ?_
    refine xk_callR (va_runS (As := [.long (xw_enc w)]) (rest := []) ⟨hx, hb, hml, hown, hts⟩ (k_rights l D cI cJ cS w hw ) (va_cwS 1 hts gX4_toldOf_X3_rights rfl rfl rfl (by decide +kernel) ⟨Nat.le_of_ble_eq_true rfl, Nat.le_of_ble_eq_true rfl⟩) (xk_preSr hK hN hP [] rfl) rfl rfl hl.1 rfl (lv_room (Nat.le_of_ble_eq_true rfl)) dX4_toldOf_68 ⟨Nat.zero_le _, Nat.zero_le _⟩) ?_
    exact xk_iretR hx hb hr hlk (by unfold x_told; rw [if_neg c_2_0, if_neg c_2_1, if_neg c_2_2, if_neg c_2_3, if_pos c_2_4]) dX4_toldOf_71
  by_cases c_2_5 : what = 5
  · refine lv_tableIn (off := 70) (tgt := 72) hx hb dX4_toldOf_2 (by rw [c_2_5]; decide) (by rw [c_2_5]; decide) (by rw [c_2_5]; rfl) (by decide) ?_
    refine lv_iload_n hx hb dX4_toldOf_72 rfl (lv_at hl 2 rfl) ?_
    exact xk_iretR hx hb hr hlk (by unfold x_told; rw [if_neg c_2_0, if_neg c_2_1, if_neg c_2_2, if_neg c_2_3, if_neg c_2_4, if_pos c_2_5]) dX4_toldOf_73
  by_cases c_2_6 : what = 6
  · refine lv_tableIn (off := 72) (tgt := 74) hx hb dX4_toldOf_2 (by rw [c_2_6]; decide) (by rw [c_2_6]; decide) (by rw [c_2_6]; rfl) (by decide) ?_
    refine lv_aload_n hx hb dX4_toldOf_74 rfl (lv_at hl 0 rfl) ?_
    refine va_get (D := D) (ci := 3) (v := .ref (ad 0)) (C := RX4) (T := TX4) (N := 3) hx hb hts hiX4 hown hK hP 0 rfl rfl 0 (by decide) (hts (.fieldLink RX4 12 "PointerSweep" "now" "LPointerSweep$State;") (by decide +kernel)) (fun _ h9 => h9) rfl dX4_toldOf_75 ?_
    refine lv_lload_n hx hb dX4_toldOf_78 rfl (lv_at hl 1 rfl) ?_
    refine xk_callR (va_runV (As := [.long (xw_enc w)]) (rest := []) ⟨hx, hb, hml, hown, hts⟩ (k_isStale l D cI cJ cS ad v.1 v.2.1 v.2.2.1 v.2.2.2.1 v.2.2.2.2.1 v.2.2.2.2.2.1 v.2.2.2.2.2.2.1 v.2.2.2.2.2.2.2.1 v.2.2.2.2.2.2.2.2.1 v.2.2.2.2.2.2.2.2.2 w hw) (cwV 1 hts gX4_toldOf_X2_isStale rfl rfl rfl (by decide +kernel) ⟨Nat.le_of_ble_eq_true rfl, Nat.le_of_ble_eq_true rfl⟩) (xk_preVr hK hN hP [4, 12, 13] rfl (ci := 2) rfl 0 rfl) rfl rfl hl.1 rfl (lv_room (Nat.le_of_ble_eq_true rfl)) dX4_toldOf_79 ⟨Nat.zero_le _, Nat.zero_le _⟩) ?_
    refine xk_callR (va_runS (As := [.int (xb (x_stale v.2.2.2.2.2.1 w))]) (rest := []) ⟨hx, hb, hml, hown, hts⟩ (k_oneIf l D cI cJ cS (x_stale v.2.2.2.2.2.1 w)) (va_cwS 1 hts gX4_toldOf_X4_oneIf rfl rfl rfl (by decide +kernel) ⟨Nat.le_of_ble_eq_true rfl, Nat.le_of_ble_eq_true rfl⟩) (xk_preSr hK hN hP [] rfl) rfl rfl hl.1 rfl (lv_room (Nat.le_of_ble_eq_true rfl)) dX4_toldOf_82 ⟨Nat.zero_le _, Nat.zero_le _⟩) ?_
    exact xk_iretR hx hb hr hlk (by unfold x_told; rw [if_neg c_2_0, if_neg c_2_1, if_neg c_2_2, if_neg c_2_3, if_neg c_2_4, if_neg c_2_5, if_pos c_2_6]) dX4_toldOf_85
  refine lv_tableOut (tgt := 86) hx hb dX4_toldOf_2 (by have h0 := lv_neT (a := 0) c_2_0 rfl; have h1 := lv_neT (a := 1) c_2_1 rfl; have h2 := lv_neT (a := 2) c_2_2 rfl; have h3 := lv_neT (a := 3) c_2_3 rfl; have h4 := lv_neT (a := 4) c_2_4 rfl; have h5 := lv_neT (a := 5) c_2_5 rfl; have h6 := lv_neT (a := 6) c_2_6 rfl;   omega) (by decide) ?_
  refine lv_ldc hx hb hown (hts (.constant RX4 74 (-1000000001)) (by decide +kernel)) dX4_toldOf_86 ?_
  exact xk_iretR hx hb hr hlk (by unfold x_told; rw [if_neg c_2_0, if_neg c_2_1, if_neg c_2_2, if_neg c_2_3, if_neg c_2_4, if_neg c_2_5, if_neg c_2_6]) dX4_toldOf_88
set_option maxHeartbeats 4000000 in
set_option maxRecDepth 100000 in
theorem x_toldc (l : Launch) (D : va_G) (cI cJ cS : ClassId) (h0 ca hh ka : Nat) (fk : Nat → Option Nat) (ad : Nat → Nat) (ads : Nat → Nat → Nat) (N4 : Nat) (h4 : N4 = 24) (cr : Nat → Int64) (v : xV) (vs : Nat → xV) (nx sz : Nat) (hka : ∀ i, i < 24 → fk i = some (ads i 0)) (hnx : nx < 24) (hsz : sz ≤ 24) (hv : x_ok v) (wh i what : Int32) : xk_Rd l yX4_told wsX4_told ({ frames := 4, cells := 0, slots := 0, locals := 92 }) D vwCl (xt cI cJ cS) (xx cI cJ cS h0 ca hh ka fk ad ads N4 cr v vs nx sz) [.ref h0, .int wh, .int i, .int what] (some (.int (sp_told v wh i what))) := by
  refine xk_rd (cc := cX4_told) (maxL := 4) (ret := (some .int)) (by decide) rfl (Nat.le_of_ble_eq_true rfl) (fun p e s m below meth c ls hx hb hr hlk hml hown hts hl hP hK hN => ?_)
  replace hl : lv_has ls 4 [(0, .ref h0), (1, .int wh), (2, .int i), (3, .int what)] := hl
  have hiX2 : ∀ w ∈ u_ws RX2 TX2 10, w ∈ wsX4_told := by decide +kernel
  have hiX4 : ∀ w ∈ u_ws RX4 TX4 3, w ∈ wsX4_told := by decide +kernel
  replace hP : va_P D vwCl ([(h0, .inr (3, [.ref (ad 0), .ref hh, .ref ca])), (ca, .inl (cJ, 64, .inr (.inl cr))), (hh, .inr (1, [.ref ka, .int (nI nx), .int (nI sz)])), (ka, .inl (cS, 24, .inr (.inr (.inr (.inr fk)))))] ++ (xst cI cJ ad v ++ xpl cI cJ ads vs N4)) s.heap := hP
  refine lv_iload_n hx hb dX4_told_0 rfl (lv_at hl 1 rfl) ?_
  refine lv_if_ne (tgt := 27) hx hb dX4_told_1 (by decide) (fun c_1 => ?_) (fun c_1 => ?_)
  · skip
    refine lv_iload_n hx hb dX4_told_27 rfl (lv_at hl 1 rfl) ?_
    refine lv_iconst (v := 1) hx hb dX4_told_28 (by decide) ?_
    refine lv_icmp_ne (tgt := 62) hx hb dX4_told_29 (by decide) (fun c_29 => ?_) (fun c_29 => ?_)
    · skip
      refine lv_ldc hx hb hown (hts (.constant RX4 74 (-1000000001)) (by decide +kernel)) dX4_told_62 ?_
      exact xk_iretR hx hb hr hlk (by unfold sp_told; rw [if_neg (fun z => c_1 z.1), if_neg (fun z => c_29 z.1)]) dX4_told_64
    · skip
      refine lv_iload_n hx hb dX4_told_32 rfl (lv_at hl 2 rfl) ?_
      refine xk_callR (va_runS (As := [.int i]) (rest := []) ⟨hx, hb, hml, hown, hts⟩ (k_isCell l D cI cJ cS i) (va_cwS 1 hts gX4_told_X4_isCell rfl rfl rfl (by decide +kernel) ⟨Nat.le_of_ble_eq_true rfl, Nat.le_of_ble_eq_true rfl⟩) (xk_preSr hK hN hP [] rfl) rfl rfl hl.1 rfl (lv_room (Nat.le_of_ble_eq_true rfl)) dX4_told_33 ⟨Nat.zero_le _, Nat.zero_le _⟩) ?_
      refine lv_if_eq (tgt := 62) hx hb dX4_told_36 (by decide) (fun c_36 => ?_) (fun c_36 => ?_)
      · skip
        refine lv_ldc hx hb hown (hts (.constant RX4 74 (-1000000001)) (by decide +kernel)) dX4_told_62 ?_
        exact xk_iretR hx hb hr hlk (by unfold sp_told; rw [if_neg (fun z => c_1 z.1), if_neg (fun z => x_bt c_36 z.2)]) dX4_told_64
      · skip
        obtain ⟨ik, hik, ei⟩ := xi_of (xb_ne c_36)
        have hxi : xN i = ik := by rw [ei]; exact xN_nI (by omega)
        rw [ei] at hl
        refine lv_aload_n hx hb dX4_told_39 rfl (lv_at hl 0 rfl) ?_
        refine lv_aload_n hx hb dX4_told_40 rfl (lv_at hl 0 rfl) ?_
        refine va_get (D := D) (ci := 3) (v := .ref (ad 0)) (C := RX4) (T := TX4) (N := 3) hx hb hts hiX4 hown hK hP 0 rfl rfl 0 (by decide) (hts (.fieldLink RX4 12 "PointerSweep" "now" "LPointerSweep$State;") (by decide +kernel)) (fun _ h9 => h9) rfl dX4_told_41 ?_
        refine va_get (D := D) (ci := 2) (v := .ref (ad 1)) (C := RX2) (T := TX2) (N := 10) hx hb hts hiX2 hown hK hP 4 rfl rfl 0 (by decide) (hts (.fieldLink RX4 130 "PointerSweep$State" "cells" "[J") (by decide +kernel)) (fun _ h9 => h9) rfl dX4_told_44 ?_
        refine lv_iload_n hx hb dX4_told_47 rfl (lv_at hl 2 rfl) ?_
        refine xa_lald hx hb hK hP 5 1 rfl rfl ik rfl hik (by decide) dX4_told_48 ?_
        refine lv_aload_n hx hb dX4_told_49 rfl (lv_at hl 0 rfl) ?_
        refine va_get (D := D) (ci := 3) (v := .ref (ad 0)) (C := RX4) (T := TX4) (N := 3) hx hb hts hiX4 hown hK hP 0 rfl rfl 0 (by decide) (hts (.fieldLink RX4 12 "PointerSweep" "now" "LPointerSweep$State;") (by decide +kernel)) (fun _ h9 => h9) rfl dX4_told_50 ?_
        refine lv_iload_n hx hb dX4_told_53 rfl (lv_at hl 2 rfl) ?_
        refine xk_callR (va_runV (As := [.int (nI ik)]) (rest := [.long (xw_enc (v.1 ik)), .ref h0]) ⟨hx, hb, hml, hown, hts⟩ (k_useOfF l D cI cJ cS ad v ik hik) (cwV 1 hts gX4_told_X2_useOf rfl rfl rfl (by decide +kernel) ⟨Nat.le_of_ble_eq_true rfl, Nat.le_of_ble_eq_true rfl⟩) (xk_preVmr hK hN hP (ci := 2) rfl 0 rfl) rfl rfl hl.1 rfl (lv_room (Nat.le_of_ble_eq_true rfl)) dX4_told_54 ⟨Nat.zero_le _, Nat.zero_le _⟩) ?_
        refine lv_iload_n hx hb dX4_told_57 rfl (lv_at hl 3 rfl) ?_
        refine xk_callR (va_runV (As := [.long (xw_enc (v.1 ik)), .int (xu v.2.2.2.1 v.2.2.2.2.1 ik), .int what]) (rest := []) ⟨hx, hb, hml, hown, hts⟩ (k_toldOf l D cI cJ cS h0 ca hh ka fk ad ads N4 h4 cr v vs nx sz hka hnx hsz hv (v.1 ik) ((x_ok_m hv) ik) (xu v.2.2.2.1 v.2.2.2.2.1 ik) what) (cwV 3 hts gX4_told_X4_toldOf rfl rfl rfl (by decide +kernel) ⟨Nat.le_of_ble_eq_true rfl, Nat.le_of_ble_eq_true rfl⟩) (xk_preVa hK hN hP (ci := 3) rfl 0 rfl) rfl rfl hl.1 rfl (lv_room (Nat.le_of_ble_eq_true rfl)) dX4_told_58 ⟨Nat.zero_le _, Nat.zero_le _⟩) ?_
        exact xk_iretR hx hb hr hlk (by unfold sp_told; rw [if_neg (fun z => c_1 z.1), if_pos ⟨c_29, xb_ne c_36⟩, hxi]) dX4_told_61
  · skip
    refine lv_iload_n hx hb dX4_told_4 rfl (lv_at hl 2 rfl) ?_
    refine xk_callR (va_runS (As := [.int i]) (rest := []) ⟨hx, hb, hml, hown, hts⟩ (k_isRegister l D cI cJ cS i) (va_cwS 1 hts gX4_told_X4_isRegister rfl rfl rfl (by decide +kernel) ⟨Nat.le_of_ble_eq_true rfl, Nat.le_of_ble_eq_true rfl⟩) (xk_preSr hK hN hP [] rfl) rfl rfl hl.1 rfl (lv_room (Nat.le_of_ble_eq_true rfl)) dX4_told_5 ⟨Nat.zero_le _, Nat.zero_le _⟩) ?_
    refine lv_if_eq (tgt := 27) hx hb dX4_told_8 (by decide) (fun c_8 => ?_) (fun c_8 => ?_)
    · skip
      refine lv_iload_n hx hb dX4_told_27 rfl (lv_at hl 1 rfl) ?_
      refine lv_iconst (v := 1) hx hb dX4_told_28 (by decide) ?_
      refine lv_icmp_ne (tgt := 62) hx hb dX4_told_29 (by decide) (fun c_29 => ?_) (fun c_29 => ?_)
      · skip
        refine lv_ldc hx hb hown (hts (.constant RX4 74 (-1000000001)) (by decide +kernel)) dX4_told_62 ?_
        exact xk_iretR hx hb hr hlk (by unfold sp_told; rw [if_neg (fun z => x_bt c_8 z.2), if_neg (fun z => c_29 z.1)]) dX4_told_64
      · skip
        refine lv_iload_n hx hb dX4_told_32 rfl (lv_at hl 2 rfl) ?_
        refine xk_callR (va_runS (As := [.int i]) (rest := []) ⟨hx, hb, hml, hown, hts⟩ (k_isCell l D cI cJ cS i) (va_cwS 1 hts gX4_told_X4_isCell rfl rfl rfl (by decide +kernel) ⟨Nat.le_of_ble_eq_true rfl, Nat.le_of_ble_eq_true rfl⟩) (xk_preSr hK hN hP [] rfl) rfl rfl hl.1 rfl (lv_room (Nat.le_of_ble_eq_true rfl)) dX4_told_33 ⟨Nat.zero_le _, Nat.zero_le _⟩) ?_
        refine lv_if_eq (tgt := 62) hx hb dX4_told_36 (by decide) (fun c_36 => ?_) (fun c_36 => ?_)
        · skip
          refine lv_ldc hx hb hown (hts (.constant RX4 74 (-1000000001)) (by decide +kernel)) dX4_told_62 ?_
          exact xk_iretR hx hb hr hlk (by unfold sp_told; rw [if_neg (fun z => x_bt c_8 z.2), if_neg (fun z => x_bt c_36 z.2)]) dX4_told_64
        · skip
          obtain ⟨ik, hik, ei⟩ := xi_of (xb_ne c_36)
          have hxi : xN i = ik := by rw [ei]; exact xN_nI (by omega)
          rw [ei] at hl
          refine lv_aload_n hx hb dX4_told_39 rfl (lv_at hl 0 rfl) ?_
          refine lv_aload_n hx hb dX4_told_40 rfl (lv_at hl 0 rfl) ?_
          refine va_get (D := D) (ci := 3) (v := .ref (ad 0)) (C := RX4) (T := TX4) (N := 3) hx hb hts hiX4 hown hK hP 0 rfl rfl 0 (by decide) (hts (.fieldLink RX4 12 "PointerSweep" "now" "LPointerSweep$State;") (by decide +kernel)) (fun _ h9 => h9) rfl dX4_told_41 ?_
          refine va_get (D := D) (ci := 2) (v := .ref (ad 1)) (C := RX2) (T := TX2) (N := 10) hx hb hts hiX2 hown hK hP 4 rfl rfl 0 (by decide) (hts (.fieldLink RX4 130 "PointerSweep$State" "cells" "[J") (by decide +kernel)) (fun _ h9 => h9) rfl dX4_told_44 ?_
          refine lv_iload_n hx hb dX4_told_47 rfl (lv_at hl 2 rfl) ?_
          refine xa_lald hx hb hK hP 5 1 rfl rfl ik rfl hik (by decide) dX4_told_48 ?_
          refine lv_aload_n hx hb dX4_told_49 rfl (lv_at hl 0 rfl) ?_
          refine va_get (D := D) (ci := 3) (v := .ref (ad 0)) (C := RX4) (T := TX4) (N := 3) hx hb hts hiX4 hown hK hP 0 rfl rfl 0 (by decide) (hts (.fieldLink RX4 12 "PointerSweep" "now" "LPointerSweep$State;") (by decide +kernel)) (fun _ h9 => h9) rfl dX4_told_50 ?_
          refine lv_iload_n hx hb dX4_told_53 rfl (lv_at hl 2 rfl) ?_
          refine xk_callR (va_runV (As := [.int (nI ik)]) (rest := [.long (xw_enc (v.1 ik)), .ref h0]) ⟨hx, hb, hml, hown, hts⟩ (k_useOfF l D cI cJ cS ad v ik hik) (cwV 1 hts gX4_told_X2_useOf rfl rfl rfl (by decide +kernel) ⟨Nat.le_of_ble_eq_true rfl, Nat.le_of_ble_eq_true rfl⟩) (xk_preVmr hK hN hP (ci := 2) rfl 0 rfl) rfl rfl hl.1 rfl (lv_room (Nat.le_of_ble_eq_true rfl)) dX4_told_54 ⟨Nat.zero_le _, Nat.zero_le _⟩) ?_
          refine lv_iload_n hx hb dX4_told_57 rfl (lv_at hl 3 rfl) ?_
          refine xk_callR (va_runV (As := [.long (xw_enc (v.1 ik)), .int (xu v.2.2.2.1 v.2.2.2.2.1 ik), .int what]) (rest := []) ⟨hx, hb, hml, hown, hts⟩ (k_toldOf l D cI cJ cS h0 ca hh ka fk ad ads N4 h4 cr v vs nx sz hka hnx hsz hv (v.1 ik) ((x_ok_m hv) ik) (xu v.2.2.2.1 v.2.2.2.2.1 ik) what) (cwV 3 hts gX4_told_X4_toldOf rfl rfl rfl (by decide +kernel) ⟨Nat.le_of_ble_eq_true rfl, Nat.le_of_ble_eq_true rfl⟩) (xk_preVa hK hN hP (ci := 3) rfl 0 rfl) rfl rfl hl.1 rfl (lv_room (Nat.le_of_ble_eq_true rfl)) dX4_told_58 ⟨Nat.zero_le _, Nat.zero_le _⟩) ?_
          exact xk_iretR hx hb hr hlk (by unfold sp_told; rw [if_neg (fun z => x_bt c_8 z.2), if_pos ⟨c_29, xb_ne c_36⟩, hxi]) dX4_told_61
    · skip
      obtain ⟨ik, hik, ei⟩ := xi_of (xb_ne c_8)
      have hxi : xN i = ik := by rw [ei]; exact xN_nI (by omega)
      refine lv_aload_n hx hb dX4_told_11 rfl (lv_at hl 0 rfl) ?_
      refine lv_aload_n hx hb dX4_told_12 rfl (lv_at hl 0 rfl) ?_
      refine va_get (D := D) (ci := 3) (v := .ref (ad 0)) (C := RX4) (T := TX4) (N := 3) hx hb hts hiX4 hown hK hP 0 rfl rfl 0 (by decide) (hts (.fieldLink RX4 12 "PointerSweep" "now" "LPointerSweep$State;") (by decide +kernel)) (fun _ h9 => h9) rfl dX4_told_13 ?_
      refine va_get (D := D) (ci := 2) (v := .ref (ad 2)) (C := RX2) (T := TX2) (N := 10) hx hb hts hiX2 hown hK hP 4 rfl rfl 1 (by decide) (hts (.fieldLink RX4 43 "PointerSweep$State" "registers" "[J") (by decide +kernel)) (fun _ h9 => h9) rfl dX4_told_16 ?_
      refine lv_iload_n hx hb dX4_told_19 rfl (lv_at hl 2 rfl) ?_
      refine xa_lald hx hb hK hP 6 1 rfl rfl ik ei hik (by decide) dX4_told_20 ?_
      refine lv_iconst (v := 0) hx hb dX4_told_21 (by decide) ?_
      refine lv_iload_n hx hb dX4_told_22 rfl (lv_at hl 3 rfl) ?_
      refine xk_callR (va_runV (As := [.long (xw_enc (v.2.1 ik)), .int 0, .int what]) (rest := []) ⟨hx, hb, hml, hown, hts⟩ (k_toldOf l D cI cJ cS h0 ca hh ka fk ad ads N4 h4 cr v vs nx sz hka hnx hsz hv (v.2.1 ik) ((x_ok_r hv) ik) 0 what) (cwV 3 hts gX4_told_X4_toldOf rfl rfl rfl (by decide +kernel) ⟨Nat.le_of_ble_eq_true rfl, Nat.le_of_ble_eq_true rfl⟩) (xk_preVa hK hN hP (ci := 3) rfl 0 rfl) rfl rfl hl.1 rfl (lv_room (Nat.le_of_ble_eq_true rfl)) dX4_told_23 ⟨Nat.zero_le _, Nat.zero_le _⟩) ?_
      exact xk_iretR hx hb hr hlk (by unfold sp_told; rw [if_pos ⟨c_1, xb_ne c_8⟩, hxi]) dX4_told_26
set_option maxHeartbeats 4000000 in
set_option maxRecDepth 100000 in
theorem x_pagec (l : Launch) (D : va_G) (cI cJ cS : ClassId) (h0 ca hh ka : Nat) (fk : Nat → Option Nat) (ad : Nat → Nat) (ads : Nat → Nat → Nat) (N4 : Nat) (h4 : N4 = 24) (cr : Nat → Int64) (v : xV) (vs : Nat → xV) (nx sz : Nat) (hka : ∀ i, i < 24 → fk i = some (ads i 0)) (hnx : nx < 24) (hsz : sz ≤ 24) (hv : x_ok v) (pg what : Int32) : xk_Rd l yX4_page wsX4_page ({ frames := 2, cells := 0, slots := 0, locals := 46 }) D vwCl (xt cI cJ cS) (xx cI cJ cS h0 ca hh ka fk ad ads N4 cr v vs nx sz) [.ref h0, .int pg, .int what] (some (.int (sp_page v pg what))) := by
  refine xk_rd (cc := cX4_page) (maxL := 5) (ret := (some .int)) (by decide) rfl (Nat.le_of_ble_eq_true rfl) (fun p e s m below meth c ls hx hb hr hlk hml hown hts hl hP hK hN => ?_)
  replace hl : lv_has ls 5 [(0, .ref h0), (1, .int pg), (2, .int what)] := hl
  have hiX2 : ∀ w ∈ u_ws RX2 TX2 10, w ∈ wsX4_page := by decide +kernel
  have hiX4 : ∀ w ∈ u_ws RX4 TX4 3, w ∈ wsX4_page := by decide +kernel
  replace hP : va_P D vwCl ([(h0, .inr (3, [.ref (ad 0), .ref hh, .ref ca])), (ca, .inl (cJ, 64, .inr (.inl cr))), (hh, .inr (1, [.ref ka, .int (nI nx), .int (nI sz)])), (ka, .inl (cS, 24, .inr (.inr (.inr (.inr fk)))))] ++ (xst cI cJ ad v ++ xpl cI cJ ads vs N4)) s.heap := hP
  refine lv_iload_n hx hb dX4_page_0 rfl (lv_at hl 1 rfl) ?_
  refine lv_if_lt (tgt := 10) hx hb dX4_page_1 (by decide) (fun c_1 => ?_) (fun c_1 => ?_)
  · skip
    refine lv_iconst (v := (-1)) hx hb dX4_page_10 (by decide) ?_
    exact xk_iretR hx hb hr hlk (by unfold sp_page; rw [if_neg (by rw [xi_lt c_1]; decide)]) dX4_page_11
  · skip
    refine lv_iload_n hx hb dX4_page_4 rfl (lv_at hl 1 rfl) ?_
    refine lv_bipush (v := 16) hx hb dX4_page_5 (by decide) ?_
    refine lv_icmp_lt (tgt := 12) hx hb dX4_page_7 (by decide) (fun c_7 => ?_) (fun c_7 => ?_)
    · skip
      have hx16 : xi pg 16 = true := xi_in (N := 16) rfl c_1 (Int32.not_le.mpr c_7)
      obtain ⟨pk, hpk, ep⟩ := xi_of hx16
      have hxp : xN pg = pk := by rw [ep]; exact xN_nI (by omega)
      rw [ep] at hl
      refine lv_iload_n hx hb dX4_page_12 rfl (lv_at hl 1 rfl) ?_
      refine lv_bipush (v := 16) hx hb dX4_page_13 (by decide) ?_
      refine lv_imul hx hb dX4_page_15 ?_
      refine lv_topi (fun y ey => ?_)
      obtain rfl : y = nI (16 * pk) := ey.trans (by rw [show (16 : Int32) = nI 16 from rfl, pk_mul, Nat.mul_comm])
      refine lv_istore_n (lv' := [(3, .int (nI (16 * pk))), (0, .ref h0), (1, .int (nI pk)), (2, .int what)]) hx hb dX4_page_16 rfl hl (by decide) rfl (fun ls hl => ?_)
      refine lv_iload_n hx hb dX4_page_17 rfl (lv_at hl 0 rfl) ?_
      refine lv_bipush (v := 16) hx hb dX4_page_18 (by decide) ?_
      refine lv_iadd hx hb dX4_page_20 ?_
      refine lv_topi (fun y ey => ?_)
      obtain rfl : y = nI (16 * pk + 16) := ey.trans (nI_add (16 * pk) 16)
      refine lv_istore (lv' := [(4, .int (nI (16 * pk + 16))), (3, .int (nI (16 * pk))), (0, .ref h0), (1, .int (nI pk)), (2, .int what)]) hx hb dX4_page_21 hl (by decide) rfl (fun ls hl => ?_)
      refine lv_iload_n hx hb dX4_page_23 rfl (lv_at hl 4 rfl) ?_
      by_cases c_24_0 : what = 0
      · refine lv_tableIn (off := 36) (tgt := 60) hx hb dX4_page_24 (by rw [c_24_0]; decide) (by rw [c_24_0]; decide) (by rw [c_24_0]; rfl) (by decide) ?_
        refine lv_aload_n hx hb dX4_page_60 rfl (lv_at hl 2 rfl) ?_
        refine va_get (D := D) (ci := 3) (v := .ref (ad 0)) (C := RX4) (T := TX4) (N := 3) hx hb hts hiX4 hown hK hP 0 rfl rfl 0 (by decide) (hts (.fieldLink RX4 12 "PointerSweep" "now" "LPointerSweep$State;") (by decide +kernel)) (fun _ h9 => h9) rfl dX4_page_61 ?_
        refine lv_iload_n hx hb dX4_page_64 rfl (lv_at hl 3 rfl) ?_
        refine xk_callR (va_runV (As := [.int (nI pk)]) (rest := []) ⟨hx, hb, hml, hown, hts⟩ (k_isSeenF l D cI cJ cS ad v hv.2.2 pk hpk) (cwV 1 hts gX4_page_X2_isSeen rfl rfl rfl (by decide +kernel) ⟨Nat.le_of_ble_eq_true rfl, Nat.le_of_ble_eq_true rfl⟩) (xk_preVmr hK hN hP (ci := 2) rfl 0 rfl) rfl rfl hl.1 rfl (lv_room (Nat.le_of_ble_eq_true rfl)) dX4_page_65 ⟨Nat.zero_le _, Nat.zero_le _⟩) ?_
        refine xk_callR (va_runS (As := [.int (xb (decide (pk < v.2.2.2.2.2.2.2.2.1)))]) (rest := []) ⟨hx, hb, hml, hown, hts⟩ (k_oneIf l D cI cJ cS (decide (pk < v.2.2.2.2.2.2.2.2.1))) (va_cwS 1 hts gX4_page_X4_oneIf rfl rfl rfl (by decide +kernel) ⟨Nat.le_of_ble_eq_true rfl, Nat.le_of_ble_eq_true rfl⟩) (xk_preSr hK hN hP [] rfl) rfl rfl hl.1 rfl (lv_room (Nat.le_of_ble_eq_true rfl)) dX4_page_68 ⟨Nat.zero_le _, Nat.zero_le _⟩) ?_
        exact xk_iretR hx hb hr hlk (by unfold sp_page; rw [if_pos hx16, if_pos c_24_0, hxp]) dX4_page_71
      by_cases c_24_1 : what = 1
      · refine lv_tableIn (off := 48) (tgt := 72) hx hb dX4_page_24 (by rw [c_24_1]; decide) (by rw [c_24_1]; decide) (by rw [c_24_1]; rfl) (by decide) ?_
        refine lv_aload_n hx hb dX4_page_72 rfl (lv_at hl 2 rfl) ?_
        refine va_get (D := D) (ci := 3) (v := .ref (ad 0)) (C := RX4) (T := TX4) (N := 3) hx hb hts hiX4 hown hK hP 0 rfl rfl 0 (by decide) (hts (.fieldLink RX4 12 "PointerSweep" "now" "LPointerSweep$State;") (by decide +kernel)) (fun _ h9 => h9) rfl dX4_page_73 ?_
        refine lv_iload_n hx hb dX4_page_76 rfl (lv_at hl 3 rfl) ?_
        refine xk_callR (va_runV (As := [.int (nI pk)]) (rest := []) ⟨hx, hb, hml, hown, hts⟩ (k_isDirtyF l D cI cJ cS ad v pk hpk) (cwV 1 hts gX4_page_X2_isDirty rfl rfl rfl (by decide +kernel) ⟨Nat.le_of_ble_eq_true rfl, Nat.le_of_ble_eq_true rfl⟩) (xk_preVmr hK hN hP (ci := 2) rfl 0 rfl) rfl rfl hl.1 rfl (lv_room (Nat.le_of_ble_eq_true rfl)) dX4_page_77 ⟨Nat.zero_le _, Nat.zero_le _⟩) ?_
        refine xk_callR (va_runS (As := [.int (xb (v.2.2.2.2.2.2.2.2.2 pk))]) (rest := []) ⟨hx, hb, hml, hown, hts⟩ (k_oneIf l D cI cJ cS (v.2.2.2.2.2.2.2.2.2 pk)) (va_cwS 1 hts gX4_page_X4_oneIf rfl rfl rfl (by decide +kernel) ⟨Nat.le_of_ble_eq_true rfl, Nat.le_of_ble_eq_true rfl⟩) (xk_preSr hK hN hP [] rfl) rfl rfl hl.1 rfl (lv_room (Nat.le_of_ble_eq_true rfl)) dX4_page_80 ⟨Nat.zero_le _, Nat.zero_le _⟩) ?_
        exact xk_iretR hx hb hr hlk (by unfold sp_page; rw [if_pos hx16, if_neg c_24_0, if_pos c_24_1, hxp]) dX4_page_83
      by_cases c_24_2 : what = 2
      · refine lv_tableIn (off := 60) (tgt := 84) hx hb dX4_page_24 (by rw [c_24_2]; decide) (by rw [c_24_2]; decide) (by rw [c_24_2]; rfl) (by decide) ?_
        refine lv_aload_n hx hb dX4_page_84 rfl (lv_at hl 2 rfl) ?_
        refine va_get (D := D) (ci := 3) (v := .ref (ad 0)) (C := RX4) (T := TX4) (N := 3) hx hb hts hiX4 hown hK hP 0 rfl rfl 0 (by decide) (hts (.fieldLink RX4 12 "PointerSweep" "now" "LPointerSweep$State;") (by decide +kernel)) (fun _ h9 => h9) rfl dX4_page_85 ?_
        refine lv_iload_n hx hb dX4_page_88 rfl (lv_at hl 1 rfl) ?_
        refine lv_iload hx hb dX4_page_89 (lv_at hl 0 rfl) ?_
        refine xk_callR (va_runV (As := [.int (nI (16 * pk)), .int (nI (16 * pk + 16))]) (rest := []) ⟨hx, hb, hml, hown, hts⟩ (k_pointersInF l D cI cJ cS ad v (x_ok_m hv) (16 * pk) (16 * pk + 16) (by omega) (by omega)) (cwV 2 hts gX4_page_X2_pointersIn rfl rfl rfl (by decide +kernel) ⟨Nat.le_of_ble_eq_true rfl, Nat.le_of_ble_eq_true rfl⟩) (xk_preVmr hK hN hP (ci := 2) rfl 0 rfl) rfl rfl hl.1 rfl (lv_room (Nat.le_of_ble_eq_true rfl)) dX4_page_91 ⟨Nat.zero_le _, Nat.zero_le _⟩) ?_
        exact xk_iretR hx hb hr hlk (by unfold sp_page; rw [if_pos hx16, if_neg c_24_0, if_neg c_24_1, if_pos c_24_2, hxp]) dX4_page_94
      by_cases c_24_3 : what = 3
      · refine lv_tableIn (off := 71) (tgt := 95) hx hb dX4_page_24 (by rw [c_24_3]; decide) (by rw [c_24_3]; decide) (by rw [c_24_3]; rfl) (by decide) ?_
        refine lv_aload_n hx hb dX4_page_95 rfl (lv_at hl 2 rfl) ?_
        refine va_get (D := D) (ci := 3) (v := .ref (ad 0)) (C := RX4) (T := TX4) (N := 3) hx hb hts hiX4 hown hK hP 0 rfl rfl 0 (by decide) (hts (.fieldLink RX4 12 "PointerSweep" "now" "LPointerSweep$State;") (by decide +kernel)) (fun _ h9 => h9) rfl dX4_page_96 ?_
        refine va_get (D := D) (ci := 2) (v := .ref (ad 4)) (C := RX2) (T := TX2) (N := 10) hx hb hts hiX2 hown hK hP 4 rfl rfl 3 (by decide) (hts (.fieldLink RX4 146 "PointerSweep$State" "given" "LPointerSweep$CellMap;") (by decide +kernel)) (fun _ h9 => h9) rfl dX4_page_99 ?_
        refine lv_iload_n hx hb dX4_page_102 rfl (lv_at hl 1 rfl) ?_
        refine lv_iload hx hb dX4_page_103 (lv_at hl 0 rfl) ?_
        refine xk_callR (va_runV (As := [.int (nI (16 * pk)), .int (nI (16 * pk + 16))]) (rest := []) ⟨hx, hb, hml, hown, hts⟩ (k_sizeWithin l D cI cJ cS (ad 4) (ad 5) v.2.2.2.1 (16 * pk) (16 * pk + 16) (by omega) (by omega)) (cwV 2 hts gX4_page_X0_sizeWithin rfl rfl rfl (by decide +kernel) ⟨Nat.le_of_ble_eq_true rfl, Nat.le_of_ble_eq_true rfl⟩) (xk_preVr hK hN hP [8, 9] rfl (ci := 0) rfl 0 rfl) rfl rfl hl.1 rfl (lv_room (Nat.le_of_ble_eq_true rfl)) dX4_page_105 ⟨Nat.zero_le _, Nat.zero_le _⟩) ?_
        exact xk_iretR hx hb hr hlk (by unfold sp_page; rw [if_pos hx16, if_neg c_24_0, if_neg c_24_1, if_neg c_24_2, if_pos c_24_3, hxp]) dX4_page_108
      by_cases c_24_4 : what = 4
      · refine lv_tableIn (off := 85) (tgt := 109) hx hb dX4_page_24 (by rw [c_24_4]; decide) (by rw [c_24_4]; decide) (by rw [c_24_4]; rfl) (by decide) ?_
        refine lv_aload_n hx hb dX4_page_109 rfl (lv_at hl 2 rfl) ?_
        refine va_get (D := D) (ci := 3) (v := .ref (ad 0)) (C := RX4) (T := TX4) (N := 3) hx hb hts hiX4 hown hK hP 0 rfl rfl 0 (by decide) (hts (.fieldLink RX4 12 "PointerSweep" "now" "LPointerSweep$State;") (by decide +kernel)) (fun _ h9 => h9) rfl dX4_page_110 ?_
        refine va_get (D := D) (ci := 2) (v := .ref (ad 6)) (C := RX2) (T := TX2) (N := 10) hx hb hts hiX2 hown hK hP 4 rfl rfl 4 (by decide) (hts (.fieldLink RX4 155 "PointerSweep$State" "quarantined" "LPointerSweep$CellMap;") (by decide +kernel)) (fun _ h9 => h9) rfl dX4_page_113 ?_
        refine lv_iload_n hx hb dX4_page_116 rfl (lv_at hl 1 rfl) ?_
        refine lv_iload hx hb dX4_page_117 (lv_at hl 0 rfl) ?_
        refine xk_callR (va_runV (As := [.int (nI (16 * pk)), .int (nI (16 * pk + 16))]) (rest := []) ⟨hx, hb, hml, hown, hts⟩ (k_sizeWithin l D cI cJ cS (ad 6) (ad 7) v.2.2.2.2.1 (16 * pk) (16 * pk + 16) (by omega) (by omega)) (cwV 2 hts gX4_page_X0_sizeWithin rfl rfl rfl (by decide +kernel) ⟨Nat.le_of_ble_eq_true rfl, Nat.le_of_ble_eq_true rfl⟩) (xk_preVr hK hN hP [10, 11] rfl (ci := 0) rfl 0 rfl) rfl rfl hl.1 rfl (lv_room (Nat.le_of_ble_eq_true rfl)) dX4_page_119 ⟨Nat.zero_le _, Nat.zero_le _⟩) ?_
        exact xk_iretR hx hb hr hlk (by unfold sp_page; rw [if_pos hx16, if_neg c_24_0, if_neg c_24_1, if_neg c_24_2, if_neg c_24_3, if_pos c_24_4, hxp]) dX4_page_122
      refine lv_tableOut (tgt := 123) hx hb dX4_page_24 (by have h0 := lv_neT (a := 0) c_24_0 rfl; have h1 := lv_neT (a := 1) c_24_1 rfl; have h2 := lv_neT (a := 2) c_24_2 rfl; have h3 := lv_neT (a := 3) c_24_3 rfl; have h4 := lv_neT (a := 4) c_24_4 rfl;   omega) (by decide) ?_
      refine lv_iconst (v := (-1)) hx hb dX4_page_123 (by decide) ?_
      exact xk_iretR hx hb hr hlk (by unfold sp_page; rw [if_pos hx16, if_neg c_24_0, if_neg c_24_1, if_neg c_24_2, if_neg c_24_3, if_neg c_24_4]) dX4_page_124
    · skip
      refine lv_iconst (v := (-1)) hx hb dX4_page_10 (by decide) ?_
      exact xk_iretR hx hb hr hlk (by unfold sp_page; rw [if_neg (by rw [xi_ge (n := 16) (N := 16) rfl (Int32.not_lt.mp c_7)]; decide)]) dX4_page_11
set_option maxHeartbeats 4000000 in
set_option maxRecDepth 100000 in
theorem x_rangec (l : Launch) (D : va_G) (cI cJ cS : ClassId) (h0 ca hh ka : Nat) (fk : Nat → Option Nat) (ad : Nat → Nat) (ads : Nat → Nat → Nat) (N4 : Nat) (h4 : N4 = 24) (cr : Nat → Int64) (v : xV) (vs : Nat → xV) (nx sz : Nat) (hka : ∀ i, i < 24 → fk i = some (ads i 0)) (hnx : nx < 24) (hsz : sz ≤ 24) (hv : x_ok v) (i what : Int32) : xk_Rd l yX4_range wsX4_range ({ frames := 3, cells := 0, slots := 0, locals := 63 }) D vwCl (xt cI cJ cS) (xx cI cJ cS h0 ca hh ka fk ad ads N4 cr v vs nx sz) [.ref h0, .int i, .int what] (some (.int (sp_range v i what))) := by
  refine xk_rd (cc := cX4_range) (maxL := 4) (ret := (some .int)) (by decide) rfl (Nat.le_of_ble_eq_true rfl) (fun p e s m below meth c ls hx hb hr hlk hml hown hts hl hP hK hN => ?_)
  replace hl : lv_has ls 4 [(0, .ref h0), (1, .int i), (2, .int what)] := hl
  have hiX2 : ∀ w ∈ u_ws RX2 TX2 10, w ∈ wsX4_range := by decide +kernel
  have hiX4 : ∀ w ∈ u_ws RX4 TX4 3, w ∈ wsX4_range := by decide +kernel
  replace hP : va_P D vwCl ([(h0, .inr (3, [.ref (ad 0), .ref hh, .ref ca])), (ca, .inl (cJ, 64, .inr (.inl cr))), (hh, .inr (1, [.ref ka, .int (nI nx), .int (nI sz)])), (ka, .inl (cS, 24, .inr (.inr (.inr (.inr fk)))))] ++ (xst cI cJ ad v ++ xpl cI cJ ads vs N4)) s.heap := hP
  refine lv_iload_n hx hb dX4_range_0 rfl (lv_at hl 1 rfl) ?_
  refine xk_callR (va_runS (As := [.int i]) (rest := []) ⟨hx, hb, hml, hown, hts⟩ (k_isCell l D cI cJ cS i) (va_cwS 1 hts gX4_range_X4_isCell rfl rfl rfl (by decide +kernel) ⟨Nat.le_of_ble_eq_true rfl, Nat.le_of_ble_eq_true rfl⟩) (xk_preSr hK hN hP [] rfl) rfl rfl hl.1 rfl (lv_room (Nat.le_of_ble_eq_true rfl)) dX4_range_1 ⟨Nat.zero_le _, Nat.zero_le _⟩) ?_
  refine lv_if_eq (tgt := 16) hx hb dX4_range_4 (by decide) (fun c_4 => ?_) (fun c_4 => ?_)
  · skip
    refine lv_iconst (v := (-1)) hx hb dX4_range_16 (by decide) ?_
    exact xk_iretR hx hb hr hlk (by unfold sp_range; rw [if_neg (fun z => x_bt c_4 z.1)]) dX4_range_17
  · skip
    refine lv_iload_n hx hb dX4_range_7 rfl (lv_at hl 2 rfl) ?_
    refine lv_if_lt (tgt := 16) hx hb dX4_range_8 (by decide) (fun c_8 => ?_) (fun c_8 => ?_)
    · skip
      refine lv_iconst (v := (-1)) hx hb dX4_range_16 (by decide) ?_
      exact xk_iretR hx hb hr hlk (by unfold sp_range; rw [if_neg (fun z => z.2.1 c_8)]) dX4_range_17
    · skip
      refine lv_iload_n hx hb dX4_range_11 rfl (lv_at hl 2 rfl) ?_
      refine lv_iconst (v := 1) hx hb dX4_range_12 (by decide) ?_
      refine lv_icmp_le (tgt := 18) hx hb dX4_range_13 (by decide) (fun c_13 => ?_) (fun c_13 => ?_)
      · skip
        obtain ⟨ik, hik, ei⟩ := xi_of (xb_ne c_4)
        have hxi : xN i = ik := by rw [ei]; exact xN_nI (by omega)
        rw [ei] at hl
        refine lv_aload_n hx hb dX4_range_18 rfl (lv_at hl 0 rfl) ?_
        refine va_get (D := D) (ci := 3) (v := .ref (ad 0)) (C := RX4) (T := TX4) (N := 3) hx hb hts hiX4 hown hK hP 0 rfl rfl 0 (by decide) (hts (.fieldLink RX4 12 "PointerSweep" "now" "LPointerSweep$State;") (by decide +kernel)) (fun _ h9 => h9) rfl dX4_range_19 ?_
        refine va_get (D := D) (ci := 2) (v := .ref (ad 4)) (C := RX2) (T := TX2) (N := 10) hx hb hts hiX2 hown hK hP 4 rfl rfl 3 (by decide) (hts (.fieldLink RX4 146 "PointerSweep$State" "given" "LPointerSweep$CellMap;") (by decide +kernel)) (fun _ h9 => h9) rfl dX4_range_22 ?_
        refine lv_iload_n hx hb dX4_range_25 rfl (lv_at hl 1 rfl) ?_
        refine xk_callR (va_runV (As := [.int (nI ik)]) (rest := []) ⟨hx, hb, hml, hown, hts⟩ (k_has l D cI cJ cS (ad 4) (ad 5) v.2.2.2.1 ik hik) (cwV 1 hts gX4_range_X0_has rfl rfl rfl (by decide +kernel) ⟨Nat.le_of_ble_eq_true rfl, Nat.le_of_ble_eq_true rfl⟩) (xk_preVr hK hN hP [8, 9] rfl (ci := 0) rfl 0 rfl) rfl rfl hl.1 rfl (lv_room (Nat.le_of_ble_eq_true rfl)) dX4_range_26 ⟨Nat.zero_le _, Nat.zero_le _⟩) ?_
        refine lv_if_ne (tgt := 35) hx hb dX4_range_29 (by decide) (fun c_29 => ?_) (fun c_29 => ?_)
        · skip
          refine lv_aload_n hx hb dX4_range_35 rfl (lv_at hl 0 rfl) ?_
          refine va_get (D := D) (ci := 3) (v := .ref (ad 0)) (C := RX4) (T := TX4) (N := 3) hx hb hts hiX4 hown hK hP 0 rfl rfl 0 (by decide) (hts (.fieldLink RX4 12 "PointerSweep" "now" "LPointerSweep$State;") (by decide +kernel)) (fun _ h9 => h9) rfl dX4_range_36 ?_
          refine lv_iload_n hx hb dX4_range_39 rfl (lv_at hl 1 rfl) ?_
          refine xk_callR (va_runV (As := [.int (nI ik)]) (rest := []) ⟨hx, hb, hml, hown, hts⟩ (k_rangeFromF l D cI cJ cS ad v ik hik) (cwV 1 hts gX4_range_X2_rangeFrom rfl rfl rfl (by decide +kernel) ⟨Nat.le_of_ble_eq_true rfl, Nat.le_of_ble_eq_true rfl⟩) (xk_preVmr hK hN hP (ci := 2) rfl 0 rfl) rfl rfl hl.1 rfl (lv_room (Nat.le_of_ble_eq_true rfl)) dX4_range_40 ⟨Nat.zero_le _, Nat.zero_le _⟩) ?_
          refine lv_istore_n (lv' := [(3, .int (nI (x_rf v.2.2.2.2.2.2.1 ik))), (0, .ref h0), (1, .int (nI ik)), (2, .int what)]) hx hb dX4_range_43 rfl hl (by decide) rfl (fun ls hl => ?_)
          refine lv_iload_n hx hb dX4_range_44 rfl (lv_at hl 3 rfl) ?_
          refine lv_if_ne (tgt := 52) hx hb dX4_range_45 (by decide) (fun c_45 => ?_) (fun c_45 => ?_)
          · skip
            refine lv_aload_n hx hb dX4_range_52 rfl (lv_at hl 1 rfl) ?_
            refine va_get (D := D) (ci := 3) (v := .ref (ad 0)) (C := RX4) (T := TX4) (N := 3) hx hb hts hiX4 hown hK hP 0 rfl rfl 0 (by decide) (hts (.fieldLink RX4 12 "PointerSweep" "now" "LPointerSweep$State;") (by decide +kernel)) (fun _ h9 => h9) rfl dX4_range_53 ?_
            refine lv_iload_n hx hb dX4_range_56 rfl (lv_at hl 2 rfl) ?_
            refine xk_callR (va_runV (As := [.int (nI ik)]) (rest := []) ⟨hx, hb, hml, hown, hts⟩ (k_rangeToF l D cI cJ cS ad v ik hik) (cwV 1 hts gX4_range_X2_rangeTo rfl rfl rfl (by decide +kernel) ⟨Nat.le_of_ble_eq_true rfl, Nat.le_of_ble_eq_true rfl⟩) (xk_preVmr hK hN hP (ci := 2) rfl 0 rfl) rfl rfl hl.1 rfl (lv_room (Nat.le_of_ble_eq_true rfl)) dX4_range_57 ⟨Nat.zero_le _, Nat.zero_le _⟩) ?_
            refine lv_iload_n hx hb dX4_range_60 rfl (lv_at hl 0 rfl) ?_
            refine lv_isub hx hb dX4_range_61 ?_
            exact xk_iretR hx hb hr hlk (by unfold sp_range; rw [if_pos ⟨xb_ne c_4, c_8, c_13⟩, hxi, if_pos (xb_ne c_29), if_neg c_45]) dX4_range_62
          · skip
            refine lv_iload_n hx hb dX4_range_48 rfl (lv_at hl 0 rfl) ?_
            refine lv_goto (tgt := 62) hx hb dX4_range_49 (by decide) ?_
            exact xk_iretR hx hb hr hlk (by unfold sp_range; rw [if_pos ⟨xb_ne c_4, c_8, c_13⟩, hxi, if_pos (xb_ne c_29), if_pos c_45]) dX4_range_62
        · skip
          refine lv_bipush (v := (-4)) hx hb dX4_range_32 (by decide) ?_
          exact xk_iretR hx hb hr hlk (by unfold sp_range; rw [if_pos ⟨xb_ne c_4, c_8, c_13⟩, hxi, if_neg (x_bt c_29)]) dX4_range_34
      · skip
        refine lv_iconst (v := (-1)) hx hb dX4_range_16 (by decide) ?_
        exact xk_iretR hx hb hr hlk (by unfold sp_range; rw [if_neg (fun z => c_13 z.2.2)]) dX4_range_17
set_option maxHeartbeats 4000000 in
set_option maxRecDepth 100000 in
theorem x_countc (l : Launch) (D : va_G) (cI cJ cS : ClassId) (h0 ca hh ka : Nat) (fk : Nat → Option Nat) (ad : Nat → Nat) (ads : Nat → Nat → Nat) (N4 : Nat) (h4 : N4 = 24) (cr : Nat → Int64) (v : xV) (vs : Nat → xV) (nx sz : Nat) (hka : ∀ i, i < 24 → fk i = some (ads i 0)) (hnx : nx < 24) (hsz : sz ≤ 24) (hv : x_ok v) (what : Int32) : xk_Rd l yX4_count wsX4_count ({ frames := 3, cells := 0, slots := 0, locals := 66 }) D vwCl (xt cI cJ cS) (xx cI cJ cS h0 ca hh ka fk ad ads N4 cr v vs nx sz) [.ref h0, .int what] (some (.int (sp_count v sz what))) := by
  refine xk_rd (cc := cX4_count) (maxL := 4) (ret := (some .int)) (by decide) rfl (Nat.le_of_ble_eq_true rfl) (fun p e s m below meth c ls hx hb hr hlk hml hown hts hl hP hK hN => ?_)
  replace hl : lv_has ls 4 [(0, .ref h0), (1, .int what)] := hl
  have hiX1 : ∀ w ∈ u_ws RX1 TX1 3, w ∈ wsX4_count := by decide +kernel
  have hiX2 : ∀ w ∈ u_ws RX2 TX2 10, w ∈ wsX4_count := by decide +kernel
  have hiX4 : ∀ w ∈ u_ws RX4 TX4 3, w ∈ wsX4_count := by decide +kernel
  replace hP : va_P D vwCl ([(h0, .inr (3, [.ref (ad 0), .ref hh, .ref ca])), (ca, .inl (cJ, 64, .inr (.inl cr))), (hh, .inr (1, [.ref ka, .int (nI nx), .int (nI sz)])), (ka, .inl (cS, 24, .inr (.inr (.inr (.inr fk)))))] ++ (xst cI cJ ad v ++ xpl cI cJ ads vs N4)) s.heap := hP
  refine lv_iload_n hx hb dX4_count_0 rfl (lv_at hl 1 rfl) ?_
  refine lv_iconst (v := 5) hx hb dX4_count_1 (by decide) ?_
  refine lv_icmp_lt (tgt := 23) hx hb dX4_count_2 (by decide) (fun c_2 => ?_) (fun c_2 => ?_)
  · skip
    refine lv_aload_n hx hb dX4_count_23 rfl (lv_at hl 0 rfl) ?_
    refine va_get (D := D) (ci := 3) (v := .ref (ad 0)) (C := RX4) (T := TX4) (N := 3) hx hb hts hiX4 hown hK hP 0 rfl rfl 0 (by decide) (hts (.fieldLink RX4 12 "PointerSweep" "now" "LPointerSweep$State;") (by decide +kernel)) (fun _ h9 => h9) rfl dX4_count_24 ?_
    refine va_get (D := D) (ci := 2) (v := .ref (ad 4)) (C := RX2) (T := TX2) (N := 10) hx hb hts hiX2 hown hK hP 4 rfl rfl 3 (by decide) (hts (.fieldLink RX4 146 "PointerSweep$State" "given" "LPointerSweep$CellMap;") (by decide +kernel)) (fun _ h9 => h9) rfl dX4_count_27 ?_
    refine xk_callR (va_runV (As := []) (rest := []) ⟨hx, hb, hml, hown, hts⟩ (k_size l D cI cJ cS (ad 4) (ad 5) v.2.2.2.1) (cwV 0 hts gX4_count_X0_size rfl rfl rfl (by decide +kernel) ⟨Nat.le_of_ble_eq_true rfl, Nat.le_of_ble_eq_true rfl⟩) (xk_preVr hK hN hP [8, 9] rfl (ci := 0) rfl 0 rfl) rfl rfl hl.1 rfl (lv_room (Nat.le_of_ble_eq_true rfl)) dX4_count_30 ⟨Nat.zero_le _, Nat.zero_le _⟩) ?_
    refine lv_istore_n (lv' := [(2, .int (nI (xs_w v.2.2.2.1 0 256))), (0, .ref h0), (1, .int what)]) hx hb dX4_count_33 rfl hl (by decide) rfl (fun ls hl => ?_)
    refine lv_aload_n hx hb dX4_count_34 rfl (lv_at hl 1 rfl) ?_
    refine va_get (D := D) (ci := 3) (v := .ref (ad 0)) (C := RX4) (T := TX4) (N := 3) hx hb hts hiX4 hown hK hP 0 rfl rfl 0 (by decide) (hts (.fieldLink RX4 12 "PointerSweep" "now" "LPointerSweep$State;") (by decide +kernel)) (fun _ h9 => h9) rfl dX4_count_35 ?_
    refine va_get (D := D) (ci := 2) (v := .ref (ad 6)) (C := RX2) (T := TX2) (N := 10) hx hb hts hiX2 hown hK hP 4 rfl rfl 4 (by decide) (hts (.fieldLink RX4 155 "PointerSweep$State" "quarantined" "LPointerSweep$CellMap;") (by decide +kernel)) (fun _ h9 => h9) rfl dX4_count_38 ?_
    refine xk_callR (va_runV (As := []) (rest := []) ⟨hx, hb, hml, hown, hts⟩ (k_size l D cI cJ cS (ad 6) (ad 7) v.2.2.2.2.1) (cwV 0 hts gX4_count_X0_size rfl rfl rfl (by decide +kernel) ⟨Nat.le_of_ble_eq_true rfl, Nat.le_of_ble_eq_true rfl⟩) (xk_preVr hK hN hP [10, 11] rfl (ci := 0) rfl 0 rfl) rfl rfl hl.1 rfl (lv_room (Nat.le_of_ble_eq_true rfl)) dX4_count_41 ⟨Nat.zero_le _, Nat.zero_le _⟩) ?_
    refine lv_istore_n (lv' := [(3, .int (nI (xs_w v.2.2.2.2.1 0 256))), (2, .int (nI (xs_w v.2.2.2.1 0 256))), (0, .ref h0), (1, .int what)]) hx hb dX4_count_44 rfl hl (by decide) rfl (fun ls hl => ?_)
    refine lv_iload_n hx hb dX4_count_45 rfl (lv_at hl 3 rfl) ?_
    by_cases c_46_0 : what = 0
    · refine lv_tableIn (off := 70) (tgt := 116) hx hb dX4_count_46 (by rw [c_46_0]; decide) (by rw [c_46_0]; decide) (by rw [c_46_0]; rfl) (by decide) ?_
      refine lv_sipush (v := 256) hx hb dX4_count_116 (by decide) ?_
      refine lv_iload_n hx hb dX4_count_119 rfl (lv_at hl 1 rfl) ?_
      refine lv_isub hx hb dX4_count_120 ?_
      refine lv_iload_n hx hb dX4_count_121 rfl (lv_at hl 0 rfl) ?_
      refine lv_isub hx hb dX4_count_122 ?_
      exact xk_iretR hx hb hr hlk (by unfold sp_count; rw [if_neg (fun z => z.1 c_2), if_pos c_46_0]) dX4_count_123
    by_cases c_46_1 : what = 1
    · refine lv_tableIn (off := 78) (tgt := 124) hx hb dX4_count_46 (by rw [c_46_1]; decide) (by rw [c_46_1]; decide) (by rw [c_46_1]; rfl) (by decide) ?_
      refine lv_iload_n hx hb dX4_count_124 rfl (lv_at hl 1 rfl) ?_
      exact xk_iretR hx hb hr hlk (by unfold sp_count; rw [if_neg (fun z => z.1 c_2), if_neg c_46_0, if_pos c_46_1]) dX4_count_125
    by_cases c_46_2 : what = 2
    · refine lv_tableIn (off := 80) (tgt := 126) hx hb dX4_count_46 (by rw [c_46_2]; decide) (by rw [c_46_2]; decide) (by rw [c_46_2]; rfl) (by decide) ?_
      refine lv_iload_n hx hb dX4_count_126 rfl (lv_at hl 0 rfl) ?_
      exact xk_iretR hx hb hr hlk (by unfold sp_count; rw [if_neg (fun z => z.1 c_2), if_neg c_46_0, if_neg c_46_1, if_pos c_46_2]) dX4_count_127
    by_cases c_46_3 : what = 3
    · refine lv_tableIn (off := 82) (tgt := 128) hx hb dX4_count_46 (by rw [c_46_3]; decide) (by rw [c_46_3]; decide) (by rw [c_46_3]; rfl) (by decide) ?_
      refine lv_aload_n hx hb dX4_count_128 rfl (lv_at hl 2 rfl) ?_
      refine va_get (D := D) (ci := 3) (v := .ref (ad 0)) (C := RX4) (T := TX4) (N := 3) hx hb hts hiX4 hown hK hP 0 rfl rfl 0 (by decide) (hts (.fieldLink RX4 12 "PointerSweep" "now" "LPointerSweep$State;") (by decide +kernel)) (fun _ h9 => h9) rfl dX4_count_129 ?_
      refine va_get (D := D) (ci := 2) (v := .ref (ad 8)) (C := RX2) (T := TX2) (N := 10) hx hb hts hiX2 hown hK hP 4 rfl rfl 5 (by decide) (hts (.fieldLink RX4 179 "PointerSweep$State" "doomed" "LPointerSweep$CellMap;") (by decide +kernel)) (fun _ h9 => h9) rfl dX4_count_132 ?_
      refine xk_callR (va_runV (As := []) (rest := []) ⟨hx, hb, hml, hown, hts⟩ (k_size l D cI cJ cS (ad 8) (ad 9) v.2.2.2.2.2.1) (cwV 0 hts gX4_count_X0_size rfl rfl rfl (by decide +kernel) ⟨Nat.le_of_ble_eq_true rfl, Nat.le_of_ble_eq_true rfl⟩) (xk_preVr hK hN hP [12, 13] rfl (ci := 0) rfl 0 rfl) rfl rfl hl.1 rfl (lv_room (Nat.le_of_ble_eq_true rfl)) dX4_count_135 ⟨Nat.zero_le _, Nat.zero_le _⟩) ?_
      exact xk_iretR hx hb hr hlk (by unfold sp_count; rw [if_neg (fun z => z.1 c_2), if_neg c_46_0, if_neg c_46_1, if_neg c_46_2, if_pos c_46_3]) dX4_count_138
    by_cases c_46_4 : what = 4
    · refine lv_tableIn (off := 93) (tgt := 139) hx hb dX4_count_46 (by rw [c_46_4]; decide) (by rw [c_46_4]; decide) (by rw [c_46_4]; rfl) (by decide) ?_
      refine lv_aload_n hx hb dX4_count_139 rfl (lv_at hl 2 rfl) ?_
      refine va_get (D := D) (ci := 3) (v := .ref (ad 0)) (C := RX4) (T := TX4) (N := 3) hx hb hts hiX4 hown hK hP 0 rfl rfl 0 (by decide) (hts (.fieldLink RX4 12 "PointerSweep" "now" "LPointerSweep$State;") (by decide +kernel)) (fun _ h9 => h9) rfl dX4_count_140 ?_
      refine va_get (D := D) (ci := 2) (v := .ref (ad 10)) (C := RX2) (T := TX2) (N := 10) hx hb hts hiX2 hown hK hP 4 rfl rfl 6 (by decide) (hts (.fieldLink RX4 182 "PointerSweep$State" "firsts" "LPointerSweep$CellMap;") (by decide +kernel)) (fun _ h9 => h9) rfl dX4_count_143 ?_
      refine xk_callR (va_runV (As := []) (rest := []) ⟨hx, hb, hml, hown, hts⟩ (k_size l D cI cJ cS (ad 10) (ad 11) v.2.2.2.2.2.2.1) (cwV 0 hts gX4_count_X0_size rfl rfl rfl (by decide +kernel) ⟨Nat.le_of_ble_eq_true rfl, Nat.le_of_ble_eq_true rfl⟩) (xk_preVr hK hN hP [14, 15] rfl (ci := 0) rfl 0 rfl) rfl rfl hl.1 rfl (lv_room (Nat.le_of_ble_eq_true rfl)) dX4_count_146 ⟨Nat.zero_le _, Nat.zero_le _⟩) ?_
      exact xk_iretR hx hb hr hlk (by unfold sp_count; rw [if_neg (fun z => z.1 c_2), if_neg c_46_0, if_neg c_46_1, if_neg c_46_2, if_neg c_46_3, if_pos c_46_4]) dX4_count_149
    by_cases c_46_12 : what = 12
    · refine lv_tableIn (off := 104) (tgt := 150) hx hb dX4_count_46 (by rw [c_46_12]; decide) (by rw [c_46_12]; decide) (by rw [c_46_12]; rfl) (by decide) ?_
      refine lv_aload_n hx hb dX4_count_150 rfl (lv_at hl 2 rfl) ?_
      refine va_get (D := D) (ci := 3) (v := .ref (ad 0)) (C := RX4) (T := TX4) (N := 3) hx hb hts hiX4 hown hK hP 0 rfl rfl 0 (by decide) (hts (.fieldLink RX4 12 "PointerSweep" "now" "LPointerSweep$State;") (by decide +kernel)) (fun _ h9 => h9) rfl dX4_count_151 ?_
      refine va_get (D := D) (ci := 2) (v := .int (xb v.2.2.2.2.2.2.2.1)) (C := RX2) (T := TX2) (N := 10) hx hb hts hiX2 hown hK hP 4 rfl rfl 7 (by decide) (hts (.fieldLink RX4 105 "PointerSweep$State" "sweeping" "Z") (by decide +kernel)) (fun _ h9 => h9) rfl dX4_count_154 ?_
      refine xk_callR (va_runS (As := [.int (xb v.2.2.2.2.2.2.2.1)]) (rest := []) ⟨hx, hb, hml, hown, hts⟩ (k_oneIf l D cI cJ cS v.2.2.2.2.2.2.2.1) (va_cwS 1 hts gX4_count_X4_oneIf rfl rfl rfl (by decide +kernel) ⟨Nat.le_of_ble_eq_true rfl, Nat.le_of_ble_eq_true rfl⟩) (xk_preSr hK hN hP [] rfl) rfl rfl hl.1 rfl (lv_room (Nat.le_of_ble_eq_true rfl)) dX4_count_157 ⟨Nat.zero_le _, Nat.zero_le _⟩) ?_
      exact xk_iretR hx hb hr hlk (by unfold sp_count; rw [if_neg (fun z => z.1 c_2), if_neg c_46_0, if_neg c_46_1, if_neg c_46_2, if_neg c_46_3, if_neg c_46_4, if_pos c_46_12]) dX4_count_160
    by_cases c_46_13 : what = 13
    · refine lv_tableIn (off := 115) (tgt := 161) hx hb dX4_count_46 (by rw [c_46_13]; decide) (by rw [c_46_13]; decide) (by rw [c_46_13]; rfl) (by decide) ?_
      refine lv_aload_n hx hb dX4_count_161 rfl (lv_at hl 2 rfl) ?_
      refine va_get (D := D) (ci := 3) (v := .ref hh) (C := RX4) (T := TX4) (N := 3) hx hb hts hiX4 hown hK hP 0 rfl rfl 1 (by decide) (hts (.fieldLink RX4 19 "PointerSweep" "history" "LPointerSweep$History;") (by decide +kernel)) (fun _ h9 => h9) rfl dX4_count_162 ?_
      refine va_get (D := D) (ci := 1) (v := .int (nI sz)) (C := RX1) (T := TX1) (N := 3) hx hb hts hiX1 hown hK hP 2 rfl rfl 2 (by decide) (hts (.fieldLink RX4 167 "PointerSweep$History" "size" "I") (by decide +kernel)) (fun _ h9 => h9) rfl dX4_count_165 ?_
      exact xk_iretR hx hb hr hlk (by unfold sp_count; rw [if_neg (fun z => z.1 c_2), if_neg c_46_0, if_neg c_46_1, if_neg c_46_2, if_neg c_46_3, if_neg c_46_4, if_neg c_46_12, if_pos c_46_13]) dX4_count_168
    refine lv_tableOut (tgt := 169) hx hb dX4_count_46 (by have h0 := lv_neT (a := 0) c_46_0 rfl; have h1 := lv_neT (a := 1) c_46_1 rfl; have h2 := lv_neT (a := 2) c_46_2 rfl; have h3 := lv_neT (a := 3) c_46_3 rfl; have h4 := lv_neT (a := 4) c_46_4 rfl; have h12 := lv_neT (a := 12) c_46_12 rfl; have h13 := lv_neT (a := 13) c_46_13 rfl; have hc := Int32.lt_iff_toInt_lt.mp c_2; have e5 : (5 : Int32).toInt = 5 := rfl; omega) (by decide) ?_
    refine lv_iconst (v := (-1)) hx hb dX4_count_169 (by decide) ?_
    exact xk_iretR hx hb hr hlk (by unfold sp_count; rw [if_neg (fun z => z.1 c_2), if_neg c_46_0, if_neg c_46_1, if_neg c_46_2, if_neg c_46_3, if_neg c_46_4, if_neg c_46_12, if_neg c_46_13]) dX4_count_170
  · skip
    refine lv_iload_n hx hb dX4_count_5 rfl (lv_at hl 1 rfl) ?_
    refine lv_bipush (v := 12) hx hb dX4_count_6 (by decide) ?_
    refine lv_icmp_ge (tgt := 23) hx hb dX4_count_8 (by decide) (fun c_8 => ?_) (fun c_8 => ?_)
    · skip
      refine lv_aload_n hx hb dX4_count_23 rfl (lv_at hl 0 rfl) ?_
      refine va_get (D := D) (ci := 3) (v := .ref (ad 0)) (C := RX4) (T := TX4) (N := 3) hx hb hts hiX4 hown hK hP 0 rfl rfl 0 (by decide) (hts (.fieldLink RX4 12 "PointerSweep" "now" "LPointerSweep$State;") (by decide +kernel)) (fun _ h9 => h9) rfl dX4_count_24 ?_
      refine va_get (D := D) (ci := 2) (v := .ref (ad 4)) (C := RX2) (T := TX2) (N := 10) hx hb hts hiX2 hown hK hP 4 rfl rfl 3 (by decide) (hts (.fieldLink RX4 146 "PointerSweep$State" "given" "LPointerSweep$CellMap;") (by decide +kernel)) (fun _ h9 => h9) rfl dX4_count_27 ?_
      refine xk_callR (va_runV (As := []) (rest := []) ⟨hx, hb, hml, hown, hts⟩ (k_size l D cI cJ cS (ad 4) (ad 5) v.2.2.2.1) (cwV 0 hts gX4_count_X0_size rfl rfl rfl (by decide +kernel) ⟨Nat.le_of_ble_eq_true rfl, Nat.le_of_ble_eq_true rfl⟩) (xk_preVr hK hN hP [8, 9] rfl (ci := 0) rfl 0 rfl) rfl rfl hl.1 rfl (lv_room (Nat.le_of_ble_eq_true rfl)) dX4_count_30 ⟨Nat.zero_le _, Nat.zero_le _⟩) ?_
      refine lv_istore_n (lv' := [(2, .int (nI (xs_w v.2.2.2.1 0 256))), (0, .ref h0), (1, .int what)]) hx hb dX4_count_33 rfl hl (by decide) rfl (fun ls hl => ?_)
      refine lv_aload_n hx hb dX4_count_34 rfl (lv_at hl 1 rfl) ?_
      refine va_get (D := D) (ci := 3) (v := .ref (ad 0)) (C := RX4) (T := TX4) (N := 3) hx hb hts hiX4 hown hK hP 0 rfl rfl 0 (by decide) (hts (.fieldLink RX4 12 "PointerSweep" "now" "LPointerSweep$State;") (by decide +kernel)) (fun _ h9 => h9) rfl dX4_count_35 ?_
      refine va_get (D := D) (ci := 2) (v := .ref (ad 6)) (C := RX2) (T := TX2) (N := 10) hx hb hts hiX2 hown hK hP 4 rfl rfl 4 (by decide) (hts (.fieldLink RX4 155 "PointerSweep$State" "quarantined" "LPointerSweep$CellMap;") (by decide +kernel)) (fun _ h9 => h9) rfl dX4_count_38 ?_
      refine xk_callR (va_runV (As := []) (rest := []) ⟨hx, hb, hml, hown, hts⟩ (k_size l D cI cJ cS (ad 6) (ad 7) v.2.2.2.2.1) (cwV 0 hts gX4_count_X0_size rfl rfl rfl (by decide +kernel) ⟨Nat.le_of_ble_eq_true rfl, Nat.le_of_ble_eq_true rfl⟩) (xk_preVr hK hN hP [10, 11] rfl (ci := 0) rfl 0 rfl) rfl rfl hl.1 rfl (lv_room (Nat.le_of_ble_eq_true rfl)) dX4_count_41 ⟨Nat.zero_le _, Nat.zero_le _⟩) ?_
      refine lv_istore_n (lv' := [(3, .int (nI (xs_w v.2.2.2.2.1 0 256))), (2, .int (nI (xs_w v.2.2.2.1 0 256))), (0, .ref h0), (1, .int what)]) hx hb dX4_count_44 rfl hl (by decide) rfl (fun ls hl => ?_)
      refine lv_iload_n hx hb dX4_count_45 rfl (lv_at hl 3 rfl) ?_
      by_cases c_46_0 : what = 0
      · refine lv_tableIn (off := 70) (tgt := 116) hx hb dX4_count_46 (by rw [c_46_0]; decide) (by rw [c_46_0]; decide) (by rw [c_46_0]; rfl) (by decide) ?_
        refine lv_sipush (v := 256) hx hb dX4_count_116 (by decide) ?_
        refine lv_iload_n hx hb dX4_count_119 rfl (lv_at hl 1 rfl) ?_
        refine lv_isub hx hb dX4_count_120 ?_
        refine lv_iload_n hx hb dX4_count_121 rfl (lv_at hl 0 rfl) ?_
        refine lv_isub hx hb dX4_count_122 ?_
        exact xk_iretR hx hb hr hlk (by unfold sp_count; rw [if_neg (fun z => z.2 c_8), if_pos c_46_0]) dX4_count_123
      by_cases c_46_1 : what = 1
      · refine lv_tableIn (off := 78) (tgt := 124) hx hb dX4_count_46 (by rw [c_46_1]; decide) (by rw [c_46_1]; decide) (by rw [c_46_1]; rfl) (by decide) ?_
        refine lv_iload_n hx hb dX4_count_124 rfl (lv_at hl 1 rfl) ?_
        exact xk_iretR hx hb hr hlk (by unfold sp_count; rw [if_neg (fun z => z.2 c_8), if_neg c_46_0, if_pos c_46_1]) dX4_count_125
      by_cases c_46_2 : what = 2
      · refine lv_tableIn (off := 80) (tgt := 126) hx hb dX4_count_46 (by rw [c_46_2]; decide) (by rw [c_46_2]; decide) (by rw [c_46_2]; rfl) (by decide) ?_
        refine lv_iload_n hx hb dX4_count_126 rfl (lv_at hl 0 rfl) ?_
        exact xk_iretR hx hb hr hlk (by unfold sp_count; rw [if_neg (fun z => z.2 c_8), if_neg c_46_0, if_neg c_46_1, if_pos c_46_2]) dX4_count_127
      by_cases c_46_3 : what = 3
      · refine lv_tableIn (off := 82) (tgt := 128) hx hb dX4_count_46 (by rw [c_46_3]; decide) (by rw [c_46_3]; decide) (by rw [c_46_3]; rfl) (by decide) ?_
        refine lv_aload_n hx hb dX4_count_128 rfl (lv_at hl 2 rfl) ?_
        refine va_get (D := D) (ci := 3) (v := .ref (ad 0)) (C := RX4) (T := TX4) (N := 3) hx hb hts hiX4 hown hK hP 0 rfl rfl 0 (by decide) (hts (.fieldLink RX4 12 "PointerSweep" "now" "LPointerSweep$State;") (by decide +kernel)) (fun _ h9 => h9) rfl dX4_count_129 ?_
        refine va_get (D := D) (ci := 2) (v := .ref (ad 8)) (C := RX2) (T := TX2) (N := 10) hx hb hts hiX2 hown hK hP 4 rfl rfl 5 (by decide) (hts (.fieldLink RX4 179 "PointerSweep$State" "doomed" "LPointerSweep$CellMap;") (by decide +kernel)) (fun _ h9 => h9) rfl dX4_count_132 ?_
        refine xk_callR (va_runV (As := []) (rest := []) ⟨hx, hb, hml, hown, hts⟩ (k_size l D cI cJ cS (ad 8) (ad 9) v.2.2.2.2.2.1) (cwV 0 hts gX4_count_X0_size rfl rfl rfl (by decide +kernel) ⟨Nat.le_of_ble_eq_true rfl, Nat.le_of_ble_eq_true rfl⟩) (xk_preVr hK hN hP [12, 13] rfl (ci := 0) rfl 0 rfl) rfl rfl hl.1 rfl (lv_room (Nat.le_of_ble_eq_true rfl)) dX4_count_135 ⟨Nat.zero_le _, Nat.zero_le _⟩) ?_
        exact xk_iretR hx hb hr hlk (by unfold sp_count; rw [if_neg (fun z => z.2 c_8), if_neg c_46_0, if_neg c_46_1, if_neg c_46_2, if_pos c_46_3]) dX4_count_138
      by_cases c_46_4 : what = 4
      · refine lv_tableIn (off := 93) (tgt := 139) hx hb dX4_count_46 (by rw [c_46_4]; decide) (by rw [c_46_4]; decide) (by rw [c_46_4]; rfl) (by decide) ?_
        refine lv_aload_n hx hb dX4_count_139 rfl (lv_at hl 2 rfl) ?_
        refine va_get (D := D) (ci := 3) (v := .ref (ad 0)) (C := RX4) (T := TX4) (N := 3) hx hb hts hiX4 hown hK hP 0 rfl rfl 0 (by decide) (hts (.fieldLink RX4 12 "PointerSweep" "now" "LPointerSweep$State;") (by decide +kernel)) (fun _ h9 => h9) rfl dX4_count_140 ?_
        refine va_get (D := D) (ci := 2) (v := .ref (ad 10)) (C := RX2) (T := TX2) (N := 10) hx hb hts hiX2 hown hK hP 4 rfl rfl 6 (by decide) (hts (.fieldLink RX4 182 "PointerSweep$State" "firsts" "LPointerSweep$CellMap;") (by decide +kernel)) (fun _ h9 => h9) rfl dX4_count_143 ?_
        refine xk_callR (va_runV (As := []) (rest := []) ⟨hx, hb, hml, hown, hts⟩ (k_size l D cI cJ cS (ad 10) (ad 11) v.2.2.2.2.2.2.1) (cwV 0 hts gX4_count_X0_size rfl rfl rfl (by decide +kernel) ⟨Nat.le_of_ble_eq_true rfl, Nat.le_of_ble_eq_true rfl⟩) (xk_preVr hK hN hP [14, 15] rfl (ci := 0) rfl 0 rfl) rfl rfl hl.1 rfl (lv_room (Nat.le_of_ble_eq_true rfl)) dX4_count_146 ⟨Nat.zero_le _, Nat.zero_le _⟩) ?_
        exact xk_iretR hx hb hr hlk (by unfold sp_count; rw [if_neg (fun z => z.2 c_8), if_neg c_46_0, if_neg c_46_1, if_neg c_46_2, if_neg c_46_3, if_pos c_46_4]) dX4_count_149
      by_cases c_46_12 : what = 12
      · refine lv_tableIn (off := 104) (tgt := 150) hx hb dX4_count_46 (by rw [c_46_12]; decide) (by rw [c_46_12]; decide) (by rw [c_46_12]; rfl) (by decide) ?_
        refine lv_aload_n hx hb dX4_count_150 rfl (lv_at hl 2 rfl) ?_
        refine va_get (D := D) (ci := 3) (v := .ref (ad 0)) (C := RX4) (T := TX4) (N := 3) hx hb hts hiX4 hown hK hP 0 rfl rfl 0 (by decide) (hts (.fieldLink RX4 12 "PointerSweep" "now" "LPointerSweep$State;") (by decide +kernel)) (fun _ h9 => h9) rfl dX4_count_151 ?_
        refine va_get (D := D) (ci := 2) (v := .int (xb v.2.2.2.2.2.2.2.1)) (C := RX2) (T := TX2) (N := 10) hx hb hts hiX2 hown hK hP 4 rfl rfl 7 (by decide) (hts (.fieldLink RX4 105 "PointerSweep$State" "sweeping" "Z") (by decide +kernel)) (fun _ h9 => h9) rfl dX4_count_154 ?_
        refine xk_callR (va_runS (As := [.int (xb v.2.2.2.2.2.2.2.1)]) (rest := []) ⟨hx, hb, hml, hown, hts⟩ (k_oneIf l D cI cJ cS v.2.2.2.2.2.2.2.1) (va_cwS 1 hts gX4_count_X4_oneIf rfl rfl rfl (by decide +kernel) ⟨Nat.le_of_ble_eq_true rfl, Nat.le_of_ble_eq_true rfl⟩) (xk_preSr hK hN hP [] rfl) rfl rfl hl.1 rfl (lv_room (Nat.le_of_ble_eq_true rfl)) dX4_count_157 ⟨Nat.zero_le _, Nat.zero_le _⟩) ?_
        exact xk_iretR hx hb hr hlk (by unfold sp_count; rw [if_neg (fun z => z.2 c_8), if_neg c_46_0, if_neg c_46_1, if_neg c_46_2, if_neg c_46_3, if_neg c_46_4, if_pos c_46_12]) dX4_count_160
      by_cases c_46_13 : what = 13
      · refine lv_tableIn (off := 115) (tgt := 161) hx hb dX4_count_46 (by rw [c_46_13]; decide) (by rw [c_46_13]; decide) (by rw [c_46_13]; rfl) (by decide) ?_
        refine lv_aload_n hx hb dX4_count_161 rfl (lv_at hl 2 rfl) ?_
        refine va_get (D := D) (ci := 3) (v := .ref hh) (C := RX4) (T := TX4) (N := 3) hx hb hts hiX4 hown hK hP 0 rfl rfl 1 (by decide) (hts (.fieldLink RX4 19 "PointerSweep" "history" "LPointerSweep$History;") (by decide +kernel)) (fun _ h9 => h9) rfl dX4_count_162 ?_
        refine va_get (D := D) (ci := 1) (v := .int (nI sz)) (C := RX1) (T := TX1) (N := 3) hx hb hts hiX1 hown hK hP 2 rfl rfl 2 (by decide) (hts (.fieldLink RX4 167 "PointerSweep$History" "size" "I") (by decide +kernel)) (fun _ h9 => h9) rfl dX4_count_165 ?_
        exact xk_iretR hx hb hr hlk (by unfold sp_count; rw [if_neg (fun z => z.2 c_8), if_neg c_46_0, if_neg c_46_1, if_neg c_46_2, if_neg c_46_3, if_neg c_46_4, if_neg c_46_12, if_pos c_46_13]) dX4_count_168
      refine lv_tableOut (tgt := 169) hx hb dX4_count_46 (by have h0 := lv_neT (a := 0) c_46_0 rfl; have h1 := lv_neT (a := 1) c_46_1 rfl; have h2 := lv_neT (a := 2) c_46_2 rfl; have h3 := lv_neT (a := 3) c_46_3 rfl; have h4 := lv_neT (a := 4) c_46_4 rfl; have h12 := lv_neT (a := 12) c_46_12 rfl; have h13 := lv_neT (a := 13) c_46_13 rfl; have hc := Int32.le_iff_toInt_le.mp c_8; have e12 : (12 : Int32).toInt = 12 := rfl; omega) (by decide) ?_
      refine lv_iconst (v := (-1)) hx hb dX4_count_169 (by decide) ?_
      exact xk_iretR hx hb hr hlk (by unfold sp_count; rw [if_neg (fun z => z.2 c_8), if_neg c_46_0, if_neg c_46_1, if_neg c_46_2, if_neg c_46_3, if_neg c_46_4, if_neg c_46_12, if_neg c_46_13]) dX4_count_170
    · skip
      obtain ⟨tk, htk, et, hxk⟩ := x_c5 c_2 c_8
      refine lv_aload_n hx hb dX4_count_11 rfl (lv_at hl 0 rfl) ?_
      refine va_get (D := D) (ci := 3) (v := .ref (ad 0)) (C := RX4) (T := TX4) (N := 3) hx hb hts hiX4 hown hK hP 0 rfl rfl 0 (by decide) (hts (.fieldLink RX4 12 "PointerSweep" "now" "LPointerSweep$State;") (by decide +kernel)) (fun _ h9 => h9) rfl dX4_count_12 ?_
      refine va_get (D := D) (ci := 2) (v := .ref (ad 3)) (C := RX2) (T := TX2) (N := 10) hx hb hts hiX2 hown hK hP 4 rfl rfl 2 (by decide) (hts (.fieldLink RX4 173 "PointerSweep$State" "tallies" "[I") (by decide +kernel)) (fun _ h9 => h9) rfl dX4_count_15 ?_
      refine lv_iload_n hx hb dX4_count_18 rfl (lv_at hl 1 rfl) ?_
      refine lv_iconst (v := 5) hx hb dX4_count_19 (by decide) ?_
      refine lv_isub hx hb dX4_count_20 ?_
      refine xa_iald hx hb hK hP 7 0 rfl rfl tk et htk (by decide) dX4_count_21 ?_
      exact xk_iretR hx hb hr hlk (by unfold sp_count; rw [if_pos ⟨c_2, c_8⟩, hxk]) dX4_count_22
