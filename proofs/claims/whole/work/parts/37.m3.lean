set_option maxHeartbeats 4000000 in
set_option maxRecDepth 100000 in
theorem j_isStale (l : Launch) (D : va_G) (cI cJ cS : ClassId) (m0 ms mb mw mm : Nat) (v : xV) (b w mi : Nat → Int32) (kp : Nat) (hX : v.2.2.2.2.2.2.2.1 = false → ∀ k, v.2.2.2.2.2.1 k = false) (k : Nat) (hk : k + 4 < 2128) (wd : xw) (hwd : xw_ok2 wd) (hat : ∀ j, j < 5 → xf v (k + j) = wc wd j) : xk_Rd l yX5_isStale wsX5_isStale ({ frames := 0, cells := 0, slots := 0, locals := 0 }) D vwCl (xt cI cJ cS) ([(m0, .inr (4, [.ref ms, .ref mb, .int (nI kp), .ref mw, .ref mm])), (ms, .inl (cI, 2128, .inl (xf v))), (mb, .inl (cI, 2128, .inl b)), (mw, .inl (cI, 51072, .inl w)), (mm, .inl (cI, 320, .inl mi))]) [.ref m0, .int (nI k)] (some (.int (xb (x_stale v.2.2.2.2.2.1 wd)))) := by
  refine xk_rd (cc := cX5_isStale) (maxL := 4) (ret := (some .boolean)) (by decide) rfl (Nat.le_of_ble_eq_true rfl) (fun p e s m below meth c ls hx hb hr hlk hml hown hts hl hP hK hN => ?_)
  replace hl : lv_has ls 4 [(0, .ref m0), (1, .int (nI k))] := hl
  have hiX5 : ∀ w ∈ u_ws RX5 TX5 5, w ∈ wsX5_isStale := by decide +kernel
  obtain ⟨hft, ht256⟩ := xw_ft hwd
  have loop : ∀ (n i : Nat) (ls : Array Slot), xw_f wd ≤ i → i + n = xw_t wd → lv_has ls 4 [(3, .int (nI i)), (2, .int (xb (x_any v.2.2.2.2.2.1 (xw_f wd) (i - xw_f wd)))), (0, .ref m0), (1, .int (nI k))] → W p l e ({ frames := 0, cells := 0, slots := 0, locals := 0 }) s m ([.ref m0, .int (nI k)]).toArray below meth c s.heap [] 0 0 (MQ below (xk_R (some (.int (xb (x_stale v.2.2.2.2.2.1 wd))))) ([.ref m0, .int (nI k)]).toArray s 0 0 (fun _ => False)) (F0 m 11 ls []) := by
    intro n
    induction n with
    | zero =>
      intro i ls hi hn hl
      have hin : i = xw_t wd := hn
      refine lv_iload_n hx hb dX5_isStale_11 rfl (lv_at hl 0 rfl) ?_
      refine lv_aload_n hx hb dX5_isStale_12 rfl (lv_at hl 2 rfl) ?_
      refine va_get (D := D) (ci := 4) (v := .ref ms) (C := RX5) (T := TX5) (N := 5) hx hb hts hiX5 hown hK hP 0 rfl rfl 0 (by decide) (hts (.fieldLink RX5 7 "PointerSweepModel" "st" "[I") (by decide +kernel)) (fun _ h9 => h9) rfl dX5_isStale_13 ?_
      refine lv_iload_n hx hb dX5_isStale_16 rfl (lv_at hl 3 rfl) ?_
      refine lv_iconst (v := 3) hx hb dX5_isStale_17 (by decide) ?_
      refine lv_iadd hx hb dX5_isStale_18 ?_
      refine xa_iald hx hb hK hP 1 0 rfl rfl (k + 3) (nI_add k 3) (by omega) (by decide) dX5_isStale_19 ?_
      refine lv_topi (fun y ey => ?_)
      obtain rfl : y = nI (xw_t wd) := ey.trans (hat 3 (by decide))
      refine lv_icmp_ge (tgt := 65) hx hb dX5_isStale_20 (by decide) (fun c_20 => ?_) (fun c_20 => ?_)
      · skip
        refine lv_iload_n hx hb dX5_isStale_65 rfl (lv_at hl 1 rfl) ?_
        refine lv_if_eq (tgt := 85) hx hb dX5_isStale_66 (by decide) (fun c_66 => ?_) (fun c_66 => ?_)
        · skip
          refine lv_iconst (v := 0) hx hb dX5_isStale_85 (by decide) ?_
          exact xk_zretR hx hb hr hlk rfl (xb_00 (by rw [x_st_eq _ hwd, ← hin]; exact xb_eq c_66)) dX5_isStale_86
        · skip
          refine lv_aload_n hx hb dX5_isStale_69 rfl (lv_at hl 2 rfl) ?_
          refine va_get (D := D) (ci := 4) (v := .ref ms) (C := RX5) (T := TX5) (N := 5) hx hb hts hiX5 hown hK hP 0 rfl rfl 0 (by decide) (hts (.fieldLink RX5 7 "PointerSweepModel" "st" "[I") (by decide +kernel)) (fun _ h9 => h9) rfl dX5_isStale_70 ?_
          refine lv_sipush (v := 2120) hx hb dX5_isStale_73 (by decide) ?_
          refine xa_iald hx hb hK hP 1 0 rfl rfl 2120 rfl (by decide) (by decide) dX5_isStale_76 ?_
          refine lv_topi (fun y ey => ?_)
          obtain rfl : y = xb v.2.2.2.2.2.2.2.1 := ey.trans (xf_o v)
          refine lv_iconst (v := 1) hx hb dX5_isStale_77 (by decide) ?_
          refine lv_icmp_ne (tgt := 85) hx hb dX5_isStale_78 (by decide) (fun c_78 => ?_) (fun c_78 => ?_)
          · skip
            refine lv_iconst (v := 0) hx hb dX5_isStale_85 (by decide) ?_
            exact xk_zretR hx hb hr hlk rfl (xb_00 (by rw [x_st_eq _ hwd]; apply Bool.eq_false_iff.mpr; intro q; obtain ⟨z, -, -, hz⟩ := (x_any_iff _ _ _).mp q; rw [hX (by cases ho : v.2.2.2.2.2.2.2.1 with | false => rfl | true => rw [ho] at c_78; exact absurd rfl c_78) z] at hz; cases hz)) dX5_isStale_86
          · skip
            refine lv_iconst (v := 1) hx hb dX5_isStale_81 (by decide) ?_
            refine lv_goto (tgt := 86) hx hb dX5_isStale_82 (by decide) ?_
            exact xk_zretR hx hb hr hlk rfl (xb_1 (by rw [x_st_eq _ hwd, ← hin]; exact xb_ne c_66)) dX5_isStale_86
      · skip
        exact absurd (nI_le (a := xw_t wd) (b := i) (by omega) (by omega)) c_20
    | succ n ih =>
      intro i ls hi hn hl
      have hp : xw_p wd = true := xw_tp (i := i) (by omega)
      refine lv_iload_n hx hb dX5_isStale_11 rfl (lv_at hl 0 rfl) ?_
      refine lv_aload_n hx hb dX5_isStale_12 rfl (lv_at hl 2 rfl) ?_
      refine va_get (D := D) (ci := 4) (v := .ref ms) (C := RX5) (T := TX5) (N := 5) hx hb hts hiX5 hown hK hP 0 rfl rfl 0 (by decide) (hts (.fieldLink RX5 7 "PointerSweepModel" "st" "[I") (by decide +kernel)) (fun _ h9 => h9) rfl dX5_isStale_13 ?_
      refine lv_iload_n hx hb dX5_isStale_16 rfl (lv_at hl 3 rfl) ?_
      refine lv_iconst (v := 3) hx hb dX5_isStale_17 (by decide) ?_
      refine lv_iadd hx hb dX5_isStale_18 ?_
      refine xa_iald hx hb hK hP 1 0 rfl rfl (k + 3) (nI_add k 3) (by omega) (by decide) dX5_isStale_19 ?_
      refine lv_topi (fun y ey => ?_)
      obtain rfl : y = nI (xw_t wd) := ey.trans (hat 3 (by decide))
      refine lv_icmp_ge (tgt := 65) hx hb dX5_isStale_20 (by decide) (fun c_20 => ?_) (fun c_20 => ?_)
      · skip
        exact absurd (xn_le_of (by omega) (by omega) c_20) (by omega)
      · skip
        refine lv_aload_n hx hb dX5_isStale_23 rfl (lv_at hl 2 rfl) ?_
        refine va_get (D := D) (ci := 4) (v := .ref ms) (C := RX5) (T := TX5) (N := 5) hx hb hts hiX5 hown hK hP 0 rfl rfl 0 (by decide) (hts (.fieldLink RX5 7 "PointerSweepModel" "st" "[I") (by decide +kernel)) (fun _ h9 => h9) rfl dX5_isStale_24 ?_
        refine lv_iload_n hx hb dX5_isStale_27 rfl (lv_at hl 3 rfl) ?_
        refine lv_iconst (v := 0) hx hb dX5_isStale_28 (by decide) ?_
        refine lv_iadd hx hb dX5_isStale_29 ?_
        refine xa_iald hx hb hK hP 1 0 rfl rfl (k + 0) (nI_add k 0) (by omega) (by decide) dX5_isStale_30 ?_
        refine lv_topi (fun y ey => ?_)
        obtain rfl : y = xb (xw_p wd) := ey.trans (hat 0 (by decide))
        refine lv_iconst (v := 1) hx hb dX5_isStale_31 (by decide) ?_
        refine lv_icmp_ne (tgt := 65) hx hb dX5_isStale_32 (by decide) (fun c_32 => ?_) (fun c_32 => ?_)
        · skip
          exact absurd (by rw [hp]; rfl) c_32
        · skip
          refine lv_iload_n hx hb dX5_isStale_35 rfl (lv_at hl 1 rfl) ?_
          refine lv_if_ne (tgt := 53) hx hb dX5_isStale_36 (by decide) (fun c_36 => ?_) (fun c_36 => ?_)
          · skip
            refine lv_iconst (v := 1) hx hb dX5_isStale_53 (by decide) ?_
            refine lv_goto (tgt := 58) hx hb dX5_isStale_54 (by decide) ?_
            refine lv_topi (fun y ey => ?_)
            obtain rfl : y = xb (x_any v.2.2.2.2.2.1 (xw_f wd) (i + 1 - xw_f wd)) := ey.trans (x_any_y hi c_36)
            refine lv_istore_n (lv' := [(2, .int (xb (x_any v.2.2.2.2.2.1 (xw_f wd) (i + 1 - xw_f wd)))), (3, .int (nI i)), (0, .ref m0), (1, .int (nI k))]) hx hb dX5_isStale_58 rfl hl (by decide) rfl (fun ls hl => ?_)
            refine lv_iinc (v := (nI (i + 1))) (lv' := [(3, .int (nI (i + 1))), (2, .int (xb (x_any v.2.2.2.2.2.1 (xw_f wd) (i + 1 - xw_f wd)))), (0, .ref m0), (1, .int (nI k))]) hx hb dX5_isStale_59 hl (k := 1) rfl (nI_1 i) (by decide) rfl (fun ls hl => ?_)
            refine lv_goto (tgt := 11) hx hb dX5_isStale_62 (by decide) ?_
            exact ih (i + 1) ls (by omega) (by omega) (lv_sub hl [0, 1, 2, 3] rfl)
          · skip
            refine lv_aload_n hx hb dX5_isStale_39 rfl (lv_at hl 2 rfl) ?_
            refine va_get (D := D) (ci := 4) (v := .ref ms) (C := RX5) (T := TX5) (N := 5) hx hb hts hiX5 hown hK hP 0 rfl rfl 0 (by decide) (hts (.fieldLink RX5 7 "PointerSweepModel" "st" "[I") (by decide +kernel)) (fun _ h9 => h9) rfl dX5_isStale_40 ?_
            refine lv_sipush (v := 1576) hx hb dX5_isStale_43 (by decide) ?_
            refine lv_iload_n hx hb dX5_isStale_46 rfl (lv_at hl 0 rfl) ?_
            refine lv_iadd hx hb dX5_isStale_47 ?_
            refine xa_iald hx hb hK hP 1 0 rfl rfl (1576 + i) (nI_add 1576 i) (by omega) (by decide) dX5_isStale_48 ?_
            refine lv_topi (fun y ey => ?_)
            obtain rfl : y = xb (v.2.2.2.2.2.1 i) := ey.trans (xf_x v (by omega))
            refine lv_iconst (v := 1) hx hb dX5_isStale_49 (by decide) ?_
            refine lv_icmp_ne (tgt := 57) hx hb dX5_isStale_50 (by decide) (fun c_50 => ?_) (fun c_50 => ?_)
            · skip
              refine lv_iconst (v := 0) hx hb dX5_isStale_57 (by decide) ?_
              refine lv_topi (fun y ey => ?_)
              obtain rfl : y = xb (x_any v.2.2.2.2.2.1 (xw_f wd) (i + 1 - xw_f wd)) := ey.trans (x_any_n hi c_36 c_50)
              refine lv_istore_n (lv' := [(2, .int (xb (x_any v.2.2.2.2.2.1 (xw_f wd) (i + 1 - xw_f wd)))), (3, .int (nI i)), (0, .ref m0), (1, .int (nI k))]) hx hb dX5_isStale_58 rfl hl (by decide) rfl (fun ls hl => ?_)
              refine lv_iinc (v := (nI (i + 1))) (lv' := [(3, .int (nI (i + 1))), (2, .int (xb (x_any v.2.2.2.2.2.1 (xw_f wd) (i + 1 - xw_f wd)))), (0, .ref m0), (1, .int (nI k))]) hx hb dX5_isStale_59 hl (k := 1) rfl (nI_1 i) (by decide) rfl (fun ls hl => ?_)
              refine lv_goto (tgt := 11) hx hb dX5_isStale_62 (by decide) ?_
              exact ih (i + 1) ls (by omega) (by omega) (lv_sub hl [0, 1, 2, 3] rfl)
            · skip
              refine lv_iconst (v := 1) hx hb dX5_isStale_53 (by decide) ?_
              refine lv_goto (tgt := 58) hx hb dX5_isStale_54 (by decide) ?_
              refine lv_topi (fun y ey => ?_)
              obtain rfl : y = xb (x_any v.2.2.2.2.2.1 (xw_f wd) (i + 1 - xw_f wd)) := ey.trans (x_any_g hi c_50)
              refine lv_istore_n (lv' := [(2, .int (xb (x_any v.2.2.2.2.2.1 (xw_f wd) (i + 1 - xw_f wd)))), (3, .int (nI i)), (0, .ref m0), (1, .int (nI k))]) hx hb dX5_isStale_58 rfl hl (by decide) rfl (fun ls hl => ?_)
              refine lv_iinc (v := (nI (i + 1))) (lv' := [(3, .int (nI (i + 1))), (2, .int (xb (x_any v.2.2.2.2.2.1 (xw_f wd) (i + 1 - xw_f wd)))), (0, .ref m0), (1, .int (nI k))]) hx hb dX5_isStale_59 hl (k := 1) rfl (nI_1 i) (by decide) rfl (fun ls hl => ?_)
              refine lv_goto (tgt := 11) hx hb dX5_isStale_62 (by decide) ?_
              exact ih (i + 1) ls (by omega) (by omega) (lv_sub hl [0, 1, 2, 3] rfl)
  refine lv_iconst (v := 0) hx hb dX5_isStale_0 (by decide) ?_
  refine lv_topi (fun y ey => ?_)
  obtain rfl : y = xb (x_any v.2.2.2.2.2.1 (xw_f wd) (xw_f wd - xw_f wd)) := ey.trans (x_any_0 _ _)
  refine lv_istore_n (lv' := [(2, .int (xb (x_any v.2.2.2.2.2.1 (xw_f wd) (xw_f wd - xw_f wd)))), (0, .ref m0), (1, .int (nI k))]) hx hb dX5_isStale_1 rfl hl (by decide) rfl (fun ls hl => ?_)
  refine lv_aload_n hx hb dX5_isStale_2 rfl (lv_at hl 1 rfl) ?_
  refine va_get (D := D) (ci := 4) (v := .ref ms) (C := RX5) (T := TX5) (N := 5) hx hb hts hiX5 hown hK hP 0 rfl rfl 0 (by decide) (hts (.fieldLink RX5 7 "PointerSweepModel" "st" "[I") (by decide +kernel)) (fun _ h9 => h9) rfl dX5_isStale_3 ?_
  refine lv_iload_n hx hb dX5_isStale_6 rfl (lv_at hl 2 rfl) ?_
  refine lv_iconst (v := 2) hx hb dX5_isStale_7 (by decide) ?_
  refine lv_iadd hx hb dX5_isStale_8 ?_
  refine xa_iald hx hb hK hP 1 0 rfl rfl (k + 2) (nI_add k 2) (by omega) (by decide) dX5_isStale_9 ?_
  refine lv_topi (fun y ey => ?_)
  obtain rfl : y = nI (xw_f wd) := ey.trans (hat 2 (by decide))
  refine lv_istore_n (lv' := [(3, .int (nI (xw_f wd))), (2, .int (xb (x_any v.2.2.2.2.2.1 (xw_f wd) (xw_f wd - xw_f wd)))), (0, .ref m0), (1, .int (nI k))]) hx hb dX5_isStale_10 rfl hl (by decide) rfl (fun ls hl => ?_)
  exact loop (xw_t wd - xw_f wd) (xw_f wd) ls (Nat.le_refl _) (by omega) (lv_sub hl [0, 1, 2, 3] rfl)
set_option maxHeartbeats 4000000 in
set_option maxRecDepth 100000 in
theorem j_against (l : Launch) (D : va_G) (cI cJ cS : ClassId) (m0 ms mb mw mm : Nat) (v : xV) (b w mi : Nat → Int32) (kp : Nat) (k : Nat) (hk : k < 8) (hwk : xw_ok (v.2.1 k)) (right d n : Int32) : xk_Rd l yX5_against wsX5_against ({ frames := 1, cells := 0, slots := 0, locals := 20 }) D vwCl (xt cI cJ cS) ([(m0, .inr (4, [.ref ms, .ref mb, .int (nI kp), .ref mw, .ref mm])), (ms, .inl (cI, 2128, .inl (xf v))), (mb, .inl (cI, 2128, .inl b)), (mw, .inl (cI, 51072, .inl w)), (mm, .inl (cI, 320, .inl mi))]) [.ref m0, .int (nI k), .int right, .int d, .int n] (some (.int (x_fault (v.2.1 k) right d n))) := by
  refine xk_rd (cc := cX5_against) (maxL := 8) (ret := (some .int)) (by decide) rfl (Nat.le_of_ble_eq_true rfl) (fun p e s m below meth c ls hx hb hr hlk hml hown hts hl hP hK hN => ?_)
  replace hl : lv_has ls 8 [(0, .ref m0), (1, .int (nI k)), (2, .int right), (3, .int d), (4, .int n)] := hl
  have hiX5 : ∀ w ∈ u_ws RX5 TX5 5, w ∈ wsX5_against := by decide +kernel
  refine lv_iload_n hx hb dX5_against_0 rfl (lv_at hl 1 rfl) ?_
  refine xk_callR (va_runS (As := [.int (nI k)]) (rest := []) ⟨hx, hb, hml, hown, hts⟩ (j_reg l D cI cJ cS k) (va_cwS 1 hts gX5_against_X5_reg rfl rfl rfl (by decide +kernel) ⟨Nat.le_of_ble_eq_true rfl, Nat.le_of_ble_eq_true rfl⟩) (xk_preSr hK hN hP [] rfl) rfl rfl hl.1 rfl (lv_room (Nat.le_of_ble_eq_true rfl)) dX5_against_1 ⟨Nat.zero_le _, Nat.zero_le _⟩) ?_
  refine lv_istore (lv' := [(5, .int (nI (1280 + 5 * k))), (0, .ref m0), (1, .int (nI k)), (2, .int right), (3, .int d), (4, .int n)]) hx hb dX5_against_4 hl (by decide) rfl (fun ls hl => ?_)
  refine lv_aload_n hx hb dX5_against_6 rfl (lv_at hl 1 rfl) ?_
  refine va_get (D := D) (ci := 4) (v := .ref ms) (C := RX5) (T := TX5) (N := 5) hx hb hts hiX5 hown hK hP 0 rfl rfl 0 (by decide) (hts (.fieldLink RX5 7 "PointerSweepModel" "st" "[I") (by decide +kernel)) (fun _ h9 => h9) rfl dX5_against_7 ?_
  refine lv_iload hx hb dX5_against_10 (lv_at hl 0 rfl) ?_
  refine lv_iconst (v := 0) hx hb dX5_against_12 (by decide) ?_
  refine lv_iadd hx hb dX5_against_13 ?_
  refine xa_iald hx hb hK hP 1 0 rfl rfl (1280 + 5 * k + 0) (nI_add (1280 + 5 * k) 0) (by omega) (by decide) dX5_against_14 ?_
  refine lv_topi (fun y ey => ?_)
  obtain rfl : y = xb (xw_p (v.2.1 k)) := ey.trans (xf_r v hk (by decide))
  refine lv_if_ne (tgt := 21) hx hb dX5_against_15 (by decide) (fun c_15 => ?_) (fun c_15 => ?_)
  · skip
    refine lv_aload_n hx hb dX5_against_21 rfl (lv_at hl 1 rfl) ?_
    refine va_get (D := D) (ci := 4) (v := .ref ms) (C := RX5) (T := TX5) (N := 5) hx hb hts hiX5 hown hK hP 0 rfl rfl 0 (by decide) (hts (.fieldLink RX5 7 "PointerSweepModel" "st" "[I") (by decide +kernel)) (fun _ h9 => h9) rfl dX5_against_22 ?_
    refine lv_iload hx hb dX5_against_25 (lv_at hl 0 rfl) ?_
    refine lv_iconst (v := 4) hx hb dX5_against_27 (by decide) ?_
    refine lv_iadd hx hb dX5_against_28 ?_
    refine xa_iald hx hb hK hP 1 0 rfl rfl (1280 + 5 * k + 4) (nI_add (1280 + 5 * k) 4) (by omega) (by decide) dX5_against_29 ?_
    refine lv_topi (fun y ey => ?_)
    obtain rfl : y = nI (xw_r (v.2.1 k)) := ey.trans (xf_r v hk (by decide))
    refine lv_iload_n hx hb dX5_against_30 rfl (lv_at hl 3 rfl) ?_
    refine lv_iand hx hb dX5_against_31 ?_
    refine lv_if_ne (tgt := 38) hx hb dX5_against_32 (by decide) (fun c_32 => ?_) (fun c_32 => ?_)
    · skip
      refine lv_aload_n hx hb dX5_against_38 rfl (lv_at hl 1 rfl) ?_
      refine va_get (D := D) (ci := 4) (v := .ref ms) (C := RX5) (T := TX5) (N := 5) hx hb hts hiX5 hown hK hP 0 rfl rfl 0 (by decide) (hts (.fieldLink RX5 7 "PointerSweepModel" "st" "[I") (by decide +kernel)) (fun _ h9 => h9) rfl dX5_against_39 ?_
      refine lv_iload hx hb dX5_against_42 (lv_at hl 0 rfl) ?_
      refine lv_iconst (v := 1) hx hb dX5_against_44 (by decide) ?_
      refine lv_iadd hx hb dX5_against_45 ?_
      refine xa_iald hx hb hK hP 1 0 rfl rfl (1280 + 5 * k + 1) (nI_add (1280 + 5 * k) 1) (by omega) (by decide) dX5_against_46 ?_
      refine lv_topi (fun y ey => ?_)
      obtain rfl : y = (v.2.1 k).1 := ey.trans (xf_r v hk (by decide))
      refine lv_i2l hx hb dX5_against_47 rfl ?_
      refine lv_iload_n hx hb dX5_against_48 rfl (lv_at hl 4 rfl) ?_
      refine lv_i2l hx hb dX5_against_49 rfl ?_
      refine lv_ladd hx hb dX5_against_50 ?_
      refine lv_lstore (lv' := [(6, .long ((((v.2.1 k).1) : Int32).toInt64 + (d : Int32).toInt64)), (5, .int (nI (1280 + 5 * k))), (0, .ref m0), (1, .int (nI k)), (2, .int right), (3, .int d), (4, .int n)]) hx hb dX5_against_51 hl (by decide) rfl (fun ls hl => ?_)
      refine lv_lload hx hb dX5_against_53 (lv_at hl 0 rfl) ?_
      refine lv_aload_n hx hb dX5_against_55 rfl (lv_at hl 2 rfl) ?_
      refine va_get (D := D) (ci := 4) (v := .ref ms) (C := RX5) (T := TX5) (N := 5) hx hb hts hiX5 hown hK hP 0 rfl rfl 0 (by decide) (hts (.fieldLink RX5 7 "PointerSweepModel" "st" "[I") (by decide +kernel)) (fun _ h9 => h9) rfl dX5_against_56 ?_
      refine lv_iload hx hb dX5_against_59 (lv_at hl 1 rfl) ?_
      refine lv_iconst (v := 2) hx hb dX5_against_61 (by decide) ?_
      refine lv_iadd hx hb dX5_against_62 ?_
      refine xa_iald hx hb hK hP 1 0 rfl rfl (1280 + 5 * k + 2) (nI_add (1280 + 5 * k) 2) (by omega) (by decide) dX5_against_63 ?_
      refine lv_topi (fun y ey => ?_)
      obtain rfl : y = nI (xw_f (v.2.1 k)) := ey.trans (xf_r v hk (by decide))
      refine lv_i2l hx hb dX5_against_64 rfl ?_
      refine W.lcmp hx hb dX5_against_65 ?_
      refine lv_if_lt (tgt := 89) hx hb dX5_against_66 (by decide) (fun c_66 => ?_) (fun c_66 => ?_)
      · skip
        refine lv_bipush (v := (-13)) hx hb dX5_against_89 (by decide) ?_
        refine lv_goto (tgt := 95) hx hb dX5_against_91 (by decide) ?_
        exact xk_iretR hx hb hr hlk (by unfold x_fault; rw [if_pos (xb_ne c_15), if_neg c_32, if_neg (by rw [xw_cov_lt hwk c_66]; decide)]) dX5_against_95
      · skip
        refine lv_lload hx hb dX5_against_69 (lv_at hl 0 rfl) ?_
        refine lv_iload hx hb dX5_against_71 (lv_at hl 6 rfl) ?_
        refine lv_i2l hx hb dX5_against_73 rfl ?_
        refine lv_ladd hx hb dX5_against_74 ?_
        refine lv_aload_n hx hb dX5_against_75 rfl (lv_at hl 2 rfl) ?_
        refine va_get (D := D) (ci := 4) (v := .ref ms) (C := RX5) (T := TX5) (N := 5) hx hb hts hiX5 hown hK hP 0 rfl rfl 0 (by decide) (hts (.fieldLink RX5 7 "PointerSweepModel" "st" "[I") (by decide +kernel)) (fun _ h9 => h9) rfl dX5_against_76 ?_
        refine lv_iload hx hb dX5_against_79 (lv_at hl 1 rfl) ?_
        refine lv_iconst (v := 3) hx hb dX5_against_81 (by decide) ?_
        refine lv_iadd hx hb dX5_against_82 ?_
        refine xa_iald hx hb hK hP 1 0 rfl rfl (1280 + 5 * k + 3) (nI_add (1280 + 5 * k) 3) (by omega) (by decide) dX5_against_83 ?_
        refine lv_topi (fun y ey => ?_)
        obtain rfl : y = nI (xw_t (v.2.1 k)) := ey.trans (xf_r v hk (by decide))
        refine lv_i2l hx hb dX5_against_84 rfl ?_
        refine W.lcmp hx hb dX5_against_85 ?_
        refine lv_if_le (tgt := 94) hx hb dX5_against_86 (by decide) (fun c_86 => ?_) (fun c_86 => ?_)
        · skip
          refine lv_iconst (v := 0) hx hb dX5_against_94 (by decide) ?_
          exact xk_iretR hx hb hr hlk (by unfold x_fault; rw [if_pos (xb_ne c_15), if_neg c_32, if_pos (xw_cov_in hwk c_66 (Int32.not_lt.mpr c_86))]) dX5_against_95
        · skip
          refine lv_bipush (v := (-13)) hx hb dX5_against_89 (by decide) ?_
          refine lv_goto (tgt := 95) hx hb dX5_against_91 (by decide) ?_
          exact xk_iretR hx hb hr hlk (by unfold x_fault; rw [if_pos (xb_ne c_15), if_neg c_32, if_neg (by rw [xw_cov_gt hwk (Int32.not_le.mp c_86)]; decide)]) dX5_against_95
    · skip
      refine lv_bipush (v := (-12)) hx hb dX5_against_35 (by decide) ?_
      exact xk_iretR hx hb hr hlk (by unfold x_fault; rw [if_pos (xb_ne c_15), if_pos c_32]) dX5_against_37
  · skip
    refine lv_bipush (v := (-11)) hx hb dX5_against_18 (by decide) ?_
    exact xk_iretR hx hb hr hlk (by unfold x_fault; rw [if_neg (by rw [xb_eq c_15]; decide)]) dX5_against_20
set_option maxHeartbeats 4000000 in
set_option maxRecDepth 100000 in
theorem j_cellOf (l : Launch) (D : va_G) (cI cJ cS : ClassId) (m0 ms mb mw mm : Nat) (v : xV) (b w mi : Nat → Int32) (kp : Nat) (k : Nat) (hk : k < 8) (d : Int32) : xk_Rd l yX5_cellOf wsX5_cellOf ({ frames := 1, cells := 0, slots := 0, locals := 20 }) D vwCl (xt cI cJ cS) ([(m0, .inr (4, [.ref ms, .ref mb, .int (nI kp), .ref mw, .ref mm])), (ms, .inl (cI, 2128, .inl (xf v))), (mb, .inl (cI, 2128, .inl b)), (mw, .inl (cI, 51072, .inl w)), (mm, .inl (cI, 320, .inl mi))]) [.ref m0, .int (nI k), .int d] (some (.int ((v.2.1 k).1 + d))) := by
  refine xk_rd (cc := cX5_cellOf) (maxL := 3) (ret := (some .int)) (by decide) rfl (Nat.le_of_ble_eq_true rfl) (fun p e s m below meth c ls hx hb hr hlk hml hown hts hl hP hK hN => ?_)
  replace hl : lv_has ls 3 [(0, .ref m0), (1, .int (nI k)), (2, .int d)] := hl
  have hiX5 : ∀ w ∈ u_ws RX5 TX5 5, w ∈ wsX5_cellOf := by decide +kernel
  refine lv_aload_n hx hb dX5_cellOf_0 rfl (lv_at hl 0 rfl) ?_
  refine va_get (D := D) (ci := 4) (v := .ref ms) (C := RX5) (T := TX5) (N := 5) hx hb hts hiX5 hown hK hP 0 rfl rfl 0 (by decide) (hts (.fieldLink RX5 7 "PointerSweepModel" "st" "[I") (by decide +kernel)) (fun _ h9 => h9) rfl dX5_cellOf_1 ?_
  refine lv_iload_n hx hb dX5_cellOf_4 rfl (lv_at hl 1 rfl) ?_
  refine xk_callR (va_runS (As := [.int (nI k)]) (rest := [.ref ms]) ⟨hx, hb, hml, hown, hts⟩ (j_reg l D cI cJ cS k) (va_cwS 1 hts gX5_cellOf_X5_reg rfl rfl rfl (by decide +kernel) ⟨Nat.le_of_ble_eq_true rfl, Nat.le_of_ble_eq_true rfl⟩) (xk_preSr hK hN hP [] rfl) rfl rfl hl.1 rfl (lv_room (Nat.le_of_ble_eq_true rfl)) dX5_cellOf_5 ⟨Nat.zero_le _, Nat.zero_le _⟩) ?_
  refine lv_iconst (v := 1) hx hb dX5_cellOf_8 (by decide) ?_
  refine lv_iadd hx hb dX5_cellOf_9 ?_
  refine xa_iald hx hb hK hP 1 0 rfl rfl (1280 + 5 * k + 1) (nI_add (1280 + 5 * k) 1) (by omega) (by decide) dX5_cellOf_10 ?_
  refine lv_topi (fun y ey => ?_)
  obtain rfl : y = (v.2.1 k).1 := ey.trans (xf_r v hk (by decide))
  refine lv_iload_n hx hb dX5_cellOf_11 rfl (lv_at hl 2 rfl) ?_
  refine lv_iadd hx hb dX5_cellOf_12 ?_
  exact xk_iretR hx hb hr hlk rfl dX5_cellOf_13
