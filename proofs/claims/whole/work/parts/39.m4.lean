set_option maxHeartbeats 4000000 in
set_option maxRecDepth 100000 in
theorem j_laid (l : Launch) (D : va_G) (cI cJ cS : ClassId) (m0 ms mb mw mm : Nat) (v : xV) (b w mi : Nat → Int32) (kp : Nat) (hs0 : v.2.2.2.2.2.2.2.1 = false → v.2.2.2.2.2.2.2.2.1 = 0) (k : Nat) (hk : k < 256) : xk_Wr l yX5_laid wsX5_laid ({ frames := 0, cells := 0, slots := 0, locals := 0 }) D vwCl (xt cI cJ cS) ([(m0, .inr (4, [.ref ms, .ref mb, .int (nI kp), .ref mw, .ref mm])), (ms, .inl (cI, 2128, .inl (xf v))), (mb, .inl (cI, 2128, .inl b)), (mw, .inl (cI, 51072, .inl w)), (mm, .inl (cI, 320, .inl mi))]) [.ref m0, .int (nI k)] ([(m0, .inr (4, [.ref ms, .ref mb, .int (nI kp), .ref mw, .ref mm])), (ms, .inl (cI, 2128, .inl (xf (x_ldy v k)))), (mb, .inl (cI, 2128, .inl b)), (mw, .inl (cI, 51072, .inl w)), (mm, .inl (cI, 320, .inl mi))]) none := by
  refine xk_wr (cc := cX5_laid) (maxL := 2) (ret := none) (by decide) rfl (Nat.le_of_ble_eq_true rfl) (fun p e s m below meth c ls hx hb hr hlk hml hown hts hl hP hK hN hD hS => ?_)
  replace hl : lv_has ls 2 [(0, .ref m0), (1, .int (nI k))] := hl
  have hiX5 : ∀ w ∈ u_ws RX5 TX5 5, w ∈ wsX5_laid := by decide +kernel
  refine lv_aload_n hx hb dX5_laid_0 rfl (lv_at hl 0 rfl) ?_
  refine va_get (D := D) (ci := 4) (v := .ref ms) (C := RX5) (T := TX5) (N := 5) hx hb hts hiX5 hown hK hP 0 rfl rfl 0 (by decide) (hts (.fieldLink RX5 7 "PointerSweepModel" "st" "[I") (by decide +kernel)) (fun _ h9 => h9) rfl dX5_laid_1 ?_
  refine lv_sipush (v := 2120) hx hb dX5_laid_4 (by decide) ?_
  refine xa_iald hx hb hK hP 1 0 rfl rfl 2120 rfl (by decide) (by decide) dX5_laid_7 ?_
  refine lv_topi (fun y ey => ?_)
  obtain rfl : y = xb v.2.2.2.2.2.2.2.1 := ey.trans (xf_o v)
  refine lv_iconst (v := 1) hx hb dX5_laid_8 (by decide) ?_
  refine lv_icmp_ne (tgt := 57) hx hb dX5_laid_9 (by decide) (fun c_9 => ?_) (fun c_9 => ?_)
  · skip
    exact xk_vretW hx hb hr hlk hP hS (by unfold x_ldy; rw [x_dk_s (by rw [hs0 (by cases ho : v.2.2.2.2.2.2.2.1 with | false => rfl | true => rw [ho] at c_9; exact absurd rfl c_9)]; rfl)]) dX5_laid_57
  · skip
    refine lv_aload_n hx hb dX5_laid_12 rfl (lv_at hl 0 rfl) ?_
    refine va_get (D := D) (ci := 4) (v := .ref ms) (C := RX5) (T := TX5) (N := 5) hx hb hts hiX5 hown hK hP 0 rfl rfl 0 (by decide) (hts (.fieldLink RX5 7 "PointerSweepModel" "st" "[I") (by decide +kernel)) (fun _ h9 => h9) rfl dX5_laid_13 ?_
    refine lv_iconst (v := 5) hx hb dX5_laid_16 (by decide) ?_
    refine lv_iload_n hx hb dX5_laid_17 rfl (lv_at hl 1 rfl) ?_
    refine lv_imul hx hb dX5_laid_18 ?_
    refine lv_iconst (v := 0) hx hb dX5_laid_19 (by decide) ?_
    refine lv_iadd hx hb dX5_laid_20 ?_
    refine xa_iald hx hb hK hP 1 0 rfl rfl (5 * k + 0) (by rw [show (5 : Int32) = nI 5 from rfl, pk_mul]; exact nI_add (5 * k) 0) (by omega) (by decide) dX5_laid_21 ?_
    refine lv_topi (fun y ey => ?_)
    obtain rfl : y = xb (xw_p (v.1 k)) := ey.trans (xf_m v hk (by decide))
    refine lv_iconst (v := 1) hx hb dX5_laid_22 (by decide) ?_
    refine lv_icmp_ne (tgt := 57) hx hb dX5_laid_23 (by decide) (fun c_23 => ?_) (fun c_23 => ?_)
    · skip
      exact xk_vretW hx hb hr hlk hP hS (by unfold x_ldy; rw [x_dk_p (by cases ho : xw_p (v.1 k) with | false => rfl | true => rw [ho] at c_23; exact absurd rfl c_23)]) dX5_laid_57
    · skip
      refine lv_aload_n hx hb dX5_laid_26 rfl (lv_at hl 0 rfl) ?_
      refine va_get (D := D) (ci := 4) (v := .ref ms) (C := RX5) (T := TX5) (N := 5) hx hb hts hiX5 hown hK hP 0 rfl rfl 0 (by decide) (hts (.fieldLink RX5 7 "PointerSweepModel" "st" "[I") (by decide +kernel)) (fun _ h9 => h9) rfl dX5_laid_27 ?_
      refine lv_sipush (v := 2088) hx hb dX5_laid_30 (by decide) ?_
      refine lv_iload_n hx hb dX5_laid_33 rfl (lv_at hl 1 rfl) ?_
      refine lv_bipush (v := 16) hx hb dX5_laid_34 (by decide) ?_
      refine lv_idiv hx hb dX5_laid_36 (by decide) ?_
      refine lv_iadd hx hb dX5_laid_37 ?_
      refine xa_iald hx hb hK hP 1 0 rfl rfl (2088 + k / 16) (by rw [x_div16 hk]; exact nI_add 2088 (k / 16)) (by omega) (by decide) dX5_laid_38 ?_
      refine lv_topi (fun y ey => ?_)
      obtain rfl : y = xb (decide (k / 16 < v.2.2.2.2.2.2.2.2.1)) := ey.trans (xf_s v (by omega))
      refine lv_iconst (v := 1) hx hb dX5_laid_39 (by decide) ?_
      refine lv_icmp_ne (tgt := 57) hx hb dX5_laid_40 (by decide) (fun c_40 => ?_) (fun c_40 => ?_)
      · skip
        exact xk_vretW hx hb hr hlk hP hS (by unfold x_ldy; rw [x_dk_s (by cases ho : decide (k / 16 < v.2.2.2.2.2.2.2.2.1) with | false => rfl | true => rw [ho] at c_40; exact absurd rfl c_40)]) dX5_laid_57
      · skip
        refine lv_aload_n hx hb dX5_laid_43 rfl (lv_at hl 0 rfl) ?_
        refine va_get (D := D) (ci := 4) (v := .ref ms) (C := RX5) (T := TX5) (N := 5) hx hb hts hiX5 hown hK hP 0 rfl rfl 0 (by decide) (hts (.fieldLink RX5 7 "PointerSweepModel" "st" "[I") (by decide +kernel)) (fun _ h9 => h9) rfl dX5_laid_44 ?_
        refine lv_sipush (v := 2104) hx hb dX5_laid_47 (by decide) ?_
        refine lv_iload_n hx hb dX5_laid_50 rfl (lv_at hl 1 rfl) ?_
        refine lv_bipush (v := 16) hx hb dX5_laid_51 (by decide) ?_
        refine lv_idiv hx hb dX5_laid_53 (by decide) ?_
        refine lv_iadd hx hb dX5_laid_54 ?_
        refine lv_iconst (v := 1) hx hb dX5_laid_55 (by decide) ?_
        refine xa_iast (ws' := [(m0, .inr (4, [.ref ms, .ref mb, .int (nI kp), .ref mw, .ref mm])), (ms, .inl (cI, 2128, .inl (upd (xf v) (2104 + k / 16) 1))), (mb, .inl (cI, 2128, .inl b)), (mw, .inl (cI, 51072, .inl w)), (mm, .inl (cI, 320, .inl mi))]) hx hb hK hP hD hS 1 0 rfl rfl (2104 + k / 16) (by rw [x_div16 hk]; exact nI_add 2104 (k / 16)) (by omega) (by decide) dX5_laid_56 rfl (fun H locs hP hD hS => ?_)
        rw [show (1 : Int32) = xb true from rfl, xf_ud v (by omega) true] at hP hD
        exact xk_vretW hx hb hr hlk hP hS (by unfold x_ldy; rw [x_dk_t (by rw [c_23]; decide) (by rw [c_40]; decide)]; rfl) dX5_laid_57
set_option maxHeartbeats 4000000 in
set_option maxRecDepth 100000 in
theorem j_lookUp (l : Launch) (D : va_G) (cI cJ cS : ClassId) (m0 ms mb mw mm : Nat) (v : xV) (b w mi : Nat → Int32) (kp : Nat) (hX : v.2.2.2.2.2.2.2.1 = false → ∀ k, v.2.2.2.2.2.1 k = false) (hm2 : ∀ k, xw_ok2 (v.1 k)) (r k : Nat) (hr8 : r < 8) (hk : k < 256) : xk_Wr l yX5_lookUp wsX5_lookUp ({ frames := 2, cells := 0, slots := 0, locals := 48 }) D vwCl (xt cI cJ cS) ([(m0, .inr (4, [.ref ms, .ref mb, .int (nI kp), .ref mw, .ref mm])), (ms, .inl (cI, 2128, .inl (xf v))), (mb, .inl (cI, 2128, .inl b)), (mw, .inl (cI, 51072, .inl w)), (mm, .inl (cI, 320, .inl mi))]) [.ref m0, .int (nI (1280 + 5 * r)), .int (nI (5 * k))] ([(m0, .inr (4, [.ref ms, .ref mb, .int (nI kp), .ref mw, .ref mm])), (ms, .inl (cI, 2128, .inl (xf (x_lok v r k)))), (mb, .inl (cI, 2128, .inl b)), (mw, .inl (cI, 51072, .inl w)), (mm, .inl (cI, 320, .inl mi))]) none := by
  refine xk_wr (cc := cX5_lookUp) (maxL := 4) (ret := none) (by decide) rfl (Nat.le_of_ble_eq_true rfl) (fun p e s m below meth c ls hx hb hr hlk hml hown hts hl hP hK hN hD hS => ?_)
  replace hl : lv_has ls 4 [(0, .ref m0), (1, .int (nI (1280 + 5 * r))), (2, .int (nI (5 * k)))] := hl
  have hiX5 : ∀ w ∈ u_ws RX5 TX5 5, w ∈ wsX5_lookUp := by decide +kernel
  refine lv_aload_n hx hb dX5_lookUp_0 rfl (lv_at hl 0 rfl) ?_
  refine lv_iload_n hx hb dX5_lookUp_1 rfl (lv_at hl 2 rfl) ?_
  refine xk_callR (va_runV (As := [.int (nI (5 * k))]) (rest := []) ⟨hx, hb, hml, hown, hts⟩ (j_isStale l D cI cJ cS m0 ms mb mw mm v b w mi kp hX (5 * k) (by omega) (v.1 k) (hm2 k) (fun j hj => xf_m v hk hj)) (cwV 1 hts gX5_lookUp_X5_isStale rfl rfl rfl (by decide +kernel) ⟨Nat.le_of_ble_eq_true rfl, Nat.le_of_ble_eq_true rfl⟩) (xk_preVr hK hN hP [0, 1, 2, 3, 4] rfl (ci := 4) rfl 0 rfl) rfl rfl hl.1 rfl (lv_room (Nat.le_of_ble_eq_true rfl)) dX5_lookUp_2 ⟨Nat.zero_le _, Nat.zero_le _⟩) ?_
  refine lv_istore_n (lv' := [(3, .int (xb (x_stale v.2.2.2.2.2.1 (v.1 k)))), (0, .ref m0), (1, .int (nI (1280 + 5 * r))), (2, .int (nI (5 * k)))]) hx hb dX5_lookUp_5 rfl hl (by decide) rfl (fun ls hl => ?_)
  refine lv_aload_n hx hb dX5_lookUp_6 rfl (lv_at hl 1 rfl) ?_
  refine lv_iload_n hx hb dX5_lookUp_7 rfl (lv_at hl 2 rfl) ?_
  refine lv_iload_n hx hb dX5_lookUp_8 rfl (lv_at hl 3 rfl) ?_
  refine xk_callW (ws' := [(m0, .inr (4, [.ref ms, .ref mb, .int (nI kp), .ref mw, .ref mm])), (ms, .inl (cI, 2128, .inl (u5 (xf v) (1280 + 5 * r) ((xf v) (5 * k)) ((xf v) ((5 * k) + 1)) ((xf v) ((5 * k) + 2)) ((xf v) ((5 * k) + 3)) ((xf v) ((5 * k) + 4))))), (mb, .inl (cI, 2128, .inl b)), (mw, .inl (cI, 51072, .inl w)), (mm, .inl (cI, 320, .inl mi))]) (va_runV (As := [.int (nI (1280 + 5 * r)), .int (nI (5 * k))]) (rest := []) ⟨hx, hb, hml, hown, hts⟩ (j_become l D cI cJ cS m0 ms mb mw mm (xf v) b w mi kp (1280 + 5 * r) (5 * k) (by omega) (by omega)) (cwV 2 hts gX5_lookUp_X5_become rfl rfl rfl (by decide +kernel) ⟨Nat.le_of_ble_eq_true rfl, Nat.le_of_ble_eq_true rfl⟩) (xk_preVw hK hN hP hD [0, 1, 2, 3, 4] rfl rfl (ci := 4) rfl 0 rfl) rfl rfl hl.1 rfl (lv_room (Nat.le_of_ble_eq_true rfl)) dX5_lookUp_9 ⟨Nat.zero_le _, Nat.zero_le _⟩) hP hD hS [0, 1, 2, 3, 4] rfl rfl rfl (fun H locs hP hD hS => ?_)
  rw [m_brm v hr8 hk] at hP hD
  refine lv_iload_n hx hb dX5_lookUp_12 rfl (lv_at hl 0 rfl) ?_
  refine lv_if_eq (tgt := 34) hx hb dX5_lookUp_13 (by decide) (fun c_13 => ?_) (fun c_13 => ?_)
  · skip
    exact xk_vretW hx hb hr hlk hP hS (by rw [m_lok_f v c_13]) dX5_lookUp_34
  · skip
    refine lv_aload_n hx hb dX5_lookUp_16 rfl (lv_at hl 1 rfl) ?_
    refine lv_iload_n hx hb dX5_lookUp_17 rfl (lv_at hl 2 rfl) ?_
    refine lv_iconst (v := 1) hx hb dX5_lookUp_18 (by decide) ?_
    refine xk_callW (ws' := [(m0, .inr (4, [.ref ms, .ref mb, .int (nI kp), .ref mw, .ref mm])), (ms, .inl (cI, 2128, .inl (u5 (xf (x_reg v r (v.1 k))) (1280 + 5 * r) 0 ((xf (x_reg v r (v.1 k))) ((1280 + 5 * r) + 1)) 0 0 0))), (mb, .inl (cI, 2128, .inl b)), (mw, .inl (cI, 51072, .inl w)), (mm, .inl (cI, 320, .inl mi))]) (va_runV (As := [.int (nI (1280 + 5 * r)), .int 1]) (rest := []) ⟨hx, hb, hml, hown, hts⟩ (j_untag l D cI cJ cS m0 ms mb mw mm (xf (x_reg v r (v.1 k))) b w mi kp (1280 + 5 * r) (by omega) true) (cwV 2 hts gX5_lookUp_X5_untag rfl rfl rfl (by decide +kernel) ⟨Nat.le_of_ble_eq_true rfl, Nat.le_of_ble_eq_true rfl⟩) (xk_preVw hK hN hP hD [0, 1, 2, 3, 4] rfl rfl (ci := 4) rfl 0 rfl) rfl rfl hl.1 rfl (lv_room (Nat.le_of_ble_eq_true rfl)) dX5_lookUp_19 ⟨Nat.zero_le _, Nat.zero_le _⟩) hP hD hS [0, 1, 2, 3, 4] rfl rfl rfl (fun H locs hP hD hS => ?_)
    rw [m_utr _ hr8] at hP hD
    refine lv_aload_n hx hb dX5_lookUp_22 rfl (lv_at hl 1 rfl) ?_
    refine va_get (D := D) (ci := 4) (v := .ref ms) (C := RX5) (T := TX5) (N := 5) hx hb hts hiX5 hown hK hP 0 rfl rfl 0 (by decide) (hts (.fieldLink RX5 7 "PointerSweepModel" "st" "[I") (by decide +kernel)) (fun _ h9 => h9) rfl dX5_lookUp_23 ?_
    refine lv_sipush (v := 2124) hx hb dX5_lookUp_26 (by decide) ?_
    refine lv_dup2_11 hx hb dX5_lookUp_29 rfl rfl ?_
    refine xa_iald hx hb hK hP 1 0 rfl rfl (2121 + 3) rfl (by decide) (by decide) dX5_lookUp_30 ?_
    refine lv_iconst (v := 1) hx hb dX5_lookUp_31 (by decide) ?_
    refine lv_iadd hx hb dX5_lookUp_32 ?_
    refine xa_iast (ws' := [(m0, .inr (4, [.ref ms, .ref mb, .int (nI kp), .ref mw, .ref mm])), (ms, .inl (cI, 2128, .inl (upd (xf (x_reg (x_reg v r (v.1 k)) r (((x_reg v r (v.1 k)).2.1 r).1, none))) (2121 + 3) (((xf (x_reg (x_reg v r (v.1 k)) r (((x_reg v r (v.1 k)).2.1 r).1, none))) (2121 + 3)) + 1)))), (mb, .inl (cI, 2128, .inl b)), (mw, .inl (cI, 51072, .inl w)), (mm, .inl (cI, 320, .inl mi))]) hx hb hK hP hD hS 1 0 rfl rfl (2121 + 3) rfl (by decide) (by decide) dX5_lookUp_33 rfl (fun H locs hP hD hS => ?_)
    rw [xf_t _ (by decide), xf_ut _ (by decide), show (x_reg (x_reg v r (v.1 k)) r (((x_reg v r (v.1 k)).2.1 r).1, none)).2.2.1 = v.2.2.1 from rfl, m_lok_t v c_13] at hP hD
    exact xk_vretW hx hb hr hlk hP hS rfl dX5_lookUp_34
set_option maxHeartbeats 4000000 in
set_option maxRecDepth 100000 in
theorem j_cleanM (l : Launch) (D : va_G) (cI cJ cS : ClassId) (m0 ms mb mw mm : Nat) (v : xV) (b w mi : Nat → Int32) (kp : Nat) (hX : v.2.2.2.2.2.2.2.1 = false → ∀ k, v.2.2.2.2.2.1 k = false) (hm2 : ∀ k, xw_ok2 (v.1 k)) (a1 n1 : Nat) (ha1 : a1 + n1 ≤ 256) : xk_Wr l yX5_clean wsX5_clean ({ frames := 2, cells := 0, slots := 0, locals := 48 }) D vwCl (xt cI cJ cS) ([(m0, .inr (4, [.ref ms, .ref mb, .int (nI kp), .ref mw, .ref mm])), (ms, .inl (cI, 2128, .inl (xf v))), (mb, .inl (cI, 2128, .inl b)), (mw, .inl (cI, 51072, .inl w)), (mm, .inl (cI, 320, .inl mi))]) [.ref m0, .int (nI (5 * a1)), .int (nI n1)] ([(m0, .inr (4, [.ref ms, .ref mb, .int (nI kp), .ref mw, .ref mm])), (ms, .inl (cI, 2128, .inl (xf (x_clm v a1 (a1 + n1))))), (mb, .inl (cI, 2128, .inl b)), (mw, .inl (cI, 51072, .inl w)), (mm, .inl (cI, 320, .inl mi))]) (some (.int (x_cn v.2.2.2.2.2.1 v.1 a1 (a1 + n1)))) := by
  refine xk_wr (cc := cX5_clean) (maxL := 5) (ret := (some .int)) (by decide) rfl (Nat.le_of_ble_eq_true rfl) (fun p e s m below meth c ls hx hb hr hlk hml hown hts hl hP hK hN hD hS => ?_)
  replace hl : lv_has ls 5 [(0, .ref m0), (1, .int (nI (5 * a1))), (2, .int (nI n1))] := hl
  have loop : ∀ (n i : Nat) (H : Heap) (locs : List Loc) (ls : Array Slot), i + n = n1 → va_P D vwCl ([(m0, .inr (4, [.ref ms, .ref mb, .int (nI kp), .ref mw, .ref mm])), (ms, .inl (cI, 2128, .inl (xf (x_clm v a1 (a1 + i))))), (mb, .inl (cI, 2128, .inl b)), (mw, .inl (cI, 51072, .inl w)), (mm, .inl (cI, 320, .inl mi))]) H → va_D (xk_in ([(m0, .inr (4, [.ref ms, .ref mb, .int (nI kp), .ref mw, .ref mm])), (ms, .inl (cI, 2128, .inl (xf v))), (mb, .inl (cI, 2128, .inl b)), (mw, .inl (cI, 51072, .inl w)), (mm, .inl (cI, 320, .inl mi))])) ([(m0, .inr (4, [.ref ms, .ref mb, .int (nI kp), .ref mw, .ref mm])), (ms, .inl (cI, 2128, .inl (xf (x_clm v a1 (a1 + i))))), (mb, .inl (cI, 2128, .inl b)), (mw, .inl (cI, 51072, .inl w)), (mm, .inl (cI, 320, .inl mi))]) → va_S (xk_in ([(m0, .inr (4, [.ref ms, .ref mb, .int (nI kp), .ref mw, .ref mm])), (ms, .inl (cI, 2128, .inl (xf v))), (mb, .inl (cI, 2128, .inl b)), (mw, .inl (cI, 51072, .inl w)), (mm, .inl (cI, 320, .inl mi))])) s.heap H locs → lv_has ls 5 [(4, .int (nI i)), (3, .int (x_acc (fun j => xb (x_stale v.2.2.2.2.2.1 (v.1 j))) a1 (a1 + i - a1))), (0, .ref m0), (1, .int (nI (5 * a1))), (2, .int (nI n1))] → W p l e ({ frames := 2, cells := 0, slots := 0, locals := 48 }) s m ([.ref m0, .int (nI (5 * a1)), .int (nI n1)]).toArray below meth c H locs 0 0 (MQ below (xk_W D vwCl ([(m0, .inr (4, [.ref ms, .ref mb, .int (nI kp), .ref mw, .ref mm])), (ms, .inl (cI, 2128, .inl (xf v))), (mb, .inl (cI, 2128, .inl b)), (mw, .inl (cI, 51072, .inl w)), (mm, .inl (cI, 320, .inl mi))]) ([(m0, .inr (4, [.ref ms, .ref mb, .int (nI kp), .ref mw, .ref mm])), (ms, .inl (cI, 2128, .inl (xf (x_clm v a1 (a1 + n1))))), (mb, .inl (cI, 2128, .inl b)), (mw, .inl (cI, 51072, .inl w)), (mm, .inl (cI, 320, .inl mi))]) (some (.int (x_cn v.2.2.2.2.2.1 v.1 a1 (a1 + n1))))) ([.ref m0, .int (nI (5 * a1)), .int (nI n1)]).toArray s 0 0 (xk_in ([(m0, .inr (4, [.ref ms, .ref mb, .int (nI kp), .ref mw, .ref mm])), (ms, .inl (cI, 2128, .inl (xf v))), (mb, .inl (cI, 2128, .inl b)), (mw, .inl (cI, 51072, .inl w)), (mm, .inl (cI, 320, .inl mi))]))) (F0 m 5 ls []) := by
    intro n
    induction n with
    | zero =>
      intro i H locs ls hn hP hD hS hl
      have hin : i = n1 := hn
      refine lv_iload hx hb dX5_clean_5 (lv_at hl 0 rfl) ?_
      refine lv_iload_n hx hb dX5_clean_7 rfl (lv_at hl 4 rfl) ?_
      refine lv_icmp_ge (tgt := 44) hx hb dX5_clean_8 (by decide) (fun c_8 => ?_) (fun c_8 => ?_)
      · skip
        refine lv_iload_n hx hb dX5_clean_44 rfl (lv_at hl 1 rfl) ?_
        exact xk_iretW hx hb hr hlk hP hS (by rw [hin]; rfl) (by rw [hin]) dX5_clean_45
      · skip
        exact absurd (nI_le (a := n1) (b := i) (by omega) (by omega)) c_8
    | succ n ih =>
      intro i H locs ls hn hP hD hS hl
      refine lv_iload hx hb dX5_clean_5 (lv_at hl 0 rfl) ?_
      refine lv_iload_n hx hb dX5_clean_7 rfl (lv_at hl 4 rfl) ?_
      refine lv_icmp_ge (tgt := 44) hx hb dX5_clean_8 (by decide) (fun c_8 => ?_) (fun c_8 => ?_)
      · skip
        exact absurd (xn_le_of (by omega) (by omega) c_8) (by omega)
      · skip
        refine lv_aload_n hx hb dX5_clean_11 rfl (lv_at hl 2 rfl) ?_
        refine lv_iload_n hx hb dX5_clean_12 rfl (lv_at hl 3 rfl) ?_
        refine lv_iconst (v := 5) hx hb dX5_clean_13 (by decide) ?_
        refine lv_iload hx hb dX5_clean_14 (lv_at hl 0 rfl) ?_
        refine lv_imul hx hb dX5_clean_16 ?_
        refine lv_iadd hx hb dX5_clean_17 ?_
        refine lv_topi (fun y ey => ?_)
        obtain rfl : y = nI (5 * (a1 + i)) := ey.trans m_51
        refine xk_callR (va_runV (As := [.int (nI (5 * (a1 + i)))]) (rest := []) ⟨hx, hb, hml, hown, hts⟩ (j_isStale l D cI cJ cS m0 ms mb mw mm (x_clm v a1 (a1 + i)) b w mi kp hX (5 * (a1 + i)) (by omega) (v.1 (a1 + i)) (hm2 _) (fun j hj => (xf_m (x_clm v a1 (a1 + i)) (by omega) hj).trans (congrArg (fun z => wc z j) (x_cl_at _ _ _ _)))) (cwV 1 hts gX5_clean_X5_isStale rfl rfl rfl (by decide +kernel) ⟨Nat.le_of_ble_eq_true rfl, Nat.le_of_ble_eq_true rfl⟩) (xk_preVr hK hN hP [0, 1, 2, 3, 4] rfl (ci := 4) rfl 0 rfl) rfl rfl hl.1 rfl (lv_room (Nat.le_of_ble_eq_true rfl)) dX5_clean_18 ⟨Nat.zero_le _, Nat.zero_le _⟩) ?_
        refine lv_if_eq (tgt := 38) hx hb dX5_clean_21 (by decide) (fun c_21 => ?_) (fun c_21 => ?_)
        · skip
          refine lv_iinc (v := (nI (i + 1))) (lv' := [(4, .int (nI (i + 1))), (3, .int (x_acc (fun j => xb (x_stale v.2.2.2.2.2.1 (v.1 j))) a1 (a1 + i - a1))), (0, .ref m0), (1, .int (nI (5 * a1))), (2, .int (nI n1))]) hx hb dX5_clean_38 hl (k := 0) rfl (nI_1 i) (by decide) rfl (fun ls hl => ?_)
          refine lv_goto (tgt := 5) hx hb dX5_clean_41 (by decide) ?_
          rw [x_clm_f v (xb_eq c_21)] at hP hD
          have e1 : x_acc (fun j => xb (x_stale v.2.2.2.2.2.1 (v.1 j))) a1 (a1 + i - a1) = x_acc (fun j => xb (x_stale v.2.2.2.2.2.1 (v.1 j))) a1 (a1 + (i + 1) - a1) := by rw [show a1 + (i + 1) = a1 + i + 1 by omega, ← x_acc_s (fun j => xb (x_stale v.2.2.2.2.2.1 (v.1 j))) (Nat.le_add_right a1 i)]; show _ = _ + xb (x_stale v.2.2.2.2.2.1 (v.1 (a1 + i))); rw [show xb (x_stale v.2.2.2.2.2.1 (v.1 (a1 + i))) = 0 from c_21, Int32.add_zero]
          rw [e1] at hl
          exact ih (i + 1) H locs ls (by omega) hP hD hS (lv_sub hl [0, 1, 2, 3, 4] rfl)
        · skip
          refine lv_aload_n hx hb dX5_clean_24 rfl (lv_at hl 2 rfl) ?_
          refine lv_iload_n hx hb dX5_clean_25 rfl (lv_at hl 3 rfl) ?_
          refine lv_iconst (v := 5) hx hb dX5_clean_26 (by decide) ?_
          refine lv_iload hx hb dX5_clean_27 (lv_at hl 0 rfl) ?_
          refine lv_imul hx hb dX5_clean_29 ?_
          refine lv_iadd hx hb dX5_clean_30 ?_
          refine lv_topi (fun y ey => ?_)
          obtain rfl : y = nI (5 * (a1 + i)) := ey.trans m_51
          refine lv_iconst (v := 1) hx hb dX5_clean_31 (by decide) ?_
          refine xk_callW (ws' := [(m0, .inr (4, [.ref ms, .ref mb, .int (nI kp), .ref mw, .ref mm])), (ms, .inl (cI, 2128, .inl (u5 (xf (x_clm v a1 (a1 + i))) (5 * (a1 + i)) 0 ((xf (x_clm v a1 (a1 + i))) ((5 * (a1 + i)) + 1)) 0 0 0))), (mb, .inl (cI, 2128, .inl b)), (mw, .inl (cI, 51072, .inl w)), (mm, .inl (cI, 320, .inl mi))]) (va_runV (As := [.int (nI (5 * (a1 + i))), .int 1]) (rest := []) ⟨hx, hb, hml, hown, hts⟩ (j_untag l D cI cJ cS m0 ms mb mw mm (xf (x_clm v a1 (a1 + i))) b w mi kp (5 * (a1 + i)) (by omega) true) (cwV 2 hts gX5_clean_X5_untag rfl rfl rfl (by decide +kernel) ⟨Nat.le_of_ble_eq_true rfl, Nat.le_of_ble_eq_true rfl⟩) (xk_preVw hK hN hP hD [0, 1, 2, 3, 4] rfl rfl (ci := 4) rfl 0 rfl) rfl rfl hl.1 rfl (lv_room (Nat.le_of_ble_eq_true rfl)) dX5_clean_32 ⟨Nat.zero_le _, Nat.zero_le _⟩) hP hD hS [0, 1, 2, 3, 4] rfl rfl rfl (fun H locs hP hD hS => ?_)
          rw [m_utm _ (by omega), x_clm_t v (Nat.le_add_right a1 i) (xb_ne c_21), show a1 + i + 1 = a1 + (i + 1) by omega] at hP hD
          refine lv_iinc (v := (x_acc (fun j => xb (x_stale v.2.2.2.2.2.1 (v.1 j))) a1 (a1 + (i + 1) - a1))) (lv' := [(3, .int (x_acc (fun j => xb (x_stale v.2.2.2.2.2.1 (v.1 j))) a1 (a1 + (i + 1) - a1))), (4, .int (nI i)), (0, .ref m0), (1, .int (nI (5 * a1))), (2, .int (nI n1))]) hx hb dX5_clean_35 hl (k := 1) rfl (by rw [show a1 + (i + 1) = a1 + i + 1 by omega, ← x_acc_s (fun j => xb (x_stale v.2.2.2.2.2.1 (v.1 j))) (Nat.le_add_right a1 i)]; show _ + (1 : Int32) = _ + xb (x_stale v.2.2.2.2.2.1 (v.1 (a1 + i))); rw [xb_ne (b := x_stale v.2.2.2.2.2.1 (v.1 (a1 + i))) c_21]; rfl) (by decide) rfl (fun ls hl => ?_)
          refine lv_iinc (v := (nI (i + 1))) (lv' := [(4, .int (nI (i + 1))), (3, .int (x_acc (fun j => xb (x_stale v.2.2.2.2.2.1 (v.1 j))) a1 (a1 + (i + 1) - a1))), (0, .ref m0), (1, .int (nI (5 * a1))), (2, .int (nI n1))]) hx hb dX5_clean_38 hl (k := 1) rfl (nI_1 i) (by decide) rfl (fun ls hl => ?_)
          refine lv_goto (tgt := 5) hx hb dX5_clean_41 (by decide) ?_
          exact ih (i + 1) H locs ls (by omega) hP hD hS (lv_sub hl [0, 1, 2, 3, 4] rfl)
  refine lv_iconst (v := 0) hx hb dX5_clean_0 (by decide) ?_
  refine lv_topi (fun y ey => ?_)
  obtain rfl : y = x_acc (fun j => xb (x_stale v.2.2.2.2.2.1 (v.1 j))) a1 (a1 + 0 - a1) := ey.trans (x_acc_0 _ _)
  refine lv_istore_n (lv' := [(3, .int (x_acc (fun j => xb (x_stale v.2.2.2.2.2.1 (v.1 j))) a1 (a1 + 0 - a1))), (0, .ref m0), (1, .int (nI (5 * a1))), (2, .int (nI n1))]) hx hb dX5_clean_1 rfl hl (by decide) rfl (fun ls hl => ?_)
  refine lv_iconst (v := 0) hx hb dX5_clean_2 (by decide) ?_
  refine lv_istore (lv' := [(4, .int 0), (3, .int (x_acc (fun j => xb (x_stale v.2.2.2.2.2.1 (v.1 j))) a1 (a1 + 0 - a1))), (0, .ref m0), (1, .int (nI (5 * a1))), (2, .int (nI n1))]) hx hb dX5_clean_3 hl (by decide) rfl (fun ls hl => ?_)
  refine loop n1 0 s.heap [] ls (by omega) ?_ ?_ hS (lv_sub hl [0, 1, 2, 3, 4] rfl)
  · rw [show a1 + 0 = a1 from rfl, x_clm_0]; exact hP
  · rw [show a1 + 0 = a1 from rfl, x_clm_0]; exact hD
set_option maxHeartbeats 4000000 in
set_option maxRecDepth 100000 in
theorem j_cleanR (l : Launch) (D : va_G) (cI cJ cS : ClassId) (m0 ms mb mw mm : Nat) (v : xV) (b w mi : Nat → Int32) (kp : Nat) (hX : v.2.2.2.2.2.2.2.1 = false → ∀ k, v.2.2.2.2.2.1 k = false) (hr2 : ∀ k, xw_ok2 (v.2.1 k)) (a1 n1 : Nat) (ha1 : a1 + n1 ≤ 8) : xk_Wr l yX5_clean wsX5_clean ({ frames := 2, cells := 0, slots := 0, locals := 48 }) D vwCl (xt cI cJ cS) ([(m0, .inr (4, [.ref ms, .ref mb, .int (nI kp), .ref mw, .ref mm])), (ms, .inl (cI, 2128, .inl (xf v))), (mb, .inl (cI, 2128, .inl b)), (mw, .inl (cI, 51072, .inl w)), (mm, .inl (cI, 320, .inl mi))]) [.ref m0, .int (nI (1280 + 5 * a1)), .int (nI n1)] ([(m0, .inr (4, [.ref ms, .ref mb, .int (nI kp), .ref mw, .ref mm])), (ms, .inl (cI, 2128, .inl (xf (x_clr_ v a1 (a1 + n1))))), (mb, .inl (cI, 2128, .inl b)), (mw, .inl (cI, 51072, .inl w)), (mm, .inl (cI, 320, .inl mi))]) (some (.int (x_cn v.2.2.2.2.2.1 v.2.1 a1 (a1 + n1)))) := by
  refine xk_wr (cc := cX5_clean) (maxL := 5) (ret := (some .int)) (by decide) rfl (Nat.le_of_ble_eq_true rfl) (fun p e s m below meth c ls hx hb hr hlk hml hown hts hl hP hK hN hD hS => ?_)
  replace hl : lv_has ls 5 [(0, .ref m0), (1, .int (nI (1280 + 5 * a1))), (2, .int (nI n1))] := hl
  have loop : ∀ (n i : Nat) (H : Heap) (locs : List Loc) (ls : Array Slot), i + n = n1 → va_P D vwCl ([(m0, .inr (4, [.ref ms, .ref mb, .int (nI kp), .ref mw, .ref mm])), (ms, .inl (cI, 2128, .inl (xf (x_clr_ v a1 (a1 + i))))), (mb, .inl (cI, 2128, .inl b)), (mw, .inl (cI, 51072, .inl w)), (mm, .inl (cI, 320, .inl mi))]) H → va_D (xk_in ([(m0, .inr (4, [.ref ms, .ref mb, .int (nI kp), .ref mw, .ref mm])), (ms, .inl (cI, 2128, .inl (xf v))), (mb, .inl (cI, 2128, .inl b)), (mw, .inl (cI, 51072, .inl w)), (mm, .inl (cI, 320, .inl mi))])) ([(m0, .inr (4, [.ref ms, .ref mb, .int (nI kp), .ref mw, .ref mm])), (ms, .inl (cI, 2128, .inl (xf (x_clr_ v a1 (a1 + i))))), (mb, .inl (cI, 2128, .inl b)), (mw, .inl (cI, 51072, .inl w)), (mm, .inl (cI, 320, .inl mi))]) → va_S (xk_in ([(m0, .inr (4, [.ref ms, .ref mb, .int (nI kp), .ref mw, .ref mm])), (ms, .inl (cI, 2128, .inl (xf v))), (mb, .inl (cI, 2128, .inl b)), (mw, .inl (cI, 51072, .inl w)), (mm, .inl (cI, 320, .inl mi))])) s.heap H locs → lv_has ls 5 [(4, .int (nI i)), (3, .int (x_acc (fun j => xb (x_stale v.2.2.2.2.2.1 (v.2.1 j))) a1 (a1 + i - a1))), (0, .ref m0), (1, .int (nI (1280 + 5 * a1))), (2, .int (nI n1))] → W p l e ({ frames := 2, cells := 0, slots := 0, locals := 48 }) s m ([.ref m0, .int (nI (1280 + 5 * a1)), .int (nI n1)]).toArray below meth c H locs 0 0 (MQ below (xk_W D vwCl ([(m0, .inr (4, [.ref ms, .ref mb, .int (nI kp), .ref mw, .ref mm])), (ms, .inl (cI, 2128, .inl (xf v))), (mb, .inl (cI, 2128, .inl b)), (mw, .inl (cI, 51072, .inl w)), (mm, .inl (cI, 320, .inl mi))]) ([(m0, .inr (4, [.ref ms, .ref mb, .int (nI kp), .ref mw, .ref mm])), (ms, .inl (cI, 2128, .inl (xf (x_clr_ v a1 (a1 + n1))))), (mb, .inl (cI, 2128, .inl b)), (mw, .inl (cI, 51072, .inl w)), (mm, .inl (cI, 320, .inl mi))]) (some (.int (x_cn v.2.2.2.2.2.1 v.2.1 a1 (a1 + n1))))) ([.ref m0, .int (nI (1280 + 5 * a1)), .int (nI n1)]).toArray s 0 0 (xk_in ([(m0, .inr (4, [.ref ms, .ref mb, .int (nI kp), .ref mw, .ref mm])), (ms, .inl (cI, 2128, .inl (xf v))), (mb, .inl (cI, 2128, .inl b)), (mw, .inl (cI, 51072, .inl w)), (mm, .inl (cI, 320, .inl mi))]))) (F0 m 5 ls []) := by
    intro n
    induction n with
    | zero =>
      intro i H locs ls hn hP hD hS hl
      have hin : i = n1 := hn
      refine lv_iload hx hb dX5_clean_5 (lv_at hl 0 rfl) ?_
      refine lv_iload_n hx hb dX5_clean_7 rfl (lv_at hl 4 rfl) ?_
      refine lv_icmp_ge (tgt := 44) hx hb dX5_clean_8 (by decide) (fun c_8 => ?_) (fun c_8 => ?_)
      · skip
        refine lv_iload_n hx hb dX5_clean_44 rfl (lv_at hl 1 rfl) ?_
        exact xk_iretW hx hb hr hlk hP hS (by rw [hin]; rfl) (by rw [hin]) dX5_clean_45
      · skip
        exact absurd (nI_le (a := n1) (b := i) (by omega) (by omega)) c_8
    | succ n ih =>
      intro i H locs ls hn hP hD hS hl
      refine lv_iload hx hb dX5_clean_5 (lv_at hl 0 rfl) ?_
      refine lv_iload_n hx hb dX5_clean_7 rfl (lv_at hl 4 rfl) ?_
      refine lv_icmp_ge (tgt := 44) hx hb dX5_clean_8 (by decide) (fun c_8 => ?_) (fun c_8 => ?_)
      · skip
        exact absurd (xn_le_of (by omega) (by omega) c_8) (by omega)
      · skip
        refine lv_aload_n hx hb dX5_clean_11 rfl (lv_at hl 2 rfl) ?_
        refine lv_iload_n hx hb dX5_clean_12 rfl (lv_at hl 3 rfl) ?_
        refine lv_iconst (v := 5) hx hb dX5_clean_13 (by decide) ?_
        refine lv_iload hx hb dX5_clean_14 (lv_at hl 0 rfl) ?_
        refine lv_imul hx hb dX5_clean_16 ?_
        refine lv_iadd hx hb dX5_clean_17 ?_
        refine lv_topi (fun y ey => ?_)
        obtain rfl : y = nI (1280 + 5 * (a1 + i)) := ey.trans (by rw [show (5 : Int32) = nI 5 from rfl, pk_mul, nI_add, Nat.add_assoc, ← Nat.mul_add])
        refine xk_callR (va_runV (As := [.int (nI (1280 + 5 * (a1 + i)))]) (rest := []) ⟨hx, hb, hml, hown, hts⟩ (j_isStale l D cI cJ cS m0 ms mb mw mm (x_clr_ v a1 (a1 + i)) b w mi kp hX (1280 + 5 * (a1 + i)) (by omega) (v.2.1 (a1 + i)) (hr2 _) (fun j hj => (xf_r (x_clr_ v a1 (a1 + i)) (by omega) hj).trans (congrArg (fun z => wc z j) (x_cl_at _ _ _ _)))) (cwV 1 hts gX5_clean_X5_isStale rfl rfl rfl (by decide +kernel) ⟨Nat.le_of_ble_eq_true rfl, Nat.le_of_ble_eq_true rfl⟩) (xk_preVr hK hN hP [0, 1, 2, 3, 4] rfl (ci := 4) rfl 0 rfl) rfl rfl hl.1 rfl (lv_room (Nat.le_of_ble_eq_true rfl)) dX5_clean_18 ⟨Nat.zero_le _, Nat.zero_le _⟩) ?_
        refine lv_if_eq (tgt := 38) hx hb dX5_clean_21 (by decide) (fun c_21 => ?_) (fun c_21 => ?_)
        · skip
          refine lv_iinc (v := (nI (i + 1))) (lv' := [(4, .int (nI (i + 1))), (3, .int (x_acc (fun j => xb (x_stale v.2.2.2.2.2.1 (v.2.1 j))) a1 (a1 + i - a1))), (0, .ref m0), (1, .int (nI (1280 + 5 * a1))), (2, .int (nI n1))]) hx hb dX5_clean_38 hl (k := 0) rfl (nI_1 i) (by decide) rfl (fun ls hl => ?_)
          refine lv_goto (tgt := 5) hx hb dX5_clean_41 (by decide) ?_
          rw [x_clr_f' v (xb_eq c_21)] at hP hD
          have e1 : x_acc (fun j => xb (x_stale v.2.2.2.2.2.1 (v.2.1 j))) a1 (a1 + i - a1) = x_acc (fun j => xb (x_stale v.2.2.2.2.2.1 (v.2.1 j))) a1 (a1 + (i + 1) - a1) := by rw [show a1 + (i + 1) = a1 + i + 1 by omega, ← x_acc_s (fun j => xb (x_stale v.2.2.2.2.2.1 (v.2.1 j))) (Nat.le_add_right a1 i)]; show _ = _ + xb (x_stale v.2.2.2.2.2.1 (v.2.1 (a1 + i))); rw [show xb (x_stale v.2.2.2.2.2.1 (v.2.1 (a1 + i))) = 0 from c_21, Int32.add_zero]
          rw [e1] at hl
          exact ih (i + 1) H locs ls (by omega) hP hD hS (lv_sub hl [0, 1, 2, 3, 4] rfl)
        · skip
          refine lv_aload_n hx hb dX5_clean_24 rfl (lv_at hl 2 rfl) ?_
          refine lv_iload_n hx hb dX5_clean_25 rfl (lv_at hl 3 rfl) ?_
          refine lv_iconst (v := 5) hx hb dX5_clean_26 (by decide) ?_
          refine lv_iload hx hb dX5_clean_27 (lv_at hl 0 rfl) ?_
          refine lv_imul hx hb dX5_clean_29 ?_
          refine lv_iadd hx hb dX5_clean_30 ?_
          refine lv_topi (fun y ey => ?_)
          obtain rfl : y = nI (1280 + 5 * (a1 + i)) := ey.trans (by rw [show (5 : Int32) = nI 5 from rfl, pk_mul, nI_add, Nat.add_assoc, ← Nat.mul_add])
          refine lv_iconst (v := 1) hx hb dX5_clean_31 (by decide) ?_
          refine xk_callW (ws' := [(m0, .inr (4, [.ref ms, .ref mb, .int (nI kp), .ref mw, .ref mm])), (ms, .inl (cI, 2128, .inl (u5 (xf (x_clr_ v a1 (a1 + i))) (1280 + 5 * (a1 + i)) 0 ((xf (x_clr_ v a1 (a1 + i))) ((1280 + 5 * (a1 + i)) + 1)) 0 0 0))), (mb, .inl (cI, 2128, .inl b)), (mw, .inl (cI, 51072, .inl w)), (mm, .inl (cI, 320, .inl mi))]) (va_runV (As := [.int (nI (1280 + 5 * (a1 + i))), .int 1]) (rest := []) ⟨hx, hb, hml, hown, hts⟩ (j_untag l D cI cJ cS m0 ms mb mw mm (xf (x_clr_ v a1 (a1 + i))) b w mi kp (1280 + 5 * (a1 + i)) (by omega) true) (cwV 2 hts gX5_clean_X5_untag rfl rfl rfl (by decide +kernel) ⟨Nat.le_of_ble_eq_true rfl, Nat.le_of_ble_eq_true rfl⟩) (xk_preVw hK hN hP hD [0, 1, 2, 3, 4] rfl rfl (ci := 4) rfl 0 rfl) rfl rfl hl.1 rfl (lv_room (Nat.le_of_ble_eq_true rfl)) dX5_clean_32 ⟨Nat.zero_le _, Nat.zero_le _⟩) hP hD hS [0, 1, 2, 3, 4] rfl rfl rfl (fun H locs hP hD hS => ?_)
          rw [m_utr _ (by omega), x_clr_t' v (Nat.le_add_right a1 i) (xb_ne c_21), show a1 + i + 1 = a1 + (i + 1) by omega] at hP hD
          refine lv_iinc (v := (x_acc (fun j => xb (x_stale v.2.2.2.2.2.1 (v.2.1 j))) a1 (a1 + (i + 1) - a1))) (lv' := [(3, .int (x_acc (fun j => xb (x_stale v.2.2.2.2.2.1 (v.2.1 j))) a1 (a1 + (i + 1) - a1))), (4, .int (nI i)), (0, .ref m0), (1, .int (nI (1280 + 5 * a1))), (2, .int (nI n1))]) hx hb dX5_clean_35 hl (k := 1) rfl (by rw [show a1 + (i + 1) = a1 + i + 1 by omega, ← x_acc_s (fun j => xb (x_stale v.2.2.2.2.2.1 (v.2.1 j))) (Nat.le_add_right a1 i)]; show _ + (1 : Int32) = _ + xb (x_stale v.2.2.2.2.2.1 (v.2.1 (a1 + i))); rw [xb_ne (b := x_stale v.2.2.2.2.2.1 (v.2.1 (a1 + i))) c_21]; rfl) (by decide) rfl (fun ls hl => ?_)
          refine lv_iinc (v := (nI (i + 1))) (lv' := [(4, .int (nI (i + 1))), (3, .int (x_acc (fun j => xb (x_stale v.2.2.2.2.2.1 (v.2.1 j))) a1 (a1 + (i + 1) - a1))), (0, .ref m0), (1, .int (nI (1280 + 5 * a1))), (2, .int (nI n1))]) hx hb dX5_clean_38 hl (k := 1) rfl (nI_1 i) (by decide) rfl (fun ls hl => ?_)
          refine lv_goto (tgt := 5) hx hb dX5_clean_41 (by decide) ?_
          exact ih (i + 1) H locs ls (by omega) hP hD hS (lv_sub hl [0, 1, 2, 3, 4] rfl)
  refine lv_iconst (v := 0) hx hb dX5_clean_0 (by decide) ?_
  refine lv_topi (fun y ey => ?_)
  obtain rfl : y = x_acc (fun j => xb (x_stale v.2.2.2.2.2.1 (v.2.1 j))) a1 (a1 + 0 - a1) := ey.trans (x_acc_0 _ _)
  refine lv_istore_n (lv' := [(3, .int (x_acc (fun j => xb (x_stale v.2.2.2.2.2.1 (v.2.1 j))) a1 (a1 + 0 - a1))), (0, .ref m0), (1, .int (nI (1280 + 5 * a1))), (2, .int (nI n1))]) hx hb dX5_clean_1 rfl hl (by decide) rfl (fun ls hl => ?_)
  refine lv_iconst (v := 0) hx hb dX5_clean_2 (by decide) ?_
  refine lv_istore (lv' := [(4, .int 0), (3, .int (x_acc (fun j => xb (x_stale v.2.2.2.2.2.1 (v.2.1 j))) a1 (a1 + 0 - a1))), (0, .ref m0), (1, .int (nI (1280 + 5 * a1))), (2, .int (nI n1))]) hx hb dX5_clean_3 hl (by decide) rfl (fun ls hl => ?_)
  refine loop n1 0 s.heap [] ls (by omega) ?_ ?_ hS (lv_sub hl [0, 1, 2, 3, 4] rfl)
  · rw [show a1 + 0 = a1 from rfl, x_clr_0']; exact hP
  · rw [show a1 + 0 = a1 from rfl, x_clr_0']; exact hD
