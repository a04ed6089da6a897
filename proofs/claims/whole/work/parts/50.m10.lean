set_option maxHeartbeats 4000000 in
set_option maxRecDepth 100000 in
theorem y_sweep (l : Launch) (D : va_G) (cI cJ cS : ClassId) (m0 ms mb mw mm : Nat) (v : xV) (b w mi : Nat → Int32) (kp : Nat) (hkp : kp ≤ 24) (hv : x_ok v) (hX : v.2.2.2.2.2.2.2.1 = false → ∀ k, v.2.2.2.2.2.1 k = false) (hs0 : v.2.2.2.2.2.2.2.1 = false → v.2.2.2.2.2.2.2.2.1 = 0) (hGQ : ∀ k, v.2.2.2.1 k = true → v.2.2.2.2.1 k = false) (hdy : v.2.2.2.2.2.2.2.1 = false → ∀ k, v.2.2.2.2.2.2.2.2.2 k = false) : xk_Wr l yX5_sweep wsX5_sweep ({ frames := 1, cells := 0, slots := 0, locals := 22 }) D vwCl (xt cI cJ cS) (xm cI m0 ms mb mw mm v b w mi kp) [.ref m0] (xmo cI m0 ms mb mw mm v b w mi kp (sp_sweep v).2) (some (.int (sp_sweep v).1)) := by
  refine xk_wr2 (cc := cX5_sweep) (maxL := 3) (ret := (some .int)) (by decide) rfl (Nat.le_of_ble_eq_true rfl) (fun p e s m below meth c ls W0v W1v hW1 hx hb hr hlk hml hown hts hl hP hK hN hD hS => ?_)
  replace hl : lv_has ls 3 [(0, .ref m0)] := hl
  have hiX5 : ∀ w ∈ u_ws RX5 TX5 5, w ∈ wsX5_sweep := by decide +kernel
  replace hP : va_P D vwCl ([(m0, .inr (4, [.ref ms, .ref mb, .int (nI kp), .ref mw, .ref mm])), (ms, .inl (cI, 2128, .inl (xf v))), (mb, .inl (cI, 2128, .inl b)), (mw, .inl (cI, 51072, .inl w)), (mm, .inl (cI, 320, .inl mi))]) s.heap := hP
  replace hD : va_D _ ([(m0, .inr (4, [.ref ms, .ref mb, .int (nI kp), .ref mw, .ref mm])), (ms, .inl (cI, 2128, .inl (xf v))), (mb, .inl (cI, 2128, .inl b)), (mw, .inl (cI, 51072, .inl w)), (mm, .inl (cI, 320, .inl mi))]) := hD
  have key : v.2.2.2.2.2.2.2.1 = false → sp_sweep v = (nI (xs_w v.2.2.2.2.1 0 256), some (x_swp v)) := fun h => if_neg (by rw [h]; decide)
  by_cases hon : v.2.2.2.2.2.2.2.1 = false
  case neg =>
    refine lv_aload_n hx hb dX5_sweep_0 rfl (lv_at hl 0 rfl) ?_
    refine va_get (D := D) (ci := 4) (v := .ref ms) (C := RX5) (T := TX5) (N := 5) hx hb hts hiX5 hown hK hP 0 rfl rfl 0 (by decide) (hts (.fieldLink RX5 7 "PointerSweepModel" "st" "[I") (by decide +kernel)) (fun _ h9 => h9) rfl dX5_sweep_1 ?_
    refine lv_sipush (v := 2120) hx hb dX5_sweep_4 (by decide) ?_
    refine xa_iald hx hb hK hP 1 0 rfl rfl 2120 rfl (by decide) (by decide) dX5_sweep_7 ?_
    refine lv_topi (fun y ey => ?_)
    obtain rfl : y = xb v.2.2.2.2.2.2.2.1 := ey.trans (xf_o v)
    refine lv_iconst (v := 1) hx hb dX5_sweep_8 (by decide) ?_
    refine lv_icmp_ne (tgt := 15) hx hb dX5_sweep_9 (by decide) (fun c_9 => ?_) (fun c_9 => ?_)
    · skip
      exact absurd (by cases ho : v.2.2.2.2.2.2.2.1 with | false => exact absurd ho hon | true => rfl) c_9
    · skip
      refine lv_bipush (v := (-2)) hx hb dX5_sweep_12 (by decide) ?_
      have e9 : sp_sweep v = (-2, none) := if_pos (by cases ho : v.2.2.2.2.2.2.2.1 with | false => exact absurd ho hon | true => rfl)
      exact xk_iretW hx hb hr hlk hP hS (by rw [e9]) (by rw [← hW1, e9]; rfl) dX5_sweep_14
  have loop2 : ∀ (n i : Nat) (H : Heap) (locs : List Loc) (ls : Array Slot), i + n = 16 → va_P D vwCl ([(m0, .inr (4, [.ref ms, .ref mb, .int (nI kp), .ref mw, .ref mm])), (ms, .inl (cI, 2128, .inl (xf (x_swx v 256)))), (mb, .inl (cI, 2128, .inl (xf v))), (mw, .inl (cI, 51072, .inl w)), (mm, .inl (cI, 320, .inl mi))]) H → va_D (xk_in W0v) ([(m0, .inr (4, [.ref ms, .ref mb, .int (nI kp), .ref mw, .ref mm])), (ms, .inl (cI, 2128, .inl (xf (x_swx v 256)))), (mb, .inl (cI, 2128, .inl (xf v))), (mw, .inl (cI, 51072, .inl w)), (mm, .inl (cI, 320, .inl mi))]) → va_S (xk_in W0v) s.heap H locs → lv_has ls 3 [(2, .int (nI i)), (0, .ref m0), (1, .int (x_acc (fun k => xb (decide (xu v.2.2.2.1 v.2.2.2.2.1 k = 2))) 0 256))] → W p l e ({ frames := 1, cells := 0, slots := 0, locals := 22 }) s m ([.ref m0]).toArray below meth c H locs 0 0 (MQ below (xk_W D vwCl W0v W1v (some (.int (sp_sweep v).1))) ([.ref m0]).toArray s 0 0 (xk_in W0v)) (F0 m 80 ls []) := by
    intro n
    induction n with
    | zero =>
      intro i H locs ls hn hP hD hS hl
      refine lv_iload_n hx hb dX5_sweep_80 rfl (lv_at hl 0 rfl) ?_
      refine lv_bipush (v := 16) hx hb dX5_sweep_81 (by decide) ?_
      refine lv_icmp_ge (tgt := 114) hx hb dX5_sweep_83 (by decide) (fun c_83 => ?_) (fun c_83 => ?_)
      · skip
        refine lv_aload_n hx hb dX5_sweep_114 rfl (lv_at hl 1 rfl) ?_
        refine va_get (D := D) (ci := 4) (v := .ref ms) (C := RX5) (T := TX5) (N := 5) hx hb hts hiX5 hown hK hP 0 rfl rfl 0 (by decide) (hts (.fieldLink RX5 7 "PointerSweepModel" "st" "[I") (by decide +kernel)) (fun _ h9 => h9) rfl dX5_sweep_115 ?_
        refine lv_sipush (v := 2120) hx hb dX5_sweep_118 (by decide) ?_
        refine lv_iconst (v := 1) hx hb dX5_sweep_121 (by decide) ?_
        refine xa_iast (ws' := [(m0, .inr (4, [.ref ms, .ref mb, .int (nI kp), .ref mw, .ref mm])), (ms, .inl (cI, 2128, .inl (upd (xf (x_swx v 256)) 2120 1))), (mb, .inl (cI, 2128, .inl (xf v))), (mw, .inl (cI, 51072, .inl w)), (mm, .inl (cI, 320, .inl mi))]) hx hb hK hP hD hS 1 0 rfl rfl 2120 rfl (by decide) (by decide) dX5_sweep_122 rfl (fun H locs hP hD hS => ?_)
        rw [show (1 : Int32) = xb true from rfl, xf_uo, m_swp v hGQ] at hP hD
        refine lv_aload_n hx hb dX5_sweep_123 rfl (lv_at hl 1 rfl) ?_
        refine lv_iload_n hx hb dX5_sweep_124 rfl (lv_at hl 2 rfl) ?_
        refine lv_topi (fun y ey => ?_)
        obtain rfl : y = nI (xs_w v.2.2.2.2.1 0 256) := ey.trans (m_swn v hGQ)
        refine xk_callW (ws' := [(m0, .inr (4, [.ref ms, .ref mb, .int (nI (m_kp kp)), .ref mw, .ref mm])), (ms, .inl (cI, 2128, .inl (xf (x_swp v)))), (mb, .inl (cI, 2128, .inl (xf v))), (mw, .inl (cI, 51072, .inl (m_was (xf v) w kp))), (mm, .inl (cI, 320, .inl mi))]) (va_runV (As := [.int (nI (xs_w v.2.2.2.2.1 0 256))]) (rest := []) ⟨hx, hb, hml, hown, hts⟩ (j_keeps l D cI cJ cS m0 ms mb mw mm (xf (x_swp v)) (xf v) w mi kp hkp (nI (xs_w v.2.2.2.2.1 0 256))) (cwV 1 hts gX5_sweep_X5_keeps rfl rfl rfl (by decide +kernel) ⟨Nat.le_of_ble_eq_true rfl, Nat.le_of_ble_eq_true rfl⟩) (xk_preVw hK hN hP hD [0, 1, 2, 3, 4] rfl rfl (ci := 4) rfl 0 rfl) rfl rfl hl.1 rfl (lv_room (Nat.le_of_ble_eq_true rfl)) dX5_sweep_125 ⟨Nat.zero_le _, Nat.zero_le _⟩) hP hD hS [0, 1, 2, 3, 4] rfl rfl rfl (fun H locs hP hD hS => ?_)
        have e9 := key hon
        exact xk_iretW hx hb hr hlk hP hS (by rw [e9]) (by rw [← hW1, e9]; rfl) dX5_sweep_128
      · skip
        exact absurd (nI_le (a := 16) (b := i) (by omega) (by omega)) c_83
    | succ n ih =>
      intro i H locs ls hn hP hD hS hl
      refine lv_iload_n hx hb dX5_sweep_80 rfl (lv_at hl 0 rfl) ?_
      refine lv_bipush (v := 16) hx hb dX5_sweep_81 (by decide) ?_
      refine lv_icmp_ge (tgt := 114) hx hb dX5_sweep_83 (by decide) (fun c_83 => ?_) (fun c_83 => ?_)
      · skip
        exact absurd (xn_le_of (a := 16) (by decide) (by omega) c_83) (by omega)
      · skip
        refine lv_aload_n hx hb dX5_sweep_86 rfl (lv_at hl 1 rfl) ?_
        refine va_get (D := D) (ci := 4) (v := .ref ms) (C := RX5) (T := TX5) (N := 5) hx hb hts hiX5 hown hK hP 0 rfl rfl 0 (by decide) (hts (.fieldLink RX5 7 "PointerSweepModel" "st" "[I") (by decide +kernel)) (fun _ h9 => h9) rfl dX5_sweep_87 ?_
        refine lv_sipush (v := 2088) hx hb dX5_sweep_90 (by decide) ?_
        refine lv_iload_n hx hb dX5_sweep_93 rfl (lv_at hl 0 rfl) ?_
        refine lv_iadd hx hb dX5_sweep_94 ?_
        refine lv_iconst (v := 0) hx hb dX5_sweep_95 (by decide) ?_
        refine xa_iast (ws' := [(m0, .inr (4, [.ref ms, .ref mb, .int (nI kp), .ref mw, .ref mm])), (ms, .inl (cI, 2128, .inl (upd (xf (x_swx v 256)) (2088 + i) 0))), (mb, .inl (cI, 2128, .inl (xf v))), (mw, .inl (cI, 51072, .inl w)), (mm, .inl (cI, 320, .inl mi))]) hx hb hK hP hD hS 1 0 rfl rfl (2088 + i) (nI_add 2088 i) (by omega) (by decide) dX5_sweep_96 rfl (fun H locs hP hD hS => ?_)
        rw [upd_id (by rw [xf_s _ (by omega)]; show xb (decide (i < v.2.2.2.2.2.2.2.2.1)) = 0; rw [hs0 hon, decide_eq_false (Nat.not_lt_zero i)]; rfl)] at hP hD
        refine lv_aload_n hx hb dX5_sweep_97 rfl (lv_at hl 1 rfl) ?_
        refine va_get (D := D) (ci := 4) (v := .ref ms) (C := RX5) (T := TX5) (N := 5) hx hb hts hiX5 hown hK hP 0 rfl rfl 0 (by decide) (hts (.fieldLink RX5 7 "PointerSweepModel" "st" "[I") (by decide +kernel)) (fun _ h9 => h9) rfl dX5_sweep_98 ?_
        refine lv_sipush (v := 2104) hx hb dX5_sweep_101 (by decide) ?_
        refine lv_iload_n hx hb dX5_sweep_104 rfl (lv_at hl 0 rfl) ?_
        refine lv_iadd hx hb dX5_sweep_105 ?_
        refine lv_iconst (v := 0) hx hb dX5_sweep_106 (by decide) ?_
        refine xa_iast (ws' := [(m0, .inr (4, [.ref ms, .ref mb, .int (nI kp), .ref mw, .ref mm])), (ms, .inl (cI, 2128, .inl (upd (xf (x_swx v 256)) (2104 + i) 0))), (mb, .inl (cI, 2128, .inl (xf v))), (mw, .inl (cI, 51072, .inl w)), (mm, .inl (cI, 320, .inl mi))]) hx hb hK hP hD hS 1 0 rfl rfl (2104 + i) (nI_add 2104 i) (by omega) (by decide) dX5_sweep_107 rfl (fun H locs hP hD hS => ?_)
        rw [upd_id (by rw [xf_d _ (by omega)]; show xb (v.2.2.2.2.2.2.2.2.2 i) = 0; rw [hdy hon i]; rfl)] at hP hD
        refine lv_iinc (v := (nI (i + 1))) (lv' := [(2, .int (nI (i + 1))), (0, .ref m0), (1, .int (x_acc (fun k => xb (decide (xu v.2.2.2.1 v.2.2.2.2.1 k = 2))) 0 256))]) hx hb dX5_sweep_108 hl (k := 0) rfl (nI_1 i) (by decide) rfl (fun ls hl => ?_)
        refine lv_goto (tgt := 80) hx hb dX5_sweep_111 (by decide) ?_
        exact ih (i + 1) H locs ls (by omega) hP hD hS (lv_sub hl [0, 1, 2] rfl)
  have loop1 : ∀ (n i : Nat) (H : Heap) (locs : List Loc) (ls : Array Slot), i + n = 256 → va_P D vwCl ([(m0, .inr (4, [.ref ms, .ref mb, .int (nI kp), .ref mw, .ref mm])), (ms, .inl (cI, 2128, .inl (xf (x_swx v i)))), (mb, .inl (cI, 2128, .inl (xf v))), (mw, .inl (cI, 51072, .inl w)), (mm, .inl (cI, 320, .inl mi))]) H → va_D (xk_in W0v) ([(m0, .inr (4, [.ref ms, .ref mb, .int (nI kp), .ref mw, .ref mm])), (ms, .inl (cI, 2128, .inl (xf (x_swx v i)))), (mb, .inl (cI, 2128, .inl (xf v))), (mw, .inl (cI, 51072, .inl w)), (mm, .inl (cI, 320, .inl mi))]) → va_S (xk_in W0v) s.heap H locs → lv_has ls 3 [(2, .int (nI i)), (0, .ref m0), (1, .int (x_acc (fun k => xb (decide (xu v.2.2.2.1 v.2.2.2.2.1 k = 2))) 0 i))] → W p l e ({ frames := 1, cells := 0, slots := 0, locals := 22 }) s m ([.ref m0]).toArray below meth c H locs 0 0 (MQ below (xk_W D vwCl W0v W1v (some (.int (sp_sweep v).1))) ([.ref m0]).toArray s 0 0 (xk_in W0v)) (F0 m 23 ls []) := by
    intro n
    induction n with
    | zero =>
      intro i H locs ls hn hP hD hS hl
      have hin : i = 256 := hn
      refine lv_iload_n hx hb dX5_sweep_23 rfl (lv_at hl 0 rfl) ?_
      refine lv_sipush (v := 256) hx hb dX5_sweep_24 (by decide) ?_
      refine lv_icmp_ge (tgt := 78) hx hb dX5_sweep_27 (by decide) (fun c_27 => ?_) (fun c_27 => ?_)
      · skip
        refine lv_iconst (v := 0) hx hb dX5_sweep_78 (by decide) ?_
        refine lv_istore_n (lv' := [(2, .int 0), (0, .ref m0), (1, .int (x_acc (fun k => xb (decide (xu v.2.2.2.1 v.2.2.2.2.1 k = 2))) 0 i))]) hx hb dX5_sweep_79 rfl hl (by decide) rfl (fun ls hl => ?_)
        rw [hin] at hP hD hl
        exact loop2 16 0 H locs ls rfl hP hD hS (lv_sub hl [0, 1, 2] rfl)
      · skip
        exact absurd (nI_le (a := 256) (b := i) (by omega) (by omega)) c_27
    | succ n ih =>
      intro i H locs ls hn hP hD hS hl
      refine lv_iload_n hx hb dX5_sweep_23 rfl (lv_at hl 0 rfl) ?_
      refine lv_sipush (v := 256) hx hb dX5_sweep_24 (by decide) ?_
      refine lv_icmp_ge (tgt := 78) hx hb dX5_sweep_27 (by decide) (fun c_27 => ?_) (fun c_27 => ?_)
      · skip
        exact absurd (xn_le_of (a := 256) (by decide) (by omega) c_27) (by omega)
      · skip
        refine lv_aload_n hx hb dX5_sweep_30 rfl (lv_at hl 1 rfl) ?_
        refine va_get (D := D) (ci := 4) (v := .ref ms) (C := RX5) (T := TX5) (N := 5) hx hb hts hiX5 hown hK hP 0 rfl rfl 0 (by decide) (hts (.fieldLink RX5 7 "PointerSweepModel" "st" "[I") (by decide +kernel)) (fun _ h9 => h9) rfl dX5_sweep_31 ?_
        refine lv_sipush (v := 1576) hx hb dX5_sweep_34 (by decide) ?_
        refine lv_iload_n hx hb dX5_sweep_37 rfl (lv_at hl 0 rfl) ?_
        refine lv_iadd hx hb dX5_sweep_38 ?_
        refine lv_aload_n hx hb dX5_sweep_39 rfl (lv_at hl 1 rfl) ?_
        refine va_get (D := D) (ci := 4) (v := .ref ms) (C := RX5) (T := TX5) (N := 5) hx hb hts hiX5 hown hK hP 0 rfl rfl 0 (by decide) (hts (.fieldLink RX5 7 "PointerSweepModel" "st" "[I") (by decide +kernel)) (fun _ h9 => h9) rfl dX5_sweep_40 ?_
        refine lv_sipush (v := 1320) hx hb dX5_sweep_43 (by decide) ?_
        refine lv_iload_n hx hb dX5_sweep_46 rfl (lv_at hl 0 rfl) ?_
        refine lv_iadd hx hb dX5_sweep_47 ?_
        refine xa_iald hx hb hK hP 1 0 rfl rfl (1320 + i) (nI_add 1320 i) (by omega) (by decide) dX5_sweep_48 ?_
        refine lv_topi (fun y ey => ?_)
        obtain rfl : y = xu v.2.2.2.1 v.2.2.2.2.1 i := ey.trans (xf_u (x_swx v i) (by omega))
        refine lv_iconst (v := 2) hx hb dX5_sweep_49 (by decide) ?_
        refine lv_icmp_ne (tgt := 57) hx hb dX5_sweep_50 (by decide) (fun c_50 => ?_) (fun c_50 => ?_)
        · skip
          refine lv_iconst (v := 0) hx hb dX5_sweep_57 (by decide) ?_
          refine xa_iast (ws' := [(m0, .inr (4, [.ref ms, .ref mb, .int (nI kp), .ref mw, .ref mm])), (ms, .inl (cI, 2128, .inl (upd (xf (x_swx v i)) (1576 + i) 0))), (mb, .inl (cI, 2128, .inl (xf v))), (mw, .inl (cI, 51072, .inl w)), (mm, .inl (cI, 320, .inl mi))]) hx hb hK hP hD hS 1 0 rfl rfl (1576 + i) (nI_add 1576 i) (by omega) (by decide) dX5_sweep_58 rfl (fun H locs hP hD hS => ?_)
          rw [show (0 : Int32) = xb false from rfl, xf_ux _ (by omega), x_swx_up v i false (decide_eq_false c_50)] at hP hD
          refine lv_iload_n hx hb dX5_sweep_59 rfl (lv_at hl 2 rfl) ?_
          refine lv_aload_n hx hb dX5_sweep_60 rfl (lv_at hl 1 rfl) ?_
          refine va_get (D := D) (ci := 4) (v := .ref ms) (C := RX5) (T := TX5) (N := 5) hx hb hts hiX5 hown hK hP 0 rfl rfl 0 (by decide) (hts (.fieldLink RX5 7 "PointerSweepModel" "st" "[I") (by decide +kernel)) (fun _ h9 => h9) rfl dX5_sweep_61 ?_
          refine lv_sipush (v := 1576) hx hb dX5_sweep_64 (by decide) ?_
          refine lv_iload_n hx hb dX5_sweep_67 rfl (lv_at hl 0 rfl) ?_
          refine lv_iadd hx hb dX5_sweep_68 ?_
          refine xa_iald hx hb hK hP 1 0 rfl rfl (1576 + i) (nI_add 1576 i) (by omega) (by decide) dX5_sweep_69 ?_
          refine lv_topi (fun y ey => ?_)
          obtain rfl : y = xb (decide (xu v.2.2.2.1 v.2.2.2.2.1 i = 2)) := ey.trans (by rw [xf_x _ (by omega)]; show xb (if i < i + 1 then _ else _) = _; rw [if_pos (by omega)])
          refine lv_iadd hx hb dX5_sweep_70 ?_
          refine lv_topi (fun y ey => ?_)
          obtain rfl : y = x_acc (fun k => xb (decide (xu v.2.2.2.1 v.2.2.2.2.1 k = 2))) 0 (i + 1) := ey.trans (x_acc0_s (fun k => xb (decide (xu v.2.2.2.1 v.2.2.2.2.1 k = 2))) i)
          refine lv_istore_n (lv' := [(1, .int (x_acc (fun k => xb (decide (xu v.2.2.2.1 v.2.2.2.2.1 k = 2))) 0 (i + 1))), (2, .int (nI i)), (0, .ref m0)]) hx hb dX5_sweep_71 rfl hl (by decide) rfl (fun ls hl => ?_)
          refine lv_iinc (v := (nI (i + 1))) (lv' := [(2, .int (nI (i + 1))), (1, .int (x_acc (fun k => xb (decide (xu v.2.2.2.1 v.2.2.2.2.1 k = 2))) 0 (i + 1))), (0, .ref m0)]) hx hb dX5_sweep_72 hl (k := 1) rfl (nI_1 i) (by decide) rfl (fun ls hl => ?_)
          refine lv_goto (tgt := 23) hx hb dX5_sweep_75 (by decide) ?_
          exact ih (i + 1) H locs ls (by omega) hP hD hS (lv_sub hl [0, 2, 1] rfl)
        · skip
          refine lv_iconst (v := 1) hx hb dX5_sweep_53 (by decide) ?_
          refine lv_goto (tgt := 58) hx hb dX5_sweep_54 (by decide) ?_
          refine xa_iast (ws' := [(m0, .inr (4, [.ref ms, .ref mb, .int (nI kp), .ref mw, .ref mm])), (ms, .inl (cI, 2128, .inl (upd (xf (x_swx v i)) (1576 + i) 1))), (mb, .inl (cI, 2128, .inl (xf v))), (mw, .inl (cI, 51072, .inl w)), (mm, .inl (cI, 320, .inl mi))]) hx hb hK hP hD hS 1 0 rfl rfl (1576 + i) (nI_add 1576 i) (by omega) (by decide) dX5_sweep_58 rfl (fun H locs hP hD hS => ?_)
          rw [show (1 : Int32) = xb true from rfl, xf_ux _ (by omega), x_swx_up v i true (decide_eq_true c_50)] at hP hD
          refine lv_iload_n hx hb dX5_sweep_59 rfl (lv_at hl 2 rfl) ?_
          refine lv_aload_n hx hb dX5_sweep_60 rfl (lv_at hl 1 rfl) ?_
          refine va_get (D := D) (ci := 4) (v := .ref ms) (C := RX5) (T := TX5) (N := 5) hx hb hts hiX5 hown hK hP 0 rfl rfl 0 (by decide) (hts (.fieldLink RX5 7 "PointerSweepModel" "st" "[I") (by decide +kernel)) (fun _ h9 => h9) rfl dX5_sweep_61 ?_
          refine lv_sipush (v := 1576) hx hb dX5_sweep_64 (by decide) ?_
          refine lv_iload_n hx hb dX5_sweep_67 rfl (lv_at hl 0 rfl) ?_
          refine lv_iadd hx hb dX5_sweep_68 ?_
          refine xa_iald hx hb hK hP 1 0 rfl rfl (1576 + i) (nI_add 1576 i) (by omega) (by decide) dX5_sweep_69 ?_
          refine lv_topi (fun y ey => ?_)
          obtain rfl : y = xb (decide (xu v.2.2.2.1 v.2.2.2.2.1 i = 2)) := ey.trans (by rw [xf_x _ (by omega)]; show xb (if i < i + 1 then _ else _) = _; rw [if_pos (by omega)])
          refine lv_iadd hx hb dX5_sweep_70 ?_
          refine lv_topi (fun y ey => ?_)
          obtain rfl : y = x_acc (fun k => xb (decide (xu v.2.2.2.1 v.2.2.2.2.1 k = 2))) 0 (i + 1) := ey.trans (x_acc0_s (fun k => xb (decide (xu v.2.2.2.1 v.2.2.2.2.1 k = 2))) i)
          refine lv_istore_n (lv' := [(1, .int (x_acc (fun k => xb (decide (xu v.2.2.2.1 v.2.2.2.2.1 k = 2))) 0 (i + 1))), (2, .int (nI i)), (0, .ref m0)]) hx hb dX5_sweep_71 rfl hl (by decide) rfl (fun ls hl => ?_)
          refine lv_iinc (v := (nI (i + 1))) (lv' := [(2, .int (nI (i + 1))), (1, .int (x_acc (fun k => xb (decide (xu v.2.2.2.1 v.2.2.2.2.1 k = 2))) 0 (i + 1))), (0, .ref m0)]) hx hb dX5_sweep_72 hl (k := 1) rfl (nI_1 i) (by decide) rfl (fun ls hl => ?_)
          refine lv_goto (tgt := 23) hx hb dX5_sweep_75 (by decide) ?_
          exact ih (i + 1) H locs ls (by omega) hP hD hS (lv_sub hl [0, 2, 1] rfl)
  refine lv_aload_n hx hb dX5_sweep_0 rfl (lv_at hl 0 rfl) ?_
  refine va_get (D := D) (ci := 4) (v := .ref ms) (C := RX5) (T := TX5) (N := 5) hx hb hts hiX5 hown hK hP 0 rfl rfl 0 (by decide) (hts (.fieldLink RX5 7 "PointerSweepModel" "st" "[I") (by decide +kernel)) (fun _ h9 => h9) rfl dX5_sweep_1 ?_
  refine lv_sipush (v := 2120) hx hb dX5_sweep_4 (by decide) ?_
  refine xa_iald hx hb hK hP 1 0 rfl rfl 2120 rfl (by decide) (by decide) dX5_sweep_7 ?_
  refine lv_topi (fun y ey => ?_)
  obtain rfl : y = xb v.2.2.2.2.2.2.2.1 := ey.trans (xf_o v)
  refine lv_iconst (v := 1) hx hb dX5_sweep_8 (by decide) ?_
  refine lv_icmp_ne (tgt := 15) hx hb dX5_sweep_9 (by decide) (fun c_9 => ?_) (fun c_9 => ?_)
  · skip
    refine lv_aload_n hx hb dX5_sweep_15 rfl (lv_at hl 0 rfl) ?_
    refine xk_callW (ws' := [(m0, .inr (4, [.ref ms, .ref mb, .int (nI kp), .ref mw, .ref mm])), (ms, .inl (cI, 2128, .inl (xf v))), (mb, .inl (cI, 2128, .inl (xf v))), (mw, .inl (cI, 51072, .inl w)), (mm, .inl (cI, 320, .inl mi))]) (va_runV (As := []) (rest := []) ⟨hx, hb, hml, hown, hts⟩ (j_begin l D cI cJ cS m0 ms mb mw mm (xf v) b w mi kp ) (cwV 0 hts gX5_sweep_X5_begin rfl rfl rfl (by decide +kernel) ⟨Nat.le_of_ble_eq_true rfl, Nat.le_of_ble_eq_true rfl⟩) (xk_preVw hK hN hP hD [0, 1, 2, 3, 4] rfl rfl (ci := 4) rfl 0 rfl) rfl rfl hl.1 rfl (lv_room (Nat.le_of_ble_eq_true rfl)) dX5_sweep_16 ⟨Nat.zero_le _, Nat.zero_le _⟩) hP hD hS [0, 1, 2, 3, 4] rfl rfl rfl (fun H locs hP hD hS => ?_)
    refine lv_iconst (v := 0) hx hb dX5_sweep_19 (by decide) ?_
    refine lv_topi (fun y ey => ?_)
    obtain rfl : y = x_acc (fun k => xb (decide (xu v.2.2.2.1 v.2.2.2.2.1 k = 2))) 0 0 := ey.trans rfl
    refine lv_istore_n (lv' := [(1, .int (x_acc (fun k => xb (decide (xu v.2.2.2.1 v.2.2.2.2.1 k = 2))) 0 0)), (0, .ref m0)]) hx hb dX5_sweep_20 rfl hl (by decide) rfl (fun ls hl => ?_)
    refine lv_iconst (v := 0) hx hb dX5_sweep_21 (by decide) ?_
    refine lv_istore_n (lv' := [(2, .int 0), (1, .int (x_acc (fun k => xb (decide (xu v.2.2.2.1 v.2.2.2.2.1 k = 2))) 0 0)), (0, .ref m0)]) hx hb dX5_sweep_22 rfl hl (by decide) rfl (fun ls hl => ?_)
    refine loop1 256 0 H locs ls rfl ?_ ?_ hS (lv_sub hl [0, 2, 1] rfl)
    · rw [x_swx_0]; exact hP
    · rw [x_swx_0]; exact hD
  · skip
    exact absurd c_9 (by rw [hon]; decide)
