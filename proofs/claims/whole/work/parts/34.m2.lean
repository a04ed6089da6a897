set_option maxHeartbeats 4000000 in
set_option maxRecDepth 100000 in
theorem j_keepsA (l : Launch) (D : va_G) (cI cJ cS : ClassId) (m0 ms mb mw mm : Nat) (f b w mi : Nat → Int32) (kp : Nat) (hkp : kp < 24) (an : Int32) : xk_Wr l yX5_keeps wsX5_keeps ({ frames := 0, cells := 0, slots := 0, locals := 0 }) D vwCl (xt cI cJ cS) ([(m0, .inr (4, [.ref ms, .ref mb, .int (nI kp), .ref mw, .ref mm])), (ms, .inl (cI, 2128, .inl f)), (mb, .inl (cI, 2128, .inl b)), (mw, .inl (cI, 51072, .inl w)), (mm, .inl (cI, 320, .inl mi))]) [.ref m0, .int an] ([(m0, .inr (4, [.ref ms, .ref mb, .int (nI (kp + 1)), .ref mw, .ref mm])), (ms, .inl (cI, 2128, .inl f)), (mb, .inl (cI, 2128, .inl b)), (mw, .inl (cI, 51072, .inl (x_pt5 b w (2128 * kp) 2128))), (mm, .inl (cI, 320, .inl mi))]) (some (.int an)) := by
  refine xk_wr (cc := cX5_keeps) (maxL := 3) (ret := (some .int)) (by decide) rfl (Nat.le_of_ble_eq_true rfl) (fun p e s m below meth c ls hx hb hr hlk hml hown hts hl hP hK hN hD hS => ?_)
  replace hl : lv_has ls 3 [(0, .ref m0), (1, .int an)] := hl
  have hiX5 : ∀ w ∈ u_ws RX5 TX5 5, w ∈ wsX5_keeps := by decide +kernel
  have loop2 : ∀ (n i : Nat) (H : Heap) (locs : List Loc) (ls : Array Slot), i + n = 2128 → va_P D vwCl ([(m0, .inr (4, [.ref ms, .ref mb, .int (nI kp), .ref mw, .ref mm])), (ms, .inl (cI, 2128, .inl f)), (mb, .inl (cI, 2128, .inl b)), (mw, .inl (cI, 51072, .inl (x_pt5 b w (2128 * kp) i))), (mm, .inl (cI, 320, .inl mi))]) H → va_D (xk_in ([(m0, .inr (4, [.ref ms, .ref mb, .int (nI kp), .ref mw, .ref mm])), (ms, .inl (cI, 2128, .inl f)), (mb, .inl (cI, 2128, .inl b)), (mw, .inl (cI, 51072, .inl w)), (mm, .inl (cI, 320, .inl mi))])) ([(m0, .inr (4, [.ref ms, .ref mb, .int (nI kp), .ref mw, .ref mm])), (ms, .inl (cI, 2128, .inl f)), (mb, .inl (cI, 2128, .inl b)), (mw, .inl (cI, 51072, .inl (x_pt5 b w (2128 * kp) i))), (mm, .inl (cI, 320, .inl mi))]) → va_S (xk_in ([(m0, .inr (4, [.ref ms, .ref mb, .int (nI kp), .ref mw, .ref mm])), (ms, .inl (cI, 2128, .inl f)), (mb, .inl (cI, 2128, .inl b)), (mw, .inl (cI, 51072, .inl w)), (mm, .inl (cI, 320, .inl mi))])) s.heap H locs → lv_has ls 3 [(2, .int (nI i)), (0, .ref m0), (1, .int an)] → W p l e ({ frames := 0, cells := 0, slots := 0, locals := 0 }) s m ([.ref m0, .int an]).toArray below meth c H locs 0 0 (MQ below (xk_W D vwCl ([(m0, .inr (4, [.ref ms, .ref mb, .int (nI kp), .ref mw, .ref mm])), (ms, .inl (cI, 2128, .inl f)), (mb, .inl (cI, 2128, .inl b)), (mw, .inl (cI, 51072, .inl w)), (mm, .inl (cI, 320, .inl mi))]) ([(m0, .inr (4, [.ref ms, .ref mb, .int (nI (kp + 1)), .ref mw, .ref mm])), (ms, .inl (cI, 2128, .inl f)), (mb, .inl (cI, 2128, .inl b)), (mw, .inl (cI, 51072, .inl (x_pt5 b w (2128 * kp) 2128))), (mm, .inl (cI, 320, .inl mi))]) (some (.int an))) ([.ref m0, .int an]).toArray s 0 0 (xk_in ([(m0, .inr (4, [.ref ms, .ref mb, .int (nI kp), .ref mw, .ref mm])), (ms, .inl (cI, 2128, .inl f)), (mb, .inl (cI, 2128, .inl b)), (mw, .inl (cI, 51072, .inl w)), (mm, .inl (cI, 320, .inl mi))]))) (F0 m 51 ls []) := by
    intro n
    induction n with
    | zero =>
      intro i H locs ls hn hP hD hS hl
      have hin : i = 2128 := hn
      refine lv_iload_n hx hb dX5_keeps_51 rfl (lv_at hl 0 rfl) ?_
      refine lv_sipush (v := 2128) hx hb dX5_keeps_52 (by decide) ?_
      refine lv_icmp_ge (tgt := 85) hx hb dX5_keeps_55 (by decide) (fun c_55 => ?_) (fun c_55 => ?_)
      · skip
        refine lv_aload_n hx hb dX5_keeps_85 rfl (lv_at hl 1 rfl) ?_
        refine lv_dup hx hb dX5_keeps_86 rfl ?_
        refine va_get (D := D) (ci := 4) (v := .int (nI kp)) (C := RX5) (T := TX5) (N := 5) hx hb hts hiX5 hown hK hP 0 rfl rfl 2 (by decide) (hts (.fieldLink RX5 29 "PointerSweepModel" "kept" "I") (by decide +kernel)) (fun _ h9 => h9) rfl dX5_keeps_87 ?_
        refine lv_iconst (v := 1) hx hb dX5_keeps_90 (by decide) ?_
        refine lv_iadd hx hb dX5_keeps_91 ?_
        refine lv_topi (fun y ey => ?_)
        obtain rfl : y = nI (kp + 1) := ey.trans (nI_1 _)
        refine xa_put (ci := 4) (v := .int (nI (kp + 1))) (ty := .int) (C := RX5) (T := TX5) (N := 5) (ws' := [(m0, .inr (4, [.ref ms, .ref mb, .int (nI (kp + 1)), .ref mw, .ref mm])), (ms, .inl (cI, 2128, .inl f)), (mb, .inl (cI, 2128, .inl b)), (mw, .inl (cI, 51072, .inl (x_pt5 b w (2128 * kp) i))), (mm, .inl (cI, 320, .inl mi))]) hx hb hts hiX5 tyX5 tyX5_ok nmX5 hown hK hP hD hS 0 rfl rfl 2 (by decide) (hts (.fieldLink RX5 29 "PointerSweepModel" "kept" "I") (by decide +kernel)) (fun _ h9 => h9) rfl (by decide +kernel) rfl rfl (Nat.le_of_ble_eq_true rfl) dX5_keeps_92 rfl (fun H locs hP hD hS => ?_)
        refine lv_iload_n hx hb dX5_keeps_95 rfl (lv_at hl 2 rfl) ?_
        exact xk_iretW hx hb hr hlk hP hS rfl (by rw [hin]) dX5_keeps_96
      · skip
        exact absurd (nI_le (a := 2128) (b := i) (by omega) (by omega)) c_55
    | succ n ih =>
      intro i H locs ls hn hP hD hS hl
      refine lv_iload_n hx hb dX5_keeps_51 rfl (lv_at hl 0 rfl) ?_
      refine lv_sipush (v := 2128) hx hb dX5_keeps_52 (by decide) ?_
      refine lv_icmp_ge (tgt := 85) hx hb dX5_keeps_55 (by decide) (fun c_55 => ?_) (fun c_55 => ?_)
      · skip
        exact absurd (xn_le_of (a := 2128) (by decide) (by omega) c_55) (by omega)
      · skip
        refine lv_aload_n hx hb dX5_keeps_58 rfl (lv_at hl 1 rfl) ?_
        refine va_get (D := D) (ci := 4) (v := .ref mw) (C := RX5) (T := TX5) (N := 5) hx hb hts hiX5 hown hK hP 0 rfl rfl 3 (by decide) (hts (.fieldLink RX5 17 "PointerSweepModel" "was" "[I") (by decide +kernel)) (fun _ h9 => h9) rfl dX5_keeps_59 ?_
        refine lv_sipush (v := 2128) hx hb dX5_keeps_62 (by decide) ?_
        refine lv_aload_n hx hb dX5_keeps_65 rfl (lv_at hl 1 rfl) ?_
        refine va_get (D := D) (ci := 4) (v := .int (nI kp)) (C := RX5) (T := TX5) (N := 5) hx hb hts hiX5 hown hK hP 0 rfl rfl 2 (by decide) (hts (.fieldLink RX5 29 "PointerSweepModel" "kept" "I") (by decide +kernel)) (fun _ h9 => h9) rfl dX5_keeps_66 ?_
        refine lv_imul hx hb dX5_keeps_69 ?_
        refine lv_iload_n hx hb dX5_keeps_70 rfl (lv_at hl 0 rfl) ?_
        refine lv_iadd hx hb dX5_keeps_71 ?_
        refine lv_aload_n hx hb dX5_keeps_72 rfl (lv_at hl 1 rfl) ?_
        refine va_get (D := D) (ci := 4) (v := .ref mb) (C := RX5) (T := TX5) (N := 5) hx hb hts hiX5 hown hK hP 0 rfl rfl 1 (by decide) (hts (.fieldLink RX5 13 "PointerSweepModel" "back" "[I") (by decide +kernel)) (fun _ h9 => h9) rfl dX5_keeps_73 ?_
        refine lv_iload_n hx hb dX5_keeps_76 rfl (lv_at hl 0 rfl) ?_
        refine xa_iald hx hb hK hP 2 0 rfl rfl i rfl (by omega) (by decide) dX5_keeps_77 ?_
        refine xa_iast (ws' := [(m0, .inr (4, [.ref ms, .ref mb, .int (nI kp), .ref mw, .ref mm])), (ms, .inl (cI, 2128, .inl f)), (mb, .inl (cI, 2128, .inl b)), (mw, .inl (cI, 51072, .inl (upd (x_pt5 b w (2128 * kp) i) (2128 * kp + i) (b i)))), (mm, .inl (cI, 320, .inl mi))]) hx hb hK hP hD hS 3 0 rfl rfl (2128 * kp + i) (by rw [show (2128 : Int32) = nI 2128 from rfl, pk_mul, nI_add]) (by omega) (by decide) dX5_keeps_78 rfl (fun H locs hP hD hS => ?_)
        rw [x_pt5_s] at hP hD
        refine lv_iinc (v := (nI (i + 1))) (lv' := [(2, .int (nI (i + 1))), (0, .ref m0), (1, .int an)]) hx hb dX5_keeps_79 hl (k := 0) rfl (nI_1 i) (by decide) rfl (fun ls hl => ?_)
        refine lv_goto (tgt := 51) hx hb dX5_keeps_82 (by decide) ?_
        exact ih (i + 1) H locs ls (by omega) hP hD hS (lv_sub hl [0, 1, 2] rfl)
  refine lv_aload_n hx hb dX5_keeps_0 rfl (lv_at hl 0 rfl) ?_
  refine va_get (D := D) (ci := 4) (v := .int (nI kp)) (C := RX5) (T := TX5) (N := 5) hx hb hts hiX5 hown hK hP 0 rfl rfl 2 (by decide) (hts (.fieldLink RX5 29 "PointerSweepModel" "kept" "I") (by decide +kernel)) (fun _ h9 => h9) rfl dX5_keeps_1 ?_
  refine lv_bipush (v := 24) hx hb dX5_keeps_4 (by decide) ?_
  refine lv_icmp_ne (tgt := 49) hx hb dX5_keeps_6 (by decide) (fun c_6 => ?_) (fun c_6 => ?_)
  · skip
    refine lv_iconst (v := 0) hx hb dX5_keeps_49 (by decide) ?_
    refine lv_istore_n (lv' := [(2, .int 0), (0, .ref m0), (1, .int an)]) hx hb dX5_keeps_50 rfl hl (by decide) rfl (fun ls hl => ?_)
    refine loop2 2128 0 s.heap [] ls rfl ?_ ?_ hS (lv_sub hl [0, 1, 2] rfl)
    · rw [x_pt5_0]; exact hP
    · rw [x_pt5_0]; exact hD
  · skip
    exact absurd ((nI_eq (b := 24) (by omega) (by decide)).mp c_6) (by omega)
set_option maxHeartbeats 4000000 in
set_option maxRecDepth 100000 in
theorem j_keepsB (l : Launch) (D : va_G) (cI cJ cS : ClassId) (m0 ms mb mw mm : Nat) (f b w mi : Nat → Int32) (an : Int32) : xk_Wr l yX5_keeps wsX5_keeps ({ frames := 0, cells := 0, slots := 0, locals := 0 }) D vwCl (xt cI cJ cS) ([(m0, .inr (4, [.ref ms, .ref mb, .int (nI 24), .ref mw, .ref mm])), (ms, .inl (cI, 2128, .inl f)), (mb, .inl (cI, 2128, .inl b)), (mw, .inl (cI, 51072, .inl w)), (mm, .inl (cI, 320, .inl mi))]) [.ref m0, .int an] ([(m0, .inr (4, [.ref ms, .ref mb, .int (nI (23 + 1)), .ref mw, .ref mm])), (ms, .inl (cI, 2128, .inl f)), (mb, .inl (cI, 2128, .inl b)), (mw, .inl (cI, 51072, .inl (x_pt5 b (x_sh w 48944) (2128 * 23) 2128))), (mm, .inl (cI, 320, .inl mi))]) (some (.int an)) := by
  refine xk_wr (cc := cX5_keeps) (maxL := 3) (ret := (some .int)) (by decide) rfl (Nat.le_of_ble_eq_true rfl) (fun p e s m below meth c ls hx hb hr hlk hml hown hts hl hP hK hN hD hS => ?_)
  replace hl : lv_has ls 3 [(0, .ref m0), (1, .int an)] := hl
  have hiX5 : ∀ w ∈ u_ws RX5 TX5 5, w ∈ wsX5_keeps := by decide +kernel
  have loop2 : ∀ (n i : Nat) (H : Heap) (locs : List Loc) (ls : Array Slot), i + n = 2128 → va_P D vwCl ([(m0, .inr (4, [.ref ms, .ref mb, .int (nI 23), .ref mw, .ref mm])), (ms, .inl (cI, 2128, .inl f)), (mb, .inl (cI, 2128, .inl b)), (mw, .inl (cI, 51072, .inl (x_pt5 b (x_sh w 48944) (2128 * 23) i))), (mm, .inl (cI, 320, .inl mi))]) H → va_D (xk_in ([(m0, .inr (4, [.ref ms, .ref mb, .int (nI 24), .ref mw, .ref mm])), (ms, .inl (cI, 2128, .inl f)), (mb, .inl (cI, 2128, .inl b)), (mw, .inl (cI, 51072, .inl w)), (mm, .inl (cI, 320, .inl mi))])) ([(m0, .inr (4, [.ref ms, .ref mb, .int (nI 23), .ref mw, .ref mm])), (ms, .inl (cI, 2128, .inl f)), (mb, .inl (cI, 2128, .inl b)), (mw, .inl (cI, 51072, .inl (x_pt5 b (x_sh w 48944) (2128 * 23) i))), (mm, .inl (cI, 320, .inl mi))]) → va_S (xk_in ([(m0, .inr (4, [.ref ms, .ref mb, .int (nI 24), .ref mw, .ref mm])), (ms, .inl (cI, 2128, .inl f)), (mb, .inl (cI, 2128, .inl b)), (mw, .inl (cI, 51072, .inl w)), (mm, .inl (cI, 320, .inl mi))])) s.heap H locs → lv_has ls 3 [(2, .int (nI i)), (0, .ref m0), (1, .int an)] → W p l e ({ frames := 0, cells := 0, slots := 0, locals := 0 }) s m ([.ref m0, .int an]).toArray below meth c H locs 0 0 (MQ below (xk_W D vwCl ([(m0, .inr (4, [.ref ms, .ref mb, .int (nI 24), .ref mw, .ref mm])), (ms, .inl (cI, 2128, .inl f)), (mb, .inl (cI, 2128, .inl b)), (mw, .inl (cI, 51072, .inl w)), (mm, .inl (cI, 320, .inl mi))]) ([(m0, .inr (4, [.ref ms, .ref mb, .int (nI (23 + 1)), .ref mw, .ref mm])), (ms, .inl (cI, 2128, .inl f)), (mb, .inl (cI, 2128, .inl b)), (mw, .inl (cI, 51072, .inl (x_pt5 b (x_sh w 48944) (2128 * 23) 2128))), (mm, .inl (cI, 320, .inl mi))]) (some (.int an))) ([.ref m0, .int an]).toArray s 0 0 (xk_in ([(m0, .inr (4, [.ref ms, .ref mb, .int (nI 24), .ref mw, .ref mm])), (ms, .inl (cI, 2128, .inl f)), (mb, .inl (cI, 2128, .inl b)), (mw, .inl (cI, 51072, .inl w)), (mm, .inl (cI, 320, .inl mi))]))) (F0 m 51 ls []) := by
    intro n
    induction n with
    | zero =>
      intro i H locs ls hn hP hD hS hl
      have hin : i = 2128 := hn
      refine lv_iload_n hx hb dX5_keeps_51 rfl (lv_at hl 0 rfl) ?_
      refine lv_sipush (v := 2128) hx hb dX5_keeps_52 (by decide) ?_
      refine lv_icmp_ge (tgt := 85) hx hb dX5_keeps_55 (by decide) (fun c_55 => ?_) (fun c_55 => ?_)
      · skip
        refine lv_aload_n hx hb dX5_keeps_85 rfl (lv_at hl 1 rfl) ?_
        refine lv_dup hx hb dX5_keeps_86 rfl ?_
        refine va_get (D := D) (ci := 4) (v := .int (nI 23)) (C := RX5) (T := TX5) (N := 5) hx hb hts hiX5 hown hK hP 0 rfl rfl 2 (by decide) (hts (.fieldLink RX5 29 "PointerSweepModel" "kept" "I") (by decide +kernel)) (fun _ h9 => h9) rfl dX5_keeps_87 ?_
        refine lv_iconst (v := 1) hx hb dX5_keeps_90 (by decide) ?_
        refine lv_iadd hx hb dX5_keeps_91 ?_
        refine lv_topi (fun y ey => ?_)
        obtain rfl : y = nI (23 + 1) := ey.trans (nI_1 _)
        refine xa_put (ci := 4) (v := .int (nI (23 + 1))) (ty := .int) (C := RX5) (T := TX5) (N := 5) (ws' := [(m0, .inr (4, [.ref ms, .ref mb, .int (nI (23 + 1)), .ref mw, .ref mm])), (ms, .inl (cI, 2128, .inl f)), (mb, .inl (cI, 2128, .inl b)), (mw, .inl (cI, 51072, .inl (x_pt5 b (x_sh w 48944) (2128 * 23) i))), (mm, .inl (cI, 320, .inl mi))]) hx hb hts hiX5 tyX5 tyX5_ok nmX5 hown hK hP hD hS 0 rfl rfl 2 (by decide) (hts (.fieldLink RX5 29 "PointerSweepModel" "kept" "I") (by decide +kernel)) (fun _ h9 => h9) rfl (by decide +kernel) rfl rfl (Nat.le_of_ble_eq_true rfl) dX5_keeps_92 rfl (fun H locs hP hD hS => ?_)
        refine lv_iload_n hx hb dX5_keeps_95 rfl (lv_at hl 2 rfl) ?_
        exact xk_iretW hx hb hr hlk hP hS rfl (by rw [hin]) dX5_keeps_96
      · skip
        exact absurd (nI_le (a := 2128) (b := i) (by omega) (by omega)) c_55
    | succ n ih =>
      intro i H locs ls hn hP hD hS hl
      refine lv_iload_n hx hb dX5_keeps_51 rfl (lv_at hl 0 rfl) ?_
      refine lv_sipush (v := 2128) hx hb dX5_keeps_52 (by decide) ?_
      refine lv_icmp_ge (tgt := 85) hx hb dX5_keeps_55 (by decide) (fun c_55 => ?_) (fun c_55 => ?_)
      · skip
        exact absurd (xn_le_of (a := 2128) (by decide) (by omega) c_55) (by omega)
      · skip
        refine lv_aload_n hx hb dX5_keeps_58 rfl (lv_at hl 1 rfl) ?_
        refine va_get (D := D) (ci := 4) (v := .ref mw) (C := RX5) (T := TX5) (N := 5) hx hb hts hiX5 hown hK hP 0 rfl rfl 3 (by decide) (hts (.fieldLink RX5 17 "PointerSweepModel" "was" "[I") (by decide +kernel)) (fun _ h9 => h9) rfl dX5_keeps_59 ?_
        refine lv_sipush (v := 2128) hx hb dX5_keeps_62 (by decide) ?_
        refine lv_aload_n hx hb dX5_keeps_65 rfl (lv_at hl 1 rfl) ?_
        refine va_get (D := D) (ci := 4) (v := .int (nI 23)) (C := RX5) (T := TX5) (N := 5) hx hb hts hiX5 hown hK hP 0 rfl rfl 2 (by decide) (hts (.fieldLink RX5 29 "PointerSweepModel" "kept" "I") (by decide +kernel)) (fun _ h9 => h9) rfl dX5_keeps_66 ?_
        refine lv_imul hx hb dX5_keeps_69 ?_
        refine lv_iload_n hx hb dX5_keeps_70 rfl (lv_at hl 0 rfl) ?_
        refine lv_iadd hx hb dX5_keeps_71 ?_
        refine lv_aload_n hx hb dX5_keeps_72 rfl (lv_at hl 1 rfl) ?_
        refine va_get (D := D) (ci := 4) (v := .ref mb) (C := RX5) (T := TX5) (N := 5) hx hb hts hiX5 hown hK hP 0 rfl rfl 1 (by decide) (hts (.fieldLink RX5 13 "PointerSweepModel" "back" "[I") (by decide +kernel)) (fun _ h9 => h9) rfl dX5_keeps_73 ?_
        refine lv_iload_n hx hb dX5_keeps_76 rfl (lv_at hl 0 rfl) ?_
        refine xa_iald hx hb hK hP 2 0 rfl rfl i rfl (by omega) (by decide) dX5_keeps_77 ?_
        refine xa_iast (ws' := [(m0, .inr (4, [.ref ms, .ref mb, .int (nI 23), .ref mw, .ref mm])), (ms, .inl (cI, 2128, .inl f)), (mb, .inl (cI, 2128, .inl b)), (mw, .inl (cI, 51072, .inl (upd (x_pt5 b (x_sh w 48944) (2128 * 23) i) (2128 * 23 + i) (b i)))), (mm, .inl (cI, 320, .inl mi))]) hx hb hK hP hD hS 3 0 rfl rfl (2128 * 23 + i) (by rw [show (2128 : Int32) = nI 2128 from rfl, pk_mul, nI_add]) (by omega) (by decide) dX5_keeps_78 rfl (fun H locs hP hD hS => ?_)
        rw [x_pt5_s] at hP hD
        refine lv_iinc (v := (nI (i + 1))) (lv' := [(2, .int (nI (i + 1))), (0, .ref m0), (1, .int an)]) hx hb dX5_keeps_79 hl (k := 0) rfl (nI_1 i) (by decide) rfl (fun ls hl => ?_)
        refine lv_goto (tgt := 51) hx hb dX5_keeps_82 (by decide) ?_
        exact ih (i + 1) H locs ls (by omega) hP hD hS (lv_sub hl [0, 1, 2] rfl)
  have loop1 : ∀ (n i : Nat) (H : Heap) (locs : List Loc) (ls : Array Slot), i + n = 48944 → va_P D vwCl ([(m0, .inr (4, [.ref ms, .ref mb, .int (nI 24), .ref mw, .ref mm])), (ms, .inl (cI, 2128, .inl f)), (mb, .inl (cI, 2128, .inl b)), (mw, .inl (cI, 51072, .inl (x_sh w i))), (mm, .inl (cI, 320, .inl mi))]) H → va_D (xk_in ([(m0, .inr (4, [.ref ms, .ref mb, .int (nI 24), .ref mw, .ref mm])), (ms, .inl (cI, 2128, .inl f)), (mb, .inl (cI, 2128, .inl b)), (mw, .inl (cI, 51072, .inl w)), (mm, .inl (cI, 320, .inl mi))])) ([(m0, .inr (4, [.ref ms, .ref mb, .int (nI 24), .ref mw, .ref mm])), (ms, .inl (cI, 2128, .inl f)), (mb, .inl (cI, 2128, .inl b)), (mw, .inl (cI, 51072, .inl (x_sh w i))), (mm, .inl (cI, 320, .inl mi))]) → va_S (xk_in ([(m0, .inr (4, [.ref ms, .ref mb, .int (nI 24), .ref mw, .ref mm])), (ms, .inl (cI, 2128, .inl f)), (mb, .inl (cI, 2128, .inl b)), (mw, .inl (cI, 51072, .inl w)), (mm, .inl (cI, 320, .inl mi))])) s.heap H locs → lv_has ls 3 [(2, .int (nI i)), (0, .ref m0), (1, .int an)] → W p l e ({ frames := 0, cells := 0, slots := 0, locals := 0 }) s m ([.ref m0, .int an]).toArray below meth c H locs 0 0 (MQ below (xk_W D vwCl ([(m0, .inr (4, [.ref ms, .ref mb, .int (nI 24), .ref mw, .ref mm])), (ms, .inl (cI, 2128, .inl f)), (mb, .inl (cI, 2128, .inl b)), (mw, .inl (cI, 51072, .inl w)), (mm, .inl (cI, 320, .inl mi))]) ([(m0, .inr (4, [.ref ms, .ref mb, .int (nI (23 + 1)), .ref mw, .ref mm])), (ms, .inl (cI, 2128, .inl f)), (mb, .inl (cI, 2128, .inl b)), (mw, .inl (cI, 51072, .inl (x_pt5 b (x_sh w 48944) (2128 * 23) 2128))), (mm, .inl (cI, 320, .inl mi))]) (some (.int an))) ([.ref m0, .int an]).toArray s 0 0 (xk_in ([(m0, .inr (4, [.ref ms, .ref mb, .int (nI 24), .ref mw, .ref mm])), (ms, .inl (cI, 2128, .inl f)), (mb, .inl (cI, 2128, .inl b)), (mw, .inl (cI, 51072, .inl w)), (mm, .inl (cI, 320, .inl mi))]))) (F0 m 11 ls []) := by
    intro n
    induction n with
    | zero =>
      intro i H locs ls hn hP hD hS hl
      have hin : i = 48944 := hn
      refine lv_iload_n hx hb dX5_keeps_11 rfl (lv_at hl 0 rfl) ?_
      refine lv_ldc hx hb hown (hts (.constant RX5 33 (48944)) (by decide +kernel)) dX5_keeps_12 ?_
      refine lv_icmp_ge (tgt := 39) hx hb dX5_keeps_14 (by decide) (fun c_14 => ?_) (fun c_14 => ?_)
      · skip
        refine lv_aload_n hx hb dX5_keeps_39 rfl (lv_at hl 1 rfl) ?_
        refine lv_dup hx hb dX5_keeps_40 rfl ?_
        refine va_get (D := D) (ci := 4) (v := .int (nI 24)) (C := RX5) (T := TX5) (N := 5) hx hb hts hiX5 hown hK hP 0 rfl rfl 2 (by decide) (hts (.fieldLink RX5 29 "PointerSweepModel" "kept" "I") (by decide +kernel)) (fun _ h9 => h9) rfl dX5_keeps_41 ?_
        refine lv_iconst (v := 1) hx hb dX5_keeps_44 (by decide) ?_
        refine lv_isub hx hb dX5_keeps_45 ?_
        refine lv_topi (fun y ey => ?_)
        obtain rfl : y = nI 23 := ey.trans (by decide)
        refine xa_put (ci := 4) (v := .int (nI 23)) (ty := .int) (C := RX5) (T := TX5) (N := 5) (ws' := [(m0, .inr (4, [.ref ms, .ref mb, .int (nI 23), .ref mw, .ref mm])), (ms, .inl (cI, 2128, .inl f)), (mb, .inl (cI, 2128, .inl b)), (mw, .inl (cI, 51072, .inl (x_sh w i))), (mm, .inl (cI, 320, .inl mi))]) hx hb hts hiX5 tyX5 tyX5_ok nmX5 hown hK hP hD hS 0 rfl rfl 2 (by decide) (hts (.fieldLink RX5 29 "PointerSweepModel" "kept" "I") (by decide +kernel)) (fun _ h9 => h9) rfl (by decide +kernel) rfl rfl (Nat.le_of_ble_eq_true rfl) dX5_keeps_46 rfl (fun H locs hP hD hS => ?_)
        refine lv_iconst (v := 0) hx hb dX5_keeps_49 (by decide) ?_
        refine lv_istore_n (lv' := [(2, .int 0), (0, .ref m0), (1, .int an)]) hx hb dX5_keeps_50 rfl hl (by decide) rfl (fun ls hl => ?_)
        refine loop2 2128 0 H locs ls rfl ?_ ?_ hS (lv_sub hl [0, 1, 2] rfl)
        · rw [x_pt5_0]; rw [hin] at hP; exact hP
        · rw [x_pt5_0]; rw [hin] at hD; exact hD
      · skip
        exact absurd (nI_le (a := 48944) (b := i) (by omega) (by omega)) c_14
    | succ n ih =>
      intro i H locs ls hn hP hD hS hl
      refine lv_iload_n hx hb dX5_keeps_11 rfl (lv_at hl 0 rfl) ?_
      refine lv_ldc hx hb hown (hts (.constant RX5 33 (48944)) (by decide +kernel)) dX5_keeps_12 ?_
      refine lv_icmp_ge (tgt := 39) hx hb dX5_keeps_14 (by decide) (fun c_14 => ?_) (fun c_14 => ?_)
      · skip
        exact absurd (xn_le_of (a := 48944) (by decide) (by omega) c_14) (by omega)
      · skip
        refine lv_aload_n hx hb dX5_keeps_17 rfl (lv_at hl 1 rfl) ?_
        refine va_get (D := D) (ci := 4) (v := .ref mw) (C := RX5) (T := TX5) (N := 5) hx hb hts hiX5 hown hK hP 0 rfl rfl 3 (by decide) (hts (.fieldLink RX5 17 "PointerSweepModel" "was" "[I") (by decide +kernel)) (fun _ h9 => h9) rfl dX5_keeps_18 ?_
        refine lv_iload_n hx hb dX5_keeps_21 rfl (lv_at hl 0 rfl) ?_
        refine lv_aload_n hx hb dX5_keeps_22 rfl (lv_at hl 1 rfl) ?_
        refine va_get (D := D) (ci := 4) (v := .ref mw) (C := RX5) (T := TX5) (N := 5) hx hb hts hiX5 hown hK hP 0 rfl rfl 3 (by decide) (hts (.fieldLink RX5 17 "PointerSweepModel" "was" "[I") (by decide +kernel)) (fun _ h9 => h9) rfl dX5_keeps_23 ?_
        refine lv_iload_n hx hb dX5_keeps_26 rfl (lv_at hl 0 rfl) ?_
        refine lv_sipush (v := 2128) hx hb dX5_keeps_27 (by decide) ?_
        refine lv_iadd hx hb dX5_keeps_30 ?_
        refine xa_iald hx hb hK hP 3 0 rfl rfl (i + 2128) (nI_add i 2128) (by omega) (by decide) dX5_keeps_31 ?_
        refine xa_iast (ws' := [(m0, .inr (4, [.ref ms, .ref mb, .int (nI 24), .ref mw, .ref mm])), (ms, .inl (cI, 2128, .inl f)), (mb, .inl (cI, 2128, .inl b)), (mw, .inl (cI, 51072, .inl (upd (x_sh w i) i ((x_sh w i) (i + 2128))))), (mm, .inl (cI, 320, .inl mi))]) hx hb hK hP hD hS 3 0 rfl rfl i rfl (by omega) (by decide) dX5_keeps_32 rfl (fun H locs hP hD hS => ?_)
        rw [x_sh_s] at hP hD
        refine lv_iinc (v := (nI (i + 1))) (lv' := [(2, .int (nI (i + 1))), (0, .ref m0), (1, .int an)]) hx hb dX5_keeps_33 hl (k := 0) rfl (nI_1 i) (by decide) rfl (fun ls hl => ?_)
        refine lv_goto (tgt := 11) hx hb dX5_keeps_36 (by decide) ?_
        exact ih (i + 1) H locs ls (by omega) hP hD hS (lv_sub hl [0, 1, 2] rfl)
  refine lv_aload_n hx hb dX5_keeps_0 rfl (lv_at hl 0 rfl) ?_
  refine va_get (D := D) (ci := 4) (v := .int (nI 24)) (C := RX5) (T := TX5) (N := 5) hx hb hts hiX5 hown hK hP 0 rfl rfl 2 (by decide) (hts (.fieldLink RX5 29 "PointerSweepModel" "kept" "I") (by decide +kernel)) (fun _ h9 => h9) rfl dX5_keeps_1 ?_
  refine lv_bipush (v := 24) hx hb dX5_keeps_4 (by decide) ?_
  refine lv_icmp_ne (tgt := 49) hx hb dX5_keeps_6 (by decide) (fun c_6 => ?_) (fun c_6 => ?_)
  · skip
    exact absurd (by decide) c_6
  · skip
    refine lv_iconst (v := 0) hx hb dX5_keeps_9 (by decide) ?_
    refine lv_istore_n (lv' := [(2, .int 0), (0, .ref m0), (1, .int an)]) hx hb dX5_keeps_10 rfl hl (by decide) rfl (fun ls hl => ?_)
    refine loop1 48944 0 s.heap [] ls rfl ?_ ?_ hS (lv_sub hl [0, 1, 2] rfl)
    · rw [x_sh_0]; exact hP
    · rw [x_sh_0]; exact hD
/-- the kept states behind one more -/
def m_was (b w : Nat → Int32) (kp : Nat) : Nat → Int32 := if kp < 24 then x_pt5 b w (2128 * kp) 2128 else x_pt5 b (x_sh w 48944) (2128 * 23) 2128
def m_kp (kp : Nat) : Nat := if kp < 24 then kp + 1 else 24
theorem j_keeps (l : Launch) (D : va_G) (cI cJ cS : ClassId) (m0 ms mb mw mm : Nat) (f b w mi : Nat → Int32) (kp : Nat) (hkp : kp ≤ 24) (an : Int32) : xk_Wr l yX5_keeps wsX5_keeps ({ frames := 0, cells := 0, slots := 0, locals := 0 }) D vwCl (xt cI cJ cS) ([(m0, .inr (4, [.ref ms, .ref mb, .int (nI kp), .ref mw, .ref mm])), (ms, .inl (cI, 2128, .inl f)), (mb, .inl (cI, 2128, .inl b)), (mw, .inl (cI, 51072, .inl w)), (mm, .inl (cI, 320, .inl mi))]) [.ref m0, .int an] ([(m0, .inr (4, [.ref ms, .ref mb, .int (nI (m_kp kp)), .ref mw, .ref mm])), (ms, .inl (cI, 2128, .inl f)), (mb, .inl (cI, 2128, .inl b)), (mw, .inl (cI, 51072, .inl (m_was b w kp))), (mm, .inl (cI, 320, .inl mi))]) (some (.int an)) := by
  by_cases h : kp < 24
  · have h1 := j_keepsA l D cI cJ cS m0 ms mb mw mm f b w mi kp h an
    unfold m_was m_kp
    rw [if_pos h, if_pos h]
    exact h1
  · obtain rfl : kp = 24 := by omega
    exact j_keepsB l D cI cJ cS m0 ms mb mw mm f b w mi an
set_option maxHeartbeats 4000000 in
set_option maxRecDepth 100000 in
theorem j_undo0 (l : Launch) (D : va_G) (cI cJ cS : ClassId) (m0 ms mb mw mm : Nat) (f b w mi : Nat → Int32) : xk_Wr l yX5_undo wsX5_undo ({ frames := 0, cells := 0, slots := 0, locals := 0 }) D vwCl (xt cI cJ cS) ([(m0, .inr (4, [.ref ms, .ref mb, .int (nI 0), .ref mw, .ref mm])), (ms, .inl (cI, 2128, .inl f)), (mb, .inl (cI, 2128, .inl b)), (mw, .inl (cI, 51072, .inl w)), (mm, .inl (cI, 320, .inl mi))]) [.ref m0] ([(m0, .inr (4, [.ref ms, .ref mb, .int (nI 0), .ref mw, .ref mm])), (ms, .inl (cI, 2128, .inl f)), (mb, .inl (cI, 2128, .inl b)), (mw, .inl (cI, 51072, .inl w)), (mm, .inl (cI, 320, .inl mi))]) (some (.int (-2))) := by
  refine xk_wr (cc := cX5_undo) (maxL := 2) (ret := (some .int)) (by decide) rfl (Nat.le_of_ble_eq_true rfl) (fun p e s m below meth c ls hx hb hr hlk hml hown hts hl hP hK hN hD hS => ?_)
  replace hl : lv_has ls 2 [(0, .ref m0)] := hl
  have hiX5 : ∀ w ∈ u_ws RX5 TX5 5, w ∈ wsX5_undo := by decide +kernel
  refine lv_aload_n hx hb dX5_undo_0 rfl (lv_at hl 0 rfl) ?_
  refine va_get (D := D) (ci := 4) (v := .int (nI 0)) (C := RX5) (T := TX5) (N := 5) hx hb hts hiX5 hown hK hP 0 rfl rfl 2 (by decide) (hts (.fieldLink RX5 29 "PointerSweepModel" "kept" "I") (by decide +kernel)) (fun _ h9 => h9) rfl dX5_undo_1 ?_
  refine lv_if_ne (tgt := 10) hx hb dX5_undo_4 (by decide) (fun c_4 => ?_) (fun c_4 => ?_)
  · skip
    exact absurd (by decide) c_4
  · skip
    refine lv_bipush (v := (-2)) hx hb dX5_undo_7 (by decide) ?_
    exact xk_iretW hx hb hr hlk hP hS rfl rfl dX5_undo_9
set_option maxHeartbeats 4000000 in
set_option maxRecDepth 100000 in
theorem j_undo1 (l : Launch) (D : va_G) (cI cJ cS : ClassId) (m0 ms mb mw mm : Nat) (f b w mi : Nat → Int32) (kp : Nat) (hkp : kp < 24) : xk_Wr l yX5_undo wsX5_undo ({ frames := 0, cells := 0, slots := 0, locals := 0 }) D vwCl (xt cI cJ cS) ([(m0, .inr (4, [.ref ms, .ref mb, .int (nI (kp + 1)), .ref mw, .ref mm])), (ms, .inl (cI, 2128, .inl f)), (mb, .inl (cI, 2128, .inl b)), (mw, .inl (cI, 51072, .inl w)), (mm, .inl (cI, 320, .inl mi))]) [.ref m0] ([(m0, .inr (4, [.ref ms, .ref mb, .int (nI kp), .ref mw, .ref mm])), (ms, .inl (cI, 2128, .inl (fun j => w (2128 * kp + j)))), (mb, .inl (cI, 2128, .inl b)), (mw, .inl (cI, 51072, .inl w)), (mm, .inl (cI, 320, .inl mi))]) (some (.int 1)) := by
  refine xk_wr (cc := cX5_undo) (maxL := 2) (ret := (some .int)) (by decide) rfl (Nat.le_of_ble_eq_true rfl) (fun p e s m below meth c ls hx hb hr hlk hml hown hts hl hP hK hN hD hS => ?_)
  replace hl : lv_has ls 2 [(0, .ref m0)] := hl
  have hiX5 : ∀ w ∈ u_ws RX5 TX5 5, w ∈ wsX5_undo := by decide +kernel
  have loop : ∀ (n i : Nat) (H : Heap) (locs : List Loc) (ls : Array Slot), i + n = 2128 → va_P D vwCl ([(m0, .inr (4, [.ref ms, .ref mb, .int (nI kp), .ref mw, .ref mm])), (ms, .inl (cI, 2128, .inl (x_cp (fun j => w (2128 * kp + j)) f i))), (mb, .inl (cI, 2128, .inl b)), (mw, .inl (cI, 51072, .inl w)), (mm, .inl (cI, 320, .inl mi))]) H → va_D (xk_in ([(m0, .inr (4, [.ref ms, .ref mb, .int (nI (kp + 1)), .ref mw, .ref mm])), (ms, .inl (cI, 2128, .inl f)), (mb, .inl (cI, 2128, .inl b)), (mw, .inl (cI, 51072, .inl w)), (mm, .inl (cI, 320, .inl mi))])) ([(m0, .inr (4, [.ref ms, .ref mb, .int (nI kp), .ref mw, .ref mm])), (ms, .inl (cI, 2128, .inl (x_cp (fun j => w (2128 * kp + j)) f i))), (mb, .inl (cI, 2128, .inl b)), (mw, .inl (cI, 51072, .inl w)), (mm, .inl (cI, 320, .inl mi))]) → va_S (xk_in ([(m0, .inr (4, [.ref ms, .ref mb, .int (nI (kp + 1)), .ref mw, .ref mm])), (ms, .inl (cI, 2128, .inl f)), (mb, .inl (cI, 2128, .inl b)), (mw, .inl (cI, 51072, .inl w)), (mm, .inl (cI, 320, .inl mi))])) s.heap H locs → lv_has ls 2 [(1, .int (nI i)), (0, .ref m0)] → W p l e ({ frames := 0, cells := 0, slots := 0, locals := 0 }) s m ([.ref m0]).toArray below meth c H locs 0 0 (MQ below (xk_W D vwCl ([(m0, .inr (4, [.ref ms, .ref mb, .int (nI (kp + 1)), .ref mw, .ref mm])), (ms, .inl (cI, 2128, .inl f)), (mb, .inl (cI, 2128, .inl b)), (mw, .inl (cI, 51072, .inl w)), (mm, .inl (cI, 320, .inl mi))]) ([(m0, .inr (4, [.ref ms, .ref mb, .int (nI kp), .ref mw, .ref mm])), (ms, .inl (cI, 2128, .inl (fun j => w (2128 * kp + j)))), (mb, .inl (cI, 2128, .inl b)), (mw, .inl (cI, 51072, .inl w)), (mm, .inl (cI, 320, .inl mi))]) (some (.int 1))) ([.ref m0]).toArray s 0 0 (xk_in ([(m0, .inr (4, [.ref ms, .ref mb, .int (nI (kp + 1)), .ref mw, .ref mm])), (ms, .inl (cI, 2128, .inl f)), (mb, .inl (cI, 2128, .inl b)), (mw, .inl (cI, 51072, .inl w)), (mm, .inl (cI, 320, .inl mi))]))) (F0 m 22 ls []) := by
    intro n
    induction n with
    | zero =>
      intro i H locs ls hn hP hD hS hl
      refine lv_iload_n hx hb dX5_undo_22 rfl (lv_at hl 0 rfl) ?_
      refine lv_sipush (v := 2128) hx hb dX5_undo_23 (by decide) ?_
      refine lv_icmp_ge (tgt := 56) hx hb dX5_undo_26 (by decide) (fun c_26 => ?_) (fun c_26 => ?_)
      · skip
        refine lv_iconst (v := 1) hx hb dX5_undo_56 (by decide) ?_
        replace hP : va_P D vwCl ([(m0, .inr (4, [.ref ms, .ref mb, .int (nI kp), .ref mw, .ref mm])), (ms, .inl (cI, 2128, .inl (fun j => w (2128 * kp + j)))), (mb, .inl (cI, 2128, .inl b)), (mw, .inl (cI, 51072, .inl w)), (mm, .inl (cI, 320, .inl mi))]) H := xk_Pset (e := .inl (cI, 2128, .inl (fun j => w (2128 * kp + j)))) hP 1 rfl (xk_atI (fun j hj => x_cp_all (fun j => w (2128 * kp + j)) f i j (by omega)))
        exact xk_iretW hx hb hr hlk hP hS rfl rfl dX5_undo_57
      · skip
        exact absurd (nI_le (a := 2128) (b := i) (by omega) (by omega)) c_26
    | succ n ih =>
      intro i H locs ls hn hP hD hS hl
      refine lv_iload_n hx hb dX5_undo_22 rfl (lv_at hl 0 rfl) ?_
      refine lv_sipush (v := 2128) hx hb dX5_undo_23 (by decide) ?_
      refine lv_icmp_ge (tgt := 56) hx hb dX5_undo_26 (by decide) (fun c_26 => ?_) (fun c_26 => ?_)
      · skip
        exact absurd (xn_le_of (a := 2128) (by decide) (by omega) c_26) (by omega)
      · skip
        refine lv_aload_n hx hb dX5_undo_29 rfl (lv_at hl 1 rfl) ?_
        refine va_get (D := D) (ci := 4) (v := .ref ms) (C := RX5) (T := TX5) (N := 5) hx hb hts hiX5 hown hK hP 0 rfl rfl 0 (by decide) (hts (.fieldLink RX5 7 "PointerSweepModel" "st" "[I") (by decide +kernel)) (fun _ h9 => h9) rfl dX5_undo_30 ?_
        refine lv_iload_n hx hb dX5_undo_33 rfl (lv_at hl 0 rfl) ?_
        refine lv_aload_n hx hb dX5_undo_34 rfl (lv_at hl 1 rfl) ?_
        refine va_get (D := D) (ci := 4) (v := .ref mw) (C := RX5) (T := TX5) (N := 5) hx hb hts hiX5 hown hK hP 0 rfl rfl 3 (by decide) (hts (.fieldLink RX5 17 "PointerSweepModel" "was" "[I") (by decide +kernel)) (fun _ h9 => h9) rfl dX5_undo_35 ?_
        refine lv_sipush (v := 2128) hx hb dX5_undo_38 (by decide) ?_
        refine lv_aload_n hx hb dX5_undo_41 rfl (lv_at hl 1 rfl) ?_
        refine va_get (D := D) (ci := 4) (v := .int (nI kp)) (C := RX5) (T := TX5) (N := 5) hx hb hts hiX5 hown hK hP 0 rfl rfl 2 (by decide) (hts (.fieldLink RX5 29 "PointerSweepModel" "kept" "I") (by decide +kernel)) (fun _ h9 => h9) rfl dX5_undo_42 ?_
        refine lv_imul hx hb dX5_undo_45 ?_
        refine lv_iload_n hx hb dX5_undo_46 rfl (lv_at hl 0 rfl) ?_
        refine lv_iadd hx hb dX5_undo_47 ?_
        refine xa_iald hx hb hK hP 3 0 rfl rfl (2128 * kp + i) (by rw [show (2128 : Int32) = nI 2128 from rfl, pk_mul, nI_add]) (by omega) (by decide) dX5_undo_48 ?_
        refine xa_iast (ws' := [(m0, .inr (4, [.ref ms, .ref mb, .int (nI kp), .ref mw, .ref mm])), (ms, .inl (cI, 2128, .inl (upd (x_cp (fun j => w (2128 * kp + j)) f i) i (w (2128 * kp + i))))), (mb, .inl (cI, 2128, .inl b)), (mw, .inl (cI, 51072, .inl w)), (mm, .inl (cI, 320, .inl mi))]) hx hb hK hP hD hS 1 0 rfl rfl i rfl (by omega) (by decide) dX5_undo_49 rfl (fun H locs hP hD hS => ?_)
        rw [show w (2128 * kp + i) = (fun j => w (2128 * kp + j)) i from rfl, x_cp_s] at hP hD
        refine lv_iinc (v := (nI (i + 1))) (lv' := [(1, .int (nI (i + 1))), (0, .ref m0)]) hx hb dX5_undo_50 hl (k := 0) rfl (nI_1 i) (by decide) rfl (fun ls hl => ?_)
        refine lv_goto (tgt := 22) hx hb dX5_undo_53 (by decide) ?_
        exact ih (i + 1) H locs ls (by omega) hP hD hS (lv_sub hl [0, 1] rfl)
  refine lv_aload_n hx hb dX5_undo_0 rfl (lv_at hl 0 rfl) ?_
  refine va_get (D := D) (ci := 4) (v := .int (nI (kp + 1))) (C := RX5) (T := TX5) (N := 5) hx hb hts hiX5 hown hK hP 0 rfl rfl 2 (by decide) (hts (.fieldLink RX5 29 "PointerSweepModel" "kept" "I") (by decide +kernel)) (fun _ h9 => h9) rfl dX5_undo_1 ?_
  refine lv_if_ne (tgt := 10) hx hb dX5_undo_4 (by decide) (fun c_4 => ?_) (fun c_4 => ?_)
  · skip
    refine lv_aload_n hx hb dX5_undo_10 rfl (lv_at hl 0 rfl) ?_
    refine lv_dup hx hb dX5_undo_11 rfl ?_
    refine va_get (D := D) (ci := 4) (v := .int (nI (kp + 1))) (C := RX5) (T := TX5) (N := 5) hx hb hts hiX5 hown hK hP 0 rfl rfl 2 (by decide) (hts (.fieldLink RX5 29 "PointerSweepModel" "kept" "I") (by decide +kernel)) (fun _ h9 => h9) rfl dX5_undo_12 ?_
    refine lv_iconst (v := 1) hx hb dX5_undo_15 (by decide) ?_
    refine lv_isub hx hb dX5_undo_16 ?_
    refine lv_topi (fun y ey => ?_)
    obtain rfl : y = nI kp := ey.trans (nI_pred kp)
    refine xa_put (ci := 4) (v := .int (nI kp)) (ty := .int) (C := RX5) (T := TX5) (N := 5) (ws' := [(m0, .inr (4, [.ref ms, .ref mb, .int (nI kp), .ref mw, .ref mm])), (ms, .inl (cI, 2128, .inl f)), (mb, .inl (cI, 2128, .inl b)), (mw, .inl (cI, 51072, .inl w)), (mm, .inl (cI, 320, .inl mi))]) hx hb hts hiX5 tyX5 tyX5_ok nmX5 hown hK hP hD hS 0 rfl rfl 2 (by decide) (hts (.fieldLink RX5 29 "PointerSweepModel" "kept" "I") (by decide +kernel)) (fun _ h9 => h9) rfl (by decide +kernel) rfl rfl (Nat.le_of_ble_eq_true rfl) dX5_undo_17 rfl (fun H locs hP hD hS => ?_)
    refine lv_iconst (v := 0) hx hb dX5_undo_20 (by decide) ?_
    refine lv_istore_n (lv' := [(1, .int 0), (0, .ref m0)]) hx hb dX5_undo_21 rfl hl (by decide) rfl (fun ls hl => ?_)
    refine loop 2128 0 H locs ls rfl ?_ ?_ hS (lv_sub hl [0, 1] rfl)
    · rw [x_cp_0]; exact hP
    · rw [x_cp_0]; exact hD
  · skip
    exact absurd c_4 (nI_ne0 (by omega) (by omega))
