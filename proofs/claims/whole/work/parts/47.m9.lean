set_option maxHeartbeats 4000000 in
set_option maxRecDepth 100000 in
theorem y_range (l : Launch) (D : va_G) (cI cJ cS : ClassId) (m0 ms mb mw mm : Nat) (v : xV) (b w mi : Nat → Int32) (kp : Nat) (hkp : kp ≤ 24) (hv : x_ok v) (hX : v.2.2.2.2.2.2.2.1 = false → ∀ k, v.2.2.2.2.2.1 k = false) (hs0 : v.2.2.2.2.2.2.2.1 = false → v.2.2.2.2.2.2.2.2.1 = 0) (i what : Int32) : xk_Rd l yX5_range wsX5_range ({ frames := 1, cells := 0, slots := 0, locals := 25 }) D vwCl (xt cI cJ cS) (xm cI m0 ms mb mw mm v b w mi kp) [.ref m0, .int i, .int what] (some (.int (mp_range v i what))) := by
  refine xk_rd (cc := cX5_range) (maxL := 4) (ret := (some .int)) (by decide) rfl (Nat.le_of_ble_eq_true rfl) (fun p e s m below meth c ls hx hb hr hlk hml hown hts hl hP hK hN => ?_)
  replace hl : lv_has ls 4 [(0, .ref m0), (1, .int i), (2, .int what)] := hl
  have hiX5 : ∀ w ∈ u_ws RX5 TX5 5, w ∈ wsX5_range := by decide +kernel
  replace hP : va_P D vwCl ([(m0, .inr (4, [.ref ms, .ref mb, .int (nI kp), .ref mw, .ref mm])), (ms, .inl (cI, 2128, .inl (xf v))), (mb, .inl (cI, 2128, .inl b)), (mw, .inl (cI, 51072, .inl w)), (mm, .inl (cI, 320, .inl mi))]) s.heap := hP
  refine lv_iload_n hx hb dX5_range_0 rfl (lv_at hl 1 rfl) ?_
  refine lv_i2l hx hb dX5_range_1 rfl ?_
  refine lv_lconst (v := 0) hx hb dX5_range_2 (by decide) ?_
  refine lv_ldc2 hx hb hown (hts (.constantLong RX5 96 (255)) (by decide +kernel)) dX5_range_3 ?_
  refine xk_callR (va_runS (As := [.long ((i : Int32).toInt64), .long 0, .long 255]) (rest := []) ⟨hx, hb, hml, hown, hts⟩ (j_in l D cI cJ cS ((i : Int32).toInt64) 0 255) (va_cwS 3 hts gX5_range_X5_in rfl rfl rfl (by decide +kernel) ⟨Nat.le_of_ble_eq_true rfl, Nat.le_of_ble_eq_true rfl⟩) (xk_preSr hK hN hP [] rfl) rfl rfl hl.1 rfl (lv_room (Nat.le_of_ble_eq_true rfl)) dX5_range_6 ⟨Nat.zero_le _, Nat.zero_le _⟩) ?_
  refine lv_if_eq (tgt := 22) hx hb dX5_range_9 (by decide) (fun c_9 => ?_) (fun c_9 => ?_)
  · skip
    refine lv_iconst (v := (-1)) hx hb dX5_range_22 (by decide) ?_
    exact xk_iretR hx hb hr hlk (by unfold mp_range; rw [if_neg (fun z => by rw [← xin_xi i (hi := 255) (n := 256) rfl, xb_eq c_9] at z; exact absurd z.1 (by decide))]) dX5_range_23
  · skip
    refine lv_iload_n hx hb dX5_range_12 rfl (lv_at hl 2 rfl) ?_
    refine lv_i2l hx hb dX5_range_13 rfl ?_
    refine lv_lconst (v := 0) hx hb dX5_range_14 (by decide) ?_
    refine lv_lconst (v := 1) hx hb dX5_range_15 (by decide) ?_
    refine xk_callR (va_runS (As := [.long ((what : Int32).toInt64), .long 0, .long 1]) (rest := []) ⟨hx, hb, hml, hown, hts⟩ (j_in l D cI cJ cS ((what : Int32).toInt64) 0 1) (va_cwS 3 hts gX5_range_X5_in rfl rfl rfl (by decide +kernel) ⟨Nat.le_of_ble_eq_true rfl, Nat.le_of_ble_eq_true rfl⟩) (xk_preSr hK hN hP [] rfl) rfl rfl hl.1 rfl (lv_room (Nat.le_of_ble_eq_true rfl)) dX5_range_16 ⟨Nat.zero_le _, Nat.zero_le _⟩) ?_
    refine lv_if_ne (tgt := 24) hx hb dX5_range_19 (by decide) (fun c_19 => ?_) (fun c_19 => ?_)
    · skip
      have hx1 : xi i 256 = true := by rw [← xin_xi i (hi := 255) (n := 256) rfl]; exact xb_ne c_9
      have hx2 : xi what 2 = true := by rw [← xin_xi what (hi := 1) (n := 2) rfl]; exact xb_ne c_19
      obtain ⟨ik, hik, ei⟩ := xi_of hx1
      have hxi : xN i = ik := by rw [ei]; exact xN_nI (by omega)
      rw [ei] at hl
      refine lv_aload_n hx hb dX5_range_24 rfl (lv_at hl 0 rfl) ?_
      refine va_get (D := D) (ci := 4) (v := .ref ms) (C := RX5) (T := TX5) (N := 5) hx hb hts hiX5 hown hK hP 0 rfl rfl 0 (by decide) (hts (.fieldLink RX5 7 "PointerSweepModel" "st" "[I") (by decide +kernel)) (fun _ h9 => h9) rfl dX5_range_25 ?_
      refine lv_sipush (v := 1832) hx hb dX5_range_28 (by decide) ?_
      refine lv_iload_n hx hb dX5_range_31 rfl (lv_at hl 1 rfl) ?_
      refine lv_iadd hx hb dX5_range_32 ?_
      refine xa_iald hx hb hK hP 1 0 rfl rfl (1832 + ik) (nI_add 1832 ik) (by omega) (by decide) dX5_range_33 ?_
      refine lv_topi (fun y ey => ?_)
      obtain rfl : y = x_fi v.2.2.2.1 v.2.2.2.2.2.2.1 ik := ey.trans (xf_f v hik)
      refine lv_istore_n (lv' := [(3, .int (x_fi v.2.2.2.1 v.2.2.2.2.2.2.1 ik)), (0, .ref m0), (1, .int (nI ik)), (2, .int what)]) hx hb dX5_range_34 rfl hl (by decide) rfl (fun ls hl => ?_)
      refine lv_iload_n hx hb dX5_range_35 rfl (lv_at hl 0 rfl) ?_
      refine lv_bipush (v := (-4)) hx hb dX5_range_36 (by decide) ?_
      refine lv_icmp_ne (tgt := 46) hx hb dX5_range_38 (by decide) (fun c_38 => ?_) (fun c_38 => ?_)
      · skip
        refine lv_iload_n hx hb dX5_range_46 rfl (lv_at hl 3 rfl) ?_
        refine lv_if_ne (tgt := 54) hx hb dX5_range_47 (by decide) (fun c_47 => ?_) (fun c_47 => ?_)
        · skip
          refine lv_aload_n hx hb dX5_range_54 rfl (lv_at hl 1 rfl) ?_
          refine lv_iload_n hx hb dX5_range_55 rfl (lv_at hl 0 rfl) ?_
          refine xk_callR (va_runV (As := [.int (x_fi v.2.2.2.1 v.2.2.2.2.2.2.1 ik)]) (rest := []) ⟨hx, hb, hml, hown, hts⟩ (j_rangeSize l D cI cJ cS m0 ms mb mw mm v b w mi kp (x_fi v.2.2.2.1 v.2.2.2.2.2.2.1 ik)) (cwV 1 hts gX5_range_X5_rangeSize rfl rfl rfl (by decide +kernel) ⟨Nat.le_of_ble_eq_true rfl, Nat.le_of_ble_eq_true rfl⟩) (xk_preVr hK hN hP [0, 1, 2, 3, 4] rfl (ci := 4) rfl 0 rfl) rfl rfl hl.1 rfl (lv_room (Nat.le_of_ble_eq_true rfl)) dX5_range_56 ⟨Nat.zero_le _, Nat.zero_le _⟩) ?_
          exact xk_iretR hx hb hr hlk (by unfold mp_range; rw [if_pos ⟨hx1, hx2⟩, hxi, if_neg c_38, if_neg c_47]) dX5_range_59
        · skip
          refine lv_iload_n hx hb dX5_range_50 rfl (lv_at hl 0 rfl) ?_
          refine lv_goto (tgt := 59) hx hb dX5_range_51 (by decide) ?_
          exact xk_iretR hx hb hr hlk (by unfold mp_range; rw [if_pos ⟨hx1, hx2⟩, hxi, if_neg c_38, if_pos c_47]) dX5_range_59
      · skip
        refine lv_bipush (v := (-4)) hx hb dX5_range_41 (by decide) ?_
        refine lv_goto (tgt := 59) hx hb dX5_range_43 (by decide) ?_
        exact xk_iretR hx hb hr hlk (by unfold mp_range; rw [if_pos ⟨hx1, hx2⟩, hxi, if_pos c_38]) dX5_range_59
    · skip
      refine lv_iconst (v := (-1)) hx hb dX5_range_22 (by decide) ?_
      exact xk_iretR hx hb hr hlk (by unfold mp_range; rw [if_neg (fun z => by rw [← xin_xi what (hi := 1) (n := 2) rfl, xb_eq c_19] at z; exact absurd z.2 (by decide))]) dX5_range_23
set_option maxHeartbeats 4000000 in
set_option maxRecDepth 100000 in
theorem y_page (l : Launch) (D : va_G) (cI cJ cS : ClassId) (m0 ms mb mw mm : Nat) (v : xV) (b w mi : Nat → Int32) (kp : Nat) (hkp : kp ≤ 24) (hv : x_ok v) (hX : v.2.2.2.2.2.2.2.1 = false → ∀ k, v.2.2.2.2.2.1 k = false) (hs0 : v.2.2.2.2.2.2.2.1 = false → v.2.2.2.2.2.2.2.2.1 = 0) (pg what : Int32) : xk_Rd l yX5_page wsX5_page ({ frames := 1, cells := 0, slots := 0, locals := 25 }) D vwCl (xt cI cJ cS) (xm cI m0 ms mb mw mm v b w mi kp) [.ref m0, .int pg, .int what] (some (.int (mp_page v pg what))) := by
  refine xk_rd (cc := cX5_page) (maxL := 5) (ret := (some .int)) (by decide) rfl (Nat.le_of_ble_eq_true rfl) (fun p e s m below meth c ls hx hb hr hlk hml hown hts hl hP hK hN => ?_)
  replace hl : lv_has ls 5 [(0, .ref m0), (1, .int pg), (2, .int what)] := hl
  have hiX5 : ∀ w ∈ u_ws RX5 TX5 5, w ∈ wsX5_page := by decide +kernel
  replace hP : va_P D vwCl ([(m0, .inr (4, [.ref ms, .ref mb, .int (nI kp), .ref mw, .ref mm])), (ms, .inl (cI, 2128, .inl (xf v))), (mb, .inl (cI, 2128, .inl b)), (mw, .inl (cI, 51072, .inl w)), (mm, .inl (cI, 320, .inl mi))]) s.heap := hP
  have loop : ∀ (pk : Nat), pk < 16 → mp_page v pg what = x_acc (mp_pf v what) (16 * pk) (16 * pk + 16 - 16 * pk) → ∀ (n i : Nat) (ls : Array Slot), 16 * pk ≤ i → i + n = 16 * pk + 16 → lv_has ls 5 [(4, .int (nI i)), (3, .int (x_acc (mp_pf v what) (16 * pk) (i - 16 * pk))), (0, .ref m0), (1, .int (nI pk)), (2, .int what)] → W p l e ({ frames := 1, cells := 0, slots := 0, locals := 25 }) s m ([.ref m0, .int pg, .int what]).toArray below meth c s.heap [] 0 0 (MQ below (xk_R (some (.int (mp_page v pg what)))) ([.ref m0, .int pg, .int what]).toArray s 0 0 (fun _ => False)) (F0 m 60 ls []) := by
    intro pk hpk hq n
    induction n with
    | zero =>
      intro i ls hi hn hl
      have hin : i = 16 * pk + 16 := hn
      refine lv_iload hx hb dX5_page_60 (lv_at hl 0 rfl) ?_
      refine lv_bipush (v := 16) hx hb dX5_page_62 (by decide) ?_
      refine lv_iload_n hx hb dX5_page_64 rfl (lv_at hl 3 rfl) ?_
      refine lv_imul hx hb dX5_page_65 ?_
      refine lv_bipush (v := 16) hx hb dX5_page_66 (by decide) ?_
      refine lv_iadd hx hb dX5_page_68 ?_
      refine lv_topi (fun y ey => ?_)
      obtain rfl : y = nI (16 * pk + 16) := ey.trans (by rw [show (16 : Int32) = nI 16 from rfl, pk_mul, nI_add])
      refine lv_icmp_ge (tgt := 120) hx hb dX5_page_69 (by decide) (fun c_69 => ?_) (fun c_69 => ?_)
      · skip
        refine lv_iload_n hx hb dX5_page_120 rfl (lv_at hl 1 rfl) ?_
        exact xk_iretR hx hb hr hlk (by rw [hin]; exact hq.symm) dX5_page_121
      · skip
        exact absurd (nI_le (a := 16 * pk + 16) (b := i) (by omega) (by omega)) c_69
    | succ n ih =>
      intro i ls hi hn hl
      refine lv_iload hx hb dX5_page_60 (lv_at hl 0 rfl) ?_
      refine lv_bipush (v := 16) hx hb dX5_page_62 (by decide) ?_
      refine lv_iload_n hx hb dX5_page_64 rfl (lv_at hl 3 rfl) ?_
      refine lv_imul hx hb dX5_page_65 ?_
      refine lv_bipush (v := 16) hx hb dX5_page_66 (by decide) ?_
      refine lv_iadd hx hb dX5_page_68 ?_
      refine lv_topi (fun y ey => ?_)
      obtain rfl : y = nI (16 * pk + 16) := ey.trans (by rw [show (16 : Int32) = nI 16 from rfl, pk_mul, nI_add])
      refine lv_icmp_ge (tgt := 120) hx hb dX5_page_69 (by decide) (fun c_69 => ?_) (fun c_69 => ?_)
      · skip
        exact absurd (xn_le_of (by omega) (by omega) c_69) (by omega)
      · skip
        refine lv_iload_n hx hb dX5_page_72 rfl (lv_at hl 1 rfl) ?_
        refine lv_iload_n hx hb dX5_page_73 rfl (lv_at hl 4 rfl) ?_
        refine lv_iconst (v := 2) hx hb dX5_page_74 (by decide) ?_
        refine lv_icmp_ne (tgt := 90) hx hb dX5_page_75 (by decide) (fun c_75 => ?_) (fun c_75 => ?_)
        · skip
          refine lv_aload_n hx hb dX5_page_90 rfl (lv_at hl 2 rfl) ?_
          refine va_get (D := D) (ci := 4) (v := .ref ms) (C := RX5) (T := TX5) (N := 5) hx hb hts hiX5 hown hK hP 0 rfl rfl 0 (by decide) (hts (.fieldLink RX5 7 "PointerSweepModel" "st" "[I") (by decide +kernel)) (fun _ h9 => h9) rfl dX5_page_91 ?_
          refine lv_sipush (v := 1320) hx hb dX5_page_94 (by decide) ?_
          refine lv_iload hx hb dX5_page_97 (lv_at hl 0 rfl) ?_
          refine lv_iadd hx hb dX5_page_99 ?_
          refine xa_iald hx hb hK hP 1 0 rfl rfl (1320 + i) (nI_add 1320 i) (by omega) (by decide) dX5_page_100 ?_
          refine lv_topi (fun y ey => ?_)
          obtain rfl : y = xu v.2.2.2.1 v.2.2.2.2.1 i := ey.trans (xf_u v (by omega))
          refine lv_iload_n hx hb dX5_page_101 rfl (lv_at hl 4 rfl) ?_
          refine lv_iconst (v := 2) hx hb dX5_page_102 (by decide) ?_
          refine lv_isub hx hb dX5_page_103 ?_
          refine lv_icmp_ne (tgt := 111) hx hb dX5_page_104 (by decide) (fun c_104 => ?_) (fun c_104 => ?_)
          · skip
            refine lv_iconst (v := 0) hx hb dX5_page_111 (by decide) ?_
            refine lv_iadd hx hb dX5_page_112 ?_
            refine lv_topi (fun y ey => ?_)
            obtain rfl : y = x_acc (mp_pf v what) (16 * pk) (i + 1 - 16 * pk) := ey.trans (by rw [← x_acc_s (mp_pf v what) hi]; unfold mp_pf; rw [if_neg c_75, decide_eq_false c_104]; rfl)
            refine lv_istore_n (lv' := [(3, .int (x_acc (mp_pf v what) (16 * pk) (i + 1 - 16 * pk))), (4, .int (nI i)), (0, .ref m0), (1, .int (nI pk)), (2, .int what)]) hx hb dX5_page_113 rfl hl (by decide) rfl (fun ls hl => ?_)
            refine lv_iinc (v := (nI (i + 1))) (lv' := [(4, .int (nI (i + 1))), (3, .int (x_acc (mp_pf v what) (16 * pk) (i + 1 - 16 * pk))), (0, .ref m0), (1, .int (nI pk)), (2, .int what)]) hx hb dX5_page_114 hl (k := 1) rfl (nI_1 i) (by decide) rfl (fun ls hl => ?_)
            refine lv_goto (tgt := 60) hx hb dX5_page_117 (by decide) ?_
            exact ih (i + 1) ls (by omega) (by omega) (lv_sub hl [0, 1, 2, 3, 4] rfl)
          · skip
            refine lv_iconst (v := 1) hx hb dX5_page_107 (by decide) ?_
            refine lv_goto (tgt := 112) hx hb dX5_page_108 (by decide) ?_
            refine lv_iadd hx hb dX5_page_112 ?_
            refine lv_topi (fun y ey => ?_)
            obtain rfl : y = x_acc (mp_pf v what) (16 * pk) (i + 1 - 16 * pk) := ey.trans (by rw [← x_acc_s (mp_pf v what) hi]; unfold mp_pf; rw [if_neg c_75, decide_eq_true c_104]; rfl)
            refine lv_istore_n (lv' := [(3, .int (x_acc (mp_pf v what) (16 * pk) (i + 1 - 16 * pk))), (4, .int (nI i)), (0, .ref m0), (1, .int (nI pk)), (2, .int what)]) hx hb dX5_page_113 rfl hl (by decide) rfl (fun ls hl => ?_)
            refine lv_iinc (v := (nI (i + 1))) (lv' := [(4, .int (nI (i + 1))), (3, .int (x_acc (mp_pf v what) (16 * pk) (i + 1 - 16 * pk))), (0, .ref m0), (1, .int (nI pk)), (2, .int what)]) hx hb dX5_page_114 hl (k := 1) rfl (nI_1 i) (by decide) rfl (fun ls hl => ?_)
            refine lv_goto (tgt := 60) hx hb dX5_page_117 (by decide) ?_
            exact ih (i + 1) ls (by omega) (by omega) (lv_sub hl [0, 1, 2, 3, 4] rfl)
        · skip
          refine lv_aload_n hx hb dX5_page_78 rfl (lv_at hl 2 rfl) ?_
          refine va_get (D := D) (ci := 4) (v := .ref ms) (C := RX5) (T := TX5) (N := 5) hx hb hts hiX5 hown hK hP 0 rfl rfl 0 (by decide) (hts (.fieldLink RX5 7 "PointerSweepModel" "st" "[I") (by decide +kernel)) (fun _ h9 => h9) rfl dX5_page_79 ?_
          refine lv_iconst (v := 5) hx hb dX5_page_82 (by decide) ?_
          refine lv_iload hx hb dX5_page_83 (lv_at hl 0 rfl) ?_
          refine lv_imul hx hb dX5_page_85 ?_
          refine xa_iald hx hb hK hP 1 0 rfl rfl (5 * i + 0) (by rw [show (5 : Int32) = nI 5 from rfl, pk_mul]; rfl) (by omega) (by decide) dX5_page_86 ?_
          refine lv_goto (tgt := 112) hx hb dX5_page_87 (by decide) ?_
          refine lv_topi (fun y ey => ?_)
          obtain rfl : y = xb (xw_p (v.1 i)) := ey.trans (xf_m v (by omega) (by decide))
          refine lv_iadd hx hb dX5_page_112 ?_
          refine lv_topi (fun y ey => ?_)
          obtain rfl : y = x_acc (mp_pf v what) (16 * pk) (i + 1 - 16 * pk) := ey.trans (by rw [← x_acc_s (mp_pf v what) hi]; unfold mp_pf; rw [if_pos c_75])
          refine lv_istore_n (lv' := [(3, .int (x_acc (mp_pf v what) (16 * pk) (i + 1 - 16 * pk))), (4, .int (nI i)), (0, .ref m0), (1, .int (nI pk)), (2, .int what)]) hx hb dX5_page_113 rfl hl (by decide) rfl (fun ls hl => ?_)
          refine lv_iinc (v := (nI (i + 1))) (lv' := [(4, .int (nI (i + 1))), (3, .int (x_acc (mp_pf v what) (16 * pk) (i + 1 - 16 * pk))), (0, .ref m0), (1, .int (nI pk)), (2, .int what)]) hx hb dX5_page_114 hl (k := 1) rfl (nI_1 i) (by decide) rfl (fun ls hl => ?_)
          refine lv_goto (tgt := 60) hx hb dX5_page_117 (by decide) ?_
          exact ih (i + 1) ls (by omega) (by omega) (lv_sub hl [0, 1, 2, 3, 4] rfl)
  refine lv_iload_n hx hb dX5_page_0 rfl (lv_at hl 1 rfl) ?_
  refine lv_i2l hx hb dX5_page_1 rfl ?_
  refine lv_lconst (v := 0) hx hb dX5_page_2 (by decide) ?_
  refine lv_ldc2 hx hb hown (hts (.constantLong RX5 100 (15)) (by decide +kernel)) dX5_page_3 ?_
  refine xk_callR (va_runS (As := [.long ((pg : Int32).toInt64), .long 0, .long 15]) (rest := []) ⟨hx, hb, hml, hown, hts⟩ (j_in l D cI cJ cS ((pg : Int32).toInt64) 0 15) (va_cwS 3 hts gX5_page_X5_in rfl rfl rfl (by decide +kernel) ⟨Nat.le_of_ble_eq_true rfl, Nat.le_of_ble_eq_true rfl⟩) (xk_preSr hK hN hP [] rfl) rfl rfl hl.1 rfl (lv_room (Nat.le_of_ble_eq_true rfl)) dX5_page_6 ⟨Nat.zero_le _, Nat.zero_le _⟩) ?_
  refine lv_if_eq (tgt := 24) hx hb dX5_page_9 (by decide) (fun c_9 => ?_) (fun c_9 => ?_)
  · skip
    refine lv_iconst (v := (-1)) hx hb dX5_page_24 (by decide) ?_
    exact xk_iretR hx hb hr hlk (by unfold mp_page; rw [if_neg (fun z => by rw [← xin_xi pg (hi := 15) (n := 16) rfl, xb_eq c_9] at z; exact absurd z.1 (by decide))]) dX5_page_25
  · skip
    refine lv_iload_n hx hb dX5_page_12 rfl (lv_at hl 2 rfl) ?_
    refine lv_i2l hx hb dX5_page_13 rfl ?_
    refine lv_lconst (v := 0) hx hb dX5_page_14 (by decide) ?_
    refine lv_ldc2 hx hb hown (hts (.constantLong RX5 102 (4)) (by decide +kernel)) dX5_page_15 ?_
    refine xk_callR (va_runS (As := [.long ((what : Int32).toInt64), .long 0, .long 4]) (rest := []) ⟨hx, hb, hml, hown, hts⟩ (j_in l D cI cJ cS ((what : Int32).toInt64) 0 4) (va_cwS 3 hts gX5_page_X5_in rfl rfl rfl (by decide +kernel) ⟨Nat.le_of_ble_eq_true rfl, Nat.le_of_ble_eq_true rfl⟩) (xk_preSr hK hN hP [] rfl) rfl rfl hl.1 rfl (lv_room (Nat.le_of_ble_eq_true rfl)) dX5_page_18 ⟨Nat.zero_le _, Nat.zero_le _⟩) ?_
    refine lv_if_ne (tgt := 26) hx hb dX5_page_21 (by decide) (fun c_21 => ?_) (fun c_21 => ?_)
    · skip
      have hx1 : xi pg 16 = true := by rw [← xin_xi pg (hi := 15) (n := 16) rfl]; exact xb_ne c_9
      have hx2 : xi what 5 = true := by rw [← xin_xi what (hi := 4) (n := 5) rfl]; exact xb_ne c_21
      obtain ⟨pk, hpk, ep⟩ := xi_of hx1
      have hxp : xN pg = pk := by rw [ep]; exact xN_nI (by omega)
      rw [ep] at hl
      refine lv_iload_n hx hb dX5_page_26 rfl (lv_at hl 2 rfl) ?_
      refine lv_iconst (v := 2) hx hb dX5_page_27 (by decide) ?_
      refine lv_icmp_ge (tgt := 52) hx hb dX5_page_28 (by decide) (fun c_28 => ?_) (fun c_28 => ?_)
      · skip
        refine lv_iconst (v := 0) hx hb dX5_page_52 (by decide) ?_
        refine lv_topi (fun y ey => ?_)
        obtain rfl : y = x_acc (mp_pf v what) (16 * pk) (16 * pk - 16 * pk) := ey.trans (x_acc_0 _ _)
        refine lv_istore_n (lv' := [(3, .int (x_acc (mp_pf v what) (16 * pk) (16 * pk - 16 * pk))), (0, .ref m0), (1, .int (nI pk)), (2, .int what)]) hx hb dX5_page_53 rfl hl (by decide) rfl (fun ls hl => ?_)
        refine lv_bipush (v := 16) hx hb dX5_page_54 (by decide) ?_
        refine lv_iload_n hx hb dX5_page_56 rfl (lv_at hl 2 rfl) ?_
        refine lv_imul hx hb dX5_page_57 ?_
        refine lv_topi (fun y ey => ?_)
        obtain rfl : y = nI (16 * pk) := ey.trans (by rw [show (16 : Int32) = nI 16 from rfl, pk_mul])
        refine lv_istore (lv' := [(4, .int (nI (16 * pk))), (3, .int (x_acc (mp_pf v what) (16 * pk) (16 * pk - 16 * pk))), (0, .ref m0), (1, .int (nI pk)), (2, .int what)]) hx hb dX5_page_58 hl (by decide) rfl (fun ls hl => ?_)
        exact loop pk hpk (by unfold mp_page; rw [if_pos ⟨hx1, hx2⟩, if_neg (Int32.not_lt.mpr c_28), hxp]) 16 (16 * pk) ls (Nat.le_refl _) rfl (lv_sub hl [0, 1, 2, 3, 4] rfl)
      · skip
        refine lv_aload_n hx hb dX5_page_31 rfl (lv_at hl 0 rfl) ?_
        refine va_get (D := D) (ci := 4) (v := .ref ms) (C := RX5) (T := TX5) (N := 5) hx hb hts hiX5 hown hK hP 0 rfl rfl 0 (by decide) (hts (.fieldLink RX5 7 "PointerSweepModel" "st" "[I") (by decide +kernel)) (fun _ h9 => h9) rfl dX5_page_32 ?_
        refine lv_iload_n hx hb dX5_page_35 rfl (lv_at hl 2 rfl) ?_
        refine lv_if_ne (tgt := 45) hx hb dX5_page_36 (by decide) (fun c_36 => ?_) (fun c_36 => ?_)
        · skip
          refine lv_sipush (v := 2104) hx hb dX5_page_45 (by decide) ?_
          refine lv_iload_n hx hb dX5_page_48 rfl (lv_at hl 1 rfl) ?_
          refine lv_iadd hx hb dX5_page_49 ?_
          refine xa_iald hx hb hK hP 1 0 rfl rfl (2104 + pk) (nI_add 2104 pk) (by omega) (by decide) dX5_page_50 ?_
          exact xk_iretR hx hb hr hlk (by unfold mp_page; rw [xf_d v hpk, if_pos ⟨hx1, hx2⟩, if_pos (Int32.not_le.mp c_28), hxp, if_neg c_36]) dX5_page_51
        · skip
          refine lv_sipush (v := 2088) hx hb dX5_page_39 (by decide) ?_
          refine lv_goto (tgt := 48) hx hb dX5_page_42 (by decide) ?_
          refine lv_iload_n hx hb dX5_page_48 rfl (lv_at hl 1 rfl) ?_
          refine lv_iadd hx hb dX5_page_49 ?_
          refine xa_iald hx hb hK hP 1 0 rfl rfl (2088 + pk) (nI_add 2088 pk) (by omega) (by decide) dX5_page_50 ?_
          exact xk_iretR hx hb hr hlk (by unfold mp_page; rw [xf_s v hpk, if_pos ⟨hx1, hx2⟩, if_pos (Int32.not_le.mp c_28), hxp, if_pos c_36]) dX5_page_51
    · skip
      refine lv_iconst (v := (-1)) hx hb dX5_page_24 (by decide) ?_
      exact xk_iretR hx hb hr hlk (by unfold mp_page; rw [if_neg (fun z => by rw [← xin_xi what (hi := 4) (n := 5) rfl, xb_eq c_21] at z; exact absurd z.2 (by decide))]) dX5_page_25
set_option maxHeartbeats 4000000 in
set_option maxRecDepth 100000 in
theorem y_count (l : Launch) (D : va_G) (cI cJ cS : ClassId) (m0 ms mb mw mm : Nat) (v : xV) (b w mi : Nat → Int32) (kp : Nat) (hkp : kp ≤ 24) (hv : x_ok v) (hX : v.2.2.2.2.2.2.2.1 = false → ∀ k, v.2.2.2.2.2.1 k = false) (hs0 : v.2.2.2.2.2.2.2.1 = false → v.2.2.2.2.2.2.2.2.1 = 0) (what : Int32) : xk_Rd l yX5_count wsX5_count ({ frames := 1, cells := 0, slots := 0, locals := 25 }) D vwCl (xt cI cJ cS) (xm cI m0 ms mb mw mm v b w mi kp) [.ref m0, .int what] (some (.int (mp_count v kp what))) := by
  refine xk_rd (cc := cX5_count) (maxL := 4) (ret := (some .int)) (by decide) rfl (Nat.le_of_ble_eq_true rfl) (fun p e s m below meth c ls hx hb hr hlk hml hown hts hl hP hK hN => ?_)
  replace hl : lv_has ls 4 [(0, .ref m0), (1, .int what)] := hl
  have hiX5 : ∀ w ∈ u_ws RX5 TX5 5, w ∈ wsX5_count := by decide +kernel
  replace hP : va_P D vwCl ([(m0, .inr (4, [.ref ms, .ref mb, .int (nI kp), .ref mw, .ref mm])), (ms, .inl (cI, 2128, .inl (xf v))), (mb, .inl (cI, 2128, .inl b)), (mw, .inl (cI, 51072, .inl w)), (mm, .inl (cI, 320, .inl mi))]) s.heap := hP
  have loopA : mp_count v kp what = x_acc (fun i => xb (decide (xu v.2.2.2.1 v.2.2.2.2.1 i = what))) 0 256 → ∀ (n i : Nat) (ls : Array Slot), i + n = 256 → lv_has ls 4 [(3, .int (nI i)), (2, .int (x_acc (fun i => xb (decide (xu v.2.2.2.1 v.2.2.2.2.1 i = what))) 0 i)), (0, .ref m0), (1, .int what)] → W p l e ({ frames := 1, cells := 0, slots := 0, locals := 25 }) s m ([.ref m0, .int what]).toArray below meth c s.heap [] 0 0 (MQ below (xk_R (some (.int (mp_count v kp what)))) ([.ref m0, .int what]).toArray s 0 0 (fun _ => False)) (F0 m 74 ls []) := by
    intro hq n
    induction n with
    | zero =>
      intro i ls hn hl
      have hin : i = 256 := hn
      refine lv_iload_n hx hb dX5_count_74 rfl (lv_at hl 0 rfl) ?_
      refine lv_sipush (v := 256) hx hb dX5_count_75 (by decide) ?_
      refine lv_icmp_ge (tgt := 109) hx hb dX5_count_78 (by decide) (fun c_78 => ?_) (fun c_78 => ?_)
      · skip
        refine lv_iload_n hx hb dX5_count_109 rfl (lv_at hl 1 rfl) ?_
        exact xk_iretR hx hb hr hlk (by rw [hin]; exact hq.symm) dX5_count_110
      · skip
        exact absurd (nI_le (a := 256) (b := i) (by omega) (by omega)) c_78
    | succ n ih =>
      intro i ls hn hl
      refine lv_iload_n hx hb dX5_count_74 rfl (lv_at hl 0 rfl) ?_
      refine lv_sipush (v := 256) hx hb dX5_count_75 (by decide) ?_
      refine lv_icmp_ge (tgt := 109) hx hb dX5_count_78 (by decide) (fun c_78 => ?_) (fun c_78 => ?_)
      · skip
        exact absurd (xn_le_of (a := 256) (by decide) (by omega) c_78) (by omega)
      · skip
        refine lv_iload_n hx hb dX5_count_81 rfl (lv_at hl 1 rfl) ?_
        refine lv_aload_n hx hb dX5_count_82 rfl (lv_at hl 2 rfl) ?_
        refine va_get (D := D) (ci := 4) (v := .ref ms) (C := RX5) (T := TX5) (N := 5) hx hb hts hiX5 hown hK hP 0 rfl rfl 0 (by decide) (hts (.fieldLink RX5 7 "PointerSweepModel" "st" "[I") (by decide +kernel)) (fun _ h9 => h9) rfl dX5_count_83 ?_
        refine lv_sipush (v := 1320) hx hb dX5_count_86 (by decide) ?_
        refine lv_iload_n hx hb dX5_count_89 rfl (lv_at hl 0 rfl) ?_
        refine lv_iadd hx hb dX5_count_90 ?_
        refine xa_iald hx hb hK hP 1 0 rfl rfl (1320 + i) (nI_add 1320 i) (by omega) (by decide) dX5_count_91 ?_
        refine lv_topi (fun y ey => ?_)
        obtain rfl : y = xu v.2.2.2.1 v.2.2.2.2.1 i := ey.trans (xf_u v (by omega))
        refine lv_iload_n hx hb dX5_count_92 rfl (lv_at hl 3 rfl) ?_
        refine lv_icmp_ne (tgt := 100) hx hb dX5_count_93 (by decide) (fun c_93 => ?_) (fun c_93 => ?_)
        · skip
          refine lv_iconst (v := 0) hx hb dX5_count_100 (by decide) ?_
          refine lv_iadd hx hb dX5_count_101 ?_
          refine lv_topi (fun y ey => ?_)
          obtain rfl : y = x_acc (fun i => xb (decide (xu v.2.2.2.1 v.2.2.2.2.1 i = what))) 0 (i + 1) := ey.trans (x_acc0_f (g := fun i => decide (xu v.2.2.2.1 v.2.2.2.2.1 i = what)) (fun _ => rfl) (decide_eq_false c_93))
          refine lv_istore_n (lv' := [(2, .int (x_acc (fun i => xb (decide (xu v.2.2.2.1 v.2.2.2.2.1 i = what))) 0 (i + 1))), (3, .int (nI i)), (0, .ref m0), (1, .int what)]) hx hb dX5_count_102 rfl hl (by decide) rfl (fun ls hl => ?_)
          refine lv_iinc (v := (nI (i + 1))) (lv' := [(3, .int (nI (i + 1))), (2, .int (x_acc (fun i => xb (decide (xu v.2.2.2.1 v.2.2.2.2.1 i = what))) 0 (i + 1))), (0, .ref m0), (1, .int what)]) hx hb dX5_count_103 hl (k := 1) rfl (nI_1 i) (by decide) rfl (fun ls hl => ?_)
          refine lv_goto (tgt := 74) hx hb dX5_count_106 (by decide) ?_
          exact ih (i + 1) ls (by omega) (lv_sub hl [0, 1, 2, 3] rfl)
        · skip
          refine lv_iconst (v := 1) hx hb dX5_count_96 (by decide) ?_
          refine lv_goto (tgt := 101) hx hb dX5_count_97 (by decide) ?_
          refine lv_iadd hx hb dX5_count_101 ?_
          refine lv_topi (fun y ey => ?_)
          obtain rfl : y = x_acc (fun i => xb (decide (xu v.2.2.2.1 v.2.2.2.2.1 i = what))) 0 (i + 1) := ey.trans (x_acc0_t (g := fun i => decide (xu v.2.2.2.1 v.2.2.2.2.1 i = what)) (fun _ => rfl) (decide_eq_true c_93))
          refine lv_istore_n (lv' := [(2, .int (x_acc (fun i => xb (decide (xu v.2.2.2.1 v.2.2.2.2.1 i = what))) 0 (i + 1))), (3, .int (nI i)), (0, .ref m0), (1, .int what)]) hx hb dX5_count_102 rfl hl (by decide) rfl (fun ls hl => ?_)
          refine lv_iinc (v := (nI (i + 1))) (lv' := [(3, .int (nI (i + 1))), (2, .int (x_acc (fun i => xb (decide (xu v.2.2.2.1 v.2.2.2.2.1 i = what))) 0 (i + 1))), (0, .ref m0), (1, .int what)]) hx hb dX5_count_103 hl (k := 1) rfl (nI_1 i) (by decide) rfl (fun ls hl => ?_)
          refine lv_goto (tgt := 74) hx hb dX5_count_106 (by decide) ?_
          exact ih (i + 1) ls (by omega) (lv_sub hl [0, 1, 2, 3] rfl)
  have loopB : mp_count v kp what = x_acc (fun i => xb (v.2.2.2.2.2.1 i)) 0 256 → ∀ (n i : Nat) (ls : Array Slot), i + n = 256 → lv_has ls 4 [(3, .int (nI i)), (2, .int (x_acc (fun i => xb (v.2.2.2.2.2.1 i)) 0 i)), (0, .ref m0), (1, .int what)] → W p l e ({ frames := 1, cells := 0, slots := 0, locals := 25 }) s m ([.ref m0, .int what]).toArray below meth c s.heap [] 0 0 (MQ below (xk_R (some (.int (mp_count v kp what)))) ([.ref m0, .int what]).toArray s 0 0 (fun _ => False)) (F0 m 113 ls []) := by
    intro hq n
    induction n with
    | zero =>
      intro i ls hn hl
      have hin : i = 256 := hn
      refine lv_iload_n hx hb dX5_count_113 rfl (lv_at hl 0 rfl) ?_
      refine lv_sipush (v := 256) hx hb dX5_count_114 (by decide) ?_
      refine lv_icmp_ge (tgt := 139) hx hb dX5_count_117 (by decide) (fun c_117 => ?_) (fun c_117 => ?_)
      · skip
        refine lv_iload_n hx hb dX5_count_139 rfl (lv_at hl 1 rfl) ?_
        exact xk_iretR hx hb hr hlk (by rw [hin]; exact hq.symm) dX5_count_140
      · skip
        exact absurd (nI_le (a := 256) (b := i) (by omega) (by omega)) c_117
    | succ n ih =>
      intro i ls hn hl
      refine lv_iload_n hx hb dX5_count_113 rfl (lv_at hl 0 rfl) ?_
      refine lv_sipush (v := 256) hx hb dX5_count_114 (by decide) ?_
      refine lv_icmp_ge (tgt := 139) hx hb dX5_count_117 (by decide) (fun c_117 => ?_) (fun c_117 => ?_)
      · skip
        exact absurd (xn_le_of (a := 256) (by decide) (by omega) c_117) (by omega)
      · skip
        refine lv_iload_n hx hb dX5_count_120 rfl (lv_at hl 1 rfl) ?_
        refine lv_aload_n hx hb dX5_count_121 rfl (lv_at hl 2 rfl) ?_
        refine va_get (D := D) (ci := 4) (v := .ref ms) (C := RX5) (T := TX5) (N := 5) hx hb hts hiX5 hown hK hP 0 rfl rfl 0 (by decide) (hts (.fieldLink RX5 7 "PointerSweepModel" "st" "[I") (by decide +kernel)) (fun _ h9 => h9) rfl dX5_count_122 ?_
        refine lv_sipush (v := 1576) hx hb dX5_count_125 (by decide) ?_
        refine lv_iload_n hx hb dX5_count_128 rfl (lv_at hl 0 rfl) ?_
        refine lv_iadd hx hb dX5_count_129 ?_
        refine xa_iald hx hb hK hP 1 0 rfl rfl (1576 + i) (nI_add 1576 i) (by omega) (by decide) dX5_count_130 ?_
        refine lv_topi (fun y ey => ?_)
        obtain rfl : y = xb (v.2.2.2.2.2.1 i) := ey.trans (xf_x v (by omega))
        refine lv_iadd hx hb dX5_count_131 ?_
        refine lv_topi (fun y ey => ?_)
        obtain rfl : y = x_acc (fun i => xb (v.2.2.2.2.2.1 i)) 0 (i + 1) := ey.trans (x_acc0_s (fun i => xb (v.2.2.2.2.2.1 i)) i)
        refine lv_istore_n (lv' := [(2, .int (x_acc (fun i => xb (v.2.2.2.2.2.1 i)) 0 (i + 1))), (3, .int (nI i)), (0, .ref m0), (1, .int what)]) hx hb dX5_count_132 rfl hl (by decide) rfl (fun ls hl => ?_)
        refine lv_iinc (v := (nI (i + 1))) (lv' := [(3, .int (nI (i + 1))), (2, .int (x_acc (fun i => xb (v.2.2.2.2.2.1 i)) 0 (i + 1))), (0, .ref m0), (1, .int what)]) hx hb dX5_count_133 hl (k := 1) rfl (nI_1 i) (by decide) rfl (fun ls hl => ?_)
        refine lv_goto (tgt := 113) hx hb dX5_count_136 (by decide) ?_
        exact ih (i + 1) ls (by omega) (lv_sub hl [0, 1, 2, 3] rfl)
  have loopC : mp_count v kp what = x_acc (fun i => xb (decide (x_fi v.2.2.2.1 v.2.2.2.2.2.2.1 i = nI i))) 0 256 → ∀ (n i : Nat) (ls : Array Slot), i + n = 256 → lv_has ls 4 [(3, .int (nI i)), (2, .int (x_acc (fun i => xb (decide (x_fi v.2.2.2.1 v.2.2.2.2.2.2.1 i = nI i))) 0 i)), (0, .ref m0), (1, .int what)] → W p l e ({ frames := 1, cells := 0, slots := 0, locals := 25 }) s m ([.ref m0, .int what]).toArray below meth c s.heap [] 0 0 (MQ below (xk_R (some (.int (mp_count v kp what)))) ([.ref m0, .int what]).toArray s 0 0 (fun _ => False)) (F0 m 143 ls []) := by
    intro hq n
    induction n with
    | zero =>
      intro i ls hn hl
      have hin : i = 256 := hn
      refine lv_iload_n hx hb dX5_count_143 rfl (lv_at hl 0 rfl) ?_
      refine lv_sipush (v := 256) hx hb dX5_count_144 (by decide) ?_
      refine lv_icmp_ge (tgt := 178) hx hb dX5_count_147 (by decide) (fun c_147 => ?_) (fun c_147 => ?_)
      · skip
        refine lv_iload_n hx hb dX5_count_178 rfl (lv_at hl 1 rfl) ?_
        exact xk_iretR hx hb hr hlk (by rw [hin]; exact hq.symm) dX5_count_179
      · skip
        exact absurd (nI_le (a := 256) (b := i) (by omega) (by omega)) c_147
    | succ n ih =>
      intro i ls hn hl
      refine lv_iload_n hx hb dX5_count_143 rfl (lv_at hl 0 rfl) ?_
      refine lv_sipush (v := 256) hx hb dX5_count_144 (by decide) ?_
      refine lv_icmp_ge (tgt := 178) hx hb dX5_count_147 (by decide) (fun c_147 => ?_) (fun c_147 => ?_)
      · skip
        exact absurd (xn_le_of (a := 256) (by decide) (by omega) c_147) (by omega)
      · skip
        refine lv_iload_n hx hb dX5_count_150 rfl (lv_at hl 1 rfl) ?_
        refine lv_aload_n hx hb dX5_count_151 rfl (lv_at hl 2 rfl) ?_
        refine va_get (D := D) (ci := 4) (v := .ref ms) (C := RX5) (T := TX5) (N := 5) hx hb hts hiX5 hown hK hP 0 rfl rfl 0 (by decide) (hts (.fieldLink RX5 7 "PointerSweepModel" "st" "[I") (by decide +kernel)) (fun _ h9 => h9) rfl dX5_count_152 ?_
        refine lv_sipush (v := 1832) hx hb dX5_count_155 (by decide) ?_
        refine lv_iload_n hx hb dX5_count_158 rfl (lv_at hl 0 rfl) ?_
        refine lv_iadd hx hb dX5_count_159 ?_
        refine xa_iald hx hb hK hP 1 0 rfl rfl (1832 + i) (nI_add 1832 i) (by omega) (by decide) dX5_count_160 ?_
        refine lv_topi (fun y ey => ?_)
        obtain rfl : y = x_fi v.2.2.2.1 v.2.2.2.2.2.2.1 i := ey.trans (xf_f v (by omega))
        refine lv_iload_n hx hb dX5_count_161 rfl (lv_at hl 0 rfl) ?_
        refine lv_icmp_ne (tgt := 169) hx hb dX5_count_162 (by decide) (fun c_162 => ?_) (fun c_162 => ?_)
        · skip
          refine lv_iconst (v := 0) hx hb dX5_count_169 (by decide) ?_
          refine lv_iadd hx hb dX5_count_170 ?_
          refine lv_topi (fun y ey => ?_)
          obtain rfl : y = x_acc (fun i => xb (decide (x_fi v.2.2.2.1 v.2.2.2.2.2.2.1 i = nI i))) 0 (i + 1) := ey.trans (x_acc0_f (g := fun i => decide (x_fi v.2.2.2.1 v.2.2.2.2.2.2.1 i = nI i)) (fun _ => rfl) (decide_eq_false c_162))
          refine lv_istore_n (lv' := [(2, .int (x_acc (fun i => xb (decide (x_fi v.2.2.2.1 v.2.2.2.2.2.2.1 i = nI i))) 0 (i + 1))), (3, .int (nI i)), (0, .ref m0), (1, .int what)]) hx hb dX5_count_171 rfl hl (by decide) rfl (fun ls hl => ?_)
          refine lv_iinc (v := (nI (i + 1))) (lv' := [(3, .int (nI (i + 1))), (2, .int (x_acc (fun i => xb (decide (x_fi v.2.2.2.1 v.2.2.2.2.2.2.1 i = nI i))) 0 (i + 1))), (0, .ref m0), (1, .int what)]) hx hb dX5_count_172 hl (k := 1) rfl (nI_1 i) (by decide) rfl (fun ls hl => ?_)
          refine lv_goto (tgt := 143) hx hb dX5_count_175 (by decide) ?_
          exact ih (i + 1) ls (by omega) (lv_sub hl [0, 1, 2, 3] rfl)
        · skip
          refine lv_iconst (v := 1) hx hb dX5_count_165 (by decide) ?_
          refine lv_goto (tgt := 170) hx hb dX5_count_166 (by decide) ?_
          refine lv_iadd hx hb dX5_count_170 ?_
          refine lv_topi (fun y ey => ?_)
          obtain rfl : y = x_acc (fun i => xb (decide (x_fi v.2.2.2.1 v.2.2.2.2.2.2.1 i = nI i))) 0 (i + 1) := ey.trans (x_acc0_t (g := fun i => decide (x_fi v.2.2.2.1 v.2.2.2.2.2.2.1 i = nI i)) (fun _ => rfl) (decide_eq_true c_162))
          refine lv_istore_n (lv' := [(2, .int (x_acc (fun i => xb (decide (x_fi v.2.2.2.1 v.2.2.2.2.2.2.1 i = nI i))) 0 (i + 1))), (3, .int (nI i)), (0, .ref m0), (1, .int what)]) hx hb dX5_count_171 rfl hl (by decide) rfl (fun ls hl => ?_)
          refine lv_iinc (v := (nI (i + 1))) (lv' := [(3, .int (nI (i + 1))), (2, .int (x_acc (fun i => xb (decide (x_fi v.2.2.2.1 v.2.2.2.2.2.2.1 i = nI i))) 0 (i + 1))), (0, .ref m0), (1, .int what)]) hx hb dX5_count_172 hl (k := 1) rfl (nI_1 i) (by decide) rfl (fun ls hl => ?_)
          refine lv_goto (tgt := 143) hx hb dX5_count_175 (by decide) ?_
          exact ih (i + 1) ls (by omega) (lv_sub hl [0, 1, 2, 3] rfl)
  refine lv_iconst (v := 0) hx hb dX5_count_0 (by decide) ?_
  refine lv_istore_n (lv' := [(2, .int 0), (0, .ref m0), (1, .int what)]) hx hb dX5_count_1 rfl hl (by decide) rfl (fun ls hl => ?_)
  refine lv_iload_n hx hb dX5_count_2 rfl (lv_at hl 2 rfl) ?_
  by_cases c_3_0 : what = 0
  · refine lv_tableIn (off := 69) (tgt := 72) hx hb dX5_count_3 (by rw [c_3_0]; decide) (by rw [c_3_0]; decide) (by rw [c_3_0]; rfl) (by decide) ?_
    refine lv_iconst (v := 0) hx hb dX5_count_72 (by decide) ?_
    refine lv_istore_n (lv' := [(3, .int 0), (2, .int 0), (0, .ref m0), (1, .int what)]) hx hb dX5_count_73 rfl hl (by decide) rfl (fun ls hl => ?_)
    exact loopA (by unfold mp_count; rw [if_pos c_3_0]; rfl) 256 0 ls rfl (lv_sub hl [0, 1, 2, 3] rfl)
  by_cases c_3_1 : what = 1
  · refine lv_tableIn (off := 69) (tgt := 72) hx hb dX5_count_3 (by rw [c_3_1]; decide) (by rw [c_3_1]; decide) (by rw [c_3_1]; rfl) (by decide) ?_
    refine lv_iconst (v := 0) hx hb dX5_count_72 (by decide) ?_
    refine lv_istore_n (lv' := [(3, .int 0), (2, .int 0), (0, .ref m0), (1, .int what)]) hx hb dX5_count_73 rfl hl (by decide) rfl (fun ls hl => ?_)
    exact loopA (by unfold mp_count; rw [if_neg c_3_0, if_pos c_3_1]; rfl) 256 0 ls rfl (lv_sub hl [0, 1, 2, 3] rfl)
  by_cases c_3_2 : what = 2
  · refine lv_tableIn (off := 69) (tgt := 72) hx hb dX5_count_3 (by rw [c_3_2]; decide) (by rw [c_3_2]; decide) (by rw [c_3_2]; rfl) (by decide) ?_
    refine lv_iconst (v := 0) hx hb dX5_count_72 (by decide) ?_
    refine lv_istore_n (lv' := [(3, .int 0), (2, .int 0), (0, .ref m0), (1, .int what)]) hx hb dX5_count_73 rfl hl (by decide) rfl (fun ls hl => ?_)
    exact loopA (by unfold mp_count; rw [if_neg c_3_0, if_neg c_3_1, if_pos c_3_2]; rfl) 256 0 ls rfl (lv_sub hl [0, 1, 2, 3] rfl)
  by_cases c_3_3 : what = 3
  · refine lv_tableIn (off := 108) (tgt := 111) hx hb dX5_count_3 (by rw [c_3_3]; decide) (by rw [c_3_3]; decide) (by rw [c_3_3]; rfl) (by decide) ?_
    refine lv_iconst (v := 0) hx hb dX5_count_111 (by decide) ?_
    refine lv_istore_n (lv' := [(3, .int 0), (2, .int 0), (0, .ref m0), (1, .int what)]) hx hb dX5_count_112 rfl hl (by decide) rfl (fun ls hl => ?_)
    exact loopB (by unfold mp_count; rw [if_neg c_3_0, if_neg c_3_1, if_neg c_3_2, if_pos c_3_3]; rfl) 256 0 ls rfl (lv_sub hl [0, 1, 2, 3] rfl)
  by_cases c_3_4 : what = 4
  · refine lv_tableIn (off := 138) (tgt := 141) hx hb dX5_count_3 (by rw [c_3_4]; decide) (by rw [c_3_4]; decide) (by rw [c_3_4]; rfl) (by decide) ?_
    refine lv_iconst (v := 0) hx hb dX5_count_141 (by decide) ?_
    refine lv_istore_n (lv' := [(3, .int 0), (2, .int 0), (0, .ref m0), (1, .int what)]) hx hb dX5_count_142 rfl hl (by decide) rfl (fun ls hl => ?_)
    exact loopC (by unfold mp_count; rw [if_neg c_3_0, if_neg c_3_1, if_neg c_3_2, if_neg c_3_3, if_pos c_3_4]; rfl) 256 0 ls rfl (lv_sub hl [0, 1, 2, 3] rfl)
  by_cases c_3_5 : what = 5
  · refine lv_tableIn (off := 191) (tgt := 194) hx hb dX5_count_3 (by rw [c_3_5]; decide) (by rw [c_3_5]; decide) (by rw [c_3_5]; rfl) (by decide) ?_
    refine lv_iload_n hx hb dX5_count_194 rfl (lv_at hl 2 rfl) ?_
    refine lv_i2l hx hb dX5_count_195 rfl ?_
    refine lv_ldc2 hx hb hown (hts (.constantLong RX5 104 (5)) (by decide +kernel)) dX5_count_196 ?_
    refine lv_ldc2 hx hb hown (hts (.constantLong RX5 106 (11)) (by decide +kernel)) dX5_count_199 ?_
    refine xk_callR (va_runS (As := [.long ((what : Int32).toInt64), .long 5, .long 11]) (rest := []) ⟨hx, hb, hml, hown, hts⟩ (j_in l D cI cJ cS ((what : Int32).toInt64) 5 11) (va_cwS 3 hts gX5_count_X5_in rfl rfl rfl (by decide +kernel) ⟨Nat.le_of_ble_eq_true rfl, Nat.le_of_ble_eq_true rfl⟩) (xk_preSr hK hN hP [] rfl) rfl rfl hl.1 rfl (lv_room (Nat.le_of_ble_eq_true rfl)) dX5_count_202 ⟨Nat.zero_le _, Nat.zero_le _⟩) ?_
    refine lv_if_eq (tgt := 223) hx hb dX5_count_205 (by decide) (fun c_205 => ?_) (fun c_205 => ?_)
    · skip
      refine lv_iconst (v := (-1)) hx hb dX5_count_223 (by decide) ?_
      exact xk_iretR hx hb hr hlk (by unfold mp_count; rw [if_neg c_3_0, if_neg c_3_1, if_neg c_3_2, if_neg c_3_3, if_neg c_3_4, if_neg (by rw [c_3_5]; decide), if_neg (by rw [c_3_5]; decide), if_neg (x_bt c_205)]) dX5_count_224
    · skip
      obtain ⟨tk, htk, et, hxk⟩ := m_c5 (xb_ne c_205)
      refine lv_aload_n hx hb dX5_count_208 rfl (lv_at hl 1 rfl) ?_
      refine va_get (D := D) (ci := 4) (v := .ref ms) (C := RX5) (T := TX5) (N := 5) hx hb hts hiX5 hown hK hP 0 rfl rfl 0 (by decide) (hts (.fieldLink RX5 7 "PointerSweepModel" "st" "[I") (by decide +kernel)) (fun _ h9 => h9) rfl dX5_count_209 ?_
      refine lv_sipush (v := 2121) hx hb dX5_count_212 (by decide) ?_
      refine lv_iload_n hx hb dX5_count_215 rfl (lv_at hl 2 rfl) ?_
      refine lv_iadd hx hb dX5_count_216 ?_
      refine lv_iconst (v := 5) hx hb dX5_count_217 (by decide) ?_
      refine lv_isub hx hb dX5_count_218 ?_
      refine xa_iald hx hb hK hP 1 0 rfl rfl (2121 + tk) et (by omega) (by decide) dX5_count_219 ?_
      refine lv_goto (tgt := 224) hx hb dX5_count_220 (by decide) ?_
      exact xk_iretR hx hb hr hlk (by rw [xf_t v htk]; unfold mp_count; rw [if_neg c_3_0, if_neg c_3_1, if_neg c_3_2, if_neg c_3_3, if_neg c_3_4, if_neg (by rw [c_3_5]; decide), if_neg (by rw [c_3_5]; decide), if_pos (xb_ne c_205), hxk]) dX5_count_224
  by_cases c_3_6 : what = 6
  · refine lv_tableIn (off := 191) (tgt := 194) hx hb dX5_count_3 (by rw [c_3_6]; decide) (by rw [c_3_6]; decide) (by rw [c_3_6]; rfl) (by decide) ?_
    refine lv_iload_n hx hb dX5_count_194 rfl (lv_at hl 2 rfl) ?_
    refine lv_i2l hx hb dX5_count_195 rfl ?_
    refine lv_ldc2 hx hb hown (hts (.constantLong RX5 104 (5)) (by decide +kernel)) dX5_count_196 ?_
    refine lv_ldc2 hx hb hown (hts (.constantLong RX5 106 (11)) (by decide +kernel)) dX5_count_199 ?_
    refine xk_callR (va_runS (As := [.long ((what : Int32).toInt64), .long 5, .long 11]) (rest := []) ⟨hx, hb, hml, hown, hts⟩ (j_in l D cI cJ cS ((what : Int32).toInt64) 5 11) (va_cwS 3 hts gX5_count_X5_in rfl rfl rfl (by decide +kernel) ⟨Nat.le_of_ble_eq_true rfl, Nat.le_of_ble_eq_true rfl⟩) (xk_preSr hK hN hP [] rfl) rfl rfl hl.1 rfl (lv_room (Nat.le_of_ble_eq_true rfl)) dX5_count_202 ⟨Nat.zero_le _, Nat.zero_le _⟩) ?_
    refine lv_if_eq (tgt := 223) hx hb dX5_count_205 (by decide) (fun c_205 => ?_) (fun c_205 => ?_)
    · skip
      refine lv_iconst (v := (-1)) hx hb dX5_count_223 (by decide) ?_
      exact xk_iretR hx hb hr hlk (by unfold mp_count; rw [if_neg c_3_0, if_neg c_3_1, if_neg c_3_2, if_neg c_3_3, if_neg c_3_4, if_neg (by rw [c_3_6]; decide), if_neg (by rw [c_3_6]; decide), if_neg (x_bt c_205)]) dX5_count_224
    · skip
      obtain ⟨tk, htk, et, hxk⟩ := m_c5 (xb_ne c_205)
      refine lv_aload_n hx hb dX5_count_208 rfl (lv_at hl 1 rfl) ?_
      refine va_get (D := D) (ci := 4) (v := .ref ms) (C := RX5) (T := TX5) (N := 5) hx hb hts hiX5 hown hK hP 0 rfl rfl 0 (by decide) (hts (.fieldLink RX5 7 "PointerSweepModel" "st" "[I") (by decide +kernel)) (fun _ h9 => h9) rfl dX5_count_209 ?_
      refine lv_sipush (v := 2121) hx hb dX5_count_212 (by decide) ?_
      refine lv_iload_n hx hb dX5_count_215 rfl (lv_at hl 2 rfl) ?_
      refine lv_iadd hx hb dX5_count_216 ?_
      refine lv_iconst (v := 5) hx hb dX5_count_217 (by decide) ?_
      refine lv_isub hx hb dX5_count_218 ?_
      refine xa_iald hx hb hK hP 1 0 rfl rfl (2121 + tk) et (by omega) (by decide) dX5_count_219 ?_
      refine lv_goto (tgt := 224) hx hb dX5_count_220 (by decide) ?_
      exact xk_iretR hx hb hr hlk (by rw [xf_t v htk]; unfold mp_count; rw [if_neg c_3_0, if_neg c_3_1, if_neg c_3_2, if_neg c_3_3, if_neg c_3_4, if_neg (by rw [c_3_6]; decide), if_neg (by rw [c_3_6]; decide), if_pos (xb_ne c_205), hxk]) dX5_count_224
  by_cases c_3_7 : what = 7
  · refine lv_tableIn (off := 191) (tgt := 194) hx hb dX5_count_3 (by rw [c_3_7]; decide) (by rw [c_3_7]; decide) (by rw [c_3_7]; rfl) (by decide) ?_
    refine lv_iload_n hx hb dX5_count_194 rfl (lv_at hl 2 rfl) ?_
    refine lv_i2l hx hb dX5_count_195 rfl ?_
    refine lv_ldc2 hx hb hown (hts (.constantLong RX5 104 (5)) (by decide +kernel)) dX5_count_196 ?_
    refine lv_ldc2 hx hb hown (hts (.constantLong RX5 106 (11)) (by decide +kernel)) dX5_count_199 ?_
    refine xk_callR (va_runS (As := [.long ((what : Int32).toInt64), .long 5, .long 11]) (rest := []) ⟨hx, hb, hml, hown, hts⟩ (j_in l D cI cJ cS ((what : Int32).toInt64) 5 11) (va_cwS 3 hts gX5_count_X5_in rfl rfl rfl (by decide +kernel) ⟨Nat.le_of_ble_eq_true rfl, Nat.le_of_ble_eq_true rfl⟩) (xk_preSr hK hN hP [] rfl) rfl rfl hl.1 rfl (lv_room (Nat.le_of_ble_eq_true rfl)) dX5_count_202 ⟨Nat.zero_le _, Nat.zero_le _⟩) ?_
    refine lv_if_eq (tgt := 223) hx hb dX5_count_205 (by decide) (fun c_205 => ?_) (fun c_205 => ?_)
    · skip
      refine lv_iconst (v := (-1)) hx hb dX5_count_223 (by decide) ?_
      exact xk_iretR hx hb hr hlk (by unfold mp_count; rw [if_neg c_3_0, if_neg c_3_1, if_neg c_3_2, if_neg c_3_3, if_neg c_3_4, if_neg (by rw [c_3_7]; decide), if_neg (by rw [c_3_7]; decide), if_neg (x_bt c_205)]) dX5_count_224
    · skip
      obtain ⟨tk, htk, et, hxk⟩ := m_c5 (xb_ne c_205)
      refine lv_aload_n hx hb dX5_count_208 rfl (lv_at hl 1 rfl) ?_
      refine va_get (D := D) (ci := 4) (v := .ref ms) (C := RX5) (T := TX5) (N := 5) hx hb hts hiX5 hown hK hP 0 rfl rfl 0 (by decide) (hts (.fieldLink RX5 7 "PointerSweepModel" "st" "[I") (by decide +kernel)) (fun _ h9 => h9) rfl dX5_count_209 ?_
      refine lv_sipush (v := 2121) hx hb dX5_count_212 (by decide) ?_
      refine lv_iload_n hx hb dX5_count_215 rfl (lv_at hl 2 rfl) ?_
      refine lv_iadd hx hb dX5_count_216 ?_
      refine lv_iconst (v := 5) hx hb dX5_count_217 (by decide) ?_
      refine lv_isub hx hb dX5_count_218 ?_
      refine xa_iald hx hb hK hP 1 0 rfl rfl (2121 + tk) et (by omega) (by decide) dX5_count_219 ?_
      refine lv_goto (tgt := 224) hx hb dX5_count_220 (by decide) ?_
      exact xk_iretR hx hb hr hlk (by rw [xf_t v htk]; unfold mp_count; rw [if_neg c_3_0, if_neg c_3_1, if_neg c_3_2, if_neg c_3_3, if_neg c_3_4, if_neg (by rw [c_3_7]; decide), if_neg (by rw [c_3_7]; decide), if_pos (xb_ne c_205), hxk]) dX5_count_224
  by_cases c_3_8 : what = 8
  · refine lv_tableIn (off := 191) (tgt := 194) hx hb dX5_count_3 (by rw [c_3_8]; decide) (by rw [c_3_8]; decide) (by rw [c_3_8]; rfl) (by decide) ?_
    refine lv_iload_n hx hb dX5_count_194 rfl (lv_at hl 2 rfl) ?_
    refine lv_i2l hx hb dX5_count_195 rfl ?_
    refine lv_ldc2 hx hb hown (hts (.constantLong RX5 104 (5)) (by decide +kernel)) dX5_count_196 ?_
    refine lv_ldc2 hx hb hown (hts (.constantLong RX5 106 (11)) (by decide +kernel)) dX5_count_199 ?_
    refine xk_callR (va_runS (As := [.long ((what : Int32).toInt64), .long 5, .long 11]) (rest := []) ⟨hx, hb, hml, hown, hts⟩ (j_in l D cI cJ cS ((what : Int32).toInt64) 5 11) (va_cwS 3 hts gX5_count_X5_in rfl rfl rfl (by decide +kernel) ⟨Nat.le_of_ble_eq_true rfl, Nat.le_of_ble_eq_true rfl⟩) (xk_preSr hK hN hP [] rfl) rfl rfl hl.1 rfl (lv_room (Nat.le_of_ble_eq_true rfl)) dX5_count_202 ⟨Nat.zero_le _, Nat.zero_le _⟩) ?_
    refine lv_if_eq (tgt := 223) hx hb dX5_count_205 (by decide) (fun c_205 => ?_) (fun c_205 => ?_)
    · skip
      refine lv_iconst (v := (-1)) hx hb dX5_count_223 (by decide) ?_
      exact xk_iretR hx hb hr hlk (by unfold mp_count; rw [if_neg c_3_0, if_neg c_3_1, if_neg c_3_2, if_neg c_3_3, if_neg c_3_4, if_neg (by rw [c_3_8]; decide), if_neg (by rw [c_3_8]; decide), if_neg (x_bt c_205)]) dX5_count_224
    · skip
      obtain ⟨tk, htk, et, hxk⟩ := m_c5 (xb_ne c_205)
      refine lv_aload_n hx hb dX5_count_208 rfl (lv_at hl 1 rfl) ?_
      refine va_get (D := D) (ci := 4) (v := .ref ms) (C := RX5) (T := TX5) (N := 5) hx hb hts hiX5 hown hK hP 0 rfl rfl 0 (by decide) (hts (.fieldLink RX5 7 "PointerSweepModel" "st" "[I") (by decide +kernel)) (fun _ h9 => h9) rfl dX5_count_209 ?_
      refine lv_sipush (v := 2121) hx hb dX5_count_212 (by decide) ?_
      refine lv_iload_n hx hb dX5_count_215 rfl (lv_at hl 2 rfl) ?_
      refine lv_iadd hx hb dX5_count_216 ?_
      refine lv_iconst (v := 5) hx hb dX5_count_217 (by decide) ?_
      refine lv_isub hx hb dX5_count_218 ?_
      refine xa_iald hx hb hK hP 1 0 rfl rfl (2121 + tk) et (by omega) (by decide) dX5_count_219 ?_
      refine lv_goto (tgt := 224) hx hb dX5_count_220 (by decide) ?_
      exact xk_iretR hx hb hr hlk (by rw [xf_t v htk]; unfold mp_count; rw [if_neg c_3_0, if_neg c_3_1, if_neg c_3_2, if_neg c_3_3, if_neg c_3_4, if_neg (by rw [c_3_8]; decide), if_neg (by rw [c_3_8]; decide), if_pos (xb_ne c_205), hxk]) dX5_count_224
  by_cases c_3_9 : what = 9
  · refine lv_tableIn (off := 191) (tgt := 194) hx hb dX5_count_3 (by rw [c_3_9]; decide) (by rw [c_3_9]; decide) (by rw [c_3_9]; rfl) (by decide) ?_
    refine lv_iload_n hx hb dX5_count_194 rfl (lv_at hl 2 rfl) ?_
    refine lv_i2l hx hb dX5_count_195 rfl ?_
    refine lv_ldc2 hx hb hown (hts (.constantLong RX5 104 (5)) (by decide +kernel)) dX5_count_196 ?_
    refine lv_ldc2 hx hb hown (hts (.constantLong RX5 106 (11)) (by decide +kernel)) dX5_count_199 ?_
    refine xk_callR (va_runS (As := [.long ((what : Int32).toInt64), .long 5, .long 11]) (rest := []) ⟨hx, hb, hml, hown, hts⟩ (j_in l D cI cJ cS ((what : Int32).toInt64) 5 11) (va_cwS 3 hts gX5_count_X5_in rfl rfl rfl (by decide +kernel) ⟨Nat.le_of_ble_eq_true rfl, Nat.le_of_ble_eq_true rfl⟩) (xk_preSr hK hN hP [] rfl) rfl rfl hl.1 rfl (lv_room (Nat.le_of_ble_eq_true rfl)) dX5_count_202 ⟨Nat.zero_le _, Nat.zero_le _⟩) ?_
    refine lv_if_eq (tgt := 223) hx hb dX5_count_205 (by decide) (fun c_205 => ?_) (fun c_205 => ?_)
    · skip
      refine lv_iconst (v := (-1)) hx hb dX5_count_223 (by decide) ?_
      exact xk_iretR hx hb hr hlk (by unfold mp_count; rw [if_neg c_3_0, if_neg c_3_1, if_neg c_3_2, if_neg c_3_3, if_neg c_3_4, if_neg (by rw [c_3_9]; decide), if_neg (by rw [c_3_9]; decide), if_neg (x_bt c_205)]) dX5_count_224
    · skip
      obtain ⟨tk, htk, et, hxk⟩ := m_c5 (xb_ne c_205)
      refine lv_aload_n hx hb dX5_count_208 rfl (lv_at hl 1 rfl) ?_
      refine va_get (D := D) (ci := 4) (v := .ref ms) (C := RX5) (T := TX5) (N := 5) hx hb hts hiX5 hown hK hP 0 rfl rfl 0 (by decide) (hts (.fieldLink RX5 7 "PointerSweepModel" "st" "[I") (by decide +kernel)) (fun _ h9 => h9) rfl dX5_count_209 ?_
      refine lv_sipush (v := 2121) hx hb dX5_count_212 (by decide) ?_
      refine lv_iload_n hx hb dX5_count_215 rfl (lv_at hl 2 rfl) ?_
      refine lv_iadd hx hb dX5_count_216 ?_
      refine lv_iconst (v := 5) hx hb dX5_count_217 (by decide) ?_
      refine lv_isub hx hb dX5_count_218 ?_
      refine xa_iald hx hb hK hP 1 0 rfl rfl (2121 + tk) et (by omega) (by decide) dX5_count_219 ?_
      refine lv_goto (tgt := 224) hx hb dX5_count_220 (by decide) ?_
      exact xk_iretR hx hb hr hlk (by rw [xf_t v htk]; unfold mp_count; rw [if_neg c_3_0, if_neg c_3_1, if_neg c_3_2, if_neg c_3_3, if_neg c_3_4, if_neg (by rw [c_3_9]; decide), if_neg (by rw [c_3_9]; decide), if_pos (xb_ne c_205), hxk]) dX5_count_224
  by_cases c_3_10 : what = 10
  · refine lv_tableIn (off := 191) (tgt := 194) hx hb dX5_count_3 (by rw [c_3_10]; decide) (by rw [c_3_10]; decide) (by rw [c_3_10]; rfl) (by decide) ?_
    refine lv_iload_n hx hb dX5_count_194 rfl (lv_at hl 2 rfl) ?_
    refine lv_i2l hx hb dX5_count_195 rfl ?_
    refine lv_ldc2 hx hb hown (hts (.constantLong RX5 104 (5)) (by decide +kernel)) dX5_count_196 ?_
    refine lv_ldc2 hx hb hown (hts (.constantLong RX5 106 (11)) (by decide +kernel)) dX5_count_199 ?_
    refine xk_callR (va_runS (As := [.long ((what : Int32).toInt64), .long 5, .long 11]) (rest := []) ⟨hx, hb, hml, hown, hts⟩ (j_in l D cI cJ cS ((what : Int32).toInt64) 5 11) (va_cwS 3 hts gX5_count_X5_in rfl rfl rfl (by decide +kernel) ⟨Nat.le_of_ble_eq_true rfl, Nat.le_of_ble_eq_true rfl⟩) (xk_preSr hK hN hP [] rfl) rfl rfl hl.1 rfl (lv_room (Nat.le_of_ble_eq_true rfl)) dX5_count_202 ⟨Nat.zero_le _, Nat.zero_le _⟩) ?_
    refine lv_if_eq (tgt := 223) hx hb dX5_count_205 (by decide) (fun c_205 => ?_) (fun c_205 => ?_)
    · skip
      refine lv_iconst (v := (-1)) hx hb dX5_count_223 (by decide) ?_
      exact xk_iretR hx hb hr hlk (by unfold mp_count; rw [if_neg c_3_0, if_neg c_3_1, if_neg c_3_2, if_neg c_3_3, if_neg c_3_4, if_neg (by rw [c_3_10]; decide), if_neg (by rw [c_3_10]; decide), if_neg (x_bt c_205)]) dX5_count_224
    · skip
      obtain ⟨tk, htk, et, hxk⟩ := m_c5 (xb_ne c_205)
      refine lv_aload_n hx hb dX5_count_208 rfl (lv_at hl 1 rfl) ?_
      refine va_get (D := D) (ci := 4) (v := .ref ms) (C := RX5) (T := TX5) (N := 5) hx hb hts hiX5 hown hK hP 0 rfl rfl 0 (by decide) (hts (.fieldLink RX5 7 "PointerSweepModel" "st" "[I") (by decide +kernel)) (fun _ h9 => h9) rfl dX5_count_209 ?_
      refine lv_sipush (v := 2121) hx hb dX5_count_212 (by decide) ?_
      refine lv_iload_n hx hb dX5_count_215 rfl (lv_at hl 2 rfl) ?_
      refine lv_iadd hx hb dX5_count_216 ?_
      refine lv_iconst (v := 5) hx hb dX5_count_217 (by decide) ?_
      refine lv_isub hx hb dX5_count_218 ?_
      refine xa_iald hx hb hK hP 1 0 rfl rfl (2121 + tk) et (by omega) (by decide) dX5_count_219 ?_
      refine lv_goto (tgt := 224) hx hb dX5_count_220 (by decide) ?_
      exact xk_iretR hx hb hr hlk (by rw [xf_t v htk]; unfold mp_count; rw [if_neg c_3_0, if_neg c_3_1, if_neg c_3_2, if_neg c_3_3, if_neg c_3_4, if_neg (by rw [c_3_10]; decide), if_neg (by rw [c_3_10]; decide), if_pos (xb_ne c_205), hxk]) dX5_count_224
  by_cases c_3_11 : what = 11
  · refine lv_tableIn (off := 191) (tgt := 194) hx hb dX5_count_3 (by rw [c_3_11]; decide) (by rw [c_3_11]; decide) (by rw [c_3_11]; rfl) (by decide) ?_
    refine lv_iload_n hx hb dX5_count_194 rfl (lv_at hl 2 rfl) ?_
    refine lv_i2l hx hb dX5_count_195 rfl ?_
    refine lv_ldc2 hx hb hown (hts (.constantLong RX5 104 (5)) (by decide +kernel)) dX5_count_196 ?_
    refine lv_ldc2 hx hb hown (hts (.constantLong RX5 106 (11)) (by decide +kernel)) dX5_count_199 ?_
    refine xk_callR (va_runS (As := [.long ((what : Int32).toInt64), .long 5, .long 11]) (rest := []) ⟨hx, hb, hml, hown, hts⟩ (j_in l D cI cJ cS ((what : Int32).toInt64) 5 11) (va_cwS 3 hts gX5_count_X5_in rfl rfl rfl (by decide +kernel) ⟨Nat.le_of_ble_eq_true rfl, Nat.le_of_ble_eq_true rfl⟩) (xk_preSr hK hN hP [] rfl) rfl rfl hl.1 rfl (lv_room (Nat.le_of_ble_eq_true rfl)) dX5_count_202 ⟨Nat.zero_le _, Nat.zero_le _⟩) ?_
    refine lv_if_eq (tgt := 223) hx hb dX5_count_205 (by decide) (fun c_205 => ?_) (fun c_205 => ?_)
    · skip
      refine lv_iconst (v := (-1)) hx hb dX5_count_223 (by decide) ?_
      exact xk_iretR hx hb hr hlk (by unfold mp_count; rw [if_neg c_3_0, if_neg c_3_1, if_neg c_3_2, if_neg c_3_3, if_neg c_3_4, if_neg (by rw [c_3_11]; decide), if_neg (by rw [c_3_11]; decide), if_neg (x_bt c_205)]) dX5_count_224
    · skip
      obtain ⟨tk, htk, et, hxk⟩ := m_c5 (xb_ne c_205)
      refine lv_aload_n hx hb dX5_count_208 rfl (lv_at hl 1 rfl) ?_
      refine va_get (D := D) (ci := 4) (v := .ref ms) (C := RX5) (T := TX5) (N := 5) hx hb hts hiX5 hown hK hP 0 rfl rfl 0 (by decide) (hts (.fieldLink RX5 7 "PointerSweepModel" "st" "[I") (by decide +kernel)) (fun _ h9 => h9) rfl dX5_count_209 ?_
      refine lv_sipush (v := 2121) hx hb dX5_count_212 (by decide) ?_
      refine lv_iload_n hx hb dX5_count_215 rfl (lv_at hl 2 rfl) ?_
      refine lv_iadd hx hb dX5_count_216 ?_
      refine lv_iconst (v := 5) hx hb dX5_count_217 (by decide) ?_
      refine lv_isub hx hb dX5_count_218 ?_
      refine xa_iald hx hb hK hP 1 0 rfl rfl (2121 + tk) et (by omega) (by decide) dX5_count_219 ?_
      refine lv_goto (tgt := 224) hx hb dX5_count_220 (by decide) ?_
      exact xk_iretR hx hb hr hlk (by rw [xf_t v htk]; unfold mp_count; rw [if_neg c_3_0, if_neg c_3_1, if_neg c_3_2, if_neg c_3_3, if_neg c_3_4, if_neg (by rw [c_3_11]; decide), if_neg (by rw [c_3_11]; decide), if_pos (xb_ne c_205), hxk]) dX5_count_224
  by_cases c_3_12 : what = 12
  · refine lv_tableIn (off := 177) (tgt := 180) hx hb dX5_count_3 (by rw [c_3_12]; decide) (by rw [c_3_12]; decide) (by rw [c_3_12]; rfl) (by decide) ?_
    refine lv_aload_n hx hb dX5_count_180 rfl (lv_at hl 1 rfl) ?_
    refine va_get (D := D) (ci := 4) (v := .ref ms) (C := RX5) (T := TX5) (N := 5) hx hb hts hiX5 hown hK hP 0 rfl rfl 0 (by decide) (hts (.fieldLink RX5 7 "PointerSweepModel" "st" "[I") (by decide +kernel)) (fun _ h9 => h9) rfl dX5_count_181 ?_
    refine lv_sipush (v := 2120) hx hb dX5_count_184 (by decide) ?_
    refine xa_iald hx hb hK hP 1 0 rfl rfl 2120 rfl (by decide) (by decide) dX5_count_187 ?_
    refine lv_topi (fun y ey => ?_)
    obtain rfl : y = xb v.2.2.2.2.2.2.2.1 := ey.trans (xf_o v)
    exact xk_iretR hx hb hr hlk (by unfold mp_count; rw [if_neg c_3_0, if_neg c_3_1, if_neg c_3_2, if_neg c_3_3, if_neg c_3_4, if_pos c_3_12]) dX5_count_188
  by_cases c_3_13 : what = 13
  · refine lv_tableIn (off := 186) (tgt := 189) hx hb dX5_count_3 (by rw [c_3_13]; decide) (by rw [c_3_13]; decide) (by rw [c_3_13]; rfl) (by decide) ?_
    refine lv_aload_n hx hb dX5_count_189 rfl (lv_at hl 1 rfl) ?_
    refine va_get (D := D) (ci := 4) (v := .int (nI kp)) (C := RX5) (T := TX5) (N := 5) hx hb hts hiX5 hown hK hP 0 rfl rfl 2 (by decide) (hts (.fieldLink RX5 29 "PointerSweepModel" "kept" "I") (by decide +kernel)) (fun _ h9 => h9) rfl dX5_count_190 ?_
    exact xk_iretR hx hb hr hlk (by unfold mp_count; rw [if_neg c_3_0, if_neg c_3_1, if_neg c_3_2, if_neg c_3_3, if_neg c_3_4, if_neg c_3_12, if_pos c_3_13]) dX5_count_193
  refine lv_tableOut (tgt := 194) hx hb dX5_count_3 (by have h0 := lv_neT (a := 0) c_3_0 rfl; have h1 := lv_neT (a := 1) c_3_1 rfl; have h2 := lv_neT (a := 2) c_3_2 rfl; have h3 := lv_neT (a := 3) c_3_3 rfl; have h4 := lv_neT (a := 4) c_3_4 rfl; have h5 := lv_neT (a := 5) c_3_5 rfl; have h6 := lv_neT (a := 6) c_3_6 rfl; have h7 := lv_neT (a := 7) c_3_7 rfl; have h8 := lv_neT (a := 8) c_3_8 rfl; have h9 := lv_neT (a := 9) c_3_9 rfl; have h10 := lv_neT (a := 10) c_3_10 rfl; have h11 := lv_neT (a := 11) c_3_11 rfl; have h12 := lv_neT (a := 12) c_3_12 rfl; have h13 := lv_neT (a := 13) c_3_13 rfl;   omega) (by decide) ?_
  refine lv_iload_n hx hb dX5_count_194 rfl (lv_at hl 2 rfl) ?_
  refine lv_i2l hx hb dX5_count_195 rfl ?_
  refine lv_ldc2 hx hb hown (hts (.constantLong RX5 104 (5)) (by decide +kernel)) dX5_count_196 ?_
  refine lv_ldc2 hx hb hown (hts (.constantLong RX5 106 (11)) (by decide +kernel)) dX5_count_199 ?_
  refine xk_callR (va_runS (As := [.long ((what : Int32).toInt64), .long 5, .long 11]) (rest := []) ⟨hx, hb, hml, hown, hts⟩ (j_in l D cI cJ cS ((what : Int32).toInt64) 5 11) (va_cwS 3 hts gX5_count_X5_in rfl rfl rfl (by decide +kernel) ⟨Nat.le_of_ble_eq_true rfl, Nat.le_of_ble_eq_true rfl⟩) (xk_preSr hK hN hP [] rfl) rfl rfl hl.1 rfl (lv_room (Nat.le_of_ble_eq_true rfl)) dX5_count_202 ⟨Nat.zero_le _, Nat.zero_le _⟩) ?_
  refine lv_if_eq (tgt := 223) hx hb dX5_count_205 (by decide) (fun c_205 => ?_) (fun c_205 => ?_)
  · skip
    refine lv_iconst (v := (-1)) hx hb dX5_count_223 (by decide) ?_
    exact xk_iretR hx hb hr hlk (by unfold mp_count; rw [if_neg c_3_0, if_neg c_3_1, if_neg c_3_2, if_neg c_3_3, if_neg c_3_4, if_neg c_3_12, if_neg c_3_13, if_neg (x_bt c_205)]) dX5_count_224
  · skip
    obtain ⟨tk, htk, et, hxk⟩ := m_c5 (xb_ne c_205)
    refine lv_aload_n hx hb dX5_count_208 rfl (lv_at hl 1 rfl) ?_
    refine va_get (D := D) (ci := 4) (v := .ref ms) (C := RX5) (T := TX5) (N := 5) hx hb hts hiX5 hown hK hP 0 rfl rfl 0 (by decide) (hts (.fieldLink RX5 7 "PointerSweepModel" "st" "[I") (by decide +kernel)) (fun _ h9 => h9) rfl dX5_count_209 ?_
    refine lv_sipush (v := 2121) hx hb dX5_count_212 (by decide) ?_
    refine lv_iload_n hx hb dX5_count_215 rfl (lv_at hl 2 rfl) ?_
    refine lv_iadd hx hb dX5_count_216 ?_
    refine lv_iconst (v := 5) hx hb dX5_count_217 (by decide) ?_
    refine lv_isub hx hb dX5_count_218 ?_
    refine xa_iald hx hb hK hP 1 0 rfl rfl (2121 + tk) et (by omega) (by decide) dX5_count_219 ?_
    refine lv_goto (tgt := 224) hx hb dX5_count_220 (by decide) ?_
    exact xk_iretR hx hb hr hlk (by rw [xf_t v htk]; unfold mp_count; rw [if_neg c_3_0, if_neg c_3_1, if_neg c_3_2, if_neg c_3_3, if_neg c_3_4, if_neg c_3_12, if_neg c_3_13, if_pos (xb_ne c_205), hxk]) dX5_count_224
