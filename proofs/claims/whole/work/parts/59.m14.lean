theorem x_n1 {b : Bool} (h : ¬ xb b = 1) : b = false := by
  cases b
  · rfl
  · exact absurd rfl h
theorem x_acc0_e {f : Nat → Int32} {g : Nat → Bool} (hf : ∀ k, f k = xb (g k)) {i : Nat} (h : g i = false) : x_acc f 0 i = x_acc f 0 (i + 1) := by rw [← x_acc0_f hf h, Int32.add_zero]
theorem x_efi_x (v : xV) {i : Nat} (hi : i < 256) : xf (x_efi (x_er v) i) (1576 + i) = xb (v.2.2.2.2.2.1 i) := by
  rw [xf_x _ hi]
  show xb (v.2.2.2.2.2.1 i && !decide (i < i)) = _
  rw [decide_eq_false (Nat.lt_irrefl i), Bool.not_false, Bool.and_true]
set_option maxHeartbeats 4000000 in
set_option maxRecDepth 100000 in
theorem y_end (l : Launch) (D : va_G) (cI cJ cS : ClassId) (m0 ms mb mw mm : Nat) (v : xV) (b w mi : Nat → Int32) (kp : Nat) (hkp : kp ≤ 24) (hv : x_ok v) (hX : v.2.2.2.2.2.2.2.1 = false → ∀ k, v.2.2.2.2.2.1 k = false) (hs0 : v.2.2.2.2.2.2.2.1 = false → v.2.2.2.2.2.2.2.2.1 = 0) (hGQ : ∀ k, v.2.2.2.1 k = true → v.2.2.2.2.1 k = false) (hXQ : ∀ k, v.2.2.2.2.2.1 k = true → v.2.2.2.2.1 k = true) : xk_Wr l yX5_end wsX5_end ({ frames := 3, cells := 0, slots := 0, locals := 72 }) D vwCl (xt cI cJ cS) (xm cI m0 ms mb mw mm v b w mi kp) [.ref m0] (xmo cI m0 ms mb mw mm v b w mi kp (sp_end v).2) (some (.int (sp_end v).1)) := by
  refine xk_wr2 (cc := cX5_end) (maxL := 3) (ret := (some .int)) (by decide) rfl (Nat.le_of_ble_eq_true rfl) (fun p e s m below meth c ls W0v W1v hW1 hx hb hr hlk hml hown hts hl hP hK hN hD hS => ?_)
  replace hl : lv_has ls 3 [(0, .ref m0)] := hl
  have hiX5 : ∀ w ∈ u_ws RX5 TX5 5, w ∈ wsX5_end := by decide +kernel
  replace hP : va_P D vwCl ([(m0, .inr (4, [.ref ms, .ref mb, .int (nI kp), .ref mw, .ref mm])), (ms, .inl (cI, 2128, .inl (xf v))), (mb, .inl (cI, 2128, .inl b)), (mw, .inl (cI, 51072, .inl w)), (mm, .inl (cI, 320, .inl mi))]) s.heap := hP
  replace hD : va_D _ ([(m0, .inr (4, [.ref ms, .ref mb, .int (nI kp), .ref mw, .ref mm])), (ms, .inl (cI, 2128, .inl (xf v))), (mb, .inl (cI, 2128, .inl b)), (mw, .inl (cI, 51072, .inl w)), (mm, .inl (cI, 320, .inl mi))]) := hD
  refine lv_aload_n hx hb dX5_end_0 rfl (lv_at hl 0 rfl) ?_
  refine va_get (D := D) (ci := 4) (v := .ref ms) (C := RX5) (T := TX5) (N := 5) hx hb hts hiX5 hown hK hP 0 rfl rfl 0 (by decide) (hts (.fieldLink RX5 7 "PointerSweepModel" "st" "[I") (by decide +kernel)) (fun _ h9 => h9) rfl dX5_end_1 ?_
  refine lv_sipush (v := 2120) hx hb dX5_end_4 (by decide) ?_
  refine xa_iald hx hb hK hP 1 0 rfl rfl 2120 rfl (by decide) (by decide) dX5_end_7 ?_
  refine lv_topi (fun y ey => ?_)
  obtain rfl : y = xb v.2.2.2.2.2.2.2.1 := ey.trans (xf_o v)
  refine lv_if_eq (tgt := 18) hx hb dX5_end_8 (by decide) (fun c_8 => ?_) (fun c_8 => ?_)
  · skip
    have e9 : sp_end v = (-2, none) := if_neg (fun z => x_bt c_8 z.1)
    refine lv_bipush (v := (-2)) hx hb dX5_end_18 (by decide) ?_
    exact xk_iretW hx hb hr hlk hP hS (by rw [e9]) (by rw [← hW1, e9]; rfl) dX5_end_20
  · skip
    refine lv_aload_n hx hb dX5_end_11 rfl (lv_at hl 0 rfl) ?_
    refine xk_callR (va_runV (As := []) (rest := []) ⟨hx, hb, hml, hown, hts⟩ (j_areSeen l D cI cJ cS m0 ms mb mw mm v b w mi kp hv.2.2) (cwV 0 hts gX5_end_X5_areSeen rfl rfl rfl (by decide +kernel) ⟨Nat.le_of_ble_eq_true rfl, Nat.le_of_ble_eq_true rfl⟩) (xk_preVr hK hN hP [0, 1, 2, 3, 4] rfl (ci := 4) rfl 0 rfl) rfl rfl hl.1 rfl (lv_room (Nat.le_of_ble_eq_true rfl)) dX5_end_12 ⟨Nat.zero_le _, Nat.zero_le _⟩) ?_
    refine lv_if_ne (tgt := 21) hx hb dX5_end_15 (by decide) (fun c_15 => ?_) (fun c_15 => ?_)
    · skip
      refine lv_aload_n hx hb dX5_end_21 rfl (lv_at hl 0 rfl) ?_
      refine xk_callW (ws' := [(m0, .inr (4, [.ref ms, .ref mb, .int (nI kp), .ref mw, .ref mm])), (ms, .inl (cI, 2128, .inl (xf v))), (mb, .inl (cI, 2128, .inl (xf v))), (mw, .inl (cI, 51072, .inl w)), (mm, .inl (cI, 320, .inl mi))]) (va_runV (As := []) (rest := []) ⟨hx, hb, hml, hown, hts⟩ (j_begin l D cI cJ cS m0 ms mb mw mm (xf v) b w mi kp ) (cwV 0 hts gX5_end_X5_begin rfl rfl rfl (by decide +kernel) ⟨Nat.le_of_ble_eq_true rfl, Nat.le_of_ble_eq_true rfl⟩) (xk_preVw hK hN hP hD [0, 1, 2, 3, 4] rfl rfl (ci := 4) rfl 0 rfl) rfl rfl hl.1 rfl (lv_room (Nat.le_of_ble_eq_true rfl)) dX5_end_22 ⟨Nat.zero_le _, Nat.zero_le _⟩) hP hD hS [0, 1, 2, 3, 4] rfl rfl rfl (fun H locs hP hD hS => ?_)
      refine lv_iconst (v := 0) hx hb dX5_end_25 (by decide) ?_
      refine lv_istore_n (lv' := [(1, .int 0), (0, .ref m0)]) hx hb dX5_end_26 rfl hl (by decide) rfl (fun ls hl => ?_)
      have hcond : v.2.2.2.2.2.2.2.1 = true ∧ 16 ≤ v.2.2.2.2.2.2.2.2.1 := ⟨xb_ne c_8, of_decide_eq_true (xb_ne c_15)⟩
      have e9 : sp_end v = (nI (xs_w v.2.2.2.2.2.1 0 256), some (x_end v)) := by unfold sp_end; rw [if_pos hcond]
      have loop3 : ∀ (n i : Nat) (H : Heap) (locs : List Loc) (ls : Array Slot), i + n = 16 → va_P D vwCl ([(m0, .inr (4, [.ref ms, .ref mb, .int (nI kp), .ref mw, .ref mm])), (ms, .inl (cI, 2128, .inl (x_z (xf (x_efi (x_er v) 256)) i))), (mb, .inl (cI, 2128, .inl (xf v))), (mw, .inl (cI, 51072, .inl w)), (mm, .inl (cI, 320, .inl mi))]) H → va_D (xk_in W0v) ([(m0, .inr (4, [.ref ms, .ref mb, .int (nI kp), .ref mw, .ref mm])), (ms, .inl (cI, 2128, .inl (x_z (xf (x_efi (x_er v) 256)) i))), (mb, .inl (cI, 2128, .inl (xf v))), (mw, .inl (cI, 51072, .inl w)), (mm, .inl (cI, 320, .inl mi))]) → va_S (xk_in W0v) s.heap H locs → lv_has ls 3 [(2, .int (nI i)), (1, .int (x_acc (fun k => xb (v.2.2.2.2.2.1 k)) 0 256)), (0, .ref m0)] → W p l e ({ frames := 3, cells := 0, slots := 0, locals := 72 }) s m ([.ref m0]).toArray below meth c H locs 0 0 (MQ below (xk_W D vwCl W0v W1v (some (.int (sp_end v).1))) ([.ref m0]).toArray s 0 0 (xk_in W0v)) (F0 m 164 ls []) := by
        intro n
        induction n with
        | zero =>
          intro i H locs ls hn hP hD hS hl
          have hin : i = 16 := hn
          rw [hin, x_z_16] at hP hD
          refine lv_iload_n hx hb dX5_end_164 rfl (lv_at hl 0 rfl) ?_
          refine lv_bipush (v := 16) hx hb dX5_end_165 (by decide) ?_
          refine lv_icmp_ge (tgt := 198) hx hb dX5_end_167 (by decide) (fun c_167 => ?_) (fun c_167 => ?_)
          · skip
            refine lv_aload_n hx hb dX5_end_198 rfl (lv_at hl 2 rfl) ?_
            refine va_get (D := D) (ci := 4) (v := .ref ms) (C := RX5) (T := TX5) (N := 5) hx hb hts hiX5 hown hK hP 0 rfl rfl 0 (by decide) (hts (.fieldLink RX5 7 "PointerSweepModel" "st" "[I") (by decide +kernel)) (fun _ h9 => h9) rfl dX5_end_199 ?_
            refine lv_sipush (v := 2120) hx hb dX5_end_202 (by decide) ?_
            refine lv_iconst (v := 0) hx hb dX5_end_205 (by decide) ?_
            refine xa_iast (ws' := [(m0, .inr (4, [.ref ms, .ref mb, .int (nI kp), .ref mw, .ref mm])), (ms, .inl (cI, 2128, .inl (upd (xf (x_zv (x_efi (x_er v) 256))) 2120 0))), (mb, .inl (cI, 2128, .inl (xf v))), (mw, .inl (cI, 51072, .inl w)), (mm, .inl (cI, 320, .inl mi))]) hx hb hK hP hD hS 1 0 rfl rfl 2120 rfl (by decide) (by decide) dX5_end_206 rfl (fun H locs hP hD hS => ?_)
            rw [show upd (xf (x_zv (x_efi (x_er v) 256))) 2120 0 = xf (x_on (x_zv (x_efi (x_er v) 256)) false) from xf_uo _ false] at hP hD
            refine lv_aload_n hx hb dX5_end_207 rfl (lv_at hl 2 rfl) ?_
            refine va_get (D := D) (ci := 4) (v := .ref ms) (C := RX5) (T := TX5) (N := 5) hx hb hts hiX5 hown hK hP 0 rfl rfl 0 (by decide) (hts (.fieldLink RX5 7 "PointerSweepModel" "st" "[I") (by decide +kernel)) (fun _ h9 => h9) rfl dX5_end_208 ?_
            refine lv_sipush (v := 2127) hx hb dX5_end_211 (by decide) ?_
            refine lv_dup2_11 hx hb dX5_end_214 rfl rfl ?_
            refine xa_iald hx hb hK hP 1 0 rfl rfl (2121 + 6) rfl (by decide) (by decide) dX5_end_215 ?_
            refine lv_topi (fun y ey => ?_)
            obtain rfl : y = (x_er v).2.2.1 6 := ey.trans (xf_t _ (by decide))
            refine lv_iconst (v := 1) hx hb dX5_end_216 (by decide) ?_
            refine lv_iadd hx hb dX5_end_217 ?_
            refine xa_iast (ws' := [(m0, .inr (4, [.ref ms, .ref mb, .int (nI kp), .ref mw, .ref mm])), (ms, .inl (cI, 2128, .inl (upd (xf (x_on (x_zv (x_efi (x_er v) 256)) false)) (2121 + 6) (((x_er v).2.2.1 6) + 1)))), (mb, .inl (cI, 2128, .inl (xf v))), (mw, .inl (cI, 51072, .inl w)), (mm, .inl (cI, 320, .inl mi))]) hx hb hK hP hD hS 1 0 rfl rfl (2121 + 6) rfl (by decide) (by decide) dX5_end_218 rfl (fun H locs hP hD hS => ?_)
            rw [xf_ut _ (by decide), m_end v] at hP hD
            refine lv_aload_n hx hb dX5_end_219 rfl (lv_at hl 2 rfl) ?_
            refine lv_iload_n hx hb dX5_end_220 rfl (lv_at hl 1 rfl) ?_
            refine lv_topi (fun y ey => ?_)
            obtain rfl : y = nI (xs_w v.2.2.2.2.2.1 0 256) := ey.trans (x_acc_w v.2.2.2.2.2.1 0 256 (by decide))
            refine xk_callW (ws' := [(m0, .inr (4, [.ref ms, .ref mb, .int (nI (m_kp kp)), .ref mw, .ref mm])), (ms, .inl (cI, 2128, .inl (xf (x_end v)))), (mb, .inl (cI, 2128, .inl (xf v))), (mw, .inl (cI, 51072, .inl (m_was (xf v) w kp))), (mm, .inl (cI, 320, .inl mi))]) (va_runV (As := [.int (nI (xs_w v.2.2.2.2.2.1 0 256))]) (rest := []) ⟨hx, hb, hml, hown, hts⟩ (j_keeps l D cI cJ cS m0 ms mb mw mm (xf (x_end v)) (xf v) w mi kp hkp (nI (xs_w v.2.2.2.2.2.1 0 256))) (cwV 1 hts gX5_end_X5_keeps rfl rfl rfl (by decide +kernel) ⟨Nat.le_of_ble_eq_true rfl, Nat.le_of_ble_eq_true rfl⟩) (xk_preVw hK hN hP hD [0, 1, 2, 3, 4] rfl rfl (ci := 4) rfl 0 rfl) rfl rfl hl.1 rfl (lv_room (Nat.le_of_ble_eq_true rfl)) dX5_end_221 ⟨Nat.zero_le _, Nat.zero_le _⟩) hP hD hS [0, 1, 2, 3, 4] rfl rfl rfl (fun H locs hP hD hS => ?_)
            exact xk_iretW hx hb hr hlk hP hS (by rw [e9]) (by rw [← hW1, e9]; rfl) dX5_end_224
          · skip
            exact absurd (nI_le (a := 16) (b := i) (by omega) (by omega)) c_167
        | succ n ih =>
          intro i H locs ls hn hP hD hS hl
          refine lv_iload_n hx hb dX5_end_164 rfl (lv_at hl 0 rfl) ?_
          refine lv_bipush (v := 16) hx hb dX5_end_165 (by decide) ?_
          refine lv_icmp_ge (tgt := 198) hx hb dX5_end_167 (by decide) (fun c_167 => ?_) (fun c_167 => ?_)
          · skip
            exact absurd (xn_le_of (a := 16) (by decide) (by omega) c_167) (by omega)
          · skip
            refine lv_aload_n hx hb dX5_end_170 rfl (lv_at hl 2 rfl) ?_
            refine va_get (D := D) (ci := 4) (v := .ref ms) (C := RX5) (T := TX5) (N := 5) hx hb hts hiX5 hown hK hP 0 rfl rfl 0 (by decide) (hts (.fieldLink RX5 7 "PointerSweepModel" "st" "[I") (by decide +kernel)) (fun _ h9 => h9) rfl dX5_end_171 ?_
            refine lv_sipush (v := 2088) hx hb dX5_end_174 (by decide) ?_
            refine lv_iload_n hx hb dX5_end_177 rfl (lv_at hl 0 rfl) ?_
            refine lv_iadd hx hb dX5_end_178 ?_
            refine lv_iconst (v := 0) hx hb dX5_end_179 (by decide) ?_
            refine xa_iast (ws' := [(m0, .inr (4, [.ref ms, .ref mb, .int (nI kp), .ref mw, .ref mm])), (ms, .inl (cI, 2128, .inl (upd (x_z (xf (x_efi (x_er v) 256)) i) (2088 + i) 0))), (mb, .inl (cI, 2128, .inl (xf v))), (mw, .inl (cI, 51072, .inl w)), (mm, .inl (cI, 320, .inl mi))]) hx hb hK hP hD hS 1 0 rfl rfl (2088 + i) (nI_add 2088 i) (by omega) (by decide) dX5_end_180 rfl (fun H locs hP hD hS => ?_)
            refine lv_aload_n hx hb dX5_end_181 rfl (lv_at hl 2 rfl) ?_
            refine va_get (D := D) (ci := 4) (v := .ref ms) (C := RX5) (T := TX5) (N := 5) hx hb hts hiX5 hown hK hP 0 rfl rfl 0 (by decide) (hts (.fieldLink RX5 7 "PointerSweepModel" "st" "[I") (by decide +kernel)) (fun _ h9 => h9) rfl dX5_end_182 ?_
            refine lv_sipush (v := 2104) hx hb dX5_end_185 (by decide) ?_
            refine lv_iload_n hx hb dX5_end_188 rfl (lv_at hl 0 rfl) ?_
            refine lv_iadd hx hb dX5_end_189 ?_
            refine lv_iconst (v := 0) hx hb dX5_end_190 (by decide) ?_
            refine xa_iast (ws' := [(m0, .inr (4, [.ref ms, .ref mb, .int (nI kp), .ref mw, .ref mm])), (ms, .inl (cI, 2128, .inl (upd (upd (x_z (xf (x_efi (x_er v) 256)) i) (2088 + i) 0) (2104 + i) 0))), (mb, .inl (cI, 2128, .inl (xf v))), (mw, .inl (cI, 51072, .inl w)), (mm, .inl (cI, 320, .inl mi))]) hx hb hK hP hD hS 1 0 rfl rfl (2104 + i) (nI_add 2104 i) (by omega) (by decide) dX5_end_191 rfl (fun H locs hP hD hS => ?_)
            rw [x_z_s _ (by omega)] at hP hD
            refine lv_iinc (v := (nI (i + 1))) (lv' := [(2, .int (nI (i + 1))), (1, .int (x_acc (fun k => xb (v.2.2.2.2.2.1 k)) 0 256)), (0, .ref m0)]) hx hb dX5_end_192 hl (k := 0) rfl (nI_1 i) (by decide) rfl (fun ls hl => ?_)
            refine lv_goto (tgt := 164) hx hb dX5_end_195 (by decide) ?_
            exact ih (i + 1) H locs ls (by omega) hP hD hS (lv_sub hl [0, 1, 2] rfl)
      have loop2 : ∀ (n i : Nat) (H : Heap) (locs : List Loc) (ls : Array Slot), i + n = 256 → va_P D vwCl ([(m0, .inr (4, [.ref ms, .ref mb, .int (nI kp), .ref mw, .ref mm])), (ms, .inl (cI, 2128, .inl (xf (x_efi (x_er v) i)))), (mb, .inl (cI, 2128, .inl (xf v))), (mw, .inl (cI, 51072, .inl w)), (mm, .inl (cI, 320, .inl mi))]) H → va_D (xk_in W0v) ([(m0, .inr (4, [.ref ms, .ref mb, .int (nI kp), .ref mw, .ref mm])), (ms, .inl (cI, 2128, .inl (xf (x_efi (x_er v) i)))), (mb, .inl (cI, 2128, .inl (xf v))), (mw, .inl (cI, 51072, .inl w)), (mm, .inl (cI, 320, .inl mi))]) → va_S (xk_in W0v) s.heap H locs → lv_has ls 3 [(2, .int (nI i)), (1, .int (x_acc (fun k => xb (v.2.2.2.2.2.1 k)) 0 i)), (0, .ref m0)] → W p l e ({ frames := 3, cells := 0, slots := 0, locals := 72 }) s m ([.ref m0]).toArray below meth c H locs 0 0 (MQ below (xk_W D vwCl W0v W1v (some (.int (sp_end v).1))) ([.ref m0]).toArray s 0 0 (xk_in W0v)) (F0 m 110 ls []) := by
        intro n
        induction n with
        | zero =>
          intro i H locs ls hn hP hD hS hl
          have hin : i = 256 := hn
          refine lv_iload_n hx hb dX5_end_110 rfl (lv_at hl 0 rfl) ?_
          refine lv_sipush (v := 256) hx hb dX5_end_111 (by decide) ?_
          refine lv_icmp_ge (tgt := 162) hx hb dX5_end_114 (by decide) (fun c_114 => ?_) (fun c_114 => ?_)
          · skip
            refine lv_iconst (v := 0) hx hb dX5_end_162 (by decide) ?_
            refine lv_istore_n (lv' := [(2, .int 0), (1, .int (x_acc (fun k => xb (v.2.2.2.2.2.1 k)) 0 i)), (0, .ref m0)]) hx hb dX5_end_163 rfl hl (by decide) rfl (fun ls hl => ?_)
            rw [hin] at hP hD hl
            refine loop3 16 0 H locs ls rfl ?_ ?_ hS (lv_sub hl [0, 1, 2] rfl)
            · rw [x_z_0]; exact hP
            · rw [x_z_0]; exact hD
          · skip
            exact absurd (nI_le (a := 256) (b := i) (by omega) (by omega)) c_114
        | succ n ih =>
          intro i H locs ls hn hP hD hS hl
          refine lv_iload_n hx hb dX5_end_110 rfl (lv_at hl 0 rfl) ?_
          refine lv_sipush (v := 256) hx hb dX5_end_111 (by decide) ?_
          refine lv_icmp_ge (tgt := 162) hx hb dX5_end_114 (by decide) (fun c_114 => ?_) (fun c_114 => ?_)
          · skip
            exact absurd (xn_le_of (a := 256) (by decide) (by omega) c_114) (by omega)
          · skip
            refine lv_aload_n hx hb dX5_end_117 rfl (lv_at hl 2 rfl) ?_
            refine va_get (D := D) (ci := 4) (v := .ref ms) (C := RX5) (T := TX5) (N := 5) hx hb hts hiX5 hown hK hP 0 rfl rfl 0 (by decide) (hts (.fieldLink RX5 7 "PointerSweepModel" "st" "[I") (by decide +kernel)) (fun _ h9 => h9) rfl dX5_end_118 ?_
            refine lv_sipush (v := 1576) hx hb dX5_end_121 (by decide) ?_
            refine lv_iload_n hx hb dX5_end_124 rfl (lv_at hl 0 rfl) ?_
            refine lv_iadd hx hb dX5_end_125 ?_
            refine xa_iald hx hb hK hP 1 0 rfl rfl (1576 + i) (nI_add 1576 i) (by omega) (by decide) dX5_end_126 ?_
            refine lv_topi (fun y ey => ?_)
            obtain rfl : y = xb (v.2.2.2.2.2.1 i) := ey.trans (x_efi_x v (by omega))
            refine lv_iconst (v := 1) hx hb dX5_end_127 (by decide) ?_
            refine lv_icmp_ne (tgt := 156) hx hb dX5_end_128 (by decide) (fun c_128 => ?_) (fun c_128 => ?_)
            · skip
              refine lv_iinc (v := (nI (i + 1))) (lv' := [(2, .int (nI (i + 1))), (1, .int (x_acc (fun k => xb (v.2.2.2.2.2.1 k)) 0 i)), (0, .ref m0)]) hx hb dX5_end_156 hl (k := 0) rfl (nI_1 i) (by decide) rfl (fun ls hl => ?_)
              refine lv_goto (tgt := 110) hx hb dX5_end_159 (by decide) ?_
              have hxi : v.2.2.2.2.2.1 i = false := x_n1 c_128
              rw [x_efi_n (x_er v) hxi] at hP hD
              rw [x_acc0_e (g := v.2.2.2.2.2.1) (fun _ => rfl) hxi] at hl
              exact ih (i + 1) H locs ls (by omega) hP hD hS (lv_sub hl [0, 1, 2] rfl)
            · skip
              refine lv_aload_n hx hb dX5_end_131 rfl (lv_at hl 2 rfl) ?_
              refine va_get (D := D) (ci := 4) (v := .ref ms) (C := RX5) (T := TX5) (N := 5) hx hb hts hiX5 hown hK hP 0 rfl rfl 0 (by decide) (hts (.fieldLink RX5 7 "PointerSweepModel" "st" "[I") (by decide +kernel)) (fun _ h9 => h9) rfl dX5_end_132 ?_
              refine lv_sipush (v := 1320) hx hb dX5_end_135 (by decide) ?_
              refine lv_iload_n hx hb dX5_end_138 rfl (lv_at hl 0 rfl) ?_
              refine lv_iadd hx hb dX5_end_139 ?_
              refine lv_iconst (v := 0) hx hb dX5_end_140 (by decide) ?_
              refine xa_iast (ws' := [(m0, .inr (4, [.ref ms, .ref mb, .int (nI kp), .ref mw, .ref mm])), (ms, .inl (cI, 2128, .inl (upd (xf (x_efi (x_er v) i)) (1320 + i) 0))), (mb, .inl (cI, 2128, .inl (xf v))), (mw, .inl (cI, 51072, .inl w)), (mm, .inl (cI, 320, .inl mi))]) hx hb hK hP hD hS 1 0 rfl rfl (1320 + i) (nI_add 1320 i) (by omega) (by decide) dX5_end_141 rfl (fun H locs hP hD hS => ?_)
              refine lv_aload_n hx hb dX5_end_142 rfl (lv_at hl 2 rfl) ?_
              refine va_get (D := D) (ci := 4) (v := .ref ms) (C := RX5) (T := TX5) (N := 5) hx hb hts hiX5 hown hK hP 0 rfl rfl 0 (by decide) (hts (.fieldLink RX5 7 "PointerSweepModel" "st" "[I") (by decide +kernel)) (fun _ h9 => h9) rfl dX5_end_143 ?_
              refine lv_sipush (v := 1576) hx hb dX5_end_146 (by decide) ?_
              refine lv_iload_n hx hb dX5_end_149 rfl (lv_at hl 0 rfl) ?_
              refine lv_iadd hx hb dX5_end_150 ?_
              refine lv_iconst (v := 0) hx hb dX5_end_151 (by decide) ?_
              refine xa_iast (ws' := [(m0, .inr (4, [.ref ms, .ref mb, .int (nI kp), .ref mw, .ref mm])), (ms, .inl (cI, 2128, .inl (upd (upd (xf (x_efi (x_er v) i)) (1320 + i) 0) (1576 + i) 0))), (mb, .inl (cI, 2128, .inl (xf v))), (mw, .inl (cI, 51072, .inl w)), (mm, .inl (cI, 320, .inl mi))]) hx hb hK hP hD hS 1 0 rfl rfl (1576 + i) (nI_add 1576 i) (by omega) (by decide) dX5_end_152 rfl (fun H locs hP hD hS => ?_)
              rw [m_efi (x_er v) (by omega) (xb_one.mp c_128) (by cases hh : v.2.2.2.1 i with | false => exact hh | true => exact absurd (hXQ i (xb_one.mp c_128)) (by rw [hGQ i hh]; decide))] at hP hD
              refine lv_iinc (v := (x_acc (fun k => xb (v.2.2.2.2.2.1 k)) 0 (i + 1))) (lv' := [(1, .int (x_acc (fun k => xb (v.2.2.2.2.2.1 k)) 0 (i + 1))), (2, .int (nI i)), (0, .ref m0)]) hx hb dX5_end_153 hl (k := 1) rfl (x_acc0_t (g := v.2.2.2.2.2.1) (fun _ => rfl) (xb_one.mp c_128)) (by decide) rfl (fun ls hl => ?_)
              refine lv_iinc (v := (nI (i + 1))) (lv' := [(2, .int (nI (i + 1))), (1, .int (x_acc (fun k => xb (v.2.2.2.2.2.1 k)) 0 (i + 1))), (0, .ref m0)]) hx hb dX5_end_156 hl (k := 1) rfl (nI_1 i) (by decide) rfl (fun ls hl => ?_)
              refine lv_goto (tgt := 110) hx hb dX5_end_159 (by decide) ?_
              exact ih (i + 1) H locs ls (by omega) hP hD hS (lv_sub hl [0, 1, 2] rfl)
      have loop1 : ∀ (n i : Nat) (H : Heap) (locs : List Loc) (ls : Array Slot), i + n = 16 → va_P D vwCl ([(m0, .inr (4, [.ref ms, .ref mb, .int (nI kp), .ref mw, .ref mm])), (ms, .inl (cI, 2128, .inl (xf (x_edi v i)))), (mb, .inl (cI, 2128, .inl (xf v))), (mw, .inl (cI, 51072, .inl w)), (mm, .inl (cI, 320, .inl mi))]) H → va_D (xk_in W0v) ([(m0, .inr (4, [.ref ms, .ref mb, .int (nI kp), .ref mw, .ref mm])), (ms, .inl (cI, 2128, .inl (xf (x_edi v i)))), (mb, .inl (cI, 2128, .inl (xf v))), (mw, .inl (cI, 51072, .inl w)), (mm, .inl (cI, 320, .inl mi))]) → va_S (xk_in W0v) s.heap H locs → lv_has ls 3 [(1, .int (nI i)), (0, .ref m0)] → W p l e ({ frames := 3, cells := 0, slots := 0, locals := 72 }) s m ([.ref m0]).toArray below meth c H locs 0 0 (MQ below (xk_W D vwCl W0v W1v (some (.int (sp_end v).1))) ([.ref m0]).toArray s 0 0 (xk_in W0v)) (F0 m 27 ls []) := by
        intro n
        induction n with
        | zero =>
          intro i H locs ls hn hP hD hS hl
          have hin : i = 16 := hn
          rw [hin] at hP hD
          refine lv_iload_n hx hb dX5_end_27 rfl (lv_at hl 0 rfl) ?_
          refine lv_bipush (v := 16) hx hb dX5_end_28 (by decide) ?_
          refine lv_icmp_ge (tgt := 86) hx hb dX5_end_30 (by decide) (fun c_30 => ?_) (fun c_30 => ?_)
          · skip
            refine lv_aload_n hx hb dX5_end_86 rfl (lv_at hl 1 rfl) ?_
            refine va_get (D := D) (ci := 4) (v := .ref ms) (C := RX5) (T := TX5) (N := 5) hx hb hts hiX5 hown hK hP 0 rfl rfl 0 (by decide) (hts (.fieldLink RX5 7 "PointerSweepModel" "st" "[I") (by decide +kernel)) (fun _ h9 => h9) rfl dX5_end_87 ?_
            refine lv_sipush (v := 2123) hx hb dX5_end_90 (by decide) ?_
            refine lv_dup2_11 hx hb dX5_end_93 rfl rfl ?_
            refine xa_iald hx hb hK hP 1 0 rfl rfl (2121 + 2) rfl (by decide) (by decide) dX5_end_94 ?_
            refine lv_topi (fun y ey => ?_)
            obtain rfl : y = (x_edi v 16).2.2.1 2 := ey.trans (xf_t _ (by decide))
            refine lv_aload_n hx hb dX5_end_95 rfl (lv_at hl 1 rfl) ?_
            refine lv_sipush (v := 1280) hx hb dX5_end_96 (by decide) ?_
            refine lv_bipush (v := 8) hx hb dX5_end_99 (by decide) ?_
            refine xk_callW (ws' := [(m0, .inr (4, [.ref ms, .ref mb, .int (nI kp), .ref mw, .ref mm])), (ms, .inl (cI, 2128, .inl (xf (x_clr_ (x_edi v 16) 0 (0 + 8))))), (mb, .inl (cI, 2128, .inl (xf v))), (mw, .inl (cI, 51072, .inl w)), (mm, .inl (cI, 320, .inl mi))]) (va_runV (As := [.int 1280, .int 8]) (rest := [.int ((x_edi v 16).2.2.1 2), .int 2123, .ref ms]) ⟨hx, hb, hml, hown, hts⟩ (j_cleanR l D cI cJ cS m0 ms mb mw mm (x_edi v 16) (xf v) w mi kp hX hv.2.1 0 8 (by decide)) (cwV 2 hts gX5_end_X5_clean rfl rfl rfl (by decide +kernel) ⟨Nat.le_of_ble_eq_true rfl, Nat.le_of_ble_eq_true rfl⟩) (xk_preVw hK hN hP hD [0, 1, 2, 3, 4] rfl rfl (ci := 4) rfl 0 rfl) rfl rfl hl.1 rfl (lv_room (Nat.le_of_ble_eq_true rfl)) dX5_end_101 ⟨Nat.zero_le _, Nat.zero_le _⟩) hP hD hS [0, 1, 2, 3, 4] rfl rfl rfl (fun H locs hP hD hS => ?_)
            refine lv_iadd hx hb dX5_end_104 ?_
            refine xa_iast (ws' := [(m0, .inr (4, [.ref ms, .ref mb, .int (nI kp), .ref mw, .ref mm])), (ms, .inl (cI, 2128, .inl (upd (xf (x_clr_ (x_edi v 16) 0 (0 + 8))) (2121 + 2) (((x_edi v 16).2.2.1 2) + (x_cn (x_edi v 16).2.2.2.2.2.1 (x_edi v 16).2.1 0 (0 + 8)))))), (mb, .inl (cI, 2128, .inl (xf v))), (mw, .inl (cI, 51072, .inl w)), (mm, .inl (cI, 320, .inl mi))]) hx hb hK hP hD hS 1 0 rfl rfl (2121 + 2) rfl (by decide) (by decide) dX5_end_105 rfl (fun H locs hP hD hS => ?_)
            rw [xf_ut _ (by decide), show x_tal (x_clr_ (x_edi v 16) 0 (0 + 8)) 2 ((x_edi v 16).2.2.1 2 + x_cn (x_edi v 16).2.2.2.2.2.1 (x_edi v 16).2.1 0 (0 + 8)) = x_er v from rfl] at hP hD
            refine lv_iconst (v := 0) hx hb dX5_end_106 (by decide) ?_
            refine lv_topi (fun y ey => ?_)
            obtain rfl : y = x_acc (fun k => xb (v.2.2.2.2.2.1 k)) 0 0 := ey.trans rfl
            refine lv_istore_n (lv' := [(1, .int (x_acc (fun k => xb (v.2.2.2.2.2.1 k)) 0 0)), (0, .ref m0)]) hx hb dX5_end_107 rfl hl (by decide) rfl (fun ls hl => ?_)
            refine lv_iconst (v := 0) hx hb dX5_end_108 (by decide) ?_
            refine lv_istore_n (lv' := [(2, .int 0), (1, .int (x_acc (fun k => xb (v.2.2.2.2.2.1 k)) 0 0)), (0, .ref m0)]) hx hb dX5_end_109 rfl hl (by decide) rfl (fun ls hl => ?_)
            refine loop2 256 0 H locs ls rfl ?_ ?_ hS (lv_sub hl [0, 1, 2] rfl)
            · rw [x_efi_0]; exact hP
            · rw [x_efi_0]; exact hD
          · skip
            exact absurd (nI_le (a := 16) (b := i) (by omega) (by omega)) c_30
        | succ n ih =>
          intro i H locs ls hn hP hD hS hl
          refine lv_iload_n hx hb dX5_end_27 rfl (lv_at hl 0 rfl) ?_
          refine lv_bipush (v := 16) hx hb dX5_end_28 (by decide) ?_
          refine lv_icmp_ge (tgt := 86) hx hb dX5_end_30 (by decide) (fun c_30 => ?_) (fun c_30 => ?_)
          · skip
            exact absurd (xn_le_of (a := 16) (by decide) (by omega) c_30) (by omega)
          · skip
            refine lv_aload_n hx hb dX5_end_33 rfl (lv_at hl 1 rfl) ?_
            refine va_get (D := D) (ci := 4) (v := .ref ms) (C := RX5) (T := TX5) (N := 5) hx hb hts hiX5 hown hK hP 0 rfl rfl 0 (by decide) (hts (.fieldLink RX5 7 "PointerSweepModel" "st" "[I") (by decide +kernel)) (fun _ h9 => h9) rfl dX5_end_34 ?_
            refine lv_sipush (v := 2104) hx hb dX5_end_37 (by decide) ?_
            refine lv_iload_n hx hb dX5_end_40 rfl (lv_at hl 0 rfl) ?_
            refine lv_iadd hx hb dX5_end_41 ?_
            refine xa_iald hx hb hK hP 1 0 rfl rfl (2104 + i) (nI_add 2104 i) (by omega) (by decide) dX5_end_42 ?_
            refine lv_topi (fun y ey => ?_)
            obtain rfl : y = xb (v.2.2.2.2.2.2.2.2.2 i) := ey.trans (xf_d (x_edi v i) (by omega))
            refine lv_iconst (v := 1) hx hb dX5_end_43 (by decide) ?_
            refine lv_icmp_ne (tgt := 80) hx hb dX5_end_44 (by decide) (fun c_44 => ?_) (fun c_44 => ?_)
            · skip
              refine lv_iinc (v := (nI (i + 1))) (lv' := [(1, .int (nI (i + 1))), (0, .ref m0)]) hx hb dX5_end_80 hl (k := 0) rfl (nI_1 i) (by decide) rfl (fun ls hl => ?_)
              refine lv_goto (tgt := 27) hx hb dX5_end_83 (by decide) ?_
              rw [x_edi_n v (xb_00 (x_n1 c_44)).symm] at hP hD
              exact ih (i + 1) H locs ls (by omega) hP hD hS (lv_sub hl [0, 1] rfl)
            · skip
              refine lv_aload_n hx hb dX5_end_47 rfl (lv_at hl 1 rfl) ?_
              refine va_get (D := D) (ci := 4) (v := .ref ms) (C := RX5) (T := TX5) (N := 5) hx hb hts hiX5 hown hK hP 0 rfl rfl 0 (by decide) (hts (.fieldLink RX5 7 "PointerSweepModel" "st" "[I") (by decide +kernel)) (fun _ h9 => h9) rfl dX5_end_48 ?_
              refine lv_sipush (v := 2122) hx hb dX5_end_51 (by decide) ?_
              refine lv_dup2_11 hx hb dX5_end_54 rfl rfl ?_
              refine xa_iald hx hb hK hP 1 0 rfl rfl (2121 + 1) rfl (by decide) (by decide) dX5_end_55 ?_
              refine lv_topi (fun y ey => ?_)
              obtain rfl : y = (x_edi v i).2.2.1 1 := ey.trans (xf_t _ (by decide))
              refine lv_aload_n hx hb dX5_end_56 rfl (lv_at hl 1 rfl) ?_
              refine lv_bipush (v := 80) hx hb dX5_end_57 (by decide) ?_
              refine lv_iload_n hx hb dX5_end_59 rfl (lv_at hl 0 rfl) ?_
              refine lv_imul hx hb dX5_end_60 ?_
              refine lv_topi (fun y ey => ?_)
              obtain rfl : y = nI (5 * (16 * i)) := ey.trans (by rw [show (80 : Int32) = nI 80 from rfl, pk_mul, ← Nat.mul_assoc])
              refine lv_bipush (v := 16) hx hb dX5_end_61 (by decide) ?_
              refine xk_callW (ws' := [(m0, .inr (4, [.ref ms, .ref mb, .int (nI kp), .ref mw, .ref mm])), (ms, .inl (cI, 2128, .inl (xf (x_clm (x_edi v i) (16 * i) ((16 * i) + 16))))), (mb, .inl (cI, 2128, .inl (xf v))), (mw, .inl (cI, 51072, .inl w)), (mm, .inl (cI, 320, .inl mi))]) (va_runV (As := [.int (nI (5 * (16 * i))), .int 16]) (rest := [.int ((x_edi v i).2.2.1 1), .int 2122, .ref ms]) ⟨hx, hb, hml, hown, hts⟩ (j_cleanM l D cI cJ cS m0 ms mb mw mm (x_edi v i) (xf v) w mi kp hX (x_edi_ok hv.1 i) (16 * i) 16 (by omega)) (cwV 2 hts gX5_end_X5_clean rfl rfl rfl (by decide +kernel) ⟨Nat.le_of_ble_eq_true rfl, Nat.le_of_ble_eq_true rfl⟩) (xk_preVw hK hN hP hD [0, 1, 2, 3, 4] rfl rfl (ci := 4) rfl 0 rfl) rfl rfl hl.1 rfl (lv_room (Nat.le_of_ble_eq_true rfl)) dX5_end_63 ⟨Nat.zero_le _, Nat.zero_le _⟩) hP hD hS [0, 1, 2, 3, 4] rfl rfl rfl (fun H locs hP hD hS => ?_)
              refine lv_iadd hx hb dX5_end_66 ?_
              refine xa_iast (ws' := [(m0, .inr (4, [.ref ms, .ref mb, .int (nI kp), .ref mw, .ref mm])), (ms, .inl (cI, 2128, .inl (upd (xf (x_clm (x_edi v i) (16 * i) ((16 * i) + 16))) (2121 + 1) (((x_edi v i).2.2.1 1) + (x_cn (x_edi v i).2.2.2.2.2.1 (x_edi v i).1 (16 * i) ((16 * i) + 16)))))), (mb, .inl (cI, 2128, .inl (xf v))), (mw, .inl (cI, 51072, .inl w)), (mm, .inl (cI, 320, .inl mi))]) hx hb hK hP hD hS 1 0 rfl rfl (2121 + 1) rfl (by decide) (by decide) dX5_end_67 rfl (fun H locs hP hD hS => ?_)
              rw [xf_ut _ (by decide)] at hP hD
              refine lv_aload_n hx hb dX5_end_68 rfl (lv_at hl 1 rfl) ?_
              refine va_get (D := D) (ci := 4) (v := .ref ms) (C := RX5) (T := TX5) (N := 5) hx hb hts hiX5 hown hK hP 0 rfl rfl 0 (by decide) (hts (.fieldLink RX5 7 "PointerSweepModel" "st" "[I") (by decide +kernel)) (fun _ h9 => h9) rfl dX5_end_69 ?_
              refine lv_sipush (v := 2126) hx hb dX5_end_72 (by decide) ?_
              refine lv_dup2_11 hx hb dX5_end_75 rfl rfl ?_
              refine xa_iald hx hb hK hP 1 0 rfl rfl (2121 + 5) rfl (by decide) (by decide) dX5_end_76 ?_
              refine lv_topi (fun y ey => ?_)
              obtain rfl : y = (x_tal (x_clm (x_edi v i) (16 * i) (16 * i + 16)) 1 ((x_edi v i).2.2.1 1 + x_cn (x_edi v i).2.2.2.2.2.1 (x_edi v i).1 (16 * i) (16 * i + 16))).2.2.1 5 := ey.trans (xf_t _ (by decide))
              refine lv_iconst (v := 1) hx hb dX5_end_77 (by decide) ?_
              refine lv_iadd hx hb dX5_end_78 ?_
              refine xa_iast (ws' := [(m0, .inr (4, [.ref ms, .ref mb, .int (nI kp), .ref mw, .ref mm])), (ms, .inl (cI, 2128, .inl (upd (xf (x_tal (x_clm (x_edi v i) (16 * i) (16 * i + 16)) 1 ((x_edi v i).2.2.1 1 + x_cn (x_edi v i).2.2.2.2.2.1 (x_edi v i).1 (16 * i) (16 * i + 16)))) (2121 + 5) (((x_tal (x_clm (x_edi v i) (16 * i) (16 * i + 16)) 1 ((x_edi v i).2.2.1 1 + x_cn (x_edi v i).2.2.2.2.2.1 (x_edi v i).1 (16 * i) (16 * i + 16))).2.2.1 5) + 1)))), (mb, .inl (cI, 2128, .inl (xf v))), (mw, .inl (cI, 51072, .inl w)), (mm, .inl (cI, 320, .inl mi))]) hx hb hK hP hD hS 1 0 rfl rfl (2121 + 5) rfl (by decide) (by decide) dX5_end_79 rfl (fun H locs hP hD hS => ?_)
              rw [xf_ut _ (by decide), show x_tal (x_tal (x_clm (x_edi v i) (16 * i) (16 * i + 16)) 1 ((x_edi v i).2.2.1 1 + x_cn (x_edi v i).2.2.2.2.2.1 (x_edi v i).1 (16 * i) (16 * i + 16))) 5 ((x_tal (x_clm (x_edi v i) (16 * i) (16 * i + 16)) 1 ((x_edi v i).2.2.1 1 + x_cn (x_edi v i).2.2.2.2.2.1 (x_edi v i).1 (16 * i) (16 * i + 16))).2.2.1 5 + 1) = x_edi v (i + 1) from x_edi_y v (by rw [c_44]; decide)] at hP hD
              refine lv_iinc (v := (nI (i + 1))) (lv' := [(1, .int (nI (i + 1))), (0, .ref m0)]) hx hb dX5_end_80 hl (k := 0) rfl (nI_1 i) (by decide) rfl (fun ls hl => ?_)
              refine lv_goto (tgt := 27) hx hb dX5_end_83 (by decide) ?_
              exact ih (i + 1) H locs ls (by omega) hP hD hS (lv_sub hl [0, 1] rfl)
      refine loop1 16 0 H locs ls rfl ?_ ?_ hS (lv_sub hl [0, 1] rfl)
      · rw [x_edi_0]; exact hP
      · rw [x_edi_0]; exact hD
    · skip
      have e9 : sp_end v = (-2, none) := if_neg (fun z => x_bt c_15 (decide_eq_true z.2))
      refine lv_bipush (v := (-2)) hx hb dX5_end_18 (by decide) ?_
      exact xk_iretW hx hb hr hlk hP hS (by rw [e9]) (by rw [← hW1, e9]; rfl) dX5_end_20
