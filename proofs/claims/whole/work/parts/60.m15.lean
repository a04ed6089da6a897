section XM14
def x_cpo (f g : Nat → Int32) (o n : Nat) : Nat → Int32 := fun j => if j < n then f (o + j) else g j
theorem x_cpo_0 (f g : Nat → Int32) (o : Nat) : x_cpo f g o 0 = g := by funext j; simp [x_cpo]
theorem x_cpo_s (f g : Nat → Int32) (o n : Nat) : upd (x_cpo f g o n) n (f (o + n)) = x_cpo f g o (n + 1) := by
  funext j
  by_cases h : j = n
  · subst h; simp [upd, x_cpo]
  · simp only [upd, x_cpo, if_neg h]
    by_cases h2 : j < n
    · rw [if_pos h2, if_pos (by omega)]
    · rw [if_neg h2, if_neg (by omega)]
theorem m_mid (v : xV) {mi : Nat → Int32} {b n i j : Nat} (hi : i < n) (hb : b + n ≤ 256) (hj : j < 5) : x_cpo (xf v) mi (5 * b) (5 * n) (5 * i + j) = wc (v.1 (b + i)) j := by
  simp only [x_cpo]
  rw [if_pos (by omega), show 5 * b + (5 * i + j) = 5 * (b + i) + j by omega, xf_m v (by omega) hj]
def x_mi (o : Option xV) (mi mj : Nat → Int32) : Nat → Int32 := match o with
  | none => mi
  | some _ => mj
theorem x_blk_0 (v : xV) (a b : Nat) : x_blk v a b 0 = v := by unfold x_blk; rw [x_mov_0]; rfl
theorem m_blk_t (v : xV) {a b i : Nat} (h : ¬ xb (x_stale v.2.2.2.2.2.1 (v.1 (b + i))) = 0) : x_ldy (x_tal (x_mem (x_mem (x_blk v a b i) (a + i) (v.1 (b + i))) (a + i) (((x_mem (x_blk v a b i) (a + i) (v.1 (b + i))).1 (a + i)).1, none)) 3 ((x_blk v a b i).2.2.1 3 + 1)) (a + i) = x_blk v a b (i + 1) := by
  have e1 : (x_mem (x_blk v a b i) (a + i) (v.1 (b + i))).1 (a + i) = v.1 (b + i) := va_up_self _ _ _
  rw [e1]
  have e2 : (x_tal (x_mem (x_mem (x_blk v a b i) (a + i) (v.1 (b + i))) (a + i) ((v.1 (b + i)).1, none)) 3 ((x_blk v a b i).2.2.1 3 + 1)).1 = x_mov v.2.2.2.2.2.1 v.1 a b (i + 1) := by
    show va_up (va_up (x_mov v.2.2.2.2.2.1 v.1 a b i) (a + i) (v.1 (b + i))) (a + i) ((v.1 (b + i)).1, none) = _
    rw [bx_uu, ← x_lk_t h, x_mov_s]
  have e3 : x_mov v.2.2.2.2.2.1 v.1 a b (i + 1) (a + i) = x_lk v.2.2.2.2.2.1 (v.1 (b + i)) := by rw [← x_mov_s, va_up_self]
  have e4 : upd (x_tks v.2.2.2.2.2.1 v.1 b v.2.2.1 i) 3 (x_tks v.2.2.2.2.2.1 v.1 b v.2.2.1 i 3 + 1) = x_tks v.2.2.2.2.2.1 v.1 b v.2.2.1 (i + 1) := (x_tk_t h).symm
  unfold x_ldy
  rw [e2, e3]
  show (_, _, upd (x_tks v.2.2.2.2.2.1 v.1 b v.2.2.1 i) 3 (x_tks v.2.2.2.2.2.1 v.1 b v.2.2.1 i 3 + 1), _) = _
  rw [e4]
  rfl
theorem m_blk_f (v : xV) {a b i : Nat} (h : xb (x_stale v.2.2.2.2.2.1 (v.1 (b + i))) = 0) : x_ldy (x_mem (x_blk v a b i) (a + i) (v.1 (b + i))) (a + i) = x_blk v a b (i + 1) := by
  have e2 : (x_mem (x_blk v a b i) (a + i) (v.1 (b + i))).1 = x_mov v.2.2.2.2.2.1 v.1 a b (i + 1) := by
    show va_up (x_mov v.2.2.2.2.2.1 v.1 a b i) (a + i) (v.1 (b + i)) = _
    rw [← x_mov_s, x_lk_f h]
  have e3 : x_mov v.2.2.2.2.2.1 v.1 a b (i + 1) (a + i) = x_lk v.2.2.2.2.2.1 (v.1 (b + i)) := by rw [← x_mov_s, va_up_self]
  have e4 : x_tks v.2.2.2.2.2.1 v.1 b v.2.2.1 i = x_tks v.2.2.2.2.2.1 v.1 b v.2.2.1 (i + 1) := (x_tk_f h).symm
  unfold x_ldy
  rw [e2, e3]
  show (_, _, x_tks v.2.2.2.2.2.1 v.1 b v.2.2.1 i, _) = _
  rw [e4]
  rfl
end XM14
set_option maxHeartbeats 4000000 in
set_option maxRecDepth 100000 in
theorem y_block (l : Launch) (D : va_G) (cI cJ cS : ClassId) (m0 ms mb mw mm : Nat) (v : xV) (b w mi : Nat → Int32) (kp : Nat) (hkp : kp ≤ 24) (hv : x_ok v) (hX : v.2.2.2.2.2.2.2.1 = false → ∀ k, v.2.2.2.2.2.1 k = false) (hs0 : v.2.2.2.2.2.2.2.1 = false → v.2.2.2.2.2.2.2.2.1 = 0)  (q d t1 e1 n1 : Int32) : xk_Wr l yX5_block wsX5_block ({ frames := 2, cells := 0, slots := 0, locals := 48 }) D vwCl (xt cI cJ cS) (xm cI m0 ms mb mw mm v b w mi kp) [.ref m0, .int q, .int d, .int t1, .int e1, .int n1] (xmo cI m0 ms mb mw mm v b w (x_mi (sp_block v q d t1 e1 n1).2 mi (x_cpo (xf v) mi (5 * xN ((v.2.1 (xN t1)).1 + e1)) (5 * xN n1))) kp (sp_block v q d t1 e1 n1).2) (some (.int (sp_block v q d t1 e1 n1).1)) := by
  refine xk_wr2 (cc := cX5_block) (maxL := 11) (ret := (some .int)) (by decide) rfl (Nat.le_of_ble_eq_true rfl) (fun p e s m below meth c ls W0v W1v hW1 hx hb hr hlk hml hown hts hl hP hK hN hD hS => ?_)
  replace hl : lv_has ls 11 [(0, .ref m0), (1, .int q), (2, .int d), (3, .int t1), (4, .int e1), (5, .int n1)] := hl
  have hiX5 : ∀ w ∈ u_ws RX5 TX5 5, w ∈ wsX5_block := by decide +kernel
  replace hP : va_P D vwCl ([(m0, .inr (4, [.ref ms, .ref mb, .int (nI kp), .ref mw, .ref mm])), (ms, .inl (cI, 2128, .inl (xf v))), (mb, .inl (cI, 2128, .inl b)), (mw, .inl (cI, 51072, .inl w)), (mm, .inl (cI, 320, .inl mi))]) s.heap := hP
  replace hD : va_D _ ([(m0, .inr (4, [.ref ms, .ref mb, .int (nI kp), .ref mw, .ref mm])), (ms, .inl (cI, 2128, .inl (xf v))), (mb, .inl (cI, 2128, .inl b)), (mw, .inl (cI, 51072, .inl w)), (mm, .inl (cI, 320, .inl mi))]) := hD
  refine lv_iload_n hx hb dX5_block_0 rfl (lv_at hl 1 rfl) ?_
  refine xk_callR (va_runS (As := [.int q]) (rest := []) ⟨hx, hb, hml, hown, hts⟩ (j_isRegister l D cI cJ cS q) (va_cwS 1 hts gX5_block_X5_isRegister rfl rfl rfl (by decide +kernel) ⟨Nat.le_of_ble_eq_true rfl, Nat.le_of_ble_eq_true rfl⟩) (xk_preSr hK hN hP [] rfl) rfl rfl hl.1 rfl (lv_room (Nat.le_of_ble_eq_true rfl)) dX5_block_1 ⟨Nat.zero_le _, Nat.zero_le _⟩) ?_
  refine lv_if_eq (tgt := 27) hx hb dX5_block_4 (by decide) (fun c_4 => ?_) (fun c_4 => ?_)
  · skip
    have e9 : sp_block v q d t1 e1 n1 = (-1, none) := if_neg (fun z => x_bt c_4 z.1)
    refine lv_iconst (v := (-1)) hx hb dX5_block_27 (by decide) ?_
    exact xk_iretW hx hb hr hlk hP hS (by rw [e9]) (by rw [← hW1, e9]; rfl) dX5_block_28
  · skip
    refine lv_iload_n hx hb dX5_block_7 rfl (lv_at hl 3 rfl) ?_
    refine xk_callR (va_runS (As := [.int t1]) (rest := []) ⟨hx, hb, hml, hown, hts⟩ (j_isRegister l D cI cJ cS t1) (va_cwS 1 hts gX5_block_X5_isRegister rfl rfl rfl (by decide +kernel) ⟨Nat.le_of_ble_eq_true rfl, Nat.le_of_ble_eq_true rfl⟩) (xk_preSr hK hN hP [] rfl) rfl rfl hl.1 rfl (lv_room (Nat.le_of_ble_eq_true rfl)) dX5_block_8 ⟨Nat.zero_le _, Nat.zero_le _⟩) ?_
    refine lv_if_eq (tgt := 27) hx hb dX5_block_11 (by decide) (fun c_11 => ?_) (fun c_11 => ?_)
    · skip
      have e9 : sp_block v q d t1 e1 n1 = (-1, none) := if_neg (fun z => x_bt c_11 z.2.1)
      refine lv_iconst (v := (-1)) hx hb dX5_block_27 (by decide) ?_
      exact xk_iretW hx hb hr hlk hP hS (by rw [e9]) (by rw [← hW1, e9]; rfl) dX5_block_28
    · skip
      refine lv_iload hx hb dX5_block_14 (lv_at hl 5 rfl) ?_
      refine lv_i2l hx hb dX5_block_16 rfl ?_
      refine lv_lconst (v := 1) hx hb dX5_block_17 (by decide) ?_
      refine lv_ldc2 hx hb hown (hts (.constantLong RX5 46 (64)) (by decide +kernel)) dX5_block_18 ?_
      refine xk_callR (va_runS (As := [.long ((n1 : Int32).toInt64), .long 1, .long 64]) (rest := []) ⟨hx, hb, hml, hown, hts⟩ (j_in l D cI cJ cS ((n1 : Int32).toInt64) 1 64) (va_cwS 3 hts gX5_block_X5_in rfl rfl rfl (by decide +kernel) ⟨Nat.le_of_ble_eq_true rfl, Nat.le_of_ble_eq_true rfl⟩) (xk_preSr hK hN hP [] rfl) rfl rfl hl.1 rfl (lv_room (Nat.le_of_ble_eq_true rfl)) dX5_block_21 ⟨Nat.zero_le _, Nat.zero_le _⟩) ?_
      refine lv_if_ne (tgt := 29) hx hb dX5_block_24 (by decide) (fun c_24 => ?_) (fun c_24 => ?_)
      · skip
        obtain ⟨qk, hqk, eq⟩ := xi_of (xb_ne c_4)
        have hxq : xN q = qk := by rw [eq]; exact xN_nI (by omega)
        rw [eq] at hl
        obtain ⟨t1k, ht1k, et1⟩ := xi_of (xb_ne c_11)
        have hxt1 : xN t1 = t1k := by rw [et1]; exact xN_nI (by omega)
        rw [et1] at hl
        have hcond0 : xi q 8 = true ∧ xi t1 8 = true ∧ ¬ n1 < 1 ∧ n1 ≤ 64 := ⟨xb_ne c_4, xb_ne c_11, (m_1n (n := n1) (hi := 64) (M := 64) rfl).mp (xb_ne c_24)⟩
        refine lv_aload_n hx hb dX5_block_29 rfl (lv_at hl 0 rfl) ?_
        refine lv_iload_n hx hb dX5_block_30 rfl (lv_at hl 1 rfl) ?_
        refine lv_iconst (v := 2) hx hb dX5_block_31 (by decide) ?_
        refine lv_iload_n hx hb dX5_block_32 rfl (lv_at hl 2 rfl) ?_
        refine lv_iload hx hb dX5_block_33 (lv_at hl 5 rfl) ?_
        refine xk_callR (va_runV (As := [.int (nI qk), .int 2, .int d, .int n1]) (rest := []) ⟨hx, hb, hml, hown, hts⟩ (j_against l D cI cJ cS m0 ms mb mw mm v b w mi kp qk hqk (x_ok_r hv qk) 2 d n1) (cwV 4 hts gX5_block_X5_against rfl rfl rfl (by decide +kernel) ⟨Nat.le_of_ble_eq_true rfl, Nat.le_of_ble_eq_true rfl⟩) (xk_preVr hK hN hP [0, 1, 2, 3, 4] rfl (ci := 4) rfl 0 rfl) rfl rfl hl.1 rfl (lv_room (Nat.le_of_ble_eq_true rfl)) dX5_block_35 ⟨Nat.zero_le _, Nat.zero_le _⟩) ?_
        refine lv_istore (lv' := [(6, .int (x_fault (v.2.1 qk) 2 d n1)), (0, .ref m0), (1, .int (nI qk)), (2, .int d), (3, .int (nI t1k)), (4, .int e1), (5, .int n1)]) hx hb dX5_block_38 hl (by decide) rfl (fun ls hl => ?_)
        refine lv_iload hx hb dX5_block_40 (lv_at hl 0 rfl) ?_
        refine lv_if_eq (tgt := 50) hx hb dX5_block_42 (by decide) (fun c_42 => ?_) (fun c_42 => ?_)
        · skip
          refine lv_aload_n hx hb dX5_block_50 rfl (lv_at hl 1 rfl) ?_
          refine lv_iload_n hx hb dX5_block_51 rfl (lv_at hl 4 rfl) ?_
          refine lv_iconst (v := 1) hx hb dX5_block_52 (by decide) ?_
          refine lv_iload hx hb dX5_block_53 (lv_at hl 5 rfl) ?_
          refine lv_iload hx hb dX5_block_55 (lv_at hl 6 rfl) ?_
          refine xk_callR (va_runV (As := [.int (nI t1k), .int 1, .int e1, .int n1]) (rest := []) ⟨hx, hb, hml, hown, hts⟩ (j_against l D cI cJ cS m0 ms mb mw mm v b w mi kp t1k ht1k (x_ok_r hv t1k) 1 e1 n1) (cwV 4 hts gX5_block_X5_against rfl rfl rfl (by decide +kernel) ⟨Nat.le_of_ble_eq_true rfl, Nat.le_of_ble_eq_true rfl⟩) (xk_preVr hK hN hP [0, 1, 2, 3, 4] rfl (ci := 4) rfl 0 rfl) rfl rfl hl.1 rfl (lv_room (Nat.le_of_ble_eq_true rfl)) dX5_block_57 ⟨Nat.zero_le _, Nat.zero_le _⟩) ?_
          refine lv_istore (lv' := [(6, .int (x_fault (v.2.1 t1k) 1 e1 n1)), (0, .ref m0), (1, .int (nI qk)), (2, .int d), (3, .int (nI t1k)), (4, .int e1), (5, .int n1)]) hx hb dX5_block_60 hl (by decide) rfl (fun ls hl => ?_)
          refine lv_iload hx hb dX5_block_62 (lv_at hl 0 rfl) ?_
          refine lv_if_eq (tgt := 70) hx hb dX5_block_64 (by decide) (fun c_64 => ?_) (fun c_64 => ?_)
          · skip
            have hnn := (m_1n (n := n1) (hi := 64) (M := 64) rfl).mp (xb_ne c_24)
            have hcond : xi q 8 = true ∧ xi t1 8 = true ∧ ¬ n1 < 1 ∧ n1 ≤ 64 := ⟨xb_ne c_4, xb_ne c_11, hnn.1, hnn.2⟩
            obtain ⟨nk, hn1, hn2, en, hxn⟩ := x_1n (M := 64) (m := 64) rfl hnn.1 hnn.2
            obtain ⟨ak, ea, hak, hxa⟩ := x_fault0 (nk := nk) (hv.2.1 qk) c_42 en (by omega)
            obtain ⟨bk, eb, hbk, hxb⟩ := x_fault0 (nk := nk) (hv.2.1 t1k) c_64 en (by omega)
            rw [en] at hl
            refine lv_aload_n hx hb dX5_block_70 rfl (lv_at hl 1 rfl) ?_
            refine xk_callW (ws' := [(m0, .inr (4, [.ref ms, .ref mb, .int (nI kp), .ref mw, .ref mm])), (ms, .inl (cI, 2128, .inl (xf v))), (mb, .inl (cI, 2128, .inl (xf v))), (mw, .inl (cI, 51072, .inl w)), (mm, .inl (cI, 320, .inl mi))]) (va_runV (As := []) (rest := []) ⟨hx, hb, hml, hown, hts⟩ (j_begin l D cI cJ cS m0 ms mb mw mm (xf v) b w mi kp ) (cwV 0 hts gX5_block_X5_begin rfl rfl rfl (by decide +kernel) ⟨Nat.le_of_ble_eq_true rfl, Nat.le_of_ble_eq_true rfl⟩) (xk_preVw hK hN hP hD [0, 1, 2, 3, 4] rfl rfl (ci := 4) rfl 0 rfl) rfl rfl hl.1 rfl (lv_room (Nat.le_of_ble_eq_true rfl)) dX5_block_71 ⟨Nat.zero_le _, Nat.zero_le _⟩) hP hD hS [0, 1, 2, 3, 4] rfl rfl rfl (fun H locs hP hD hS => ?_)
            refine lv_aload_n hx hb dX5_block_74 rfl (lv_at hl 1 rfl) ?_
            refine lv_iload_n hx hb dX5_block_75 rfl (lv_at hl 2 rfl) ?_
            refine lv_iload_n hx hb dX5_block_76 rfl (lv_at hl 3 rfl) ?_
            refine xk_callR (va_runV (As := [.int (nI qk), .int d]) (rest := []) ⟨hx, hb, hml, hown, hts⟩ (j_cellOf l D cI cJ cS m0 ms mb mw mm v (xf v) w mi kp qk hqk d) (cwV 2 hts gX5_block_X5_cellOf rfl rfl rfl (by decide +kernel) ⟨Nat.le_of_ble_eq_true rfl, Nat.le_of_ble_eq_true rfl⟩) (xk_preVr hK hN hP [0, 1, 2, 3, 4] rfl (ci := 4) rfl 0 rfl) rfl rfl hl.1 rfl (lv_room (Nat.le_of_ble_eq_true rfl)) dX5_block_77 ⟨Nat.zero_le _, Nat.zero_le _⟩) ?_
            refine lv_topi (fun y ey => ?_)
            obtain rfl : y = nI ak := ey.trans ea
            refine lv_istore (lv' := [(7, .int (nI ak)), (6, .int (x_fault (v.2.1 t1k) 1 e1 (nI nk))), (0, .ref m0), (1, .int (nI qk)), (2, .int d), (3, .int (nI t1k)), (4, .int e1), (5, .int (nI nk))]) hx hb dX5_block_80 hl (by decide) rfl (fun ls hl => ?_)
            refine lv_aload_n hx hb dX5_block_82 rfl (lv_at hl 2 rfl) ?_
            refine lv_iload_n hx hb dX5_block_83 rfl (lv_at hl 5 rfl) ?_
            refine lv_iload hx hb dX5_block_84 (lv_at hl 6 rfl) ?_
            refine xk_callR (va_runV (As := [.int (nI t1k), .int e1]) (rest := []) ⟨hx, hb, hml, hown, hts⟩ (j_cellOf l D cI cJ cS m0 ms mb mw mm v (xf v) w mi kp t1k ht1k e1) (cwV 2 hts gX5_block_X5_cellOf rfl rfl rfl (by decide +kernel) ⟨Nat.le_of_ble_eq_true rfl, Nat.le_of_ble_eq_true rfl⟩) (xk_preVr hK hN hP [0, 1, 2, 3, 4] rfl (ci := 4) rfl 0 rfl) rfl rfl hl.1 rfl (lv_room (Nat.le_of_ble_eq_true rfl)) dX5_block_86 ⟨Nat.zero_le _, Nat.zero_le _⟩) ?_
            refine lv_topi (fun y ey => ?_)
            obtain rfl : y = nI bk := ey.trans eb
            refine lv_istore (lv' := [(8, .int (nI bk)), (7, .int (nI ak)), (6, .int (x_fault (v.2.1 t1k) 1 e1 (nI nk))), (0, .ref m0), (1, .int (nI qk)), (2, .int d), (3, .int (nI t1k)), (4, .int e1), (5, .int (nI nk))]) hx hb dX5_block_89 hl (by decide) rfl (fun ls hl => ?_)
            refine lv_iconst (v := 0) hx hb dX5_block_91 (by decide) ?_
            refine lv_istore (lv' := [(9, .int 0), (8, .int (nI bk)), (7, .int (nI ak)), (6, .int (x_fault (v.2.1 t1k) 1 e1 (nI nk))), (0, .ref m0), (1, .int (nI qk)), (2, .int d), (3, .int (nI t1k)), (4, .int e1), (5, .int (nI nk))]) hx hb dX5_block_92 hl (by decide) rfl (fun ls hl => ?_)
            have loop2 : ∀ (n i : Nat) (H : Heap) (locs : List Loc) (ls : Array Slot), i + n = nk → va_P D vwCl ([(m0, .inr (4, [.ref ms, .ref mb, .int (nI kp), .ref mw, .ref mm])), (ms, .inl (cI, 2128, .inl (xf (x_blk v ak bk i)))), (mb, .inl (cI, 2128, .inl (xf v))), (mw, .inl (cI, 51072, .inl w)), (mm, .inl (cI, 320, .inl (x_cpo (xf v) mi (5 * bk) (5 * nk))))]) H → va_D (xk_in W0v) ([(m0, .inr (4, [.ref ms, .ref mb, .int (nI kp), .ref mw, .ref mm])), (ms, .inl (cI, 2128, .inl (xf (x_blk v ak bk i)))), (mb, .inl (cI, 2128, .inl (xf v))), (mw, .inl (cI, 51072, .inl w)), (mm, .inl (cI, 320, .inl (x_cpo (xf v) mi (5 * bk) (5 * nk))))]) → va_S (xk_in W0v) s.heap H locs → lv_has ls 11 [(9, .int (nI i)), (7, .int (nI ak)), (5, .int (nI nk)), (0, .ref m0)] → W p l e ({ frames := 2, cells := 0, slots := 0, locals := 48 }) s m ([.ref m0, .int q, .int d, .int t1, .int e1, .int n1]).toArray below meth c H locs 0 0 (MQ below (xk_W D vwCl W0v W1v (some (.int (sp_block v q d t1 e1 n1).1))) ([.ref m0, .int q, .int d, .int t1, .int e1, .int n1]).toArray s 0 0 (xk_in W0v)) (F0 m 131 ls []) := by
              intro n
              induction n with
              | zero =>
                intro i H locs ls hn hP hD hS hl
                have hin : i = nk := hn
                rw [hin] at hP hD
                refine lv_iload hx hb dX5_block_131 (lv_at hl 0 rfl) ?_
                refine lv_iload hx hb dX5_block_133 (lv_at hl 2 rfl) ?_
                refine lv_icmp_ge (tgt := 249) hx hb dX5_block_135 (by decide) (fun c_135 => ?_) (fun c_135 => ?_)
                · skip
                  refine lv_aload_n hx hb dX5_block_249 rfl (lv_at hl 3 rfl) ?_
                  refine lv_iload hx hb dX5_block_250 (lv_at hl 2 rfl) ?_
                  refine xk_callW (ws' := [(m0, .inr (4, [.ref ms, .ref mb, .int (nI (m_kp kp)), .ref mw, .ref mm])), (ms, .inl (cI, 2128, .inl (xf (x_blk v ak bk nk)))), (mb, .inl (cI, 2128, .inl (xf v))), (mw, .inl (cI, 51072, .inl (m_was (xf v) w kp))), (mm, .inl (cI, 320, .inl (x_cpo (xf v) mi (5 * bk) (5 * nk))))]) (va_runV (As := [.int (nI nk)]) (rest := []) ⟨hx, hb, hml, hown, hts⟩ (j_keeps l D cI cJ cS m0 ms mb mw mm (xf (x_blk v ak bk nk)) (xf v) w (x_cpo (xf v) mi (5 * bk) (5 * nk)) kp hkp (nI nk)) (cwV 1 hts gX5_block_X5_keeps rfl rfl rfl (by decide +kernel) ⟨Nat.le_of_ble_eq_true rfl, Nat.le_of_ble_eq_true rfl⟩) (xk_preVw hK hN hP hD [0, 1, 2, 3, 4] rfl rfl (ci := 4) rfl 0 rfl) rfl rfl hl.1 rfl (lv_room (Nat.le_of_ble_eq_true rfl)) dX5_block_252 ⟨Nat.zero_le _, Nat.zero_le _⟩) hP hD hS [0, 1, 2, 3, 4] rfl rfl rfl (fun H locs hP hD hS => ?_)
                  have e9 : sp_block v q d t1 e1 n1 = (nI nk, some (x_blk v ak bk nk)) := by unfold sp_block; rw [if_pos hcond, hxq, if_pos c_42, hxt1, if_pos c_64, hxa, hxb, hxn, en]
                  exact xk_iretW hx hb hr hlk hP hS (by rw [e9]) (by rw [← hW1, e9, hxt1, hxb, hxn]; rfl) dX5_block_255
                · skip
                  exact absurd (nI_le (a := nk) (b := i) (by omega) (by omega)) c_135
              | succ n ih =>
                intro i H locs ls hn hP hD hS hl
                refine lv_iload hx hb dX5_block_131 (lv_at hl 0 rfl) ?_
                refine lv_iload hx hb dX5_block_133 (lv_at hl 2 rfl) ?_
                refine lv_icmp_ge (tgt := 249) hx hb dX5_block_135 (by decide) (fun c_135 => ?_) (fun c_135 => ?_)
                · skip
                  exact absurd (xn_le_of (by omega) (by omega) c_135) (by omega)
                · skip
                  refine lv_iconst (v := 5) hx hb dX5_block_138 (by decide) ?_
                  refine lv_iload hx hb dX5_block_139 (lv_at hl 1 rfl) ?_
                  refine lv_iload hx hb dX5_block_141 (lv_at hl 0 rfl) ?_
                  refine lv_iadd hx hb dX5_block_143 ?_
                  refine lv_imul hx hb dX5_block_144 ?_
                  refine lv_topi (fun y ey => ?_)
                  obtain rfl : y = nI (5 * (ak + i)) := ey.trans (by rw [nI_add, show (5 : Int32) = nI 5 from rfl, pk_mul])
                  refine lv_istore (lv' := [(10, .int (nI (5 * (ak + i)))), (9, .int (nI i)), (7, .int (nI ak)), (5, .int (nI nk)), (0, .ref m0)]) hx hb dX5_block_145 hl (by decide) rfl (fun ls hl => ?_)
                  refine lv_aload_n hx hb dX5_block_147 rfl (lv_at hl 4 rfl) ?_
                  refine lv_iload hx hb dX5_block_148 (lv_at hl 0 rfl) ?_
                  refine lv_aload_n hx hb dX5_block_150 rfl (lv_at hl 4 rfl) ?_
                  refine va_get (D := D) (ci := 4) (v := .ref mm) (C := RX5) (T := TX5) (N := 5) hx hb hts hiX5 hown hK hP 0 rfl rfl 4 (by decide) (hts (.fieldLink RX5 20 "PointerSweepModel" "middle" "[I") (by decide +kernel)) (fun _ h9 => h9) rfl dX5_block_151 ?_
                  refine lv_iconst (v := 5) hx hb dX5_block_154 (by decide) ?_
                  refine lv_iload hx hb dX5_block_155 (lv_at hl 1 rfl) ?_
                  refine lv_imul hx hb dX5_block_157 ?_
                  refine xa_iald hx hb hK hP 4 0 rfl rfl (5 * i + 0) (by rw [show (5 : Int32) = nI 5 from rfl, pk_mul]; rfl) (by omega) (by decide) dX5_block_158 ?_
                  refine lv_topi (fun y ey => ?_)
                  obtain rfl : y = wc (v.1 (bk + i)) 0 := ey.trans (m_mid v (by omega) (by omega) (by decide))
                  refine lv_aload_n hx hb dX5_block_159 rfl (lv_at hl 4 rfl) ?_
                  refine va_get (D := D) (ci := 4) (v := .ref mm) (C := RX5) (T := TX5) (N := 5) hx hb hts hiX5 hown hK hP 0 rfl rfl 4 (by decide) (hts (.fieldLink RX5 20 "PointerSweepModel" "middle" "[I") (by decide +kernel)) (fun _ h9 => h9) rfl dX5_block_160 ?_
                  refine lv_iconst (v := 5) hx hb dX5_block_163 (by decide) ?_
                  refine lv_iload hx hb dX5_block_164 (lv_at hl 1 rfl) ?_
                  refine lv_imul hx hb dX5_block_166 ?_
                  refine lv_iconst (v := 1) hx hb dX5_block_167 (by decide) ?_
                  refine lv_iadd hx hb dX5_block_168 ?_
                  refine xa_iald hx hb hK hP 4 0 rfl rfl (5 * i + 1) (by rw [show (5 : Int32) = nI 5 from rfl, pk_mul]; exact nI_add (5 * i) 1) (by omega) (by decide) dX5_block_169 ?_
                  refine lv_topi (fun y ey => ?_)
                  obtain rfl : y = wc (v.1 (bk + i)) 1 := ey.trans (m_mid v (by omega) (by omega) (by decide))
                  refine lv_aload_n hx hb dX5_block_170 rfl (lv_at hl 4 rfl) ?_
                  refine va_get (D := D) (ci := 4) (v := .ref mm) (C := RX5) (T := TX5) (N := 5) hx hb hts hiX5 hown hK hP 0 rfl rfl 4 (by decide) (hts (.fieldLink RX5 20 "PointerSweepModel" "middle" "[I") (by decide +kernel)) (fun _ h9 => h9) rfl dX5_block_171 ?_
                  refine lv_iconst (v := 5) hx hb dX5_block_174 (by decide) ?_
                  refine lv_iload hx hb dX5_block_175 (lv_at hl 1 rfl) ?_
                  refine lv_imul hx hb dX5_block_177 ?_
                  refine lv_iconst (v := 2) hx hb dX5_block_178 (by decide) ?_
                  refine lv_iadd hx hb dX5_block_179 ?_
                  refine xa_iald hx hb hK hP 4 0 rfl rfl (5 * i + 2) (by rw [show (5 : Int32) = nI 5 from rfl, pk_mul]; exact nI_add (5 * i) 2) (by omega) (by decide) dX5_block_180 ?_
                  refine lv_topi (fun y ey => ?_)
                  obtain rfl : y = wc (v.1 (bk + i)) 2 := ey.trans (m_mid v (by omega) (by omega) (by decide))
                  refine lv_aload_n hx hb dX5_block_181 rfl (lv_at hl 4 rfl) ?_
                  refine va_get (D := D) (ci := 4) (v := .ref mm) (C := RX5) (T := TX5) (N := 5) hx hb hts hiX5 hown hK hP 0 rfl rfl 4 (by decide) (hts (.fieldLink RX5 20 "PointerSweepModel" "middle" "[I") (by decide +kernel)) (fun _ h9 => h9) rfl dX5_block_182 ?_
                  refine lv_iconst (v := 5) hx hb dX5_block_185 (by decide) ?_
                  refine lv_iload hx hb dX5_block_186 (lv_at hl 1 rfl) ?_
                  refine lv_imul hx hb dX5_block_188 ?_
                  refine lv_iconst (v := 3) hx hb dX5_block_189 (by decide) ?_
                  refine lv_iadd hx hb dX5_block_190 ?_
                  refine xa_iald hx hb hK hP 4 0 rfl rfl (5 * i + 3) (by rw [show (5 : Int32) = nI 5 from rfl, pk_mul]; exact nI_add (5 * i) 3) (by omega) (by decide) dX5_block_191 ?_
                  refine lv_topi (fun y ey => ?_)
                  obtain rfl : y = wc (v.1 (bk + i)) 3 := ey.trans (m_mid v (by omega) (by omega) (by decide))
                  refine lv_aload_n hx hb dX5_block_192 rfl (lv_at hl 4 rfl) ?_
                  refine va_get (D := D) (ci := 4) (v := .ref mm) (C := RX5) (T := TX5) (N := 5) hx hb hts hiX5 hown hK hP 0 rfl rfl 4 (by decide) (hts (.fieldLink RX5 20 "PointerSweepModel" "middle" "[I") (by decide +kernel)) (fun _ h9 => h9) rfl dX5_block_193 ?_
                  refine lv_iconst (v := 5) hx hb dX5_block_196 (by decide) ?_
                  refine lv_iload hx hb dX5_block_197 (lv_at hl 1 rfl) ?_
                  refine lv_imul hx hb dX5_block_199 ?_
                  refine lv_iconst (v := 4) hx hb dX5_block_200 (by decide) ?_
                  refine lv_iadd hx hb dX5_block_201 ?_
                  refine xa_iald hx hb hK hP 4 0 rfl rfl (5 * i + 4) (by rw [show (5 : Int32) = nI 5 from rfl, pk_mul]; exact nI_add (5 * i) 4) (by omega) (by decide) dX5_block_202 ?_
                  refine lv_topi (fun y ey => ?_)
                  obtain rfl : y = wc (v.1 (bk + i)) 4 := ey.trans (m_mid v (by omega) (by omega) (by decide))
                  refine xk_callW (ws' := [(m0, .inr (4, [.ref ms, .ref mb, .int (nI kp), .ref mw, .ref mm])), (ms, .inl (cI, 2128, .inl (u5 (xf (x_blk v ak bk i)) (5 * (ak + i)) (wc (v.1 (bk + i)) 0) (wc (v.1 (bk + i)) 1) (wc (v.1 (bk + i)) 2) (wc (v.1 (bk + i)) 3) (wc (v.1 (bk + i)) 4)))), (mb, .inl (cI, 2128, .inl (xf v))), (mw, .inl (cI, 51072, .inl w)), (mm, .inl (cI, 320, .inl (x_cpo (xf v) mi (5 * bk) (5 * nk))))]) (va_runV (As := [.int (nI (5 * (ak + i))), .int (wc (v.1 (bk + i)) 0), .int (wc (v.1 (bk + i)) 1), .int (wc (v.1 (bk + i)) 2), .int (wc (v.1 (bk + i)) 3), .int (wc (v.1 (bk + i)) 4)]) (rest := []) ⟨hx, hb, hml, hown, hts⟩ (j_set l D cI cJ cS m0 ms mb mw mm (xf (x_blk v ak bk i)) (xf v) w (x_cpo (xf v) mi (5 * bk) (5 * nk)) kp (5 * (ak + i)) (by omega) (wc (v.1 (bk + i)) 0) (wc (v.1 (bk + i)) 1) (wc (v.1 (bk + i)) 2) (wc (v.1 (bk + i)) 3) (wc (v.1 (bk + i)) 4)) (cwV 6 hts gX5_block_X5_set rfl rfl rfl (by decide +kernel) ⟨Nat.le_of_ble_eq_true rfl, Nat.le_of_ble_eq_true rfl⟩) (xk_preVw hK hN hP hD [0, 1, 2, 3, 4] rfl rfl (ci := 4) rfl 0 rfl) rfl rfl hl.1 rfl (lv_room (Nat.le_of_ble_eq_true rfl)) dX5_block_203 ⟨Nat.zero_le _, Nat.zero_le _⟩) hP hD hS [0, 1, 2, 3, 4] rfl rfl rfl (fun H locs hP hD hS => ?_)
                  rw [xf_um _ (by omega)] at hP hD
                  refine lv_aload_n hx hb dX5_block_206 rfl (lv_at hl 4 rfl) ?_
                  refine lv_iload hx hb dX5_block_207 (lv_at hl 0 rfl) ?_
                  refine xk_callR (va_runV (As := [.int (nI (5 * (ak + i)))]) (rest := []) ⟨hx, hb, hml, hown, hts⟩ (j_isStale l D cI cJ cS m0 ms mb mw mm (x_mem (x_blk v ak bk i) (ak + i) (v.1 (bk + i))) (xf v) w (x_cpo (xf v) mi (5 * bk) (5 * nk)) kp hX (5 * (ak + i)) (by omega) (v.1 (bk + i)) (hv.1 _) (fun j hj => (xf_m (x_mem (x_blk v ak bk i) (ak + i) (v.1 (bk + i))) (by omega) hj).trans (congrArg (fun z => wc z j) (va_up_self _ _ _)))) (cwV 1 hts gX5_block_X5_isStale rfl rfl rfl (by decide +kernel) ⟨Nat.le_of_ble_eq_true rfl, Nat.le_of_ble_eq_true rfl⟩) (xk_preVr hK hN hP [0, 1, 2, 3, 4] rfl (ci := 4) rfl 0 rfl) rfl rfl hl.1 rfl (lv_room (Nat.le_of_ble_eq_true rfl)) dX5_block_209 ⟨Nat.zero_le _, Nat.zero_le _⟩) ?_
                  refine lv_if_eq (tgt := 234) hx hb dX5_block_212 (by decide) (fun c_212 => ?_) (fun c_212 => ?_)
                  · skip
                    refine lv_aload_n hx hb dX5_block_234 rfl (lv_at hl 4 rfl) ?_
                    refine lv_iload hx hb dX5_block_235 (lv_at hl 2 rfl) ?_
                    refine lv_iload hx hb dX5_block_237 (lv_at hl 1 rfl) ?_
                    refine lv_iadd hx hb dX5_block_239 ?_
                    refine lv_topi (fun y ey => ?_)
                    obtain rfl : y = nI (ak + i) := ey.trans (nI_add _ _)
                    refine xk_callW (ws' := [(m0, .inr (4, [.ref ms, .ref mb, .int (nI kp), .ref mw, .ref mm])), (ms, .inl (cI, 2128, .inl (xf (x_ldy (x_mem (x_blk v ak bk i) (ak + i) (v.1 (bk + i))) (ak + i))))), (mb, .inl (cI, 2128, .inl (xf v))), (mw, .inl (cI, 51072, .inl w)), (mm, .inl (cI, 320, .inl (x_cpo (xf v) mi (5 * bk) (5 * nk))))]) (va_runV (As := [.int (nI (ak + i))]) (rest := []) ⟨hx, hb, hml, hown, hts⟩ (j_laid l D cI cJ cS m0 ms mb mw mm (x_mem (x_blk v ak bk i) (ak + i) (v.1 (bk + i))) (xf v) w (x_cpo (xf v) mi (5 * bk) (5 * nk)) kp hs0 (ak + i) (by omega)) (cwV 1 hts gX5_block_X5_laid rfl rfl rfl (by decide +kernel) ⟨Nat.le_of_ble_eq_true rfl, Nat.le_of_ble_eq_true rfl⟩) (xk_preVw hK hN hP hD [0, 1, 2, 3, 4] rfl rfl (ci := 4) rfl 0 rfl) rfl rfl hl.1 rfl (lv_room (Nat.le_of_ble_eq_true rfl)) dX5_block_240 ⟨Nat.zero_le _, Nat.zero_le _⟩) hP hD hS [0, 1, 2, 3, 4] rfl rfl rfl (fun H locs hP hD hS => ?_)
                    rw [m_blk_f v c_212] at hP hD
                    refine lv_iinc (v := (nI (i + 1))) (lv' := [(9, .int (nI (i + 1))), (10, .int (nI (5 * (ak + i)))), (7, .int (nI ak)), (5, .int (nI nk)), (0, .ref m0)]) hx hb dX5_block_243 hl (k := 1) rfl (nI_1 i) (by decide) rfl (fun ls hl => ?_)
                    refine lv_goto (tgt := 131) hx hb dX5_block_246 (by decide) ?_
                    exact ih (i + 1) H locs ls (by omega) hP hD hS (lv_sub hl [0, 2, 3, 4] rfl)
                  · skip
                    refine lv_aload_n hx hb dX5_block_215 rfl (lv_at hl 4 rfl) ?_
                    refine lv_iload hx hb dX5_block_216 (lv_at hl 0 rfl) ?_
                    refine lv_iconst (v := 1) hx hb dX5_block_218 (by decide) ?_
                    refine xk_callW (ws' := [(m0, .inr (4, [.ref ms, .ref mb, .int (nI kp), .ref mw, .ref mm])), (ms, .inl (cI, 2128, .inl (u5 (xf (x_mem (x_blk v ak bk i) (ak + i) (v.1 (bk + i)))) (5 * (ak + i)) 0 ((xf (x_mem (x_blk v ak bk i) (ak + i) (v.1 (bk + i)))) ((5 * (ak + i)) + 1)) 0 0 0))), (mb, .inl (cI, 2128, .inl (xf v))), (mw, .inl (cI, 51072, .inl w)), (mm, .inl (cI, 320, .inl (x_cpo (xf v) mi (5 * bk) (5 * nk))))]) (va_runV (As := [.int (nI (5 * (ak + i))), .int 1]) (rest := []) ⟨hx, hb, hml, hown, hts⟩ (j_untag l D cI cJ cS m0 ms mb mw mm (xf (x_mem (x_blk v ak bk i) (ak + i) (v.1 (bk + i)))) (xf v) w (x_cpo (xf v) mi (5 * bk) (5 * nk)) kp (5 * (ak + i)) (by omega) true) (cwV 2 hts gX5_block_X5_untag rfl rfl rfl (by decide +kernel) ⟨Nat.le_of_ble_eq_true rfl, Nat.le_of_ble_eq_true rfl⟩) (xk_preVw hK hN hP hD [0, 1, 2, 3, 4] rfl rfl (ci := 4) rfl 0 rfl) rfl rfl hl.1 rfl (lv_room (Nat.le_of_ble_eq_true rfl)) dX5_block_219 ⟨Nat.zero_le _, Nat.zero_le _⟩) hP hD hS [0, 1, 2, 3, 4] rfl rfl rfl (fun H locs hP hD hS => ?_)
                    rw [m_utm _ (by omega)] at hP hD
                    refine lv_aload_n hx hb dX5_block_222 rfl (lv_at hl 4 rfl) ?_
                    refine va_get (D := D) (ci := 4) (v := .ref ms) (C := RX5) (T := TX5) (N := 5) hx hb hts hiX5 hown hK hP 0 rfl rfl 0 (by decide) (hts (.fieldLink RX5 7 "PointerSweepModel" "st" "[I") (by decide +kernel)) (fun _ h9 => h9) rfl dX5_block_223 ?_
                    refine lv_sipush (v := 2124) hx hb dX5_block_226 (by decide) ?_
                    refine lv_dup2_11 hx hb dX5_block_229 rfl rfl ?_
                    refine xa_iald hx hb hK hP 1 0 rfl rfl (2121 + 3) rfl (by decide) (by decide) dX5_block_230 ?_
                    refine lv_iconst (v := 1) hx hb dX5_block_231 (by decide) ?_
                    refine lv_iadd hx hb dX5_block_232 ?_
                    refine xa_iast (ws' := [(m0, .inr (4, [.ref ms, .ref mb, .int (nI kp), .ref mw, .ref mm])), (ms, .inl (cI, 2128, .inl (upd (xf (x_mem (x_mem (x_blk v ak bk i) (ak + i) (v.1 (bk + i))) (ak + i) (((x_mem (x_blk v ak bk i) (ak + i) (v.1 (bk + i))).1 (ak + i)).1, none))) (2121 + 3) (((xf (x_mem (x_mem (x_blk v ak bk i) (ak + i) (v.1 (bk + i))) (ak + i) (((x_mem (x_blk v ak bk i) (ak + i) (v.1 (bk + i))).1 (ak + i)).1, none))) (2121 + 3)) + 1)))), (mb, .inl (cI, 2128, .inl (xf v))), (mw, .inl (cI, 51072, .inl w)), (mm, .inl (cI, 320, .inl (x_cpo (xf v) mi (5 * bk) (5 * nk))))]) hx hb hK hP hD hS 1 0 rfl rfl (2121 + 3) rfl (by decide) (by decide) dX5_block_233 rfl (fun H locs hP hD hS => ?_)
                    rw [xf_t _ (by decide), xf_ut _ (by decide), show (x_mem (x_mem (x_blk v ak bk i) (ak + i) (v.1 (bk + i))) (ak + i) (((x_mem (x_blk v ak bk i) (ak + i) (v.1 (bk + i))).1 (ak + i)).1, none)).2.2.1 = (x_blk v ak bk i).2.2.1 from rfl] at hP hD
                    refine lv_aload_n hx hb dX5_block_234 rfl (lv_at hl 4 rfl) ?_
                    refine lv_iload hx hb dX5_block_235 (lv_at hl 2 rfl) ?_
                    refine lv_iload hx hb dX5_block_237 (lv_at hl 1 rfl) ?_
                    refine lv_iadd hx hb dX5_block_239 ?_
                    refine lv_topi (fun y ey => ?_)
                    obtain rfl : y = nI (ak + i) := ey.trans (nI_add _ _)
                    refine xk_callW (ws' := [(m0, .inr (4, [.ref ms, .ref mb, .int (nI kp), .ref mw, .ref mm])), (ms, .inl (cI, 2128, .inl (xf (x_ldy (x_tal (x_mem (x_mem (x_blk v ak bk i) (ak + i) (v.1 (bk + i))) (ak + i) (((x_mem (x_blk v ak bk i) (ak + i) (v.1 (bk + i))).1 (ak + i)).1, none)) 3 ((x_blk v ak bk i).2.2.1 3 + 1)) (ak + i))))), (mb, .inl (cI, 2128, .inl (xf v))), (mw, .inl (cI, 51072, .inl w)), (mm, .inl (cI, 320, .inl (x_cpo (xf v) mi (5 * bk) (5 * nk))))]) (va_runV (As := [.int (nI (ak + i))]) (rest := []) ⟨hx, hb, hml, hown, hts⟩ (j_laid l D cI cJ cS m0 ms mb mw mm (x_tal (x_mem (x_mem (x_blk v ak bk i) (ak + i) (v.1 (bk + i))) (ak + i) (((x_mem (x_blk v ak bk i) (ak + i) (v.1 (bk + i))).1 (ak + i)).1, none)) 3 ((x_blk v ak bk i).2.2.1 3 + 1)) (xf v) w (x_cpo (xf v) mi (5 * bk) (5 * nk)) kp hs0 (ak + i) (by omega)) (cwV 1 hts gX5_block_X5_laid rfl rfl rfl (by decide +kernel) ⟨Nat.le_of_ble_eq_true rfl, Nat.le_of_ble_eq_true rfl⟩) (xk_preVw hK hN hP hD [0, 1, 2, 3, 4] rfl rfl (ci := 4) rfl 0 rfl) rfl rfl hl.1 rfl (lv_room (Nat.le_of_ble_eq_true rfl)) dX5_block_240 ⟨Nat.zero_le _, Nat.zero_le _⟩) hP hD hS [0, 1, 2, 3, 4] rfl rfl rfl (fun H locs hP hD hS => ?_)
                    rw [m_blk_t v c_212] at hP hD
                    refine lv_iinc (v := (nI (i + 1))) (lv' := [(9, .int (nI (i + 1))), (10, .int (nI (5 * (ak + i)))), (7, .int (nI ak)), (5, .int (nI nk)), (0, .ref m0)]) hx hb dX5_block_243 hl (k := 1) rfl (nI_1 i) (by decide) rfl (fun ls hl => ?_)
                    refine lv_goto (tgt := 131) hx hb dX5_block_246 (by decide) ?_
                    exact ih (i + 1) H locs ls (by omega) hP hD hS (lv_sub hl [0, 2, 3, 4] rfl)
            have loop1 : ∀ (n i : Nat) (H : Heap) (locs : List Loc) (ls : Array Slot), i + n = 5 * nk → va_P D vwCl ([(m0, .inr (4, [.ref ms, .ref mb, .int (nI kp), .ref mw, .ref mm])), (ms, .inl (cI, 2128, .inl (xf v))), (mb, .inl (cI, 2128, .inl (xf v))), (mw, .inl (cI, 51072, .inl w)), (mm, .inl (cI, 320, .inl (x_cpo (xf v) mi (5 * bk) i)))]) H → va_D (xk_in W0v) ([(m0, .inr (4, [.ref ms, .ref mb, .int (nI kp), .ref mw, .ref mm])), (ms, .inl (cI, 2128, .inl (xf v))), (mb, .inl (cI, 2128, .inl (xf v))), (mw, .inl (cI, 51072, .inl w)), (mm, .inl (cI, 320, .inl (x_cpo (xf v) mi (5 * bk) i)))]) → va_S (xk_in W0v) s.heap H locs → lv_has ls 11 [(9, .int (nI i)), (8, .int (nI bk)), (7, .int (nI ak)), (5, .int (nI nk)), (0, .ref m0)] → W p l e ({ frames := 2, cells := 0, slots := 0, locals := 48 }) s m ([.ref m0, .int q, .int d, .int t1, .int e1, .int n1]).toArray below meth c H locs 0 0 (MQ below (xk_W D vwCl W0v W1v (some (.int (sp_block v q d t1 e1 n1).1))) ([.ref m0, .int q, .int d, .int t1, .int e1, .int n1]).toArray s 0 0 (xk_in W0v)) (F0 m 94 ls []) := by
              intro n
              induction n with
              | zero =>
                intro i H locs ls hn hP hD hS hl
                have hin : i = 5 * nk := hn
                rw [hin] at hP hD
                refine lv_iload hx hb dX5_block_94 (lv_at hl 0 rfl) ?_
                refine lv_iconst (v := 5) hx hb dX5_block_96 (by decide) ?_
                refine lv_iload hx hb dX5_block_97 (lv_at hl 3 rfl) ?_
                refine lv_imul hx hb dX5_block_99 ?_
                refine lv_topi (fun y ey => ?_)
                obtain rfl : y = nI (5 * nk) := ey.trans (by rw [show (5 : Int32) = nI 5 from rfl, pk_mul])
                refine lv_icmp_ge (tgt := 128) hx hb dX5_block_100 (by decide) (fun c_100 => ?_) (fun c_100 => ?_)
                · skip
                  refine lv_iconst (v := 0) hx hb dX5_block_128 (by decide) ?_
                  refine lv_istore (lv' := [(9, .int 0), (8, .int (nI bk)), (7, .int (nI ak)), (5, .int (nI nk)), (0, .ref m0)]) hx hb dX5_block_129 hl (by decide) rfl (fun ls hl => ?_)
                  refine loop2 nk 0 H locs ls (Nat.zero_add _) ?_ ?_ hS (lv_sub hl [0, 2, 3, 4] rfl)
                  · rw [x_blk_0]; exact hP
                  · rw [x_blk_0]; exact hD
                · skip
                  exact absurd (nI_le (a := 5 * nk) (b := i) (by omega) (by omega)) c_100
              | succ n ih =>
                intro i H locs ls hn hP hD hS hl
                refine lv_iload hx hb dX5_block_94 (lv_at hl 0 rfl) ?_
                refine lv_iconst (v := 5) hx hb dX5_block_96 (by decide) ?_
                refine lv_iload hx hb dX5_block_97 (lv_at hl 3 rfl) ?_
                refine lv_imul hx hb dX5_block_99 ?_
                refine lv_topi (fun y ey => ?_)
                obtain rfl : y = nI (5 * nk) := ey.trans (by rw [show (5 : Int32) = nI 5 from rfl, pk_mul])
                refine lv_icmp_ge (tgt := 128) hx hb dX5_block_100 (by decide) (fun c_100 => ?_) (fun c_100 => ?_)
                · skip
                  exact absurd (xn_le_of (by omega) (by omega) c_100) (by omega)
                · skip
                  refine lv_aload_n hx hb dX5_block_103 rfl (lv_at hl 4 rfl) ?_
                  refine va_get (D := D) (ci := 4) (v := .ref mm) (C := RX5) (T := TX5) (N := 5) hx hb hts hiX5 hown hK hP 0 rfl rfl 4 (by decide) (hts (.fieldLink RX5 20 "PointerSweepModel" "middle" "[I") (by decide +kernel)) (fun _ h9 => h9) rfl dX5_block_104 ?_
                  refine lv_iload hx hb dX5_block_107 (lv_at hl 0 rfl) ?_
                  refine lv_aload_n hx hb dX5_block_109 rfl (lv_at hl 4 rfl) ?_
                  refine va_get (D := D) (ci := 4) (v := .ref ms) (C := RX5) (T := TX5) (N := 5) hx hb hts hiX5 hown hK hP 0 rfl rfl 0 (by decide) (hts (.fieldLink RX5 7 "PointerSweepModel" "st" "[I") (by decide +kernel)) (fun _ h9 => h9) rfl dX5_block_110 ?_
                  refine lv_iconst (v := 5) hx hb dX5_block_113 (by decide) ?_
                  refine lv_iload hx hb dX5_block_114 (lv_at hl 1 rfl) ?_
                  refine lv_imul hx hb dX5_block_116 ?_
                  refine lv_iload hx hb dX5_block_117 (lv_at hl 0 rfl) ?_
                  refine lv_iadd hx hb dX5_block_119 ?_
                  refine xa_iald hx hb hK hP 1 0 rfl rfl (5 * bk + i) (by rw [show (5 : Int32) = nI 5 from rfl, pk_mul]; exact nI_add (5 * bk) i) (by omega) (by decide) dX5_block_120 ?_
                  refine xa_iast (ws' := [(m0, .inr (4, [.ref ms, .ref mb, .int (nI kp), .ref mw, .ref mm])), (ms, .inl (cI, 2128, .inl (xf v))), (mb, .inl (cI, 2128, .inl (xf v))), (mw, .inl (cI, 51072, .inl w)), (mm, .inl (cI, 320, .inl (upd (x_cpo (xf v) mi (5 * bk) i) i ((xf v) (5 * bk + i)))))]) hx hb hK hP hD hS 4 0 rfl rfl i rfl (by omega) (by decide) dX5_block_121 rfl (fun H locs hP hD hS => ?_)
                  rw [x_cpo_s] at hP hD
                  refine lv_iinc (v := (nI (i + 1))) (lv' := [(9, .int (nI (i + 1))), (8, .int (nI bk)), (7, .int (nI ak)), (5, .int (nI nk)), (0, .ref m0)]) hx hb dX5_block_122 hl (k := 0) rfl (nI_1 i) (by decide) rfl (fun ls hl => ?_)
                  refine lv_goto (tgt := 94) hx hb dX5_block_125 (by decide) ?_
                  exact ih (i + 1) H locs ls (by omega) hP hD hS (lv_sub hl [0, 1, 2, 3, 4] rfl)
            refine loop1 (5 * nk) 0 H locs ls (Nat.zero_add _) ?_ ?_ hS (lv_sub hl [0, 1, 2, 9, 4] rfl)
            · rw [x_cpo_0]; exact hP
            · rw [x_cpo_0]; exact hD
          · skip
            refine lv_iload hx hb dX5_block_67 (lv_at hl 0 rfl) ?_
            have e9 : sp_block v q d t1 e1 n1 = (x_fault (v.2.1 t1k) 1 e1 n1, none) := (by unfold sp_block; rw [if_pos hcond0, hxq, if_pos c_42, hxt1, if_neg c_64])
            exact xk_iretW hx hb hr hlk hP hS (by rw [e9]) (by rw [← hW1, e9]; rfl) dX5_block_69
        · skip
          refine lv_iload hx hb dX5_block_45 (lv_at hl 0 rfl) ?_
          refine lv_goto (tgt := 60) hx hb dX5_block_47 (by decide) ?_
          refine lv_istore (lv' := [(6, .int (x_fault (v.2.1 qk) 2 d n1)), (0, .ref m0), (1, .int (nI qk)), (2, .int d), (3, .int (nI t1k)), (4, .int e1), (5, .int n1)]) hx hb dX5_block_60 hl (by decide) rfl (fun ls hl => ?_)
          refine lv_iload hx hb dX5_block_62 (lv_at hl 0 rfl) ?_
          refine lv_if_eq (tgt := 70) hx hb dX5_block_64 (by decide) (fun c_64 => ?_) (fun c_64 => ?_)
          · skip
            exact absurd c_64 c_42
          · skip
            refine lv_iload hx hb dX5_block_67 (lv_at hl 0 rfl) ?_
            have e9 : sp_block v q d t1 e1 n1 = (x_fault (v.2.1 qk) 2 d n1, none) := (by unfold sp_block; rw [if_pos hcond0, hxq, if_neg c_42])
            exact xk_iretW hx hb hr hlk hP hS (by rw [e9]) (by rw [← hW1, e9]; rfl) dX5_block_69
      · skip
        have e9 : sp_block v q d t1 e1 n1 = (-1, none) := if_neg (fun z => x_bt c_24 ((m_1n (n := n1) (hi := 64) (M := 64) rfl).mpr z.2.2))
        refine lv_iconst (v := (-1)) hx hb dX5_block_27 (by decide) ?_
        exact xk_iretW hx hb hr hlk hP hS (by rw [e9]) (by rw [← hW1, e9]; rfl) dX5_block_28
