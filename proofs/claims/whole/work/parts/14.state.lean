set_option maxHeartbeats 4000000 in
set_option maxRecDepth 100000 in
theorem k_useOf (l : Launch) (D : va_G) (cI cJ cS : ClassId) (ad : Nat → Nat) (mem reg : Nat → xw) (tal : Nat → Int32) (G Q X F : Nat → Bool) (on : Bool) (seen : Nat) (dy : Nat → Bool) (k : Nat) (hk : k < 256) : xk_Rd l yX2_useOf wsX2_useOf ({ frames := 2, cells := 0, slots := 0, locals := 41 }) D vwCl (xt cI cJ cS) ([((ad 0), .inr (2, [.ref (ad 1), .ref (ad 2), .ref (ad 3), .ref (ad 4), .ref (ad 6), .ref (ad 8), .ref (ad 10), .int (xb on), .int (nI seen), .int (xd dy)])), ((ad 1), .inl (cJ, 256, .inr (.inl (xw_arr mem)))), ((ad 2), .inl (cJ, 8, .inr (.inl (xw_arr reg)))), ((ad 3), .inl (cI, 7, .inl tal)), ((ad 4), .inr (0, [.ref (ad 5)])), ((ad 5), .inl (cJ, 4, .inr (.inl (xs_rows G)))), ((ad 6), .inr (0, [.ref (ad 7)])), ((ad 7), .inl (cJ, 4, .inr (.inl (xs_rows Q)))), ((ad 8), .inr (0, [.ref (ad 9)])), ((ad 9), .inl (cJ, 4, .inr (.inl (xs_rows X)))), ((ad 10), .inr (0, [.ref (ad 11)])), ((ad 11), .inl (cJ, 4, .inr (.inl (xs_rows F))))]) [.ref (ad 0), .int (nI k)] (some (.int (xu G Q k))) := by
  refine xk_rd (cc := cX2_useOf) (maxL := 2) (ret := (some .int)) (by decide) rfl (Nat.le_of_ble_eq_true rfl) (fun p e s m below meth c ls hx hb hr hlk hml hown hts hl hP hK hN => ?_)
  replace hl : lv_has ls 2 [(0, .ref (ad 0)), (1, .int (nI k))] := hl
  have hiX2 : ∀ w ∈ u_ws RX2 TX2 10, w ∈ wsX2_useOf := by decide +kernel
  refine lv_aload_n hx hb dX2_useOf_0 rfl (lv_at hl 0 rfl) ?_
  refine va_get (D := D) (ci := 2) (v := .ref (ad 4)) (C := RX2) (T := TX2) (N := 10) hx hb hts hiX2 hown hK hP 0 rfl rfl 3 (by decide) (hts (.fieldLink RX2 25 "PointerSweep$State" "given" "LPointerSweep$CellMap;") (by decide +kernel)) (fun _ h9 => h9) rfl dX2_useOf_1 ?_
  refine lv_iload_n hx hb dX2_useOf_4 rfl (lv_at hl 1 rfl) ?_
  refine xk_callR (va_runV (As := [.int (nI k)]) (rest := []) ⟨hx, hb, hml, hown, hts⟩ (k_has l D cI cJ cS (ad 4) (ad 5) G k hk) (cwV 1 hts gX2_useOf_X0_has rfl rfl rfl (by decide +kernel) ⟨Nat.le_of_ble_eq_true rfl, Nat.le_of_ble_eq_true rfl⟩) (xk_preVr hK hN hP [4, 5] rfl (ci := 0) rfl 0 rfl) rfl rfl hl.1 rfl (lv_room (Nat.le_of_ble_eq_true rfl)) dX2_useOf_5 ⟨Nat.zero_le _, Nat.zero_le _⟩) ?_
  refine lv_if_eq (tgt := 13) hx hb dX2_useOf_8 (by decide) (fun c_8 => ?_) (fun c_8 => ?_)
  · skip
    refine lv_aload_n hx hb dX2_useOf_13 rfl (lv_at hl 0 rfl) ?_
    refine va_get (D := D) (ci := 2) (v := .ref (ad 6)) (C := RX2) (T := TX2) (N := 10) hx hb hts hiX2 hown hK hP 0 rfl rfl 4 (by decide) (hts (.fieldLink RX2 29 "PointerSweep$State" "quarantined" "LPointerSweep$CellMap;") (by decide +kernel)) (fun _ h9 => h9) rfl dX2_useOf_14 ?_
    refine lv_iload_n hx hb dX2_useOf_17 rfl (lv_at hl 1 rfl) ?_
    refine xk_callR (va_runV (As := [.int (nI k)]) (rest := []) ⟨hx, hb, hml, hown, hts⟩ (k_has l D cI cJ cS (ad 6) (ad 7) Q k hk) (cwV 1 hts gX2_useOf_X0_has rfl rfl rfl (by decide +kernel) ⟨Nat.le_of_ble_eq_true rfl, Nat.le_of_ble_eq_true rfl⟩) (xk_preVr hK hN hP [6, 7] rfl (ci := 0) rfl 0 rfl) rfl rfl hl.1 rfl (lv_room (Nat.le_of_ble_eq_true rfl)) dX2_useOf_18 ⟨Nat.zero_le _, Nat.zero_le _⟩) ?_
    refine lv_if_eq (tgt := 28) hx hb dX2_useOf_21 (by decide) (fun c_21 => ?_) (fun c_21 => ?_)
    · skip
      refine lv_iconst (v := 0) hx hb dX2_useOf_28 (by decide) ?_
      exact xk_iretR hx hb hr hlk (xu_0 c_8 c_21) dX2_useOf_29
    · skip
      refine lv_iconst (v := 2) hx hb dX2_useOf_24 (by decide) ?_
      refine lv_goto (tgt := 29) hx hb dX2_useOf_25 (by decide) ?_
      exact xk_iretR hx hb hr hlk (xu_2 c_8 c_21) dX2_useOf_29
  · skip
    refine lv_iconst (v := 1) hx hb dX2_useOf_11 (by decide) ?_
    exact xk_iretR hx hb hr hlk (xu_1 c_8) dX2_useOf_12
set_option maxHeartbeats 4000000 in
set_option maxRecDepth 100000 in
theorem k_firstFreeRow (l : Launch) (D : va_G) (cI cJ cS : ClassId) (ad : Nat → Nat) (mem reg : Nat → xw) (tal : Nat → Int32) (G Q X F : Nat → Bool) (on : Bool) (seen : Nat) (dy : Nat → Bool) (x : Int32) : xk_Rd l yX2_firstFreeRow wsX2_firstFreeRow ({ frames := 3, cells := 0, slots := 0, locals := 62 }) D vwCl (xt cI cJ cS) ([((ad 0), .inr (2, [.ref (ad 1), .ref (ad 2), .ref (ad 3), .ref (ad 4), .ref (ad 6), .ref (ad 8), .ref (ad 10), .int (xb on), .int (nI seen), .int (xd dy)])), ((ad 1), .inl (cJ, 256, .inr (.inl (xw_arr mem)))), ((ad 2), .inl (cJ, 8, .inr (.inl (xw_arr reg)))), ((ad 3), .inl (cI, 7, .inl tal)), ((ad 4), .inr (0, [.ref (ad 5)])), ((ad 5), .inl (cJ, 4, .inr (.inl (xs_rows G)))), ((ad 6), .inr (0, [.ref (ad 7)])), ((ad 7), .inl (cJ, 4, .inr (.inl (xs_rows Q)))), ((ad 8), .inr (0, [.ref (ad 9)])), ((ad 9), .inl (cJ, 4, .inr (.inl (xs_rows X)))), ((ad 10), .inr (0, [.ref (ad 11)])), ((ad 11), .inl (cJ, 4, .inr (.inl (xs_rows F))))]) [.ref (ad 0), .int x] (some (.int (x_ffr (xu G Q) x 256 0 0))) := by
  refine xk_rd (cc := cX2_firstFreeRow) (maxL := 4) (ret := (some .int)) (by decide) rfl (Nat.le_of_ble_eq_true rfl) (fun p e s m below meth c ls hx hb hr hlk hml hown hts hl hP hK hN => ?_)
  replace hl : lv_has ls 4 [(0, .ref (ad 0)), (1, .int x)] := hl
  have loop : ∀ (n i : Nat) (fr : Int32) (ls : Array Slot), i + n = 256 → x_ffr (xu G Q) x n i fr = x_ffr (xu G Q) x 256 0 0 → lv_has ls 4 [(3, .int (nI i)), (2, .int fr), (0, .ref (ad 0)), (1, .int x)] → W p l e ({ frames := 3, cells := 0, slots := 0, locals := 62 }) s m ([.ref (ad 0), .int x]).toArray below meth c s.heap [] 0 0 (MQ below (xk_R (some (.int (x_ffr (xu G Q) x 256 0 0)))) ([.ref (ad 0), .int x]).toArray s 0 0 (fun _ => False)) (F0 m 4 ls []) := by
    intro n
    induction n with
    | zero =>
      intro i fr ls hi hv hl
      refine lv_iload_n hx hb dX2_firstFreeRow_4 rfl (lv_at hl 0 rfl) ?_
      refine lv_sipush (v := 256) hx hb dX2_firstFreeRow_5 (by decide) ?_
      refine lv_icmp_ge (tgt := 44) hx hb dX2_firstFreeRow_8 (by decide) (fun c_8 => ?_) (fun c_8 => ?_)
      · skip
        refine lv_iconst (v := (-1)) hx hb dX2_firstFreeRow_44 (by decide) ?_
        exact xk_iretR hx hb hr hlk hv dX2_firstFreeRow_45
      · skip
        exact absurd (nI_le (a := 256) (b := i) (by omega) (by omega)) c_8
    | succ n ih =>
      intro i fr ls hi hv hl
      unfold x_ffr at hv
      refine lv_iload_n hx hb dX2_firstFreeRow_4 rfl (lv_at hl 0 rfl) ?_
      refine lv_sipush (v := 256) hx hb dX2_firstFreeRow_5 (by decide) ?_
      refine lv_icmp_ge (tgt := 44) hx hb dX2_firstFreeRow_8 (by decide) (fun c_8 => ?_) (fun c_8 => ?_)
      · skip
        exact absurd (xn_le_of (a := 256) (by decide) (by omega) c_8) (by omega)
      · skip
        refine lv_aload_n hx hb dX2_firstFreeRow_11 rfl (lv_at hl 2 rfl) ?_
        refine lv_iload_n hx hb dX2_firstFreeRow_12 rfl (lv_at hl 0 rfl) ?_
        refine xk_callR (va_runV (As := [.int (nI i)]) (rest := []) ⟨hx, hb, hml, hown, hts⟩ (k_useOf l D cI cJ cS ad mem reg tal G Q X F on seen dy i (by omega)) (cwV 1 hts gX2_firstFreeRow_X2_useOf rfl rfl rfl (by decide +kernel) ⟨Nat.le_of_ble_eq_true rfl, Nat.le_of_ble_eq_true rfl⟩) (xk_preVr hK hN hP [0, 1, 2, 3, 4, 5, 6, 7, 8, 9, 10, 11] rfl (ci := 2) rfl 0 rfl) rfl rfl hl.1 rfl (lv_room (Nat.le_of_ble_eq_true rfl)) dX2_firstFreeRow_13 ⟨Nat.zero_le _, Nat.zero_le _⟩) ?_
        refine lv_if_ne (tgt := 25) hx hb dX2_firstFreeRow_16 (by decide) (fun c_16 => ?_) (fun c_16 => ?_)
        · skip
          refine lv_iconst (v := 0) hx hb dX2_firstFreeRow_25 (by decide) ?_
          refine lv_istore_n (lv' := [(2, .int 0), (3, .int (nI i)), (0, .ref (ad 0)), (1, .int x)]) hx hb dX2_firstFreeRow_26 rfl hl (by decide) rfl (fun ls hl => ?_)
          refine lv_iload_n hx hb dX2_firstFreeRow_27 rfl (lv_at hl 0 rfl) ?_
          refine lv_iload_n hx hb dX2_firstFreeRow_28 rfl (lv_at hl 3 rfl) ?_
          refine lv_icmp_ne (tgt := 38) hx hb dX2_firstFreeRow_29 (by decide) (fun c_29 => ?_) (fun c_29 => ?_)
          · skip
            refine lv_iinc (v := (nI (i + 1))) (lv' := [(3, .int (nI (i + 1))), (2, .int 0), (0, .ref (ad 0)), (1, .int x)]) hx hb dX2_firstFreeRow_38 hl (k := 1) rfl (nI_1 i) (by decide) rfl (fun ls hl => ?_)
            refine lv_goto (tgt := 4) hx hb dX2_firstFreeRow_41 (by decide) ?_
            exact ih (i + 1) _ ls (by omega) (by rw [if_neg c_16, if_neg c_29] at hv; exact hv) (lv_sub hl [0, 1, 2, 3] rfl)
          · skip
            refine lv_iload_n hx hb dX2_firstFreeRow_32 rfl (lv_at hl 1 rfl) ?_
            refine lv_iload_n hx hb dX2_firstFreeRow_33 rfl (lv_at hl 3 rfl) ?_
            refine lv_isub hx hb dX2_firstFreeRow_34 ?_
            refine lv_iconst (v := 1) hx hb dX2_firstFreeRow_35 (by decide) ?_
            refine lv_iadd hx hb dX2_firstFreeRow_36 ?_
            exact xk_iretR hx hb hr hlk (by rw [if_neg c_16, if_pos c_29] at hv; exact hv) dX2_firstFreeRow_37
        · skip
          refine lv_iload_n hx hb dX2_firstFreeRow_19 rfl (lv_at hl 1 rfl) ?_
          refine lv_iconst (v := 1) hx hb dX2_firstFreeRow_20 (by decide) ?_
          refine lv_iadd hx hb dX2_firstFreeRow_21 ?_
          refine lv_goto (tgt := 26) hx hb dX2_firstFreeRow_22 (by decide) ?_
          refine lv_istore_n (lv' := [(2, .int (fr + 1)), (3, .int (nI i)), (0, .ref (ad 0)), (1, .int x)]) hx hb dX2_firstFreeRow_26 rfl hl (by decide) rfl (fun ls hl => ?_)
          refine lv_iload_n hx hb dX2_firstFreeRow_27 rfl (lv_at hl 0 rfl) ?_
          refine lv_iload_n hx hb dX2_firstFreeRow_28 rfl (lv_at hl 3 rfl) ?_
          refine lv_icmp_ne (tgt := 38) hx hb dX2_firstFreeRow_29 (by decide) (fun c_29 => ?_) (fun c_29 => ?_)
          · skip
            refine lv_iinc (v := (nI (i + 1))) (lv' := [(3, .int (nI (i + 1))), (2, .int (fr + 1)), (0, .ref (ad 0)), (1, .int x)]) hx hb dX2_firstFreeRow_38 hl (k := 1) rfl (nI_1 i) (by decide) rfl (fun ls hl => ?_)
            refine lv_goto (tgt := 4) hx hb dX2_firstFreeRow_41 (by decide) ?_
            exact ih (i + 1) _ ls (by omega) (by rw [if_pos c_16, if_neg c_29] at hv; exact hv) (lv_sub hl [0, 1, 2, 3] rfl)
          · skip
            refine lv_iload_n hx hb dX2_firstFreeRow_32 rfl (lv_at hl 1 rfl) ?_
            refine lv_iload_n hx hb dX2_firstFreeRow_33 rfl (lv_at hl 3 rfl) ?_
            refine lv_isub hx hb dX2_firstFreeRow_34 ?_
            refine lv_iconst (v := 1) hx hb dX2_firstFreeRow_35 (by decide) ?_
            refine lv_iadd hx hb dX2_firstFreeRow_36 ?_
            exact xk_iretR hx hb hr hlk (by rw [if_pos c_16, if_pos c_29] at hv; exact hv) dX2_firstFreeRow_37
  refine lv_iconst (v := 0) hx hb dX2_firstFreeRow_0 (by decide) ?_
  refine lv_istore_n (lv' := [(2, .int 0), (0, .ref (ad 0)), (1, .int x)]) hx hb dX2_firstFreeRow_1 rfl hl (by decide) rfl (fun ls hl => ?_)
  refine lv_iconst (v := 0) hx hb dX2_firstFreeRow_2 (by decide) ?_
  refine lv_istore_n (lv' := [(3, .int 0), (2, .int 0), (0, .ref (ad 0)), (1, .int x)]) hx hb dX2_firstFreeRow_3 rfl hl (by decide) rfl (fun ls hl => ?_)
  exact loop 256 0 0 ls rfl rfl (lv_sub hl [0, 1, 2, 3] rfl)
set_option maxHeartbeats 4000000 in
set_option maxRecDepth 100000 in
theorem k_rangeFrom (l : Launch) (D : va_G) (cI cJ cS : ClassId) (ad : Nat → Nat) (mem reg : Nat → xw) (tal : Nat → Int32) (G Q X F : Nat → Bool) (on : Bool) (seen : Nat) (dy : Nat → Bool) (k : Nat) (hk : k < 256) : xk_Rd l yX2_rangeFrom wsX2_rangeFrom ({ frames := 2, cells := 0, slots := 0, locals := 41 }) D vwCl (xt cI cJ cS) ([((ad 0), .inr (2, [.ref (ad 1), .ref (ad 2), .ref (ad 3), .ref (ad 4), .ref (ad 6), .ref (ad 8), .ref (ad 10), .int (xb on), .int (nI seen), .int (xd dy)])), ((ad 1), .inl (cJ, 256, .inr (.inl (xw_arr mem)))), ((ad 2), .inl (cJ, 8, .inr (.inl (xw_arr reg)))), ((ad 3), .inl (cI, 7, .inl tal)), ((ad 4), .inr (0, [.ref (ad 5)])), ((ad 5), .inl (cJ, 4, .inr (.inl (xs_rows G)))), ((ad 6), .inr (0, [.ref (ad 7)])), ((ad 7), .inl (cJ, 4, .inr (.inl (xs_rows Q)))), ((ad 8), .inr (0, [.ref (ad 9)])), ((ad 9), .inl (cJ, 4, .inr (.inl (xs_rows X)))), ((ad 10), .inr (0, [.ref (ad 11)])), ((ad 11), .inl (cJ, 4, .inr (.inl (xs_rows F))))]) [.ref (ad 0), .int (nI k)] (some (.int (nI (x_rf F k)))) := by
  refine xk_rd (cc := cX2_rangeFrom) (maxL := 3) (ret := (some .int)) (by decide) rfl (Nat.le_of_ble_eq_true rfl) (fun p e s m below meth c ls hx hb hr hlk hml hown hts hl hP hK hN => ?_)
  replace hl : lv_has ls 3 [(0, .ref (ad 0)), (1, .int (nI k))] := hl
  have hiX2 : ∀ w ∈ u_ws RX2 TX2 10, w ∈ wsX2_rangeFrom := by decide +kernel
  have loop : ∀ (j : Nat) (ls : Array Slot), j < 256 → x_rf F j = x_rf F k → lv_has ls 3 [(2, .int (nI j)), (0, .ref (ad 0)), (1, .int (nI k))] → W p l e ({ frames := 2, cells := 0, slots := 0, locals := 41 }) s m ([.ref (ad 0), .int (nI k)]).toArray below meth c s.heap [] 0 0 (MQ below (xk_R (some (.int (nI (x_rf F k))))) ([.ref (ad 0), .int (nI k)]).toArray s 0 0 (fun _ => False)) (F0 m 2 ls []) := by
    intro j
    induction j with
    | zero =>
      intro ls hj hv hl
      refine lv_iload_n hx hb dX2_rangeFrom_2 rfl (lv_at hl 0 rfl) ?_
      refine lv_if_le (tgt := 23) hx hb dX2_rangeFrom_3 (by decide) (fun c_3 => ?_) (fun c_3 => ?_)
      · skip
        refine lv_iload_n hx hb dX2_rangeFrom_23 rfl (lv_at hl 0 rfl) ?_
        exact xk_iretR hx hb hr hlk (congrArg nI hv) dX2_rangeFrom_24
      · skip
        exact absurd (by decide) c_3
    | succ j ih =>
      intro ls hj hv hl
      replace hv : (if F (j + 1) = true then j + 1 else x_rf F j) = x_rf F k := hv
      refine lv_iload_n hx hb dX2_rangeFrom_2 rfl (lv_at hl 0 rfl) ?_
      refine lv_if_le (tgt := 23) hx hb dX2_rangeFrom_3 (by decide) (fun c_3 => ?_) (fun c_3 => ?_)
      · skip
        exact absurd c_3 (nI_nle (by omega) (by omega))
      · skip
        refine lv_aload_n hx hb dX2_rangeFrom_6 rfl (lv_at hl 1 rfl) ?_
        refine va_get (D := D) (ci := 2) (v := .ref (ad 10)) (C := RX2) (T := TX2) (N := 10) hx hb hts hiX2 hown hK hP 0 rfl rfl 6 (by decide) (hts (.fieldLink RX2 35 "PointerSweep$State" "firsts" "LPointerSweep$CellMap;") (by decide +kernel)) (fun _ h9 => h9) rfl dX2_rangeFrom_7 ?_
        refine lv_iload_n hx hb dX2_rangeFrom_10 rfl (lv_at hl 0 rfl) ?_
        refine xk_callR (va_runV (As := [.int (nI (j + 1))]) (rest := []) ⟨hx, hb, hml, hown, hts⟩ (k_has l D cI cJ cS (ad 10) (ad 11) F (j + 1) hj) (cwV 1 hts gX2_rangeFrom_X0_has rfl rfl rfl (by decide +kernel) ⟨Nat.le_of_ble_eq_true rfl, Nat.le_of_ble_eq_true rfl⟩) (xk_preVr hK hN hP [10, 11] rfl (ci := 0) rfl 0 rfl) rfl rfl hl.1 rfl (lv_room (Nat.le_of_ble_eq_true rfl)) dX2_rangeFrom_11 ⟨Nat.zero_le _, Nat.zero_le _⟩) ?_
        refine lv_if_ne (tgt := 23) hx hb dX2_rangeFrom_14 (by decide) (fun c_14 => ?_) (fun c_14 => ?_)
        · skip
          refine lv_iload_n hx hb dX2_rangeFrom_23 rfl (lv_at hl 0 rfl) ?_
          exact xk_iretR hx hb hr hlk (by rw [if_pos (xb_ne c_14)] at hv; exact congrArg nI hv) dX2_rangeFrom_24
        · skip
          refine lv_iinc (v := (nI j)) (lv' := [(2, .int (nI j)), (0, .ref (ad 0)), (1, .int (nI k))]) hx hb dX2_rangeFrom_17 hl (k := 0) rfl (pk_m1 j) (by decide) rfl (fun ls hl => ?_)
          refine lv_goto (tgt := 2) hx hb dX2_rangeFrom_20 (by decide) ?_
          exact ih ls (by omega) (by rw [if_neg (by rw [xb_eq c_14]; decide)] at hv; exact hv) (lv_sub hl [0, 1, 2] rfl)
  refine lv_iload_n hx hb dX2_rangeFrom_0 rfl (lv_at hl 1 rfl) ?_
  refine lv_istore_n (lv' := [(2, .int (nI k)), (0, .ref (ad 0)), (1, .int (nI k))]) hx hb dX2_rangeFrom_1 rfl hl (by decide) rfl (fun ls hl => ?_)
  exact loop k ls hk rfl (lv_sub hl [0, 1, 2] rfl)
set_option maxHeartbeats 4000000 in
set_option maxRecDepth 100000 in
theorem k_rangeTo (l : Launch) (D : va_G) (cI cJ cS : ClassId) (ad : Nat → Nat) (mem reg : Nat → xw) (tal : Nat → Int32) (G Q X F : Nat → Bool) (on : Bool) (seen : Nat) (dy : Nat → Bool) (k : Nat) (hk : k < 256) : xk_Rd l yX2_rangeTo wsX2_rangeTo ({ frames := 2, cells := 0, slots := 0, locals := 41 }) D vwCl (xt cI cJ cS) ([((ad 0), .inr (2, [.ref (ad 1), .ref (ad 2), .ref (ad 3), .ref (ad 4), .ref (ad 6), .ref (ad 8), .ref (ad 10), .int (xb on), .int (nI seen), .int (xd dy)])), ((ad 1), .inl (cJ, 256, .inr (.inl (xw_arr mem)))), ((ad 2), .inl (cJ, 8, .inr (.inl (xw_arr reg)))), ((ad 3), .inl (cI, 7, .inl tal)), ((ad 4), .inr (0, [.ref (ad 5)])), ((ad 5), .inl (cJ, 4, .inr (.inl (xs_rows G)))), ((ad 6), .inr (0, [.ref (ad 7)])), ((ad 7), .inl (cJ, 4, .inr (.inl (xs_rows Q)))), ((ad 8), .inr (0, [.ref (ad 9)])), ((ad 9), .inl (cJ, 4, .inr (.inl (xs_rows X)))), ((ad 10), .inr (0, [.ref (ad 11)])), ((ad 11), .inl (cJ, 4, .inr (.inl (xs_rows F))))]) [.ref (ad 0), .int (nI k)] (some (.int (nI (x_rt G F (255 - k) (k + 1))))) := by
  refine xk_rd (cc := cX2_rangeTo) (maxL := 3) (ret := (some .int)) (by decide) rfl (Nat.le_of_ble_eq_true rfl) (fun p e s m below meth c ls hx hb hr hlk hml hown hts hl hP hK hN => ?_)
  replace hl : lv_has ls 3 [(0, .ref (ad 0)), (1, .int (nI k))] := hl
  have hiX2 : ∀ w ∈ u_ws RX2 TX2 10, w ∈ wsX2_rangeTo := by decide +kernel
  have loop : ∀ (n t : Nat) (ls : Array Slot), t + n = 256 → x_rt G F n t = x_rt G F (255 - k) (k + 1) → lv_has ls 3 [(2, .int (nI t)), (0, .ref (ad 0)), (1, .int (nI k))] → W p l e ({ frames := 2, cells := 0, slots := 0, locals := 41 }) s m ([.ref (ad 0), .int (nI k)]).toArray below meth c s.heap [] 0 0 (MQ below (xk_R (some (.int (nI (x_rt G F (255 - k) (k + 1)))))) ([.ref (ad 0), .int (nI k)]).toArray s 0 0 (fun _ => False)) (F0 m 4 ls []) := by
    intro n
    induction n with
    | zero =>
      intro t ls ht hv hl
      refine lv_iload_n hx hb dX2_rangeTo_4 rfl (lv_at hl 0 rfl) ?_
      refine lv_sipush (v := 256) hx hb dX2_rangeTo_5 (by decide) ?_
      refine lv_icmp_ge (tgt := 39) hx hb dX2_rangeTo_8 (by decide) (fun c_8 => ?_) (fun c_8 => ?_)
      · skip
        refine lv_iload_n hx hb dX2_rangeTo_39 rfl (lv_at hl 0 rfl) ?_
        exact xk_iretR hx hb hr hlk (congrArg nI hv) dX2_rangeTo_40
      · skip
        exact absurd (nI_le (a := 256) (b := t) (by omega) (by omega)) c_8
    | succ n ih =>
      intro t ls ht hv hl
      replace hv : (if G t = true ∧ F t = false then x_rt G F n (t + 1) else t) = x_rt G F (255 - k) (k + 1) := hv
      refine lv_iload_n hx hb dX2_rangeTo_4 rfl (lv_at hl 0 rfl) ?_
      refine lv_sipush (v := 256) hx hb dX2_rangeTo_5 (by decide) ?_
      refine lv_icmp_ge (tgt := 39) hx hb dX2_rangeTo_8 (by decide) (fun c_8 => ?_) (fun c_8 => ?_)
      · skip
        exact absurd (xn_le_of (a := 256) (by decide) (by omega) c_8) (by omega)
      · skip
        refine lv_aload_n hx hb dX2_rangeTo_11 rfl (lv_at hl 1 rfl) ?_
        refine va_get (D := D) (ci := 2) (v := .ref (ad 4)) (C := RX2) (T := TX2) (N := 10) hx hb hts hiX2 hown hK hP 0 rfl rfl 3 (by decide) (hts (.fieldLink RX2 25 "PointerSweep$State" "given" "LPointerSweep$CellMap;") (by decide +kernel)) (fun _ h9 => h9) rfl dX2_rangeTo_12 ?_
        refine lv_iload_n hx hb dX2_rangeTo_15 rfl (lv_at hl 0 rfl) ?_
        refine xk_callR (va_runV (As := [.int (nI t)]) (rest := []) ⟨hx, hb, hml, hown, hts⟩ (k_has l D cI cJ cS (ad 4) (ad 5) G t (by omega)) (cwV 1 hts gX2_rangeTo_X0_has rfl rfl rfl (by decide +kernel) ⟨Nat.le_of_ble_eq_true rfl, Nat.le_of_ble_eq_true rfl⟩) (xk_preVr hK hN hP [4, 5] rfl (ci := 0) rfl 0 rfl) rfl rfl hl.1 rfl (lv_room (Nat.le_of_ble_eq_true rfl)) dX2_rangeTo_16 ⟨Nat.zero_le _, Nat.zero_le _⟩) ?_
        refine lv_if_eq (tgt := 39) hx hb dX2_rangeTo_19 (by decide) (fun c_19 => ?_) (fun c_19 => ?_)
        · skip
          refine lv_iload_n hx hb dX2_rangeTo_39 rfl (lv_at hl 0 rfl) ?_
          exact xk_iretR hx hb hr hlk (by rw [if_neg (fun q => by rw [xb_eq c_19] at q; exact absurd q.1 (by decide))] at hv; exact congrArg nI hv) dX2_rangeTo_40
        · skip
          refine lv_aload_n hx hb dX2_rangeTo_22 rfl (lv_at hl 1 rfl) ?_
          refine va_get (D := D) (ci := 2) (v := .ref (ad 10)) (C := RX2) (T := TX2) (N := 10) hx hb hts hiX2 hown hK hP 0 rfl rfl 6 (by decide) (hts (.fieldLink RX2 35 "PointerSweep$State" "firsts" "LPointerSweep$CellMap;") (by decide +kernel)) (fun _ h9 => h9) rfl dX2_rangeTo_23 ?_
          refine lv_iload_n hx hb dX2_rangeTo_26 rfl (lv_at hl 0 rfl) ?_
          refine xk_callR (va_runV (As := [.int (nI t)]) (rest := []) ⟨hx, hb, hml, hown, hts⟩ (k_has l D cI cJ cS (ad 10) (ad 11) F t (by omega)) (cwV 1 hts gX2_rangeTo_X0_has rfl rfl rfl (by decide +kernel) ⟨Nat.le_of_ble_eq_true rfl, Nat.le_of_ble_eq_true rfl⟩) (xk_preVr hK hN hP [10, 11] rfl (ci := 0) rfl 0 rfl) rfl rfl hl.1 rfl (lv_room (Nat.le_of_ble_eq_true rfl)) dX2_rangeTo_27 ⟨Nat.zero_le _, Nat.zero_le _⟩) ?_
          refine lv_if_ne (tgt := 39) hx hb dX2_rangeTo_30 (by decide) (fun c_30 => ?_) (fun c_30 => ?_)
          · skip
            refine lv_iload_n hx hb dX2_rangeTo_39 rfl (lv_at hl 0 rfl) ?_
            exact xk_iretR hx hb hr hlk (by rw [if_neg (fun q => by rw [xb_ne c_30] at q; exact absurd q.2 (by decide))] at hv; exact congrArg nI hv) dX2_rangeTo_40
          · skip
            refine lv_iinc (v := (nI (t + 1))) (lv' := [(2, .int (nI (t + 1))), (0, .ref (ad 0)), (1, .int (nI k))]) hx hb dX2_rangeTo_33 hl (k := 0) rfl (nI_1 t) (by decide) rfl (fun ls hl => ?_)
            refine lv_goto (tgt := 4) hx hb dX2_rangeTo_36 (by decide) ?_
            exact ih (t + 1) ls (by omega) (by rw [if_pos ⟨xb_ne c_19, xb_eq c_30⟩] at hv; exact hv) (lv_sub hl [0, 1, 2] rfl)
  refine lv_iload_n hx hb dX2_rangeTo_0 rfl (lv_at hl 1 rfl) ?_
  refine lv_iconst (v := 1) hx hb dX2_rangeTo_1 (by decide) ?_
  refine lv_iadd hx hb dX2_rangeTo_2 ?_
  refine lv_topi (fun y ey => ?_)
  obtain rfl : y = nI (k + 1) := ey.trans (nI_1 k)
  refine lv_istore_n (lv' := [(2, .int (nI (k + 1))), (0, .ref (ad 0)), (1, .int (nI k))]) hx hb dX2_rangeTo_3 rfl hl (by decide) rfl (fun ls hl => ?_)
  exact loop (255 - k) (k + 1) ls (by omega) rfl (lv_sub hl [0, 1, 2] rfl)
set_option maxHeartbeats 4000000 in
set_option maxRecDepth 100000 in
theorem k_isRange (l : Launch) (D : va_G) (cI cJ cS : ClassId) (ad : Nat → Nat) (mem reg : Nat → xw) (tal : Nat → Int32) (G Q X F : Nat → Bool) (on : Bool) (seen : Nat) (dy : Nat → Bool) (k : Nat) (hk : k < 256) (t : Nat) (ht : t < 512) : xk_Rd l yX2_isRange wsX2_isRange ({ frames := 3, cells := 0, slots := 0, locals := 63 }) D vwCl (xt cI cJ cS) ([((ad 0), .inr (2, [.ref (ad 1), .ref (ad 2), .ref (ad 3), .ref (ad 4), .ref (ad 6), .ref (ad 8), .ref (ad 10), .int (xb on), .int (nI seen), .int (xd dy)])), ((ad 1), .inl (cJ, 256, .inr (.inl (xw_arr mem)))), ((ad 2), .inl (cJ, 8, .inr (.inl (xw_arr reg)))), ((ad 3), .inl (cI, 7, .inl tal)), ((ad 4), .inr (0, [.ref (ad 5)])), ((ad 5), .inl (cJ, 4, .inr (.inl (xs_rows G)))), ((ad 6), .inr (0, [.ref (ad 7)])), ((ad 7), .inl (cJ, 4, .inr (.inl (xs_rows Q)))), ((ad 8), .inr (0, [.ref (ad 9)])), ((ad 9), .inl (cJ, 4, .inr (.inl (xs_rows X)))), ((ad 10), .inr (0, [.ref (ad 11)])), ((ad 11), .inl (cJ, 4, .inr (.inl (xs_rows F))))]) [.ref (ad 0), .int (nI k), .int (nI t)] (some (.int (xb (x_isr G F k t)))) := by
  refine xk_rd (cc := cX2_isRange) (maxL := 3) (ret := (some .boolean)) (by decide) rfl (Nat.le_of_ble_eq_true rfl) (fun p e s m below meth c ls hx hb hr hlk hml hown hts hl hP hK hN => ?_)
  replace hl : lv_has ls 3 [(0, .ref (ad 0)), (1, .int (nI k)), (2, .int (nI t))] := hl
  have hiX2 : ∀ w ∈ u_ws RX2 TX2 10, w ∈ wsX2_isRange := by decide +kernel
  refine lv_aload_n hx hb dX2_isRange_0 rfl (lv_at hl 0 rfl) ?_
  refine va_get (D := D) (ci := 2) (v := .ref (ad 4)) (C := RX2) (T := TX2) (N := 10) hx hb hts hiX2 hown hK hP 0 rfl rfl 3 (by decide) (hts (.fieldLink RX2 25 "PointerSweep$State" "given" "LPointerSweep$CellMap;") (by decide +kernel)) (fun _ h9 => h9) rfl dX2_isRange_1 ?_
  refine lv_iload_n hx hb dX2_isRange_4 rfl (lv_at hl 1 rfl) ?_
  refine xk_callR (va_runV (As := [.int (nI k)]) (rest := []) ⟨hx, hb, hml, hown, hts⟩ (k_has l D cI cJ cS (ad 4) (ad 5) G k hk) (cwV 1 hts gX2_isRange_X0_has rfl rfl rfl (by decide +kernel) ⟨Nat.le_of_ble_eq_true rfl, Nat.le_of_ble_eq_true rfl⟩) (xk_preVr hK hN hP [4, 5] rfl (ci := 0) rfl 0 rfl) rfl rfl hl.1 rfl (lv_room (Nat.le_of_ble_eq_true rfl)) dX2_isRange_5 ⟨Nat.zero_le _, Nat.zero_le _⟩) ?_
  refine lv_if_eq (tgt := 35) hx hb dX2_isRange_8 (by decide) (fun c_8 => ?_) (fun c_8 => ?_)
  · skip
    refine lv_iconst (v := 0) hx hb dX2_isRange_35 (by decide) ?_
    exact xk_zretR hx hb hr hlk rfl (x_isr_g c_8) dX2_isRange_36
  · skip
    refine lv_aload_n hx hb dX2_isRange_11 rfl (lv_at hl 0 rfl) ?_
    refine va_get (D := D) (ci := 2) (v := .ref (ad 10)) (C := RX2) (T := TX2) (N := 10) hx hb hts hiX2 hown hK hP 0 rfl rfl 6 (by decide) (hts (.fieldLink RX2 35 "PointerSweep$State" "firsts" "LPointerSweep$CellMap;") (by decide +kernel)) (fun _ h9 => h9) rfl dX2_isRange_12 ?_
    refine lv_iload_n hx hb dX2_isRange_15 rfl (lv_at hl 1 rfl) ?_
    refine xk_callR (va_runV (As := [.int (nI k)]) (rest := []) ⟨hx, hb, hml, hown, hts⟩ (k_has l D cI cJ cS (ad 10) (ad 11) F k hk) (cwV 1 hts gX2_isRange_X0_has rfl rfl rfl (by decide +kernel) ⟨Nat.le_of_ble_eq_true rfl, Nat.le_of_ble_eq_true rfl⟩) (xk_preVr hK hN hP [10, 11] rfl (ci := 0) rfl 0 rfl) rfl rfl hl.1 rfl (lv_room (Nat.le_of_ble_eq_true rfl)) dX2_isRange_16 ⟨Nat.zero_le _, Nat.zero_le _⟩) ?_
    refine lv_if_eq (tgt := 35) hx hb dX2_isRange_19 (by decide) (fun c_19 => ?_) (fun c_19 => ?_)
    · skip
      refine lv_iconst (v := 0) hx hb dX2_isRange_35 (by decide) ?_
      exact xk_zretR hx hb hr hlk rfl (x_isr_f c_19) dX2_isRange_36
    · skip
      refine lv_aload_n hx hb dX2_isRange_22 rfl (lv_at hl 0 rfl) ?_
      refine lv_iload_n hx hb dX2_isRange_23 rfl (lv_at hl 1 rfl) ?_
      refine xk_callR (va_runV (As := [.int (nI k)]) (rest := []) ⟨hx, hb, hml, hown, hts⟩ (k_rangeTo l D cI cJ cS ad mem reg tal G Q X F on seen dy k hk) (cwV 1 hts gX2_isRange_X2_rangeTo rfl rfl rfl (by decide +kernel) ⟨Nat.le_of_ble_eq_true rfl, Nat.le_of_ble_eq_true rfl⟩) (xk_preVr hK hN hP [0, 1, 2, 3, 4, 5, 6, 7, 8, 9, 10, 11] rfl (ci := 2) rfl 0 rfl) rfl rfl hl.1 rfl (lv_room (Nat.le_of_ble_eq_true rfl)) dX2_isRange_24 ⟨Nat.zero_le _, Nat.zero_le _⟩) ?_
      refine lv_iload_n hx hb dX2_isRange_27 rfl (lv_at hl 2 rfl) ?_
      refine lv_icmp_ne (tgt := 35) hx hb dX2_isRange_28 (by decide) (fun c_28 => ?_) (fun c_28 => ?_)
      · skip
        refine lv_iconst (v := 0) hx hb dX2_isRange_35 (by decide) ?_
        exact xk_zretR hx hb hr hlk rfl (x_isr_n c_28) dX2_isRange_36
      · skip
        refine lv_iconst (v := 1) hx hb dX2_isRange_31 (by decide) ?_
        refine lv_goto (tgt := 36) hx hb dX2_isRange_32 (by decide) ?_
        exact xk_zretR hx hb hr hlk rfl (x_isr_y hk ht c_8 c_19 c_28) dX2_isRange_36
set_option maxHeartbeats 4000000 in
set_option maxRecDepth 100000 in
theorem k_pointersIn (l : Launch) (D : va_G) (cI cJ cS : ClassId) (ad : Nat → Nat) (mem reg : Nat → xw) (tal : Nat → Int32) (G Q X F : Nat → Bool) (on : Bool) (seen : Nat) (dy : Nat → Bool) (hm : ∀ k, xw_ok (mem k)) (a1 b1 : Nat) (hab : a1 ≤ b1) (hb1 : b1 ≤ 256) : xk_Rd l yX2_pointersIn wsX2_pointersIn ({ frames := 1, cells := 0, slots := 0, locals := 21 }) D vwCl (xt cI cJ cS) ([((ad 0), .inr (2, [.ref (ad 1), .ref (ad 2), .ref (ad 3), .ref (ad 4), .ref (ad 6), .ref (ad 8), .ref (ad 10), .int (xb on), .int (nI seen), .int (xd dy)])), ((ad 1), .inl (cJ, 256, .inr (.inl (xw_arr mem)))), ((ad 2), .inl (cJ, 8, .inr (.inl (xw_arr reg)))), ((ad 3), .inl (cI, 7, .inl tal)), ((ad 4), .inr (0, [.ref (ad 5)])), ((ad 5), .inl (cJ, 4, .inr (.inl (xs_rows G)))), ((ad 6), .inr (0, [.ref (ad 7)])), ((ad 7), .inl (cJ, 4, .inr (.inl (xs_rows Q)))), ((ad 8), .inr (0, [.ref (ad 9)])), ((ad 9), .inl (cJ, 4, .inr (.inl (xs_rows X)))), ((ad 10), .inr (0, [.ref (ad 11)])), ((ad 11), .inl (cJ, 4, .inr (.inl (xs_rows F))))]) [.ref (ad 0), .int (nI a1), .int (nI b1)] (some (.int (x_acc (fun k => xb (xw_p (mem k))) a1 (b1 - a1)))) := by
  refine xk_rd (cc := cX2_pointersIn) (maxL := 5) (ret := (some .int)) (by decide) rfl (Nat.le_of_ble_eq_true rfl) (fun p e s m below meth c ls hx hb hr hlk hml hown hts hl hP hK hN => ?_)
  replace hl : lv_has ls 5 [(0, .ref (ad 0)), (1, .int (nI a1)), (2, .int (nI b1))] := hl
  have hiX2 : ∀ w ∈ u_ws RX2 TX2 10, w ∈ wsX2_pointersIn := by decide +kernel
  have loop : ∀ (n i : Nat) (ls : Array Slot), a1 ≤ i → i + n = b1 → lv_has ls 5 [(4, .int (nI i)), (3, .int (x_acc (fun k => xb (xw_p (mem k))) a1 (i - a1))), (0, .ref (ad 0)), (1, .int (nI a1)), (2, .int (nI b1))] → W p l e ({ frames := 1, cells := 0, slots := 0, locals := 21 }) s m ([.ref (ad 0), .int (nI a1), .int (nI b1)]).toArray below meth c s.heap [] 0 0 (MQ below (xk_R (some (.int (x_acc (fun k => xb (xw_p (mem k))) a1 (b1 - a1))))) ([.ref (ad 0), .int (nI a1), .int (nI b1)]).toArray s 0 0 (fun _ => False)) (F0 m 5 ls []) := by
    intro n
    induction n with
    | zero =>
      intro i ls hi hn hl
      refine lv_iload hx hb dX2_pointersIn_5 (lv_at hl 0 rfl) ?_
      refine lv_iload_n hx hb dX2_pointersIn_7 rfl (lv_at hl 4 rfl) ?_
      refine lv_icmp_ge (tgt := 33) hx hb dX2_pointersIn_8 (by decide) (fun c_8 => ?_) (fun c_8 => ?_)
      · skip
        refine lv_iload_n hx hb dX2_pointersIn_33 rfl (lv_at hl 1 rfl) ?_
        exact xk_iretR hx hb hr hlk (by rw [← hn]; rfl) dX2_pointersIn_34
      · skip
        exact absurd (nI_le (a := b1) (b := i) (by omega) (by omega)) c_8
    | succ n ih =>
      intro i ls hi hn hl
      refine lv_iload hx hb dX2_pointersIn_5 (lv_at hl 0 rfl) ?_
      refine lv_iload_n hx hb dX2_pointersIn_7 rfl (lv_at hl 4 rfl) ?_
      refine lv_icmp_ge (tgt := 33) hx hb dX2_pointersIn_8 (by decide) (fun c_8 => ?_) (fun c_8 => ?_)
      · skip
        exact absurd (xn_le_of (by omega) (by omega) c_8) (by omega)
      · skip
        refine lv_iload_n hx hb dX2_pointersIn_11 rfl (lv_at hl 1 rfl) ?_
        refine lv_aload_n hx hb dX2_pointersIn_12 rfl (lv_at hl 2 rfl) ?_
        refine va_get (D := D) (ci := 2) (v := .ref (ad 1)) (C := RX2) (T := TX2) (N := 10) hx hb hts hiX2 hown hK hP 0 rfl rfl 0 (by decide) (hts (.fieldLink RX2 9 "PointerSweep$State" "cells" "[J") (by decide +kernel)) (fun _ h9 => h9) rfl dX2_pointersIn_13 ?_
        refine lv_iload hx hb dX2_pointersIn_16 (lv_at hl 0 rfl) ?_
        refine xa_lald hx hb hK hP 1 1 rfl rfl i rfl (by omega) (by decide) dX2_pointersIn_18 ?_
        refine xk_callR (va_runS (As := [.long (xw_enc (mem i))]) (rest := [.int (x_acc (fun k => xb (xw_p (mem k))) a1 (i - a1))]) ⟨hx, hb, hml, hown, hts⟩ (k_isPointer l D cI cJ cS (mem i) (hm i) ) (va_cwS 1 hts gX2_pointersIn_X3_isPointer rfl rfl rfl (by decide +kernel) ⟨Nat.le_of_ble_eq_true rfl, Nat.le_of_ble_eq_true rfl⟩) (xk_preSr hK hN hP [] rfl) rfl rfl hl.1 rfl (lv_room (Nat.le_of_ble_eq_true rfl)) dX2_pointersIn_19 ⟨Nat.zero_le _, Nat.zero_le _⟩) ?_
        refine xk_callR (va_runSN (As := [.int (xb (xw_p (mem i)))]) (rest := [.int (x_acc (fun k => xb (xw_p (mem k))) a1 (i - a1))]) ⟨hx, hb, hml, hown, hts⟩ (k_oneIf l D cI cJ cS (xw_p (mem i))) ⟨va_cnB 1 hts gX2_pointersIn_X4_oneIf_n87 rfl rfl rfl (hN.1 (.methodLinkNest RX2 87 yX4_oneIf "PointerSweep") (by decide +kernel)) (hts (.initialized RX4) (by decide +kernel)) (by decide +kernel) ⟨Nat.le_of_ble_eq_true rfl, Nat.le_of_ble_eq_true rfl⟩, hts (.static yX4_oneIf) (by decide +kernel), trivial⟩ (xk_preSr hK hN hP [] rfl) rfl rfl hl.1 rfl (lv_room (Nat.le_of_ble_eq_true rfl)) dX2_pointersIn_22 ⟨Nat.zero_le _, Nat.zero_le _⟩) ?_
        refine lv_iadd hx hb dX2_pointersIn_25 ?_
        refine lv_topi (fun y ey => ?_)
        obtain rfl : y = x_acc (fun k => xb (xw_p (mem k))) a1 (i + 1 - a1) := ey.trans (x_acc_s (fun k => xb (xw_p (mem k))) hi)
        refine lv_istore_n (lv' := [(3, .int (x_acc (fun k => xb (xw_p (mem k))) a1 (i + 1 - a1))), (4, .int (nI i)), (0, .ref (ad 0)), (1, .int (nI a1)), (2, .int (nI b1))]) hx hb dX2_pointersIn_26 rfl hl (by decide) rfl (fun ls hl => ?_)
        refine lv_iinc (v := (nI (i + 1))) (lv' := [(4, .int (nI (i + 1))), (3, .int (x_acc (fun k => xb (xw_p (mem k))) a1 (i + 1 - a1))), (0, .ref (ad 0)), (1, .int (nI a1)), (2, .int (nI b1))]) hx hb dX2_pointersIn_27 hl (k := 1) rfl (nI_1 i) (by decide) rfl (fun ls hl => ?_)
        refine lv_goto (tgt := 5) hx hb dX2_pointersIn_30 (by decide) ?_
        exact ih (i + 1) ls (by omega) (by omega) (lv_sub hl [0, 1, 2, 3, 4] rfl)
  refine lv_iconst (v := 0) hx hb dX2_pointersIn_0 (by decide) ?_
  refine lv_topi (fun y ey => ?_)
  obtain rfl : y = x_acc (fun k => xb (xw_p (mem k))) a1 (a1 - a1) := ey.trans (x_acc_0 _ _)
  refine lv_istore_n (lv' := [(3, .int (x_acc (fun k => xb (xw_p (mem k))) a1 (a1 - a1))), (0, .ref (ad 0)), (1, .int (nI a1)), (2, .int (nI b1))]) hx hb dX2_pointersIn_1 rfl hl (by decide) rfl (fun ls hl => ?_)
  refine lv_iload_n hx hb dX2_pointersIn_2 rfl (lv_at hl 2 rfl) ?_
  refine lv_istore (lv' := [(4, .int (nI a1)), (3, .int (x_acc (fun k => xb (xw_p (mem k))) a1 (a1 - a1))), (0, .ref (ad 0)), (1, .int (nI a1)), (2, .int (nI b1))]) hx hb dX2_pointersIn_3 hl (by decide) rfl (fun ls hl => ?_)
  exact loop (b1 - a1) a1 ls (Nat.le_refl _) (by omega) (lv_sub hl [0, 1, 2, 3, 4] rfl)
set_option maxHeartbeats 4000000 in
set_option maxRecDepth 100000 in
theorem k_isSeen (l : Launch) (D : va_G) (cI cJ cS : ClassId) (ad : Nat → Nat) (mem reg : Nat → xw) (tal : Nat → Int32) (G Q X F : Nat → Bool) (on : Bool) (seen : Nat) (dy : Nat → Bool) (hse : seen ≤ 16) (k : Nat) (hk : k < 16) : xk_Rd l yX2_isSeen wsX2_isSeen ({ frames := 0, cells := 0, slots := 0, locals := 0 }) D vwCl (xt cI cJ cS) ([((ad 0), .inr (2, [.ref (ad 1), .ref (ad 2), .ref (ad 3), .ref (ad 4), .ref (ad 6), .ref (ad 8), .ref (ad 10), .int (xb on), .int (nI seen), .int (xd dy)])), ((ad 1), .inl (cJ, 256, .inr (.inl (xw_arr mem)))), ((ad 2), .inl (cJ, 8, .inr (.inl (xw_arr reg)))), ((ad 3), .inl (cI, 7, .inl tal)), ((ad 4), .inr (0, [.ref (ad 5)])), ((ad 5), .inl (cJ, 4, .inr (.inl (xs_rows G)))), ((ad 6), .inr (0, [.ref (ad 7)])), ((ad 7), .inl (cJ, 4, .inr (.inl (xs_rows Q)))), ((ad 8), .inr (0, [.ref (ad 9)])), ((ad 9), .inl (cJ, 4, .inr (.inl (xs_rows X)))), ((ad 10), .inr (0, [.ref (ad 11)])), ((ad 11), .inl (cJ, 4, .inr (.inl (xs_rows F))))]) [.ref (ad 0), .int (nI k)] (some (.int (xb (decide (k < seen))))) := by
  refine xk_rd (cc := cX2_isSeen) (maxL := 2) (ret := (some .boolean)) (by decide) rfl (Nat.le_of_ble_eq_true rfl) (fun p e s m below meth c ls hx hb hr hlk hml hown hts hl hP hK hN => ?_)
  replace hl : lv_has ls 2 [(0, .ref (ad 0)), (1, .int (nI k))] := hl
  have hiX2 : ∀ w ∈ u_ws RX2 TX2 10, w ∈ wsX2_isSeen := by decide +kernel
  refine lv_iload_n hx hb dX2_isSeen_0 rfl (lv_at hl 1 rfl) ?_
  refine lv_aload_n hx hb dX2_isSeen_1 rfl (lv_at hl 0 rfl) ?_
  refine va_get (D := D) (ci := 2) (v := .int (nI seen)) (C := RX2) (T := TX2) (N := 10) hx hb hts hiX2 hown hK hP 0 rfl rfl 8 (by decide) (hts (.fieldLink RX2 42 "PointerSweep$State" "seenPages" "I") (by decide +kernel)) (fun _ h9 => h9) rfl dX2_isSeen_2 ?_
  refine lv_icmp_ge (tgt := 12) hx hb dX2_isSeen_5 (by decide) (fun c_5 => ?_) (fun c_5 => ?_)
  · skip
    refine lv_iconst (v := 0) hx hb dX2_isSeen_12 (by decide) ?_
    exact xk_zretR hx hb hr hlk rfl (x_seen_f (by omega) (by omega) c_5) dX2_isSeen_13
  · skip
    refine lv_iconst (v := 1) hx hb dX2_isSeen_8 (by decide) ?_
    refine lv_goto (tgt := 13) hx hb dX2_isSeen_9 (by decide) ?_
    exact xk_zretR hx hb hr hlk rfl (x_seen_t (by omega) (by omega) c_5) dX2_isSeen_13
set_option maxHeartbeats 4000000 in
set_option maxRecDepth 100000 in
theorem k_isDirty (l : Launch) (D : va_G) (cI cJ cS : ClassId) (ad : Nat → Nat) (mem reg : Nat → xw) (tal : Nat → Int32) (G Q X F : Nat → Bool) (on : Bool) (seen : Nat) (dy : Nat → Bool) (k : Nat) (hk : k < 16) : xk_Rd l yX2_isDirty wsX2_isDirty ({ frames := 0, cells := 0, slots := 0, locals := 0 }) D vwCl (xt cI cJ cS) ([((ad 0), .inr (2, [.ref (ad 1), .ref (ad 2), .ref (ad 3), .ref (ad 4), .ref (ad 6), .ref (ad 8), .ref (ad 10), .int (xb on), .int (nI seen), .int (xd dy)])), ((ad 1), .inl (cJ, 256, .inr (.inl (xw_arr mem)))), ((ad 2), .inl (cJ, 8, .inr (.inl (xw_arr reg)))), ((ad 3), .inl (cI, 7, .inl tal)), ((ad 4), .inr (0, [.ref (ad 5)])), ((ad 5), .inl (cJ, 4, .inr (.inl (xs_rows G)))), ((ad 6), .inr (0, [.ref (ad 7)])), ((ad 7), .inl (cJ, 4, .inr (.inl (xs_rows Q)))), ((ad 8), .inr (0, [.ref (ad 9)])), ((ad 9), .inl (cJ, 4, .inr (.inl (xs_rows X)))), ((ad 10), .inr (0, [.ref (ad 11)])), ((ad 11), .inl (cJ, 4, .inr (.inl (xs_rows F))))]) [.ref (ad 0), .int (nI k)] (some (.int (xb (dy k)))) := by
  refine xk_rd (cc := cX2_isDirty) (maxL := 2) (ret := (some .boolean)) (by decide) rfl (Nat.le_of_ble_eq_true rfl) (fun p e s m below meth c ls hx hb hr hlk hml hown hts hl hP hK hN => ?_)
  replace hl : lv_has ls 2 [(0, .ref (ad 0)), (1, .int (nI k))] := hl
  have hiX2 : ∀ w ∈ u_ws RX2 TX2 10, w ∈ wsX2_isDirty := by decide +kernel
  refine lv_aload_n hx hb dX2_isDirty_0 rfl (lv_at hl 0 rfl) ?_
  refine va_get (D := D) (ci := 2) (v := .int (xd dy)) (C := RX2) (T := TX2) (N := 10) hx hb hts hiX2 hown hK hP 0 rfl rfl 9 (by decide) (hts (.fieldLink RX2 46 "PointerSweep$State" "dirtyPages" "I") (by decide +kernel)) (fun _ h9 => h9) rfl dX2_isDirty_1 ?_
  refine lv_iload_n hx hb dX2_isDirty_4 rfl (lv_at hl 1 rfl) ?_
  refine lv_ishr hx hb dX2_isDirty_5 ?_
  refine lv_iconst (v := 1) hx hb dX2_isDirty_6 (by decide) ?_
  refine lv_iand hx hb dX2_isDirty_7 ?_
  refine lv_if_eq (tgt := 15) hx hb dX2_isDirty_8 (by decide) (fun c_8 => ?_) (fun c_8 => ?_)
  · skip
    refine lv_iconst (v := 0) hx hb dX2_isDirty_15 (by decide) ?_
    exact xk_zretR hx hb hr hlk rfl (xb_p0 (xd_is dy hk) c_8) dX2_isDirty_16
  · skip
    refine lv_iconst (v := 1) hx hb dX2_isDirty_11 (by decide) ?_
    refine lv_goto (tgt := 16) hx hb dX2_isDirty_12 (by decide) ?_
    exact xk_zretR hx hb hr hlk rfl (xb_p1 (xd_is dy hk) c_8) dX2_isDirty_16
set_option maxHeartbeats 4000000 in
set_option maxRecDepth 100000 in
theorem k_isStale (l : Launch) (D : va_G) (cI cJ cS : ClassId) (ad : Nat → Nat) (mem reg : Nat → xw) (tal : Nat → Int32) (G Q X F : Nat → Bool) (on : Bool) (seen : Nat) (dy : Nat → Bool) (w : xw) (hw : xw_ok w) : xk_Rd l yX2_isStale wsX2_isStale ({ frames := 2, cells := 0, slots := 0, locals := 46 }) D vwCl (xt cI cJ cS) ([((ad 0), .inr (2, [.ref (ad 1), .ref (ad 2), .ref (ad 3), .ref (ad 4), .ref (ad 6), .ref (ad 8), .ref (ad 10), .int (xb on), .int (nI seen), .int (xd dy)])), ((ad 8), .inr (0, [.ref (ad 9)])), ((ad 9), .inl (cJ, 4, .inr (.inl (xs_rows X))))]) [.ref (ad 0), .long (xw_enc w)] (some (.int (xb (x_stale X w)))) := by
  refine xk_rd (cc := cX2_isStale) (maxL := 3) (ret := (some .boolean)) (by decide) rfl (Nat.le_of_ble_eq_true rfl) (fun p e s m below meth c ls hx hb hr hlk hml hown hts hl hP hK hN => ?_)
  replace hl : lv_has ls 3 [(0, .ref (ad 0)), (1, .long (xw_enc w))] := hl
  have hiX2 : ∀ w ∈ u_ws RX2 TX2 10, w ∈ wsX2_isStale := by decide +kernel
  refine lv_lload_n hx hb dX2_isStale_0 rfl (lv_at hl 1 rfl) ?_
  refine xk_callR (va_runS (As := [.long (xw_enc w)]) (rest := []) ⟨hx, hb, hml, hown, hts⟩ (k_isPointer l D cI cJ cS w hw ) (va_cwS 1 hts gX2_isStale_X3_isPointer rfl rfl rfl (by decide +kernel) ⟨Nat.le_of_ble_eq_true rfl, Nat.le_of_ble_eq_true rfl⟩) (xk_preSr hK hN hP [] rfl) rfl rfl hl.1 rfl (lv_room (Nat.le_of_ble_eq_true rfl)) dX2_isStale_1 ⟨Nat.zero_le _, Nat.zero_le _⟩) ?_
  refine lv_if_eq (tgt := 29) hx hb dX2_isStale_4 (by decide) (fun c_4 => ?_) (fun c_4 => ?_)
  · skip
    refine lv_iconst (v := 0) hx hb dX2_isStale_29 (by decide) ?_
    exact xk_zretR hx hb hr hlk rfl (x_stale_np c_4) dX2_isStale_30
  · skip
    refine lv_aload_n hx hb dX2_isStale_7 rfl (lv_at hl 0 rfl) ?_
    refine va_get (D := D) (ci := 2) (v := .ref (ad 8)) (C := RX2) (T := TX2) (N := 10) hx hb hts hiX2 hown hK hP 0 rfl rfl 5 (by decide) (hts (.fieldLink RX2 32 "PointerSweep$State" "doomed" "LPointerSweep$CellMap;") (by decide +kernel)) (fun _ h9 => h9) rfl dX2_isStale_8 ?_
    refine lv_lload_n hx hb dX2_isStale_11 rfl (lv_at hl 1 rfl) ?_
    refine xk_callR (va_runS (As := [.long (xw_enc w)]) (rest := [.ref (ad 8)]) ⟨hx, hb, hml, hown, hts⟩ (k_from l D cI cJ cS w hw ) (va_cwS 1 hts gX2_isStale_X3_from rfl rfl rfl (by decide +kernel) ⟨Nat.le_of_ble_eq_true rfl, Nat.le_of_ble_eq_true rfl⟩) (xk_preSr hK hN hP [] rfl) rfl rfl hl.1 rfl (lv_room (Nat.le_of_ble_eq_true rfl)) dX2_isStale_12 ⟨Nat.zero_le _, Nat.zero_le _⟩) ?_
    refine lv_lload_n hx hb dX2_isStale_15 rfl (lv_at hl 1 rfl) ?_
    refine xk_callR (va_runS (As := [.long (xw_enc w)]) (rest := [.int (nI (xw_f w)), .ref (ad 8)]) ⟨hx, hb, hml, hown, hts⟩ (k_to l D cI cJ cS w hw ) (va_cwS 1 hts gX2_isStale_X3_to rfl rfl rfl (by decide +kernel) ⟨Nat.le_of_ble_eq_true rfl, Nat.le_of_ble_eq_true rfl⟩) (xk_preSr hK hN hP [] rfl) rfl rfl hl.1 rfl (lv_room (Nat.le_of_ble_eq_true rfl)) dX2_isStale_16 ⟨Nat.zero_le _, Nat.zero_le _⟩) ?_
    refine xk_callR (va_runV (As := [.int (nI (xw_f w)), .int (nI (xw_t w))]) (rest := []) ⟨hx, hb, hml, hown, hts⟩ (k_sizeWithin l D cI cJ cS (ad 8) (ad 9) X (xw_f w) (xw_t w) (xw_f_le hw) (xw_t_le hw)) (cwV 2 hts gX2_isStale_X0_sizeWithin rfl rfl rfl (by decide +kernel) ⟨Nat.le_of_ble_eq_true rfl, Nat.le_of_ble_eq_true rfl⟩) (xk_preVr hK hN hP [1, 2] rfl (ci := 0) rfl 0 rfl) rfl rfl hl.1 rfl (lv_room (Nat.le_of_ble_eq_true rfl)) dX2_isStale_19 ⟨Nat.zero_le _, Nat.zero_le _⟩) ?_
    refine lv_if_le (tgt := 29) hx hb dX2_isStale_22 (by decide) (fun c_22 => ?_) (fun c_22 => ?_)
    · skip
      refine lv_iconst (v := 0) hx hb dX2_isStale_29 (by decide) ?_
      exact xk_zretR hx hb hr hlk rfl (x_stale_no c_22) dX2_isStale_30
    · skip
      refine lv_iconst (v := 1) hx hb dX2_isStale_25 (by decide) ?_
      refine lv_goto (tgt := 30) hx hb dX2_isStale_26 (by decide) ?_
      exact xk_zretR hx hb hr hlk rfl (x_stale_yes c_4 c_22) dX2_isStale_30
