set_option maxHeartbeats 4000000 in
set_option maxRecDepth 100000 in
theorem k_clean (l : Launch) (D : va_G) (cI cJ cS : ClassId) (ad : Nat → Nat) (mem reg : Nat → xw) (tal : Nat → Int32) (G Q X F : Nat → Bool) (on : Bool) (seen : Nat) (dy : Nat → Bool) (wa N : Nat) (hN1 : N < 2 ^ 31) (f : Nat → xw) (hf : ∀ k, xw_ok (f k)) (a1 b1 : Nat) (hab : a1 ≤ b1) (hb1 : b1 ≤ N) : xk_Wr l yX2_clean wsX2_clean ({ frames := 3, cells := 0, slots := 0, locals := 68 }) D vwCl (xt cI cJ cS) ([((ad 0), .inr (2, [.ref (ad 1), .ref (ad 2), .ref (ad 3), .ref (ad 4), .ref (ad 6), .ref (ad 8), .ref (ad 10), .int (xb on), .int (nI seen), .int (xd dy)])), ((ad 8), .inr (0, [.ref (ad 9)])), ((ad 9), .inl (cJ, 4, .inr (.inl (xs_rows X)))), (wa, .inl (cJ, N, .inr (.inl (xw_arr f))))]) [.ref (ad 0), .ref wa, .int (nI a1), .int (nI b1)] ([((ad 0), .inr (2, [.ref (ad 1), .ref (ad 2), .ref (ad 3), .ref (ad 4), .ref (ad 6), .ref (ad 8), .ref (ad 10), .int (xb on), .int (nI seen), .int (xd dy)])), ((ad 8), .inr (0, [.ref (ad 9)])), ((ad 9), .inl (cJ, 4, .inr (.inl (xs_rows X)))), (wa, .inl (cJ, N, .inr (.inl (xw_arr (x_cl X f a1 b1)))))]) (some (.int (x_cn X f a1 b1))) := by
  refine xk_wr (cc := cX2_clean) (maxL := 6) (ret := (some .int)) (by decide) rfl (Nat.le_of_ble_eq_true rfl) (fun p e s m below meth c ls hx hb hr hlk hml hown hts hl hP hK hN hD hS => ?_)
  replace hl : lv_has ls 6 [(0, .ref (ad 0)), (1, .ref wa), (2, .int (nI a1)), (3, .int (nI b1))] := hl
  have loop : ∀ (n i : Nat) (H : Heap) (locs : List Loc) (ls : Array Slot), a1 ≤ i → i + n = b1 → va_P D vwCl ([((ad 0), .inr (2, [.ref (ad 1), .ref (ad 2), .ref (ad 3), .ref (ad 4), .ref (ad 6), .ref (ad 8), .ref (ad 10), .int (xb on), .int (nI seen), .int (xd dy)])), ((ad 8), .inr (0, [.ref (ad 9)])), ((ad 9), .inl (cJ, 4, .inr (.inl (xs_rows X)))), (wa, .inl (cJ, N, .inr (.inl (xw_arr (x_cl X f a1 i)))))]) H → va_D (xk_in ([((ad 0), .inr (2, [.ref (ad 1), .ref (ad 2), .ref (ad 3), .ref (ad 4), .ref (ad 6), .ref (ad 8), .ref (ad 10), .int (xb on), .int (nI seen), .int (xd dy)])), ((ad 8), .inr (0, [.ref (ad 9)])), ((ad 9), .inl (cJ, 4, .inr (.inl (xs_rows X)))), (wa, .inl (cJ, N, .inr (.inl (xw_arr f))))])) ([((ad 0), .inr (2, [.ref (ad 1), .ref (ad 2), .ref (ad 3), .ref (ad 4), .ref (ad 6), .ref (ad 8), .ref (ad 10), .int (xb on), .int (nI seen), .int (xd dy)])), ((ad 8), .inr (0, [.ref (ad 9)])), ((ad 9), .inl (cJ, 4, .inr (.inl (xs_rows X)))), (wa, .inl (cJ, N, .inr (.inl (xw_arr (x_cl X f a1 i)))))]) → va_S (xk_in ([((ad 0), .inr (2, [.ref (ad 1), .ref (ad 2), .ref (ad 3), .ref (ad 4), .ref (ad 6), .ref (ad 8), .ref (ad 10), .int (xb on), .int (nI seen), .int (xd dy)])), ((ad 8), .inr (0, [.ref (ad 9)])), ((ad 9), .inl (cJ, 4, .inr (.inl (xs_rows X)))), (wa, .inl (cJ, N, .inr (.inl (xw_arr f))))])) s.heap H locs → lv_has ls 6 [(5, .int (nI i)), (4, .int (x_acc (fun k => xb (x_stale X (f k))) a1 (i - a1))), (0, .ref (ad 0)), (1, .ref wa), (2, .int (nI a1)), (3, .int (nI b1))] → W p l e ({ frames := 3, cells := 0, slots := 0, locals := 68 }) s m ([.ref (ad 0), .ref wa, .int (nI a1), .int (nI b1)]).toArray below meth c H locs 0 0 (MQ below (xk_W D vwCl ([((ad 0), .inr (2, [.ref (ad 1), .ref (ad 2), .ref (ad 3), .ref (ad 4), .ref (ad 6), .ref (ad 8), .ref (ad 10), .int (xb on), .int (nI seen), .int (xd dy)])), ((ad 8), .inr (0, [.ref (ad 9)])), ((ad 9), .inl (cJ, 4, .inr (.inl (xs_rows X)))), (wa, .inl (cJ, N, .inr (.inl (xw_arr f))))]) ([((ad 0), .inr (2, [.ref (ad 1), .ref (ad 2), .ref (ad 3), .ref (ad 4), .ref (ad 6), .ref (ad 8), .ref (ad 10), .int (xb on), .int (nI seen), .int (xd dy)])), ((ad 8), .inr (0, [.ref (ad 9)])), ((ad 9), .inl (cJ, 4, .inr (.inl (xs_rows X)))), (wa, .inl (cJ, N, .inr (.inl (xw_arr (x_cl X f a1 b1)))))]) (some (.int (x_cn X f a1 b1)))) ([.ref (ad 0), .ref wa, .int (nI a1), .int (nI b1)]).toArray s 0 0 (xk_in ([((ad 0), .inr (2, [.ref (ad 1), .ref (ad 2), .ref (ad 3), .ref (ad 4), .ref (ad 6), .ref (ad 8), .ref (ad 10), .int (xb on), .int (nI seen), .int (xd dy)])), ((ad 8), .inr (0, [.ref (ad 9)])), ((ad 9), .inl (cJ, 4, .inr (.inl (xs_rows X)))), (wa, .inl (cJ, N, .inr (.inl (xw_arr f))))]))) (F0 m 6 ls []) := by
    intro n
    induction n with
    | zero =>
      intro i H locs ls hi hn hP hD hS hl
      refine lv_iload hx hb dX2_clean_6 (lv_at hl 0 rfl) ?_
      refine lv_iload_n hx hb dX2_clean_8 rfl (lv_at hl 5 rfl) ?_
      refine lv_icmp_ge (tgt := 46) hx hb dX2_clean_9 (by decide) (fun c_9 => ?_) (fun c_9 => ?_)
      · skip
        refine lv_iload hx hb dX2_clean_46 (lv_at hl 1 rfl) ?_
        exact xk_iretW hx hb hr hlk hP hS (by rw [← hn]; rfl) (by rw [← hn]; rfl) dX2_clean_48
      · skip
        exact absurd (nI_le (a := b1) (b := i) (by omega) (by omega)) c_9
    | succ n ih =>
      intro i H locs ls hi hn hP hD hS hl
      have hfi := hf i
      have hat := x_cl_at X f a1 i
      refine lv_iload hx hb dX2_clean_6 (lv_at hl 0 rfl) ?_
      refine lv_iload_n hx hb dX2_clean_8 rfl (lv_at hl 5 rfl) ?_
      refine lv_icmp_ge (tgt := 46) hx hb dX2_clean_9 (by decide) (fun c_9 => ?_) (fun c_9 => ?_)
      · skip
        exact absurd (xn_le_of (by omega) (by omega) c_9) (by omega)
      · skip
        refine lv_aload_n hx hb dX2_clean_12 rfl (lv_at hl 2 rfl) ?_
        refine lv_aload_n hx hb dX2_clean_13 rfl (lv_at hl 3 rfl) ?_
        refine lv_iload hx hb dX2_clean_14 (lv_at hl 0 rfl) ?_
        refine xa_lald hx hb hK hP 3 1 rfl rfl i rfl (by omega) hN1 dX2_clean_16 ?_
        refine lv_topl (fun y ey => ?_)
        obtain rfl : y = xw_enc (f i) := ey.trans (congrArg xw_enc hat)
        refine xk_callR (va_runV (As := [.long (xw_enc (f i))]) (rest := []) ⟨hx, hb, hml, hown, hts⟩ (k_isStale l D cI cJ cS ad mem reg tal G Q X F on seen dy (f i) (hf i)) (cwV 1 hts gX2_clean_X2_isStale rfl rfl rfl (by decide +kernel) ⟨Nat.le_of_ble_eq_true rfl, Nat.le_of_ble_eq_true rfl⟩) (xk_preVr hK hN hP [0, 1, 2] rfl (ci := 2) rfl 0 rfl) rfl rfl hl.1 rfl (lv_room (Nat.le_of_ble_eq_true rfl)) dX2_clean_17 ⟨Nat.zero_le _, Nat.zero_le _⟩) ?_
        refine lv_if_eq (tgt := 40) hx hb dX2_clean_20 (by decide) (fun c_20 => ?_) (fun c_20 => ?_)
        · skip
          refine lv_iinc (v := (nI (i + 1))) (lv' := [(5, .int (nI (i + 1))), (4, .int (x_acc (fun k => xb (x_stale X (f k))) a1 (i - a1))), (0, .ref (ad 0)), (1, .ref wa), (2, .int (nI a1)), (3, .int (nI b1))]) hx hb dX2_clean_40 hl (k := 0) rfl (nI_1 i) (by decide) rfl (fun ls hl => ?_)
          refine lv_goto (tgt := 6) hx hb dX2_clean_43 (by decide) ?_
          rw [x_cl_f X f (xb_eq c_20)] at hP hD
          have e1 : x_acc (fun k => xb (x_stale X (f k))) a1 (i - a1) = x_acc (fun k => xb (x_stale X (f k))) a1 (i + 1 - a1) := by rw [← x_acc_s (fun k => xb (x_stale X (f k))) hi, c_20, Int32.add_zero]
          rw [e1] at hl
          exact ih (i + 1) H locs ls (by omega) (by omega) hP hD hS (lv_sub hl [0, 1, 2, 3, 4, 5] rfl)
        · skip
          refine lv_aload_n hx hb dX2_clean_23 rfl (lv_at hl 3 rfl) ?_
          refine lv_iload hx hb dX2_clean_24 (lv_at hl 0 rfl) ?_
          refine lv_aload_n hx hb dX2_clean_26 rfl (lv_at hl 3 rfl) ?_
          refine lv_iload hx hb dX2_clean_27 (lv_at hl 0 rfl) ?_
          refine xa_lald hx hb hK hP 3 1 rfl rfl i rfl (by omega) hN1 dX2_clean_29 ?_
          refine lv_topl (fun y ey => ?_)
          obtain rfl : y = xw_enc (f i) := ey.trans (congrArg xw_enc hat)
          refine xk_callR (va_runS (As := [.long (xw_enc (f i))]) (rest := [.int (nI i), .ref wa]) ⟨hx, hb, hml, hown, hts⟩ (k_at l D cI cJ cS (f i) (hf i) ) (va_cwS 1 hts gX2_clean_X3_at rfl rfl rfl (by decide +kernel) ⟨Nat.le_of_ble_eq_true rfl, Nat.le_of_ble_eq_true rfl⟩) (xk_preSr hK hN hP [] rfl) rfl rfl hl.1 rfl (lv_room (Nat.le_of_ble_eq_true rfl)) dX2_clean_30 ⟨Nat.zero_le _, Nat.zero_le _⟩) ?_
          refine xk_callR (va_runS (As := [.int ((f i).1)]) (rest := [.int (nI i), .ref wa]) ⟨hx, hb, hml, hown, hts⟩ (k_ofNumber l D cI cJ cS ((f i).1)) (va_cwS 1 hts gX2_clean_X3_ofNumber rfl rfl rfl (by decide +kernel) ⟨Nat.le_of_ble_eq_true rfl, Nat.le_of_ble_eq_true rfl⟩) (xk_preSr hK hN hP [] rfl) rfl rfl hl.1 rfl (lv_room (Nat.le_of_ble_eq_true rfl)) dX2_clean_33 ⟨Nat.zero_le _, Nat.zero_le _⟩) ?_
          refine xa_last (ws' := [((ad 0), .inr (2, [.ref (ad 1), .ref (ad 2), .ref (ad 3), .ref (ad 4), .ref (ad 6), .ref (ad 8), .ref (ad 10), .int (xb on), .int (nI seen), .int (xd dy)])), ((ad 8), .inr (0, [.ref (ad 9)])), ((ad 9), .inl (cJ, 4, .inr (.inl (xs_rows X)))), (wa, .inl (cJ, N, .inr (.inl (vp_updL (xw_arr (x_cl X f a1 i)) i (xw_enc ((f i).1, none))))))]) hx hb hK hP hD hS 3 1 rfl rfl i rfl (by omega) hN1 dX2_clean_36 rfl (fun H locs hP hD hS => ?_)
          rw [xw_upd, x_cl_t X f hi (xb_ne c_20)] at hP hD
          refine lv_iinc (v := (x_acc (fun k => xb (x_stale X (f k))) a1 (i + 1 - a1))) (lv' := [(4, .int (x_acc (fun k => xb (x_stale X (f k))) a1 (i + 1 - a1))), (5, .int (nI i)), (0, .ref (ad 0)), (1, .ref wa), (2, .int (nI a1)), (3, .int (nI b1))]) hx hb dX2_clean_37 hl (k := 1) rfl (by rw [← x_acc_s (fun k => xb (x_stale X (f k))) hi]; show _ + (1 : Int32) = _ + xb (x_stale X (f i)); rw [xb_ne c_20]; rfl) (by decide) rfl (fun ls hl => ?_)
          refine lv_iinc (v := (nI (i + 1))) (lv' := [(5, .int (nI (i + 1))), (4, .int (x_acc (fun k => xb (x_stale X (f k))) a1 (i + 1 - a1))), (0, .ref (ad 0)), (1, .ref wa), (2, .int (nI a1)), (3, .int (nI b1))]) hx hb dX2_clean_40 hl (k := 1) rfl (nI_1 i) (by decide) rfl (fun ls hl => ?_)
          refine lv_goto (tgt := 6) hx hb dX2_clean_43 (by decide) ?_
          exact ih (i + 1) H locs ls (by omega) (by omega) hP hD hS (lv_sub hl [0, 1, 2, 3, 4, 5] rfl)
  refine lv_iconst (v := 0) hx hb dX2_clean_0 (by decide) ?_
  refine lv_topi (fun y ey => ?_)
  obtain rfl : y = x_acc (fun k => xb (x_stale X (f k))) a1 (a1 - a1) := ey.trans (x_acc_0 _ _)
  refine lv_istore (lv' := [(4, .int (x_acc (fun k => xb (x_stale X (f k))) a1 (a1 - a1))), (0, .ref (ad 0)), (1, .ref wa), (2, .int (nI a1)), (3, .int (nI b1))]) hx hb dX2_clean_1 hl (by decide) rfl (fun ls hl => ?_)
  refine lv_iload_n hx hb dX2_clean_3 rfl (lv_at hl 3 rfl) ?_
  refine lv_istore (lv' := [(5, .int (nI a1)), (4, .int (x_acc (fun k => xb (x_stale X (f k))) a1 (a1 - a1))), (0, .ref (ad 0)), (1, .ref wa), (2, .int (nI a1)), (3, .int (nI b1))]) hx hb dX2_clean_4 hl (by decide) rfl (fun ls hl => ?_)
  refine loop (b1 - a1) a1 s.heap [] ls (Nat.le_refl _) (by omega) ?_ ?_ hS (lv_sub hl [0, 1, 2, 3, 4, 5] rfl)
  · rw [x_cl_0]; exact hP
  · rw [x_cl_0]; exact hD
set_option maxHeartbeats 4000000 in
set_option maxRecDepth 100000 in
theorem k_cleanPage (l : Launch) (D : va_G) (cI cJ cS : ClassId) (ad : Nat → Nat) (mem reg : Nat → xw) (tal : Nat → Int32) (G Q X F : Nat → Bool) (on : Bool) (seen : Nat) (dy : Nat → Bool) (hm : ∀ k, xw_ok (mem k)) (k : Nat) (hk : k < 16) : xk_Wr l yX2_cleanPage wsX2_cleanPage ({ frames := 4, cells := 0, slots := 0, locals := 93 }) D vwCl (xt cI cJ cS) ([((ad 0), .inr (2, [.ref (ad 1), .ref (ad 2), .ref (ad 3), .ref (ad 4), .ref (ad 6), .ref (ad 8), .ref (ad 10), .int (xb on), .int (nI seen), .int (xd dy)])), ((ad 1), .inl (cJ, 256, .inr (.inl (xw_arr mem)))), ((ad 2), .inl (cJ, 8, .inr (.inl (xw_arr reg)))), ((ad 3), .inl (cI, 7, .inl tal)), ((ad 4), .inr (0, [.ref (ad 5)])), ((ad 5), .inl (cJ, 4, .inr (.inl (xs_rows G)))), ((ad 6), .inr (0, [.ref (ad 7)])), ((ad 7), .inl (cJ, 4, .inr (.inl (xs_rows Q)))), ((ad 8), .inr (0, [.ref (ad 9)])), ((ad 9), .inl (cJ, 4, .inr (.inl (xs_rows X)))), ((ad 10), .inr (0, [.ref (ad 11)])), ((ad 11), .inl (cJ, 4, .inr (.inl (xs_rows F))))]) [.ref (ad 0), .int (nI k)] ([((ad 0), .inr (2, [.ref (ad 1), .ref (ad 2), .ref (ad 3), .ref (ad 4), .ref (ad 6), .ref (ad 8), .ref (ad 10), .int (xb on), .int (nI seen), .int (xd dy)])), ((ad 1), .inl (cJ, 256, .inr (.inl (xw_arr (x_cl X mem (16 * k) (16 * k + 16)))))), ((ad 2), .inl (cJ, 8, .inr (.inl (xw_arr reg)))), ((ad 3), .inl (cI, 7, .inl tal)), ((ad 4), .inr (0, [.ref (ad 5)])), ((ad 5), .inl (cJ, 4, .inr (.inl (xs_rows G)))), ((ad 6), .inr (0, [.ref (ad 7)])), ((ad 7), .inl (cJ, 4, .inr (.inl (xs_rows Q)))), ((ad 8), .inr (0, [.ref (ad 9)])), ((ad 9), .inl (cJ, 4, .inr (.inl (xs_rows X)))), ((ad 10), .inr (0, [.ref (ad 11)])), ((ad 11), .inl (cJ, 4, .inr (.inl (xs_rows F))))]) (some (.int (x_cn X mem (16 * k) (16 * k + 16)))) := by
  refine xk_wr (cc := cX2_cleanPage) (maxL := 3) (ret := (some .int)) (by decide) rfl (Nat.le_of_ble_eq_true rfl) (fun p e s m below meth c ls hx hb hr hlk hml hown hts hl hP hK hN hD hS => ?_)
  replace hl : lv_has ls 3 [(0, .ref (ad 0)), (1, .int (nI k))] := hl
  have hiX2 : ∀ w ∈ u_ws RX2 TX2 10, w ∈ wsX2_cleanPage := by decide +kernel
  refine lv_iload_n hx hb dX2_cleanPage_0 rfl (lv_at hl 1 rfl) ?_
  refine lv_bipush (v := 16) hx hb dX2_cleanPage_1 (by decide) ?_
  refine lv_imul hx hb dX2_cleanPage_3 ?_
  refine lv_topi (fun y ey => ?_)
  obtain rfl : y = nI (16 * k) := ey.trans (by rw [show (16 : Int32) = nI 16 from rfl, pk_mul, Nat.mul_comm])
  refine lv_istore_n (lv' := [(2, .int (nI (16 * k))), (0, .ref (ad 0)), (1, .int (nI k))]) hx hb dX2_cleanPage_4 rfl hl (by decide) rfl (fun ls hl => ?_)
  refine lv_aload_n hx hb dX2_cleanPage_5 rfl (lv_at hl 1 rfl) ?_
  refine lv_aload_n hx hb dX2_cleanPage_6 rfl (lv_at hl 1 rfl) ?_
  refine va_get (D := D) (ci := 2) (v := .ref (ad 1)) (C := RX2) (T := TX2) (N := 10) hx hb hts hiX2 hown hK hP 0 rfl rfl 0 (by decide) (hts (.fieldLink RX2 9 "PointerSweep$State" "cells" "[J") (by decide +kernel)) (fun _ h9 => h9) rfl dX2_cleanPage_7 ?_
  refine lv_iload_n hx hb dX2_cleanPage_10 rfl (lv_at hl 0 rfl) ?_
  refine lv_iload_n hx hb dX2_cleanPage_11 rfl (lv_at hl 0 rfl) ?_
  refine lv_bipush (v := 16) hx hb dX2_cleanPage_12 (by decide) ?_
  refine lv_iadd hx hb dX2_cleanPage_14 ?_
  refine lv_topi (fun y ey => ?_)
  obtain rfl : y = nI (16 * k + 16) := ey.trans (nI_add (16 * k) 16)
  refine xk_callW (ws' := [((ad 0), .inr (2, [.ref (ad 1), .ref (ad 2), .ref (ad 3), .ref (ad 4), .ref (ad 6), .ref (ad 8), .ref (ad 10), .int (xb on), .int (nI seen), .int (xd dy)])), ((ad 1), .inl (cJ, 256, .inr (.inl (xw_arr (x_cl X mem (16 * k) (16 * k + 16)))))), ((ad 2), .inl (cJ, 8, .inr (.inl (xw_arr reg)))), ((ad 3), .inl (cI, 7, .inl tal)), ((ad 4), .inr (0, [.ref (ad 5)])), ((ad 5), .inl (cJ, 4, .inr (.inl (xs_rows G)))), ((ad 6), .inr (0, [.ref (ad 7)])), ((ad 7), .inl (cJ, 4, .inr (.inl (xs_rows Q)))), ((ad 8), .inr (0, [.ref (ad 9)])), ((ad 9), .inl (cJ, 4, .inr (.inl (xs_rows X)))), ((ad 10), .inr (0, [.ref (ad 11)])), ((ad 11), .inl (cJ, 4, .inr (.inl (xs_rows F))))]) (va_runV (As := [.ref (ad 1), .int (nI (16 * k)), .int (nI (16 * k + 16))]) (rest := []) ⟨hx, hb, hml, hown, hts⟩ (k_clean l D cI cJ cS ad mem reg tal G Q X F on seen dy (ad 1) 256 (by decide) mem hm (16 * k) (16 * k + 16) (by omega) (by omega)) (cwV 3 hts gX2_cleanPage_X2_clean rfl rfl rfl (by decide +kernel) ⟨Nat.le_of_ble_eq_true rfl, Nat.le_of_ble_eq_true rfl⟩) (xk_preVw hK hN hP hD [0, 8, 9, 1] rfl rfl (ci := 2) rfl 0 rfl) rfl rfl hl.1 rfl (lv_room (Nat.le_of_ble_eq_true rfl)) dX2_cleanPage_15 ⟨Nat.zero_le _, Nat.zero_le _⟩) hP hD hS [0, 8, 9, 1] rfl rfl rfl (fun H locs hP hD hS => ?_)
  exact xk_iretW hx hb hr hlk hP hS rfl rfl dX2_cleanPage_18
