section XCP
set_option maxHeartbeats 4000000 in
set_option maxRecDepth 100000 in
theorem k_X5_init (l : Launch) (D : va_G) (cI cJ cS : ClassId) (m0 sz : Nat) : xk_Nw l yX5_init wsX5_init ({ frames := 1, cells := 4, slots := 55648, locals := 12 }) D vwCl (xt cI cJ cS) [(m0, .inr (4, [.null, .null, .int 0, .null, .null]))] sz [.ref m0] (fun u => True) (fun u => xm cI m0 (u 0 0) (u 0 1) (u 0 2) (u 0 3) x_v0 (fun _ => 0) (fun _ => 0) (fun _ => 0) 0) 4 55648 := by
  refine xk_nw (cc := cX5_init) (maxL := 2) (by decide) rfl rfl (Nat.le_of_ble_eq_true rfl) (fun p e s m below meth c ls A hx hb hr hlk hml hown hts hnm hl hP hK hN hD hS hA => ?_)
  replace hl : lv_has ls 2 [(0, .ref m0)] := hl
  have hiX5 : ∀ w ∈ u_ws RX5 TX5 5, w ∈ wsX5_init := by decide +kernel
  have loop : ∀ (ms mb mw mm n i : Nat) (H : Heap) (locs : List Loc) (ls : Array Slot), i + n = 256 → va_P D vwCl [(m0, .inr (4, [.ref ms, .ref mb, .int 0, .ref mw, .ref mm])), (ms, .inl (cI, 2128, .inl (x_f4 i))), (mb, .inl (cI, 2128, .inl (fun _ => 0))), (mw, .inl (cI, 51072, .inl (fun _ => 0))), (mm, .inl (cI, 320, .inl (fun _ => 0)))] H → va_D A [(m0, .inr (4, [.ref ms, .ref mb, .int 0, .ref mw, .ref mm])), (ms, .inl (cI, 2128, .inl (x_f4 i))), (mb, .inl (cI, 2128, .inl (fun _ => 0))), (mw, .inl (cI, 51072, .inl (fun _ => 0))), (mm, .inl (cI, 320, .inl (fun _ => 0)))] → va_S A s.heap H locs → lv_has ls 2 [(1, .int (nI i)), (0, .ref m0)] → W p l e ({ frames := 1, cells := 4, slots := 55648, locals := 12 }) s m ([.ref m0] : List Value).toArray below meth c H locs 4 55648 (MQ below (xk_N D vwCl (fun u => True) (fun u => xm cI m0 (u 0 0) (u 0 1) (u 0 2) (u 0 3) x_v0 (fun _ => 0) (fun _ => 0) (fun _ => 0) 0) A) ([.ref m0] : List Value).toArray s 4 55648 A) (F0 m 41 ls []) := by
    intro ms mb mw mm n
    induction n with
    | zero =>
      intro i H locs ls hi hP hD hS hl
      obtain rfl : i = 256 := by omega
      refine lv_iload_n hx hb dX5_init_41 rfl (lv_at hl 0 rfl) ?_
      refine lv_sipush (v := 256) hx hb dX5_init_42 (by decide) ?_
      refine lv_icmp_ge (tgt := 66) hx hb dX5_init_45 (by decide) (fun c_45 => ?_) (fun c_45 => ?_)
      · skip
        replace hP := xk_Pset (e := .inl (cI, 2128, .inl (xf x_v0))) hP 1 rfl (xk_atI x_f4_v0)
        replace hD : va_D A [(m0, .inr (4, [.ref ms, .ref mb, .int 0, .ref mw, .ref mm])), (ms, .inl (cI, 2128, .inl (xf x_v0))), (mb, .inl (cI, 2128, .inl (fun _ => 0))), (mw, .inl (cI, 51072, .inl (fun _ => 0))), (mm, .inl (cI, 320, .inl (fun _ => 0)))] := xk_Df hD rfl
        exact xk_nret hx hb hr hlk hP hD hS (fun _ i => [ms, mb, mw, mm].getD i 0) trivial rfl dX5_init_66
      · skip
        exact absurd (nI_le (a := 256) (b := 256) (by omega) (by omega)) c_45
    | succ n ih =>
      intro i H locs ls hi hP hD hS hl
      refine lv_iload_n hx hb dX5_init_41 rfl (lv_at hl 0 rfl) ?_
      refine lv_sipush (v := 256) hx hb dX5_init_42 (by decide) ?_
      refine lv_icmp_ge (tgt := 66) hx hb dX5_init_45 (by decide) (fun c_45 => ?_) (fun c_45 => ?_)
      · skip
        exact absurd (xn_le_of (a := 256) (by decide) (by omega) c_45) (by omega)
      · skip
        refine lv_aload_n hx hb dX5_init_48 rfl (lv_at hl 1 rfl) ?_
        refine va_get (D := D) (ci := 4) (v := .ref ms) (C := RX5) (T := TX5) (N := 5) hx hb hts hiX5 hown hK hP 0 rfl rfl 0 (by decide) (hts (.fieldLink RX5 7 "PointerSweepModel" "st" "[I") (by decide +kernel)) (fun _ h9 => h9) rfl dX5_init_49 ?_
        refine lv_sipush (v := 1832) hx hb dX5_init_52 (by decide) ?_
        refine lv_iload_n hx hb dX5_init_55 rfl (lv_at hl 0 rfl) ?_
        refine lv_iadd hx hb dX5_init_56 ?_
        refine lv_bipush (v := (-4)) hx hb dX5_init_57 (by decide) ?_
        refine xa_iast (ws' := [(m0, .inr (4, [.ref ms, .ref mb, .int 0, .ref mw, .ref mm])), (ms, .inl (cI, 2128, .inl (upd (x_f4 i) (1832 + i) (-4)))), (mb, .inl (cI, 2128, .inl (fun _ => 0))), (mw, .inl (cI, 51072, .inl (fun _ => 0))), (mm, .inl (cI, 320, .inl (fun _ => 0)))]) hx hb hK hP hD hS 1 0 rfl rfl (1832 + i) (nI_add 1832 i) (by omega) (by decide) dX5_init_59 rfl (fun H locs hP hD hS => ?_)
        rw [x_f4_s] at hP hD
        refine lv_iinc (v := (nI (i + 1))) (lv' := [(1, .int (nI (i + 1))), (0, .ref m0)]) hx hb dX5_init_60 hl (k := 0) rfl (nI_1 i) (by decide) rfl (fun ls hl => ?_)
        refine lv_goto (tgt := 41) hx hb dX5_init_63 (by decide) ?_
        exact ih (i + 1) H locs ls (by omega) hP hD hS (lv_sub hl [0, 1] rfl)
  refine lv_aload_n hx hb dX5_init_0 rfl (lv_at hl 0 rfl) ?_
  refine W.objInit hx hb hown (hts (.methodLink RX5 1 objectInit) (by decide +kernel)) (hts (.instanceMethod objectInit) (by decide +kernel)) (hts _ (List.mem_cons_of_mem _ (List.mem_append_left _ (List.mem_of_getElem? (i := 2) rfl)))) rfl (by rw [hml]; exact hl.1) rfl dX5_init_1 (Nat.le_of_ble_eq_true rfl) (Nat.le_of_ble_eq_true rfl) ?_
  refine W.eq (g2 := F0 m 4 ls []) rfl ?_
  refine lv_aload_n hx hb dX5_init_4 rfl (lv_at hl 0 rfl) ?_
  refine lv_sipush (v := 2128) hx hb dX5_init_5 (by decide) ?_
  refine xa_newI (n := 2128) (N' := 2128) hx hb (hts (.arrayClass .int) (by decide +kernel)) hK hP hD hS hA 0 rfl (by decide) (by decide +kernel) (by decide) (Nat.le_of_ble_eq_true rfl) (Nat.le_of_ble_eq_true rfl) dX5_init_8 (fun q8 H hP hD hS => ?_)
  replace hP : va_P D vwCl ([(m0, .inr (4, [.null, .null, .int 0, .null, .null])), (q8, .inl (cI, 2128, .inl (fun _ => 0)))]) H := hP
  replace hD : va_D A ([(m0, .inr (4, [.null, .null, .int 0, .null, .null])), (q8, .inl (cI, 2128, .inl (fun _ => 0)))]) := hD
  refine xa_putF (ci := 4) (v := .ref q8) (ty := .array .int) (C := RX5) (T := TX5) (N := 5) (ws' := [(m0, .inr (4, [.ref q8, .null, .int 0, .null, .null])), (q8, .inl (cI, 2128, .inl (fun _ => 0)))]) hx hb hts hiX5 tyX5 tyX5_ok nmX5 hown hK hP hD hS 0 rfl rfl 0 (by decide) (hts (.fieldLink RX5 7 "PointerSweepModel" "st" "[I") (by decide +kernel)) (fun _ h9 => h9) rfl hnm rfl (by decide +kernel) rfl rfl (Nat.le_of_ble_eq_true rfl) dX5_init_10 rfl (fun H locs hP hD hS => ?_)
  refine lv_aload_n hx hb dX5_init_13 rfl (lv_at hl 0 rfl) ?_
  refine lv_sipush (v := 2128) hx hb dX5_init_14 (by decide) ?_
  refine xa_newI (n := 2128) (N' := 2128) hx hb (hts (.arrayClass .int) (by decide +kernel)) hK hP hD hS hA 0 rfl (by decide) (by decide +kernel) (by decide) (Nat.le_of_ble_eq_true rfl) (Nat.le_of_ble_eq_true rfl) dX5_init_17 (fun q17 H hP hD hS => ?_)
  replace hP : va_P D vwCl ([(m0, .inr (4, [.ref q8, .null, .int 0, .null, .null])), (q8, .inl (cI, 2128, .inl (fun _ => 0))), (q17, .inl (cI, 2128, .inl (fun _ => 0)))]) H := hP
  replace hD : va_D A ([(m0, .inr (4, [.ref q8, .null, .int 0, .null, .null])), (q8, .inl (cI, 2128, .inl (fun _ => 0))), (q17, .inl (cI, 2128, .inl (fun _ => 0)))]) := hD
  refine xa_putF (ci := 4) (v := .ref q17) (ty := .array .int) (C := RX5) (T := TX5) (N := 5) (ws' := [(m0, .inr (4, [.ref q8, .ref q17, .int 0, .null, .null])), (q8, .inl (cI, 2128, .inl (fun _ => 0))), (q17, .inl (cI, 2128, .inl (fun _ => 0)))]) hx hb hts hiX5 tyX5 tyX5_ok nmX5 hown hK hP hD hS 0 rfl rfl 1 (by decide) (hts (.fieldLink RX5 13 "PointerSweepModel" "back" "[I") (by decide +kernel)) (fun _ h9 => h9) rfl hnm rfl (by decide +kernel) rfl rfl (Nat.le_of_ble_eq_true rfl) dX5_init_19 rfl (fun H locs hP hD hS => ?_)
  refine lv_aload_n hx hb dX5_init_22 rfl (lv_at hl 0 rfl) ?_
  refine lv_ldc hx hb hown (hts (.constant RX5 16 (51072)) (by decide +kernel)) dX5_init_23 ?_
  refine xa_newI (n := 51072) (N' := 51072) hx hb (hts (.arrayClass .int) (by decide +kernel)) hK hP hD hS hA 0 rfl (by decide) (by decide +kernel) (by decide) (Nat.le_of_ble_eq_true rfl) (Nat.le_of_ble_eq_true rfl) dX5_init_25 (fun q25 H hP hD hS => ?_)
  replace hP : va_P D vwCl ([(m0, .inr (4, [.ref q8, .ref q17, .int 0, .null, .null])), (q8, .inl (cI, 2128, .inl (fun _ => 0))), (q17, .inl (cI, 2128, .inl (fun _ => 0))), (q25, .inl (cI, 51072, .inl (fun _ => 0)))]) H := hP
  replace hD : va_D A ([(m0, .inr (4, [.ref q8, .ref q17, .int 0, .null, .null])), (q8, .inl (cI, 2128, .inl (fun _ => 0))), (q17, .inl (cI, 2128, .inl (fun _ => 0))), (q25, .inl (cI, 51072, .inl (fun _ => 0)))]) := hD
  refine xa_putF (ci := 4) (v := .ref q25) (ty := .array .int) (C := RX5) (T := TX5) (N := 5) (ws' := [(m0, .inr (4, [.ref q8, .ref q17, .int 0, .ref q25, .null])), (q8, .inl (cI, 2128, .inl (fun _ => 0))), (q17, .inl (cI, 2128, .inl (fun _ => 0))), (q25, .inl (cI, 51072, .inl (fun _ => 0)))]) hx hb hts hiX5 tyX5 tyX5_ok nmX5 hown hK hP hD hS 0 rfl rfl 3 (by decide) (hts (.fieldLink RX5 17 "PointerSweepModel" "was" "[I") (by decide +kernel)) (fun _ h9 => h9) rfl hnm rfl (by decide +kernel) rfl rfl (Nat.le_of_ble_eq_true rfl) dX5_init_27 rfl (fun H locs hP hD hS => ?_)
  refine lv_aload_n hx hb dX5_init_30 rfl (lv_at hl 0 rfl) ?_
  refine lv_sipush (v := 320) hx hb dX5_init_31 (by decide) ?_
  refine xa_newI (n := 320) (N' := 320) hx hb (hts (.arrayClass .int) (by decide +kernel)) hK hP hD hS hA 0 rfl (by decide) (by decide +kernel) (by decide) (Nat.le_of_ble_eq_true rfl) (Nat.le_of_ble_eq_true rfl) dX5_init_34 (fun q34 H hP hD hS => ?_)
  replace hP : va_P D vwCl ([(m0, .inr (4, [.ref q8, .ref q17, .int 0, .ref q25, .null])), (q8, .inl (cI, 2128, .inl (fun _ => 0))), (q17, .inl (cI, 2128, .inl (fun _ => 0))), (q25, .inl (cI, 51072, .inl (fun _ => 0))), (q34, .inl (cI, 320, .inl (fun _ => 0)))]) H := hP
  replace hD : va_D A ([(m0, .inr (4, [.ref q8, .ref q17, .int 0, .ref q25, .null])), (q8, .inl (cI, 2128, .inl (fun _ => 0))), (q17, .inl (cI, 2128, .inl (fun _ => 0))), (q25, .inl (cI, 51072, .inl (fun _ => 0))), (q34, .inl (cI, 320, .inl (fun _ => 0)))]) := hD
  refine xa_putF (ci := 4) (v := .ref q34) (ty := .array .int) (C := RX5) (T := TX5) (N := 5) (ws' := [(m0, .inr (4, [.ref q8, .ref q17, .int 0, .ref q25, .ref q34])), (q8, .inl (cI, 2128, .inl (fun _ => 0))), (q17, .inl (cI, 2128, .inl (fun _ => 0))), (q25, .inl (cI, 51072, .inl (fun _ => 0))), (q34, .inl (cI, 320, .inl (fun _ => 0)))]) hx hb hts hiX5 tyX5 tyX5_ok nmX5 hown hK hP hD hS 0 rfl rfl 4 (by decide) (hts (.fieldLink RX5 20 "PointerSweepModel" "middle" "[I") (by decide +kernel)) (fun _ h9 => h9) rfl hnm rfl (by decide +kernel) rfl rfl (Nat.le_of_ble_eq_true rfl) dX5_init_36 rfl (fun H locs hP hD hS => ?_)
  refine lv_iconst (v := 0) hx hb dX5_init_39 (by decide) ?_
  refine lv_istore_n (lv' := [(1, .int 0), (0, .ref m0)]) hx hb dX5_init_40 rfl hl (by decide) rfl (fun ls hl => ?_)
  replace hP : va_P D vwCl [(m0, .inr (4, [.ref q8, .ref q17, .int 0, .ref q25, .ref q34])), (q8, .inl (cI, 2128, .inl (x_f4 0))), (q17, .inl (cI, 2128, .inl (fun _ => 0))), (q25, .inl (cI, 51072, .inl (fun _ => 0))), (q34, .inl (cI, 320, .inl (fun _ => 0)))] H := by rw [← x_f4_0]; exact hP
  replace hD : va_D A [(m0, .inr (4, [.ref q8, .ref q17, .int 0, .ref q25, .ref q34])), (q8, .inl (cI, 2128, .inl (x_f4 0))), (q17, .inl (cI, 2128, .inl (fun _ => 0))), (q25, .inl (cI, 51072, .inl (fun _ => 0))), (q34, .inl (cI, 320, .inl (fun _ => 0)))] := xk_Df hD rfl
  exact loop q8 q17 q25 q34 256 0 H locs ls rfl hP hD hS hl
end XCP
