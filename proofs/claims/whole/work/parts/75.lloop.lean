set_option maxHeartbeats 4000000 in
set_option maxRecDepth 100000 in
theorem xl_loop {p : Program} {l : Launch} {e : Env} {s : State} {m : MethodId} {below : List Frame} {meth : Method} {c : Code} {b L : Nat} {xs : Nat → Int32} {D : va_G} {cI cJ cS : ClassId} {A : Nat → Prop} (C : xl_C p s m c b L xs D cI cJ cS A 600000 7302250) (hA : ∀ q, A q → s.heap.size ≤ q) (hr : meth.sig.returnType = ret) (hlocks : meth.locks = false) {h0 ca hh ka : Nat} {fk : Nat → Option Nat} {ad : Nat → Nat} {ads : Nat → Nat → Nat} {N4 : Nat} (h4 : N4 = 24) (hka : ∀ i, i < 24 → fk i = some (ads i 0)) {m0 ms mb mw mm : Nat} (hL : L < 2 ^ 31) :
    ∀ (n i : Nat) (cr : Nat → Int64) (v : xV) (vs : Nat → xV) (nx sz : Nat) (b9 w mi : Nat → Int32) (kp : Nat) (H : Heap) (locs : List Loc) (ls : Array Slot), i ≤ L → L + 1 ≤ i + n → x_inv v → x_hist vs nx sz w kp → va_P D vwCl (xx cI cJ cS h0 ca hh ka fk ad ads N4 cr v vs nx sz ++ xm cI m0 ms mb mw mm v b9 w mi kp) H → va_D A (xx cI cJ cS h0 ca hh ka fk ad ads N4 cr v vs nx sz ++ xm cI m0 ms mb mw mm v b9 w mi kp) → va_S A s.heap H locs → lv_has ls 4 [(3, .int (nI i)), (2, .ref m0), (1, .ref h0), (0, .ref b)] → W p l e room_1 s m #[Value.ref b] below meth c H locs 600000 7302250 (lw_Z below #[Value.ref b] s) (F0 m 18 ls []) := by
  intro n
  induction n with
  | zero =>
    intro i cr v vs nx sz b9 w mi kp H locs ls h1 h2
    exact absurd h2 (by omega)
  | succ n ih =>
    intro i cr v vs nx sz b9 w mi kp H locs ls hiL hin hv hh9 hP hD hS hl
    have C1 := C
    obtain ⟨hx, hb, hml, hown, hts, hX, hbl, hbA, hK, hN, hce, hsl⟩ := C1
    refine lv_iload_n hx hb dL_law_18 rfl (lv_at hl 0 rfl) ?_
    refine lv_aload_n hx hb dL_law_19 rfl (lv_at hl 3 rfl) ?_
    refine va_slen hx hb hX hbl hbA hS dL_law_20 ?_
    refine lv_bipush (v := 6) hx hb dL_law_21 (by decide) ?_
    refine lv_isub hx hb dL_law_23 ?_
    refine lv_icmp_gt (tgt := 673) hx hb dL_law_24 (by decide) (fun c_24 => ?_) (fun c_24 => ?_)
    · refine lv_iconst (v := 1) hx hb dL_law_673 (by decide) ?_
      refine va_forget (fun q hq => hA _ (hS.2.2 q hq)) ?_
      exact lw_ret hx hb hr hlocks dL_law_674
    · have hi : i + 6 ≤ L := xl_le hiL hL c_24
      have K : ∀ (cr : Nat → Int64) (v : xV) (vs : Nat → xV) (nx sz : Nat) (b9 w mi : Nat → Int32) (kp : Nat) (H : Heap) (locs : List Loc), x_inv v → x_hist vs nx sz w kp → va_P D vwCl (xx cI cJ cS h0 ca hh ka fk ad ads N4 cr v vs nx sz ++ xm cI m0 ms mb mw mm v b9 w mi kp) H → va_D A (xx cI cJ cS h0 ca hh ka fk ad ads N4 cr v vs nx sz ++ xm cI m0 ms mb mw mm v b9 w mi kp) → va_S A s.heap H locs → W p l e room_1 s m #[Value.ref b] below meth c H locs 600000 7302250 (lw_Z below #[Value.ref b] s) (F0 m 667 ls []) := by
        intro cr v vs nx sz b9 w mi kp H locs hv hh9 hP hD hS
        refine lv_iinc (v := (nI (i + 6))) (lv' := [(3, .int (nI (i + 6))), (2, .ref m0), (1, .ref h0), (0, .ref b)]) hx hb dL_law_667 hl (k := 0) rfl (nI_add i 6) (by decide) rfl (fun ls hl => ?_)
        refine lv_goto (tgt := 18) hx hb dL_law_670 (by decide) ?_
        exact ih (i + 6) cr v vs nx sz b9 w mi kp H locs ls hi (by omega) hv hh9 hP hD hS hl
      refine lv_aload_n hx hb dL_law_27 rfl (lv_at hl 3 rfl) ?_
      refine lv_iload_n hx hb dL_law_28 rfl (lv_at hl 0 rfl) ?_
      refine xl_sld hx hb hX hbl hbA hS i rfl (by omega) hL dL_law_29 ?_
      refine lv_bipush (v := 31) hx hb dL_law_30 (by decide) ?_
      refine lv_iand hx hb dL_law_32 ?_
      generalize xs i &&& 31 = x9
      by_cases c_0 : x9 = 0
      · refine lv_tableIn (off := 83) (tgt := 116) hx hb dL_law_33 (by rw [c_0]; decide) (by rw [c_0]; decide) (by rw [c_0]; rfl) (by decide) ?_
        exact xl_give C h4 hka hi hL hv hh9 hP hD hS hl K
      by_cases c_1 : x9 = 1
      · refine lv_tableIn (off := 116) (tgt := 149) hx hb dL_law_33 (by rw [c_1]; decide) (by rw [c_1]; decide) (by rw [c_1]; rfl) (by decide) ?_
        exact xl_back C h4 hka hi hL hv hh9 hP hD hS hl K
      by_cases c_2 : x9 = 2
      · refine lv_tableIn (off := 139) (tgt := 172) hx hb dL_law_33 (by rw [c_2]; decide) (by rw [c_2]; decide) (by rw [c_2]; rfl) (by decide) ?_
        exact xl_number C h4 hka hi hL hv hh9 hP hD hS hl K
      by_cases c_3 : x9 = 3
      · refine lv_tableIn (off := 172) (tgt := 205) hx hb dL_law_33 (by rw [c_3]; decide) (by rw [c_3]; decide) (by rw [c_3]; rfl) (by decide) ?_
        exact xl_copy C h4 hka hi hL hv hh9 hP hD hS hl K
      by_cases c_4 : x9 = 4
      · refine lv_tableIn (off := 205) (tgt := 238) hx hb dL_law_33 (by rw [c_4]; decide) (by rw [c_4]; decide) (by rw [c_4]; rfl) (by decide) ?_
        exact xl_move C h4 hka hi hL hv hh9 hP hD hS hl K
      by_cases c_5 : x9 = 5
      · refine lv_tableIn (off := 238) (tgt := 271) hx hb dL_law_33 (by rw [c_5]; decide) (by rw [c_5]; decide) (by rw [c_5]; rfl) (by decide) ?_
        exact xl_narrow C h4 hka hi hL hv hh9 hP hD hS hl K
      by_cases c_6 : x9 = 6
      · refine lv_tableIn (off := 291) (tgt := 324) hx hb dL_law_33 (by rw [c_6]; decide) (by rw [c_6]; decide) (by rw [c_6]; rfl) (by decide) ?_
        exact xl_look C h4 hka hi hL hv hh9 hP hD hS hl K
      by_cases c_7 : x9 = 7
      · refine lv_tableIn (off := 334) (tgt := 367) hx hb dL_law_33 (by rw [c_7]; decide) (by rw [c_7]; decide) (by rw [c_7]; rfl) (by decide) ?_
        exact xl_lay C h4 hka hi hL hv hh9 hP hD hS hl K
      by_cases c_8 : x9 = 8
      · refine lv_tableIn (off := 377) (tgt := 410) hx hb dL_law_33 (by rw [c_8]; decide) (by rw [c_8]; decide) (by rw [c_8]; rfl) (by decide) ?_
        exact xl_block C h4 hka hi hL hv hh9 hP hD hS hl K
      by_cases c_9 : x9 = 9
      · refine lv_tableIn (off := 440) (tgt := 473) hx hb dL_law_33 (by rw [c_9]; decide) (by rw [c_9]; decide) (by rw [c_9]; rfl) (by decide) ?_
        exact xl_sweep C h4 hka hi hL hv hh9 hP hD hS hl K
      by_cases c_10 : x9 = 10
      · refine lv_tableIn (off := 453) (tgt := 486) hx hb dL_law_33 (by rw [c_10]; decide) (by rw [c_10]; decide) (by rw [c_10]; rfl) (by decide) ?_
        exact xl_step C h4 hka hi hL hv hh9 hP hD hS hl K
      by_cases c_11 : x9 = 11
      · refine lv_tableIn (off := 476) (tgt := 509) hx hb dL_law_33 (by rw [c_11]; decide) (by rw [c_11]; decide) (by rw [c_11]; rfl) (by decide) ?_
        exact xl_end C h4 hka hi hL hv hh9 hP hD hS hl K
      by_cases c_12 : x9 = 12
      · refine lv_tableIn (off := 489) (tgt := 522) hx hb dL_law_33 (by rw [c_12]; decide) (by rw [c_12]; decide) (by rw [c_12]; rfl) (by decide) ?_
        exact xl_told C h4 hka hi hL hv hh9 hP hD hS hl K
      by_cases c_13 : x9 = 13
      · refine lv_tableIn (off := 532) (tgt := 565) hx hb dL_law_33 (by rw [c_13]; decide) (by rw [c_13]; decide) (by rw [c_13]; rfl) (by decide) ?_
        exact xl_page C h4 hka hi hL hv hh9 hP hD hS hl K
      by_cases c_14 : x9 = 14
      · refine lv_tableIn (off := 565) (tgt := 598) hx hb dL_law_33 (by rw [c_14]; decide) (by rw [c_14]; decide) (by rw [c_14]; rfl) (by decide) ?_
        exact xl_range C h4 hka hi hL hv hh9 hP hD hS hl K
      by_cases c_15 : x9 = 15
      · refine lv_tableIn (off := 598) (tgt := 631) hx hb dL_law_33 (by rw [c_15]; decide) (by rw [c_15]; decide) (by rw [c_15]; rfl) (by decide) ?_
        exact xl_undo C h4 hka hi hL hv hh9 hP hD hS hl K
      by_cases c_16 : x9 = 16
      · refine lv_tableIn (off := 611) (tgt := 644) hx hb dL_law_33 (by rw [c_16]; decide) (by rw [c_16]; decide) (by rw [c_16]; rfl) (by decide) ?_
        exact xl_count C h4 hka hi hL hv hh9 hP hD hS hl K
      refine lv_tableOut (tgt := 667) hx hb dL_law_33 (by have h0 := lv_neT (a := 0) c_0 rfl; have h1 := lv_neT (a := 1) c_1 rfl; have h2 := lv_neT (a := 2) c_2 rfl; have h3 := lv_neT (a := 3) c_3 rfl; have h4 := lv_neT (a := 4) c_4 rfl; have h5 := lv_neT (a := 5) c_5 rfl; have h6 := lv_neT (a := 6) c_6 rfl; have h7 := lv_neT (a := 7) c_7 rfl; have h8 := lv_neT (a := 8) c_8 rfl; have h9 := lv_neT (a := 9) c_9 rfl; have h10 := lv_neT (a := 10) c_10 rfl; have h11 := lv_neT (a := 11) c_11 rfl; have h12 := lv_neT (a := 12) c_12 rfl; have h13 := lv_neT (a := 13) c_13 rfl; have h14 := lv_neT (a := 14) c_14 rfl; have h15 := lv_neT (a := 15) c_15 rfl; have h16 := lv_neT (a := 16) c_16 rfl; omega) (by decide) ?_
      exact K cr v vs nx sz b9 w mi kp H locs hv hh9 hP hD hS
