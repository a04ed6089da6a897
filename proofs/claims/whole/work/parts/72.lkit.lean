/-! The law: what stands still while it runs, and its own rows -/
section XLW
variable {p : Program} {l : Launch} {e : Env} {R : Room} {s : State} {m : MethodId} {args : Array Value} {below : List Frame} {meth : Method} {c : Code} {H : Heap} {locs : List Loc} {cells slots : Nat} {Q : State → Prop}
variable {pc : Nat} {ls : Array Slot} {rest st0 : List Value} {D : va_G} {cl : List vw_C} {A : Nat → Prop} {tys : List (ClassId × FieldType)} {H0 : Heap}
def xl_C (p : Program) (s : State) (m : MethodId) (c : Code) (b L : Nat) (xs : Nat → Int32) (D : va_G) (cI cJ cS : ClassId) (A : Nat → Prop) (cells slots : Nat) : Prop := p.tables.exec = Jvm.exec ∧ c.code = cL_law ∧ c.maxLocals = 4 ∧ s.vm.findClass RL = some m.cls ∧ (∀ w ∈ wsL_law, w.before #[Value.ref b] s = true) ∧ va_X b L xs s s.heap ∧ b < s.heap.size ∧ ¬ A b ∧ va_K D vwCl (xt cI cJ cS) s ∧ xn s ∧ cells ≤ room_1.cells ∧ slots ≤ room_1.slots
theorem xl_sld {cc : ByteArray} (hx : p.tables.exec = Jvm.exec) (hb : c.code = cc) {b L : Nat} {xs : Nat → Int32} (hX : va_X b L xs s H0) (hbl : b < H0.size) (hbA : ¬ A b) (hS : va_S A H0 H locs) {i : Int32} (k : Nat) (hi : i = nI k) (hk : k < L) (hL : L < 2 ^ 31) (hd : decode cc pc = .ok (.iaload, 1))
    (kk : W p l e R s m args below meth c H locs cells slots Q (F0 m (pc + 1) ls (.int (xs k) :: rest))) : W p l e R s m args below meth c H locs cells slots Q (F0 m pc ls (.int i :: .ref b :: rest)) := by
  subst hi
  refine va_sld hx hb hX hbl hbA hS (vp_in_nI hk hL) hd ?_
  rw [nI_clamp (Nat.lt_trans hk hL)]
  exact kk
theorem xk_preVsr {As : List Value} {b : Addr} {X W0 : va_W} {ci : Nat} {q : vw_C} {fs : List Value} (hK : va_K D cl tys s) (hN : xn s) (hP : va_P D cl (X ++ W0) H) (hc : cl[ci]? = some q) (q0 : Nat) (he : W0[q0]? = some (b, .inr (ci, fs))) : PreV s H q.1 b (va_Pc (.ref b :: As) (xk_Br D cl tys W0)) As := by
  have hP2 : va_P D cl W0 H := xk_Pmem hP (fun x hx => List.mem_append_right _ hx)
  exact ⟨xk_blr, va_recv hK hP2 hc he, fun U hU hW => ⟨rfl, by rw [hU]; exact hP2, va_K.moved hW.alike hK, hN.warm hW⟩⟩
theorem xk_preVfr {As : List Value} {b : Addr} {W0 wr : va_W} {ci : Nat} {q : vw_C} {fs : List Value} (hK : va_K D cl tys s) (hN : xn s) (hP : va_P D cl (W0 ++ wr) H) (hc : cl[ci]? = some q) (q0 : Nat) (he : W0[q0]? = some (b, .inr (ci, fs))) : PreV s H q.1 b (va_Pc (.ref b :: As) (xk_Br D cl tys W0)) As := by
  have hP2 : va_P D cl W0 H := xk_Pmem hP (fun x hx => List.mem_append_left _ hx)
  exact ⟨xk_blr, va_recv hK hP2 hc he, fun U hU hW => ⟨rfl, by rw [hU]; exact hP2, va_K.moved hW.alike hK, hN.warm hW⟩⟩
theorem xk_preVf {As : List Value} {b : Addr} {W0 wr : va_W} {ci : Nat} {q : vw_C} {fs : List Value} (hK : va_K D cl tys s) (hN : xn s) (hP : va_P D cl (W0 ++ wr) H) (hD : va_D A (W0 ++ wr)) (hc : cl[ci]? = some q) (q0 : Nat) (he : W0[q0]? = some (b, .inr (ci, fs))) : PreV s H q.1 b (va_Pc (.ref b :: As) (xk_Bw D cl tys W0)) As := xk_preVm (X := []) hK hN hP hD hc q0 he
theorem xk_callF {a : Array Value} {rv : Option Value} {W0 W1 wr : va_W} (hr : va_Run p l e R s m args below meth c H locs cells slots 0 0 (F0 m pc ls st0) rest (xk_W D cl W0 W1 rv a) (xk_in W0))
    (hP : va_P D cl (W0 ++ wr) H) (hD : va_D A (W0 ++ wr)) (hS : va_S A H0 H locs) (ha : W1.map (fun x => x.1) = W0.map (fun x => x.1))
    (kk : ∀ (H1 : Heap) (locs1 : List Loc), va_P D cl (W1 ++ wr) H1 → va_D A (W1 ++ wr) → va_S A H0 H1 locs1 → W p l e R s m args below meth c H1 locs1 cells slots Q (F0 m (pc + 3) ls (rv.toList ++ rest))) : W p l e R s m args below meth c H locs cells slots Q (F0 m pc ls st0) := xk_callM (X := []) hr hP hD hS ha kk
theorem xx_cr (cI cJ cS : ClassId) (h0 ca hh ka : Nat) (fk : Nat → Option Nat) (ad : Nat → Nat) (ads : Nat → Nat → Nat) (N4 : Nat) (cr cr2 : Nat → Int64) (v : xV) (vs : Nat → xV) (nx sz : Nat) : (xx cI cJ cS h0 ca hh ka fk ad ads N4 cr v vs nx sz).map (fun x => x.1) = (xx cI cJ cS h0 ca hh ka fk ad ads N4 cr2 v vs nx sz).map (fun x => x.1) := by
  unfold xx
  rw [List.map_append, List.map_append]
  rfl
theorem xl_le {i L : Nat} (hi : i ≤ L) (hL : L < 2 ^ 31) (h : ¬ nI L - 6 < nI i) : i + 6 ≤ L := by
  rw [Int32.lt_iff_toInt_lt] at h
  have h1 : (nI L - 6).toInt = (L : Int) - 6 := by
    rw [Int32.toInt_sub, nI_toInt hL]
    show Int.bmod ((L : Int) - 6) (2 ^ 32) = _
    exact Int.bmod_eq_of_le (by omega) (by omega)
  rw [h1, nI_toInt (Nat.lt_of_le_of_lt hi hL)] at h
  omega
end XLW
