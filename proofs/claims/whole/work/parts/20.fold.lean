/-! Calls whose callee's cells are the middle, or the end, of the caller's world -/
section XF
variable {p : Program} {l : Launch} {e : Env} {R : Room} {s : State} {m : MethodId} {args : Array Value} {below : List Frame} {meth : Method} {c : Code} {H : Heap} {locs : List Loc} {cells slots : Nat} {Q : State → Prop}
variable {pc : Nat} {ls : Array Slot} {rest st0 : List Value} {D : va_G} {cl : List vw_C} {A : Nat → Prop} {tys : List (ClassId × FieldType)} {H0 : Heap} {a : Array Value}
theorem xk_callM {rv : Option Value} {X W0 W1 wr : va_W} (hr : va_Run p l e R s m args below meth c H locs cells slots 0 0 (F0 m pc ls st0) rest (xk_W D cl W0 W1 rv a) (xk_in W0))
    (hP : va_P D cl (X ++ (W0 ++ wr)) H) (hD : va_D A (X ++ (W0 ++ wr))) (hS : va_S A H0 H locs) (ha : W1.map (fun x => x.1) = W0.map (fun x => x.1))
    (kk : ∀ (H1 : Heap) (locs1 : List Loc), va_P D cl (X ++ (W1 ++ wr)) H1 → va_D A (X ++ (W1 ++ wr)) → va_S A H0 H1 locs1 → W p l e R s m args below meth c H1 locs1 cells slots Q (F0 m (pc + 3) ls (rv.toList ++ rest))) : W p l e R s m args below meth c H locs cells slots Q (F0 m pc ls st0) := by
  have hn := (xk_Dnd.mp hD).1
  rw [List.map_append, List.map_append, List.nodup_append] at hn
  obtain ⟨-, hn2, hn3⟩ := hn
  rw [List.nodup_append] at hn2
  refine xk_callC hr hP hD hS (fun q hq => List.mem_append_right _ (List.mem_append_left _ hq)) (fun x hx => ?_) (by rw [List.map_append, List.map_append, List.map_append, List.map_append, ha]) kk
  rcases List.mem_append.mp hx with h | h
  · exact Or.inr ⟨List.mem_append_left _ h, fun z => hn3 x.1 (List.mem_map.mpr ⟨x, h, rfl⟩) x.1 (List.mem_append_left _ z) rfl⟩
  · rcases List.mem_append.mp h with h | h
    · exact Or.inl h
    · exact Or.inr ⟨List.mem_append_right _ (List.mem_append_right _ h), fun z => hn2.2.2 x.1 z x.1 (List.mem_map.mpr ⟨x, h, rfl⟩) rfl⟩
theorem xk_callS {rv : Option Value} {X W0 W1 : va_W} (hr : va_Run p l e R s m args below meth c H locs cells slots 0 0 (F0 m pc ls st0) rest (xk_W D cl W0 W1 rv a) (xk_in W0))
    (hP : va_P D cl (X ++ W0) H) (hD : va_D A (X ++ W0)) (hS : va_S A H0 H locs) (ha : W1.map (fun x => x.1) = W0.map (fun x => x.1))
    (kk : ∀ (H1 : Heap) (locs1 : List Loc), va_P D cl (X ++ W1) H1 → va_D A (X ++ W1) → va_S A H0 H1 locs1 → W p l e R s m args below meth c H1 locs1 cells slots Q (F0 m (pc + 3) ls (rv.toList ++ rest))) : W p l e R s m args below meth c H locs cells slots Q (F0 m pc ls st0) := by
  have hn := (xk_Dnd.mp hD).1
  rw [List.map_append, List.nodup_append] at hn
  obtain ⟨-, hn2, hn3⟩ := hn
  refine xk_callC hr hP hD hS (fun q hq => List.mem_append_right _ hq) (fun x hx => ?_) (by rw [List.map_append, List.map_append, ha]) kk
  rcases List.mem_append.mp hx with h | h
  · exact Or.inr ⟨List.mem_append_left _ h, fun z => hn3 x.1 (List.mem_map.mpr ⟨x, h, rfl⟩) x.1 z rfl⟩
  · exact Or.inl h
theorem xk_Dmid {X W0 wr : va_W} (hD : va_D A (X ++ (W0 ++ wr))) : va_D (fun _ => True) W0 := by
  have hn := (xk_Dnd.mp hD).1
  rw [List.map_append, List.map_append, List.nodup_append] at hn
  have hn2 := hn.2.1
  rw [List.nodup_append] at hn2
  exact xk_Dnd.mpr ⟨hn2.1, fun _ _ => trivial⟩
theorem xk_Dend {X W0 : va_W} (hD : va_D A (X ++ W0)) : va_D (fun _ => True) W0 := by
  have hn := (xk_Dnd.mp hD).1
  rw [List.map_append, List.nodup_append] at hn
  exact xk_Dnd.mpr ⟨hn.2.1, fun _ _ => trivial⟩
theorem xk_preVm {As : List Value} {b : Addr} {X W0 wr : va_W} {ci : Nat} {q : vw_C} {fs : List Value} (hK : va_K D cl tys s) (hN : xn s) (hP : va_P D cl (X ++ (W0 ++ wr)) H) (hD : va_D A (X ++ (W0 ++ wr))) (hc : cl[ci]? = some q) (q0 : Nat) (he : W0[q0]? = some (b, .inr (ci, fs))) : PreV s H q.1 b (va_Pc (.ref b :: As) (xk_Bw D cl tys W0)) As := by
  have hP2 : va_P D cl W0 H := xk_Pmem hP (fun x hx => List.mem_append_right _ (List.mem_append_left _ hx))
  exact ⟨xk_blw, va_recv hK hP2 hc he, fun U hU hW => ⟨rfl, by rw [hU]; exact hP2, va_K.moved hW.alike hK, hN.warm hW, xk_Dmid hD⟩⟩
theorem xk_preVmr {As : List Value} {b : Addr} {X W0 wr : va_W} {ci : Nat} {q : vw_C} {fs : List Value} (hK : va_K D cl tys s) (hN : xn s) (hP : va_P D cl (X ++ (W0 ++ wr)) H) (hc : cl[ci]? = some q) (q0 : Nat) (he : W0[q0]? = some (b, .inr (ci, fs))) : PreV s H q.1 b (va_Pc (.ref b :: As) (xk_Br D cl tys W0)) As := by
  have hP2 : va_P D cl W0 H := xk_Pmem hP (fun x hx => List.mem_append_right _ (List.mem_append_left _ hx))
  exact ⟨xk_blr, va_recv hK hP2 hc he, fun U hU hW => ⟨rfl, by rw [hU]; exact hP2, va_K.moved hW.alike hK, hN.warm hW⟩⟩
theorem xk_preVs {As : List Value} {b : Addr} {X W0 : va_W} {ci : Nat} {q : vw_C} {fs : List Value} (hK : va_K D cl tys s) (hN : xn s) (hP : va_P D cl (X ++ W0) H) (hD : va_D A (X ++ W0)) (hc : cl[ci]? = some q) (q0 : Nat) (he : W0[q0]? = some (b, .inr (ci, fs))) : PreV s H q.1 b (va_Pc (.ref b :: As) (xk_Bw D cl tys W0)) As := by
  have hP2 : va_P D cl W0 H := xk_Pmem hP (fun x hx => List.mem_append_right _ hx)
  exact ⟨xk_blw, va_recv hK hP2 hc he, fun U hU hW => ⟨rfl, by rw [hU]; exact hP2, va_K.moved hW.alike hK, hN.warm hW, xk_Dend hD⟩⟩
theorem xa_lastW {cc : ByteArray} {ws ws' : va_W} {a : Nat} (hx : p.tables.exec = Jvm.exec) (hb : c.code = cc) (hK : va_K D cl tys s) (hP : va_P D cl ws H) (hD : va_D A ws) (hS : va_S A H0 H locs) (q0 t0 : Nat) {cA : ClassId} {n : Nat} {f : Nat → xw} (ha : ws[q0]? = some (a, .inl (cA, n, .inr (.inl (xw_arr f))))) (ht : tys[t0]? = some (cA, .long)) {i : Int32} {w : xw} (k : Nat) (hi : i = nI k) (hk : k < n) (hn : n < 2 ^ 31) (hd : decode cc pc = .ok (.lastore, 1)) (hs : ws.set q0 (a, .inl (cA, n, .inr (.inl (xw_arr (va_up f k w))))) = ws')
    (kk : ∀ (H1 : Heap) (locs1 : List Loc), va_P D cl ws' H1 → va_D A ws' → va_S A H0 H1 locs1 → W p l e R s m args below meth c H1 locs1 cells slots Q (F0 m (pc + 1) ls rest)) : W p l e R s m args below meth c H locs cells slots Q (F0 m pc ls (.long (xw_enc w) :: .int i :: .ref a :: rest)) := by
  subst hs
  refine xa_last hx hb hK hP hD hS q0 t0 ha ht k hi hk hn hd rfl ?_
  rw [xw_upd]
  exact kk
end XF
theorem k_useOfF (l : Launch) (D : va_G) (cI cJ cS : ClassId) (ad : Nat → Nat) (v : xV) (k : Nat) (hk : k < 256) : xk_Rd l yX2_useOf wsX2_useOf ({ frames := 2, cells := 0, slots := 0, locals := 41 }) D vwCl (xt cI cJ cS) (xst cI cJ ad v) [.ref (ad 0), .int (nI k)] (some (.int (xu v.2.2.2.1 v.2.2.2.2.1 k))) := k_useOf l D cI cJ cS ad v.1 v.2.1 v.2.2.1 v.2.2.2.1 v.2.2.2.2.1 v.2.2.2.2.2.1 v.2.2.2.2.2.2.1 v.2.2.2.2.2.2.2.1 v.2.2.2.2.2.2.2.2.1 v.2.2.2.2.2.2.2.2.2 k hk
theorem k_firstFreeRowF (l : Launch) (D : va_G) (cI cJ cS : ClassId) (ad : Nat → Nat) (v : xV) (x : Int32) : xk_Rd l yX2_firstFreeRow wsX2_firstFreeRow ({ frames := 3, cells := 0, slots := 0, locals := 62 }) D vwCl (xt cI cJ cS) (xst cI cJ ad v) [.ref (ad 0), .int x] (some (.int (x_ffr (xu v.2.2.2.1 v.2.2.2.2.1) x 256 0 0))) := k_firstFreeRow l D cI cJ cS ad v.1 v.2.1 v.2.2.1 v.2.2.2.1 v.2.2.2.2.1 v.2.2.2.2.2.1 v.2.2.2.2.2.2.1 v.2.2.2.2.2.2.2.1 v.2.2.2.2.2.2.2.2.1 v.2.2.2.2.2.2.2.2.2 x
theorem k_rangeFromF (l : Launch) (D : va_G) (cI cJ cS : ClassId) (ad : Nat → Nat) (v : xV) (k : Nat) (hk : k < 256) : xk_Rd l yX2_rangeFrom wsX2_rangeFrom ({ frames := 2, cells := 0, slots := 0, locals := 41 }) D vwCl (xt cI cJ cS) (xst cI cJ ad v) [.ref (ad 0), .int (nI k)] (some (.int (nI (x_rf v.2.2.2.2.2.2.1 k)))) := k_rangeFrom l D cI cJ cS ad v.1 v.2.1 v.2.2.1 v.2.2.2.1 v.2.2.2.2.1 v.2.2.2.2.2.1 v.2.2.2.2.2.2.1 v.2.2.2.2.2.2.2.1 v.2.2.2.2.2.2.2.2.1 v.2.2.2.2.2.2.2.2.2 k hk
theorem k_rangeToF (l : Launch) (D : va_G) (cI cJ cS : ClassId) (ad : Nat → Nat) (v : xV) (k : Nat) (hk : k < 256) : xk_Rd l yX2_rangeTo wsX2_rangeTo ({ frames := 2, cells := 0, slots := 0, locals := 41 }) D vwCl (xt cI cJ cS) (xst cI cJ ad v) [.ref (ad 0), .int (nI k)] (some (.int (nI (x_rt v.2.2.2.1 v.2.2.2.2.2.2.1 (255 - k) (k + 1))))) := k_rangeTo l D cI cJ cS ad v.1 v.2.1 v.2.2.1 v.2.2.2.1 v.2.2.2.2.1 v.2.2.2.2.2.1 v.2.2.2.2.2.2.1 v.2.2.2.2.2.2.2.1 v.2.2.2.2.2.2.2.2.1 v.2.2.2.2.2.2.2.2.2 k hk
theorem k_isRangeF (l : Launch) (D : va_G) (cI cJ cS : ClassId) (ad : Nat → Nat) (v : xV) (k : Nat) (hk : k < 256) (t : Nat) (ht : t < 512) : xk_Rd l yX2_isRange wsX2_isRange ({ frames := 3, cells := 0, slots := 0, locals := 63 }) D vwCl (xt cI cJ cS) (xst cI cJ ad v) [.ref (ad 0), .int (nI k), .int (nI t)] (some (.int (xb (x_isr v.2.2.2.1 v.2.2.2.2.2.2.1 k t)))) := k_isRange l D cI cJ cS ad v.1 v.2.1 v.2.2.1 v.2.2.2.1 v.2.2.2.2.1 v.2.2.2.2.2.1 v.2.2.2.2.2.2.1 v.2.2.2.2.2.2.2.1 v.2.2.2.2.2.2.2.2.1 v.2.2.2.2.2.2.2.2.2 k hk t ht
theorem k_pointersInF (l : Launch) (D : va_G) (cI cJ cS : ClassId) (ad : Nat → Nat) (v : xV) (hm : ∀ k, xw_ok (v.1 k)) (a1 b1 : Nat) (hab : a1 ≤ b1) (hb1 : b1 ≤ 256) : xk_Rd l yX2_pointersIn wsX2_pointersIn ({ frames := 1, cells := 0, slots := 0, locals := 21 }) D vwCl (xt cI cJ cS) (xst cI cJ ad v) [.ref (ad 0), .int (nI a1), .int (nI b1)] (some (.int (x_acc (fun k => xb (xw_p (v.1 k))) a1 (b1 - a1)))) := k_pointersIn l D cI cJ cS ad v.1 v.2.1 v.2.2.1 v.2.2.2.1 v.2.2.2.2.1 v.2.2.2.2.2.1 v.2.2.2.2.2.2.1 v.2.2.2.2.2.2.2.1 v.2.2.2.2.2.2.2.2.1 v.2.2.2.2.2.2.2.2.2 hm a1 b1 hab hb1
theorem k_isSeenF (l : Launch) (D : va_G) (cI cJ cS : ClassId) (ad : Nat → Nat) (v : xV) (hse : v.2.2.2.2.2.2.2.2.1 ≤ 16) (k : Nat) (hk : k < 16) : xk_Rd l yX2_isSeen wsX2_isSeen ({ frames := 0, cells := 0, slots := 0, locals := 0 }) D vwCl (xt cI cJ cS) (xst cI cJ ad v) [.ref (ad 0), .int (nI k)] (some (.int (xb (decide (k < v.2.2.2.2.2.2.2.2.1))))) := k_isSeen l D cI cJ cS ad v.1 v.2.1 v.2.2.1 v.2.2.2.1 v.2.2.2.2.1 v.2.2.2.2.2.1 v.2.2.2.2.2.2.1 v.2.2.2.2.2.2.2.1 v.2.2.2.2.2.2.2.2.1 v.2.2.2.2.2.2.2.2.2 hse k hk
theorem k_isDirtyF (l : Launch) (D : va_G) (cI cJ cS : ClassId) (ad : Nat → Nat) (v : xV) (k : Nat) (hk : k < 16) : xk_Rd l yX2_isDirty wsX2_isDirty ({ frames := 0, cells := 0, slots := 0, locals := 0 }) D vwCl (xt cI cJ cS) (xst cI cJ ad v) [.ref (ad 0), .int (nI k)] (some (.int (xb (v.2.2.2.2.2.2.2.2.2 k)))) := k_isDirty l D cI cJ cS ad v.1 v.2.1 v.2.2.1 v.2.2.2.1 v.2.2.2.2.1 v.2.2.2.2.2.1 v.2.2.2.2.2.2.1 v.2.2.2.2.2.2.2.1 v.2.2.2.2.2.2.2.2.1 v.2.2.2.2.2.2.2.2.2 k hk
theorem k_lookUpF (l : Launch) (D : va_G) (cI cJ cS : ClassId) (ad : Nat → Nat) (v : xV) (hm : ∀ k, xw_ok (v.1 k)) (k : Nat) (hk : k < 256) : xk_Wr l yX2_lookUp wsX2_lookUp ({ frames := 3, cells := 0, slots := 0, locals := 68 }) D vwCl (xt cI cJ cS) (xst cI cJ ad v) [.ref (ad 0), .int (nI k)] (xst cI cJ ad (v.1, v.2.1, x_tk v.2.2.2.2.2.1 (v.1 k) v.2.2.1, v.2.2.2.1, v.2.2.2.2.1, v.2.2.2.2.2.1, v.2.2.2.2.2.2.1, v.2.2.2.2.2.2.2.1, v.2.2.2.2.2.2.2.2.1, v.2.2.2.2.2.2.2.2.2)) (some (.long (xw_enc (x_lk v.2.2.2.2.2.1 (v.1 k))))) := k_lookUp l D cI cJ cS ad v.1 v.2.1 v.2.2.1 v.2.2.2.1 v.2.2.2.2.1 v.2.2.2.2.2.1 v.2.2.2.2.2.2.1 v.2.2.2.2.2.2.2.1 v.2.2.2.2.2.2.2.2.1 v.2.2.2.2.2.2.2.2.2 hm k hk
theorem k_layDownF (l : Launch) (D : va_G) (cI cJ cS : ClassId) (ad : Nat → Nat) (v : xV) (hse : v.2.2.2.2.2.2.2.2.1 ≤ 16) (k : Nat) (hk : k < 256) (w : xw) (hw : xw_ok w) : xk_Wr l yX2_layDown wsX2_layDown ({ frames := 1, cells := 0, slots := 0, locals := 21 }) D vwCl (xt cI cJ cS) (xst cI cJ ad v) [.ref (ad 0), .int (nI k), .long (xw_enc w)] (xst cI cJ ad (va_up v.1 k w, v.2.1, v.2.2.1, v.2.2.2.1, v.2.2.2.2.1, v.2.2.2.2.2.1, v.2.2.2.2.2.2.1, v.2.2.2.2.2.2.2.1, v.2.2.2.2.2.2.2.2.1, x_dk v.2.2.2.2.2.2.2.2.1 w k v.2.2.2.2.2.2.2.2.2)) none := k_layDown l D cI cJ cS ad v.1 v.2.1 v.2.2.1 v.2.2.2.1 v.2.2.2.2.1 v.2.2.2.2.2.1 v.2.2.2.2.2.2.1 v.2.2.2.2.2.2.2.1 v.2.2.2.2.2.2.2.2.1 v.2.2.2.2.2.2.2.2.2 hse k hk w hw
theorem k_beginSweepF (l : Launch) (D : va_G) (cI cJ cS : ClassId) (ad : Nat → Nat) (v : xV)  : xk_Wr l yX2_beginSweep wsX2_beginSweep ({ frames := 3, cells := 0, slots := 0, locals := 81 }) D vwCl (xt cI cJ cS) (xst cI cJ ad v) [.ref (ad 0)] (xst cI cJ ad (v.1, v.2.1, v.2.2.1, v.2.2.2.1, v.2.2.2.2.1, v.2.2.2.2.1, v.2.2.2.2.2.2.1, true, v.2.2.2.2.2.2.2.2.1, v.2.2.2.2.2.2.2.2.2)) (some (.int (nI (xs_w v.2.2.2.2.1 0 256)))) := k_beginSweep l D cI cJ cS ad v.1 v.2.1 v.2.2.1 v.2.2.2.1 v.2.2.2.2.1 v.2.2.2.2.2.1 v.2.2.2.2.2.2.1 v.2.2.2.2.2.2.2.1 v.2.2.2.2.2.2.2.2.1 v.2.2.2.2.2.2.2.2.2 
theorem k_giveOutF (l : Launch) (D : va_G) (cI cJ cS : ClassId) (ad : Nat → Nat) (v : xV) (a1 b1 : Nat) (hab : a1 ≤ b1) (hb1 : b1 ≤ 256) (ha1 : a1 < 256) : xk_Wr l yX2_giveOut wsX2_giveOut ({ frames := 2, cells := 0, slots := 0, locals := 41 }) D vwCl (xt cI cJ cS) (xst cI cJ ad v) [.ref (ad 0), .int (nI a1), .int (nI b1)] (xst cI cJ ad (x_clr v.1 a1 b1, v.2.1, v.2.2.1, x_add v.2.2.2.1 a1 b1, v.2.2.2.2.1, v.2.2.2.2.2.1, va_up v.2.2.2.2.2.2.1 a1 true, v.2.2.2.2.2.2.2.1, v.2.2.2.2.2.2.2.2.1, v.2.2.2.2.2.2.2.2.2)) none := k_giveOut l D cI cJ cS ad v.1 v.2.1 v.2.2.1 v.2.2.2.1 v.2.2.2.2.1 v.2.2.2.2.2.1 v.2.2.2.2.2.2.1 v.2.2.2.2.2.2.2.1 v.2.2.2.2.2.2.2.2.1 v.2.2.2.2.2.2.2.2.2 a1 b1 hab hb1 ha1
theorem k_giveBackF (l : Launch) (D : va_G) (cI cJ cS : ClassId) (ad : Nat → Nat) (v : xV) (a1 b1 : Nat) (hab : a1 ≤ b1) (hb1 : b1 ≤ 256) (ha1 : a1 < 256) : xk_Wr l yX2_giveBack wsX2_giveBack ({ frames := 2, cells := 0, slots := 0, locals := 41 }) D vwCl (xt cI cJ cS) (xst cI cJ ad v) [.ref (ad 0), .int (nI a1), .int (nI b1)] (xst cI cJ ad (v.1, v.2.1, v.2.2.1, x_sub v.2.2.2.1 a1 b1, x_add v.2.2.2.2.1 a1 b1, v.2.2.2.2.2.1, va_up v.2.2.2.2.2.2.1 a1 false, v.2.2.2.2.2.2.2.1, v.2.2.2.2.2.2.2.2.1, v.2.2.2.2.2.2.2.2.2)) none := k_giveBack l D cI cJ cS ad v.1 v.2.1 v.2.2.1 v.2.2.2.1 v.2.2.2.2.1 v.2.2.2.2.2.1 v.2.2.2.2.2.2.1 v.2.2.2.2.2.2.2.1 v.2.2.2.2.2.2.2.2.1 v.2.2.2.2.2.2.2.2.2 a1 b1 hab hb1 ha1
theorem k_lookAtNextPagesF (l : Launch) (D : va_G) (cI cJ cS : ClassId) (ad : Nat → Nat) (v : xV) (hm : ∀ k, xw_ok (v.1 k)) (hse : v.2.2.2.2.2.2.2.2.1 ≤ 16) (k : Nat) (hk1 : 1 ≤ k) (hk : k ≤ 16) : xk_Wr l yX2_lookAtNextPages wsX2_lookAtNextPages ({ frames := 5, cells := 0, slots := 0, locals := 115 }) D vwCl (xt cI cJ cS) (xst cI cJ ad v) [.ref (ad 0), .int (nI k)] (xst cI cJ ad (x_cl v.2.2.2.2.2.1 v.1 (16 * v.2.2.2.2.2.2.2.2.1) (16 * x_stop v.2.2.2.2.2.2.2.2.1 k), v.2.1, x_pt v.2.2.2.2.2.1 v.1 v.2.2.2.2.2.2.2.2.1 k v.2.2.1, v.2.2.2.1, v.2.2.2.2.1, v.2.2.2.2.2.1, v.2.2.2.2.2.2.1, v.2.2.2.2.2.2.2.1, x_stop v.2.2.2.2.2.2.2.2.1 k, v.2.2.2.2.2.2.2.2.2)) (some (.int (x_cn v.2.2.2.2.2.1 v.1 (16 * v.2.2.2.2.2.2.2.2.1) (16 * x_stop v.2.2.2.2.2.2.2.2.1 k)))) := k_lookAtNextPages l D cI cJ cS ad v.1 v.2.1 v.2.2.1 v.2.2.2.1 v.2.2.2.2.1 v.2.2.2.2.2.1 v.2.2.2.2.2.2.1 v.2.2.2.2.2.2.2.1 v.2.2.2.2.2.2.2.2.1 v.2.2.2.2.2.2.2.2.2 hm hse k hk1 hk
theorem k_finishSweepF (l : Launch) (D : va_G) (cI cJ cS : ClassId) (ad : Nat → Nat) (v : xV) (hm : ∀ k, xw_ok (v.1 k)) (hg : ∀ k, xw_ok (v.2.1 k)) : xk_Wr l yX2_finishSweep wsX2_finishSweep ({ frames := 5, cells := 0, slots := 0, locals := 115 }) D vwCl (xt cI cJ cS) (xst cI cJ ad v) [.ref (ad 0)] (xst cI cJ ad (x_dm v.2.2.2.2.2.1 v.2.2.2.2.2.2.2.2.2 v.1 16, x_cl v.2.2.2.2.2.1 v.2.1 0 8, x_et v.2.2.2.2.2.1 v.2.2.2.2.2.2.2.2.2 v.1 v.2.1 v.2.2.1, v.2.2.2.1, fun i => v.2.2.2.2.1 i && !v.2.2.2.2.2.1 i, fun i => v.2.2.2.2.2.1 i && !v.2.2.2.2.2.1 i, v.2.2.2.2.2.2.1, false, 0, fun _ => false)) (some (.int (nI (xs_w v.2.2.2.2.2.1 0 256)))) := k_finishSweep l D cI cJ cS ad v.1 v.2.1 v.2.2.1 v.2.2.2.1 v.2.2.2.2.1 v.2.2.2.2.2.1 v.2.2.2.2.2.2.1 v.2.2.2.2.2.2.2.1 v.2.2.2.2.2.2.2.2.1 v.2.2.2.2.2.2.2.2.2 hm hg
theorem k_becomeF (l : Launch) (D : va_G) (cI cJ cS : ClassId) (ad bd : Nat → Nat) (v v2 : xV) : xk_Wr l yX2_become wsX2_become ({ frames := 2, cells := 0, slots := 0, locals := 81 }) D vwCl (xt cI cJ cS) (xst cI cJ ad v ++ xst cI cJ bd v2) [.ref (ad 0), .ref (bd 0)] (xst cI cJ ad v2 ++ xst cI cJ bd v2) none := k_become l D cI cJ cS ad v.1 v.2.1 v.2.2.1 v.2.2.2.1 v.2.2.2.2.1 v.2.2.2.2.2.1 v.2.2.2.2.2.2.1 v.2.2.2.2.2.2.2.1 v.2.2.2.2.2.2.2.2.1 v.2.2.2.2.2.2.2.2.2 bd v2.1 v2.2.1 v2.2.2.1 v2.2.2.2.1 v2.2.2.2.2.1 v2.2.2.2.2.2.1 v2.2.2.2.2.2.2.1 v2.2.2.2.2.2.2.2.1 v2.2.2.2.2.2.2.2.2.1 v2.2.2.2.2.2.2.2.2.2
set_option maxHeartbeats 4000000 in
set_option maxRecDepth 100000 in
theorem k_keep (l : Launch) (D : va_G) (cI cJ cS : ClassId) (hh ka : Nat) (fk : Nat → Option Nat) (ad : Nat → Nat) (ads : Nat → Nat → Nat) (v : xV) (vs : Nat → xV) (nx sz : Nat) (hka : ∀ i, i < 24 → fk i = some (ads i 0)) (hnx : nx < 24) (hsz : sz ≤ 24) (N4 : Nat) (h4 : N4 = 24)  : xk_Wr l yX1_keep wsX1_keep ({ frames := 3, cells := 0, slots := 0, locals := 102 }) D vwCl (xt cI cJ cS) ([(hh, .inr (1, [.ref ka, .int (nI nx), .int (nI sz)])), (ka, .inl (cS, 24, .inr (.inr (.inr (.inr fk)))))] ++ (xst cI cJ ad v ++ xpl cI cJ ads vs N4)) [.ref hh, .ref (ad 0)] ([(hh, .inr (1, [.ref ka, .int (nI (x_nx nx)), .int (nI (x_sz sz))])), (ka, .inl (cS, 24, .inr (.inr (.inr (.inr fk)))))] ++ (xst cI cJ ad v ++ xpl cI cJ ads (va_up vs nx v) N4)) none := by
  refine xk_wr2 (cc := cX1_keep) (maxL := 2) (ret := none) (by decide) rfl (Nat.le_of_ble_eq_true rfl) (fun p e s m below meth c ls W0v W1v hW1 hx hb hr hlk hml hown hts hl hP hK hN hD hS => ?_)
  replace hl : lv_has ls 2 [(0, .ref hh), (1, .ref (ad 0))] := hl
  have hiX1 : ∀ w ∈ u_ws RX1 TX1 3, w ∈ wsX1_keep := by decide +kernel
  have hpm := xpl_perm cI cJ ads vs nx N4 (by have := hnx; omega)
  have hp1 : (xst cI cJ ad v ++ xpl cI cJ ads vs N4).Perm ((xst cI cJ (ads nx) (vs nx) ++ xst cI cJ ad v) ++ xpx cI cJ ads vs nx N4) := (hpm.append_left _).trans (by rw [← List.append_assoc]; exact List.perm_append_comm.append_right _)
  replace hP : va_P D vwCl ([(hh, .inr (1, [.ref ka, .int (nI nx), .int (nI sz)])), (ka, .inl (cS, 24, .inr (.inr (.inr (.inr fk)))))] ++ ((xst cI cJ (ads nx) (vs nx) ++ xst cI cJ ad v) ++ xpx cI cJ ads vs nx N4)) s.heap := xk_Pperm (hp1.append_left _) hP
  replace hD : va_D _ ([(hh, .inr (1, [.ref ka, .int (nI nx), .int (nI sz)])), (ka, .inl (cS, 24, .inr (.inr (.inr (.inr fk)))))] ++ ((xst cI cJ (ads nx) (vs nx) ++ xst cI cJ ad v) ++ xpx cI cJ ads vs nx N4)) := xk_Dperm (hp1.append_left _) hD
  have hq : (([(hh, .inr (1, [.ref ka, .int (nI (x_nx nx)), .int (nI (x_sz sz))])), (ka, .inl (cS, 24, .inr (.inr (.inr (.inr fk)))))] : va_W) ++ (xst cI cJ ad v ++ xpl cI cJ ads (va_up vs nx v) N4)).Perm (([(hh, .inr (1, [.ref ka, .int (nI (x_nx nx)), .int (nI (x_sz sz))])), (ka, .inl (cS, 24, .inr (.inr (.inr (.inr fk)))))] : va_W) ++ ((xst cI cJ (ads nx) v ++ xst cI cJ ad v) ++ xpx cI cJ ads vs nx N4)) := by
    have h := xpl_perm cI cJ ads (va_up vs nx v) nx N4 (by omega)
    rw [va_up_self, xpx_up] at h
    exact ((h.append_left _).trans (by rw [← List.append_assoc]; exact List.perm_append_comm.append_right _)).append_left _
  generalize xpx cI cJ ads vs nx N4 = tl at hP hD hq
  refine lv_aload_n hx hb dX1_keep_0 rfl (lv_at hl 0 rfl) ?_
  refine va_get (D := D) (ci := 1) (v := .ref ka) (C := RX1) (T := TX1) (N := 3) hx hb hts hiX1 hown hK hP 0 rfl rfl 0 (by decide) (hts (.fieldLink RX1 11 "PointerSweep$History" "kept" "[LPointerSweep$State;") (by decide +kernel)) (fun _ h9 => h9) rfl dX1_keep_1 ?_
  refine lv_aload_n hx hb dX1_keep_4 rfl (lv_at hl 0 rfl) ?_
  refine va_get (D := D) (ci := 1) (v := .int (nI nx)) (C := RX1) (T := TX1) (N := 3) hx hb hts hiX1 hown hK hP 0 rfl rfl 1 (by decide) (hts (.fieldLink RX1 17 "PointerSweep$History" "next" "I") (by decide +kernel)) (fun _ h9 => h9) rfl dX1_keep_5 ?_
  refine xa_aldq hx hb hK hP 1 2 rfl rfl nx rfl hnx (by decide) (hka nx hnx) dX1_keep_8 ?_
  refine lv_aload_n hx hb dX1_keep_9 rfl (lv_at hl 1 rfl) ?_
  refine xk_callM (va_runV (As := [.ref (ad 0)]) (rest := []) ⟨hx, hb, hml, hown, hts⟩ (k_becomeF l D cI cJ cS (ads nx) ad (vs nx) v) (cwV 1 hts gX1_keep_X2_become rfl rfl rfl (by decide +kernel) ⟨Nat.le_of_ble_eq_true rfl, Nat.le_of_ble_eq_true rfl⟩) (xk_preVm hK hN hP hD (ci := 2) rfl 0 rfl) rfl rfl hl.1 rfl (lv_room (Nat.le_of_ble_eq_true rfl)) dX1_keep_10 ⟨Nat.zero_le _, Nat.zero_le _⟩) hP hD hS rfl (fun H locs hP hD hS => ?_)
  refine lv_aload_n hx hb dX1_keep_13 rfl (lv_at hl 0 rfl) ?_
  refine lv_aload_n hx hb dX1_keep_14 rfl (lv_at hl 0 rfl) ?_
  refine va_get (D := D) (ci := 1) (v := .int (nI nx)) (C := RX1) (T := TX1) (N := 3) hx hb hts hiX1 hown hK hP 0 rfl rfl 1 (by decide) (hts (.fieldLink RX1 17 "PointerSweep$History" "next" "I") (by decide +kernel)) (fun _ h9 => h9) rfl dX1_keep_15 ?_
  refine lv_iconst (v := 1) hx hb dX1_keep_18 (by decide) ?_
  refine lv_iadd hx hb dX1_keep_19 ?_
  refine lv_bipush (v := 24) hx hb dX1_keep_20 (by decide) ?_
  refine lv_icmp_ge (tgt := 34) hx hb dX1_keep_22 (by decide) (fun c_22 => ?_) (fun c_22 => ?_)
  · skip
    refine lv_iconst (v := 0) hx hb dX1_keep_34 (by decide) ?_
    refine lv_topi (fun y ey => ?_)
    obtain rfl : y = nI (x_nx nx) := ey.trans (x_nx_n hnx c_22)
    refine xa_put (ci := 1) (v := .int (nI (x_nx nx))) (ty := .int) (C := RX1) (T := TX1) (N := 3) (ws' := [(hh, .inr (1, [.ref ka, .int (nI (x_nx nx)), .int (nI sz)])), (ka, .inl (cS, 24, .inr (.inr (.inr (.inr fk)))))] ++ ((xst cI cJ (ads nx) v ++ xst cI cJ ad v) ++ tl)) hx hb hts hiX1 tyX1 tyX1_ok nmX1 hown hK hP hD hS 0 rfl rfl 1 (by decide) (hts (.fieldLink RX1 17 "PointerSweep$History" "next" "I") (by decide +kernel)) (fun _ h9 => h9) rfl (by decide +kernel) rfl rfl (Nat.le_of_ble_eq_true rfl) dX1_keep_35 rfl (fun H locs hP hD hS => ?_)
    refine lv_aload_n hx hb dX1_keep_38 rfl (lv_at hl 0 rfl) ?_
    refine lv_bipush (v := 24) hx hb dX1_keep_39 (by decide) ?_
    refine lv_aload_n hx hb dX1_keep_41 rfl (lv_at hl 0 rfl) ?_
    refine va_get (D := D) (ci := 1) (v := .int (nI sz)) (C := RX1) (T := TX1) (N := 3) hx hb hts hiX1 hown hK hP 0 rfl rfl 2 (by decide) (hts (.fieldLink RX1 21 "PointerSweep$History" "size" "I") (by decide +kernel)) (fun _ h9 => h9) rfl dX1_keep_42 ?_
    refine lv_iconst (v := 1) hx hb dX1_keep_45 (by decide) ?_
    refine lv_iadd hx hb dX1_keep_46 ?_
    refine va_mmin hx hb (hml.trans hl.1.symm) hown (hts (.methodLink RX1 29 Lib.Math.min.name) (by decide +kernel)) (hts (.static Lib.Math.min.name) (by decide +kernel)) (hts (.initialized "java/lang/Math") (by decide +kernel)) (hts (.code Lib.Math.min.name Lib.Math.min.code 2 (some .int)) (by decide +kernel)) (Nat.le_of_ble_eq_true rfl) (Nat.le_of_ble_eq_true rfl) (Nat.zero_le _) (Nat.zero_le _) dX1_keep_47 ?_
    refine lv_topi (fun y ey => ?_)
    obtain rfl : y = nI (x_sz sz) := ey.trans (x_sz_min hsz)
    refine xa_put (ci := 1) (v := .int (nI (x_sz sz))) (ty := .int) (C := RX1) (T := TX1) (N := 3) (ws' := [(hh, .inr (1, [.ref ka, .int (nI (x_nx nx)), .int (nI (x_sz sz))])), (ka, .inl (cS, 24, .inr (.inr (.inr (.inr fk)))))] ++ ((xst cI cJ (ads nx) v ++ xst cI cJ ad v) ++ tl)) hx hb hts hiX1 tyX1 tyX1_ok nmX1 hown hK hP hD hS 0 rfl rfl 2 (by decide) (hts (.fieldLink RX1 21 "PointerSweep$History" "size" "I") (by decide +kernel)) (fun _ h9 => h9) rfl (by decide +kernel) rfl rfl (Nat.le_of_ble_eq_true rfl) dX1_keep_50 rfl (fun H locs hP hD hS => ?_)
    replace hP := xk_Pperm hq.symm hP
    exact xk_vretW hx hb hr hlk hP hS hW1 dX1_keep_53
  · skip
    refine lv_aload_n hx hb dX1_keep_25 rfl (lv_at hl 0 rfl) ?_
    refine va_get (D := D) (ci := 1) (v := .int (nI nx)) (C := RX1) (T := TX1) (N := 3) hx hb hts hiX1 hown hK hP 0 rfl rfl 1 (by decide) (hts (.fieldLink RX1 17 "PointerSweep$History" "next" "I") (by decide +kernel)) (fun _ h9 => h9) rfl dX1_keep_26 ?_
    refine lv_iconst (v := 1) hx hb dX1_keep_29 (by decide) ?_
    refine lv_iadd hx hb dX1_keep_30 ?_
    refine lv_goto (tgt := 35) hx hb dX1_keep_31 (by decide) ?_
    refine lv_topi (fun y ey => ?_)
    obtain rfl : y = nI (x_nx nx) := ey.trans (x_nx_y hnx c_22)
    refine xa_put (ci := 1) (v := .int (nI (x_nx nx))) (ty := .int) (C := RX1) (T := TX1) (N := 3) (ws' := [(hh, .inr (1, [.ref ka, .int (nI (x_nx nx)), .int (nI sz)])), (ka, .inl (cS, 24, .inr (.inr (.inr (.inr fk)))))] ++ ((xst cI cJ (ads nx) v ++ xst cI cJ ad v) ++ tl)) hx hb hts hiX1 tyX1 tyX1_ok nmX1 hown hK hP hD hS 0 rfl rfl 1 (by decide) (hts (.fieldLink RX1 17 "PointerSweep$History" "next" "I") (by decide +kernel)) (fun _ h9 => h9) rfl (by decide +kernel) rfl rfl (Nat.le_of_ble_eq_true rfl) dX1_keep_35 rfl (fun H locs hP hD hS => ?_)
    refine lv_aload_n hx hb dX1_keep_38 rfl (lv_at hl 0 rfl) ?_
    refine lv_bipush (v := 24) hx hb dX1_keep_39 (by decide) ?_
    refine lv_aload_n hx hb dX1_keep_41 rfl (lv_at hl 0 rfl) ?_
    refine va_get (D := D) (ci := 1) (v := .int (nI sz)) (C := RX1) (T := TX1) (N := 3) hx hb hts hiX1 hown hK hP 0 rfl rfl 2 (by decide) (hts (.fieldLink RX1 21 "PointerSweep$History" "size" "I") (by decide +kernel)) (fun _ h9 => h9) rfl dX1_keep_42 ?_
    refine lv_iconst (v := 1) hx hb dX1_keep_45 (by decide) ?_
    refine lv_iadd hx hb dX1_keep_46 ?_
    refine va_mmin hx hb (hml.trans hl.1.symm) hown (hts (.methodLink RX1 29 Lib.Math.min.name) (by decide +kernel)) (hts (.static Lib.Math.min.name) (by decide +kernel)) (hts (.initialized "java/lang/Math") (by decide +kernel)) (hts (.code Lib.Math.min.name Lib.Math.min.code 2 (some .int)) (by decide +kernel)) (Nat.le_of_ble_eq_true rfl) (Nat.le_of_ble_eq_true rfl) (Nat.zero_le _) (Nat.zero_le _) dX1_keep_47 ?_
    refine lv_topi (fun y ey => ?_)
    obtain rfl : y = nI (x_sz sz) := ey.trans (x_sz_min hsz)
    refine xa_put (ci := 1) (v := .int (nI (x_sz sz))) (ty := .int) (C := RX1) (T := TX1) (N := 3) (ws' := [(hh, .inr (1, [.ref ka, .int (nI (x_nx nx)), .int (nI (x_sz sz))])), (ka, .inl (cS, 24, .inr (.inr (.inr (.inr fk)))))] ++ ((xst cI cJ (ads nx) v ++ xst cI cJ ad v) ++ tl)) hx hb hts hiX1 tyX1 tyX1_ok nmX1 hown hK hP hD hS 0 rfl rfl 2 (by decide) (hts (.fieldLink RX1 21 "PointerSweep$History" "size" "I") (by decide +kernel)) (fun _ h9 => h9) rfl (by decide +kernel) rfl rfl (Nat.le_of_ble_eq_true rfl) dX1_keep_50 rfl (fun H locs hP hD hS => ?_)
    replace hP := xk_Pperm hq.symm hP
    exact xk_vretW hx hb hr hlk hP hS hW1 dX1_keep_53
set_option maxHeartbeats 4000000 in
set_option maxRecDepth 100000 in
theorem k_takeBack (l : Launch) (D : va_G) (cI cJ cS : ClassId) (hh ka : Nat) (fk : Nat → Option Nat) (ad : Nat → Nat) (ads : Nat → Nat → Nat) (v : xV) (vs : Nat → xV) (nx sz : Nat) (hka : ∀ i, i < 24 → fk i = some (ads i 0)) (hnx : nx < 24) (hsz : sz ≤ 24) (N4 : Nat) (h4 : N4 = 24) (hs0 : 0 < sz) : xk_Wr l yX1_takeBack wsX1_takeBack ({ frames := 3, cells := 0, slots := 0, locals := 102 }) D vwCl (xt cI cJ cS) ([(hh, .inr (1, [.ref ka, .int (nI nx), .int (nI sz)])), (ka, .inl (cS, 24, .inr (.inr (.inr (.inr fk)))))] ++ (xst cI cJ ad v ++ xpl cI cJ ads vs N4)) [.ref hh, .ref (ad 0)] ([(hh, .inr (1, [.ref ka, .int (nI (x_pv nx)), .int (nI (sz - 1))])), (ka, .inl (cS, 24, .inr (.inr (.inr (.inr fk)))))] ++ (xst cI cJ ad (vs (x_pv nx)) ++ xpl cI cJ ads vs N4)) none := by
  refine xk_wr2 (cc := cX1_takeBack) (maxL := 2) (ret := none) (by decide) rfl (Nat.le_of_ble_eq_true rfl) (fun p e s m below meth c ls W0v W1v hW1 hx hb hr hlk hml hown hts hl hP hK hN hD hS => ?_)
  replace hl : lv_has ls 2 [(0, .ref hh), (1, .ref (ad 0))] := hl
  have hiX1 : ∀ w ∈ u_ws RX1 TX1 3, w ∈ wsX1_takeBack := by decide +kernel
  have hpl := x_pv_lt hnx
  have hpm := xpl_perm cI cJ ads vs (x_pv nx) N4 (by have := hpl; omega)
  have hp1 : (xst cI cJ ad v ++ xpl cI cJ ads vs N4).Perm ((xst cI cJ ad v ++ xst cI cJ (ads (x_pv nx)) (vs (x_pv nx))) ++ xpx cI cJ ads vs (x_pv nx) N4) := (hpm.append_left _).trans (by rw [← List.append_assoc])
  replace hP : va_P D vwCl ([(hh, .inr (1, [.ref ka, .int (nI nx), .int (nI sz)])), (ka, .inl (cS, 24, .inr (.inr (.inr (.inr fk)))))] ++ ((xst cI cJ ad v ++ xst cI cJ (ads (x_pv nx)) (vs (x_pv nx))) ++ xpx cI cJ ads vs (x_pv nx) N4)) s.heap := xk_Pperm (hp1.append_left _) hP
  replace hD : va_D _ ([(hh, .inr (1, [.ref ka, .int (nI nx), .int (nI sz)])), (ka, .inl (cS, 24, .inr (.inr (.inr (.inr fk)))))] ++ ((xst cI cJ ad v ++ xst cI cJ (ads (x_pv nx)) (vs (x_pv nx))) ++ xpx cI cJ ads vs (x_pv nx) N4)) := xk_Dperm (hp1.append_left _) hD
  have hq : (([(hh, .inr (1, [.ref ka, .int (nI (x_pv nx)), .int (nI (sz - 1))])), (ka, .inl (cS, 24, .inr (.inr (.inr (.inr fk)))))] : va_W) ++ (xst cI cJ ad (vs (x_pv nx)) ++ xpl cI cJ ads vs N4)).Perm (([(hh, .inr (1, [.ref ka, .int (nI (x_pv nx)), .int (nI (sz - 1))])), (ka, .inl (cS, 24, .inr (.inr (.inr (.inr fk)))))] : va_W) ++ ((xst cI cJ ad (vs (x_pv nx)) ++ xst cI cJ (ads (x_pv nx)) (vs (x_pv nx))) ++ xpx cI cJ ads vs (x_pv nx) N4)) := ((hpm.append_left _).trans (by rw [← List.append_assoc])).append_left _
  generalize xpx cI cJ ads vs (x_pv nx) N4 = tl at hP hD hq
  refine lv_aload_n hx hb dX1_takeBack_0 rfl (lv_at hl 0 rfl) ?_
  refine va_get (D := D) (ci := 1) (v := .int (nI sz)) (C := RX1) (T := TX1) (N := 3) hx hb hts hiX1 hown hK hP 0 rfl rfl 2 (by decide) (hts (.fieldLink RX1 21 "PointerSweep$History" "size" "I") (by decide +kernel)) (fun _ h9 => h9) rfl dX1_takeBack_1 ?_
  refine lv_if_le (tgt := 52) hx hb dX1_takeBack_4 (by decide) (fun c_4 => ?_) (fun c_4 => ?_)
  · skip
    exact absurd c_4 (nI_nle hs0 (by omega))
  · skip
    refine lv_aload_n hx hb dX1_takeBack_7 rfl (lv_at hl 0 rfl) ?_
    refine lv_aload_n hx hb dX1_takeBack_8 rfl (lv_at hl 0 rfl) ?_
    refine va_get (D := D) (ci := 1) (v := .int (nI nx)) (C := RX1) (T := TX1) (N := 3) hx hb hts hiX1 hown hK hP 0 rfl rfl 1 (by decide) (hts (.fieldLink RX1 17 "PointerSweep$History" "next" "I") (by decide +kernel)) (fun _ h9 => h9) rfl dX1_takeBack_9 ?_
    refine lv_if_le (tgt := 24) hx hb dX1_takeBack_12 (by decide) (fun c_12 => ?_) (fun c_12 => ?_)
    · skip
      refine lv_bipush (v := 23) hx hb dX1_takeBack_24 (by decide) ?_
      refine lv_topi (fun y ey => ?_)
      obtain rfl : y = nI (x_pv nx) := ey.trans (x_pv_n hnx c_12)
      refine xa_put (ci := 1) (v := .int (nI (x_pv nx))) (ty := .int) (C := RX1) (T := TX1) (N := 3) (ws' := [(hh, .inr (1, [.ref ka, .int (nI (x_pv nx)), .int (nI sz)])), (ka, .inl (cS, 24, .inr (.inr (.inr (.inr fk)))))] ++ ((xst cI cJ ad v ++ xst cI cJ (ads (x_pv nx)) (vs (x_pv nx))) ++ tl)) hx hb hts hiX1 tyX1 tyX1_ok nmX1 hown hK hP hD hS 0 rfl rfl 1 (by decide) (hts (.fieldLink RX1 17 "PointerSweep$History" "next" "I") (by decide +kernel)) (fun _ h9 => h9) rfl (by decide +kernel) rfl rfl (Nat.le_of_ble_eq_true rfl) dX1_takeBack_26 rfl (fun H locs hP hD hS => ?_)
      refine lv_aload_n hx hb dX1_takeBack_29 rfl (lv_at hl 0 rfl) ?_
      refine lv_dup hx hb dX1_takeBack_30 rfl ?_
      refine va_get (D := D) (ci := 1) (v := .int (nI sz)) (C := RX1) (T := TX1) (N := 3) hx hb hts hiX1 hown hK hP 0 rfl rfl 2 (by decide) (hts (.fieldLink RX1 21 "PointerSweep$History" "size" "I") (by decide +kernel)) (fun _ h9 => h9) rfl dX1_takeBack_31 ?_
      refine lv_iconst (v := 1) hx hb dX1_takeBack_34 (by decide) ?_
      refine lv_isub hx hb dX1_takeBack_35 ?_
      refine lv_topi (fun y ey => ?_)
      obtain rfl : y = nI (sz - 1) := ey.trans (x_szm hs0)
      refine xa_put (ci := 1) (v := .int (nI (sz - 1))) (ty := .int) (C := RX1) (T := TX1) (N := 3) (ws' := [(hh, .inr (1, [.ref ka, .int (nI (x_pv nx)), .int (nI (sz - 1))])), (ka, .inl (cS, 24, .inr (.inr (.inr (.inr fk)))))] ++ ((xst cI cJ ad v ++ xst cI cJ (ads (x_pv nx)) (vs (x_pv nx))) ++ tl)) hx hb hts hiX1 tyX1 tyX1_ok nmX1 hown hK hP hD hS 0 rfl rfl 2 (by decide) (hts (.fieldLink RX1 21 "PointerSweep$History" "size" "I") (by decide +kernel)) (fun _ h9 => h9) rfl (by decide +kernel) rfl rfl (Nat.le_of_ble_eq_true rfl) dX1_takeBack_36 rfl (fun H locs hP hD hS => ?_)
      refine lv_aload_n hx hb dX1_takeBack_39 rfl (lv_at hl 1 rfl) ?_
      refine lv_aload_n hx hb dX1_takeBack_40 rfl (lv_at hl 0 rfl) ?_
      refine va_get (D := D) (ci := 1) (v := .ref ka) (C := RX1) (T := TX1) (N := 3) hx hb hts hiX1 hown hK hP 0 rfl rfl 0 (by decide) (hts (.fieldLink RX1 11 "PointerSweep$History" "kept" "[LPointerSweep$State;") (by decide +kernel)) (fun _ h9 => h9) rfl dX1_takeBack_41 ?_
      refine lv_aload_n hx hb dX1_takeBack_44 rfl (lv_at hl 0 rfl) ?_
      refine va_get (D := D) (ci := 1) (v := .int (nI (x_pv nx))) (C := RX1) (T := TX1) (N := 3) hx hb hts hiX1 hown hK hP 0 rfl rfl 1 (by decide) (hts (.fieldLink RX1 17 "PointerSweep$History" "next" "I") (by decide +kernel)) (fun _ h9 => h9) rfl dX1_takeBack_45 ?_
      refine xa_aldq hx hb hK hP 1 2 rfl rfl (x_pv nx) rfl hpl (by decide) (hka _ hpl) dX1_takeBack_48 ?_
      refine xk_callM (va_runV (As := [.ref (ads (x_pv nx) 0)]) (rest := []) ⟨hx, hb, hml, hown, hts⟩ (k_becomeF l D cI cJ cS ad (ads (x_pv nx)) v (vs (x_pv nx))) (cwV 1 hts gX1_takeBack_X2_become rfl rfl rfl (by decide +kernel) ⟨Nat.le_of_ble_eq_true rfl, Nat.le_of_ble_eq_true rfl⟩) (xk_preVm hK hN hP hD (ci := 2) rfl 0 rfl) rfl rfl hl.1 rfl (lv_room (Nat.le_of_ble_eq_true rfl)) dX1_takeBack_49 ⟨Nat.zero_le _, Nat.zero_le _⟩) hP hD hS rfl (fun H locs hP hD hS => ?_)
      replace hP := xk_Pperm hq.symm hP
      exact xk_vretW hx hb hr hlk hP hS hW1 dX1_takeBack_52
    · skip
      refine lv_aload_n hx hb dX1_takeBack_15 rfl (lv_at hl 0 rfl) ?_
      refine va_get (D := D) (ci := 1) (v := .int (nI nx)) (C := RX1) (T := TX1) (N := 3) hx hb hts hiX1 hown hK hP 0 rfl rfl 1 (by decide) (hts (.fieldLink RX1 17 "PointerSweep$History" "next" "I") (by decide +kernel)) (fun _ h9 => h9) rfl dX1_takeBack_16 ?_
      refine lv_iconst (v := 1) hx hb dX1_takeBack_19 (by decide) ?_
      refine lv_isub hx hb dX1_takeBack_20 ?_
      refine lv_goto (tgt := 26) hx hb dX1_takeBack_21 (by decide) ?_
      refine lv_topi (fun y ey => ?_)
      obtain rfl : y = nI (x_pv nx) := ey.trans (x_pv_y hnx c_12)
      refine xa_put (ci := 1) (v := .int (nI (x_pv nx))) (ty := .int) (C := RX1) (T := TX1) (N := 3) (ws' := [(hh, .inr (1, [.ref ka, .int (nI (x_pv nx)), .int (nI sz)])), (ka, .inl (cS, 24, .inr (.inr (.inr (.inr fk)))))] ++ ((xst cI cJ ad v ++ xst cI cJ (ads (x_pv nx)) (vs (x_pv nx))) ++ tl)) hx hb hts hiX1 tyX1 tyX1_ok nmX1 hown hK hP hD hS 0 rfl rfl 1 (by decide) (hts (.fieldLink RX1 17 "PointerSweep$History" "next" "I") (by decide +kernel)) (fun _ h9 => h9) rfl (by decide +kernel) rfl rfl (Nat.le_of_ble_eq_true rfl) dX1_takeBack_26 rfl (fun H locs hP hD hS => ?_)
      refine lv_aload_n hx hb dX1_takeBack_29 rfl (lv_at hl 0 rfl) ?_
      refine lv_dup hx hb dX1_takeBack_30 rfl ?_
      refine va_get (D := D) (ci := 1) (v := .int (nI sz)) (C := RX1) (T := TX1) (N := 3) hx hb hts hiX1 hown hK hP 0 rfl rfl 2 (by decide) (hts (.fieldLink RX1 21 "PointerSweep$History" "size" "I") (by decide +kernel)) (fun _ h9 => h9) rfl dX1_takeBack_31 ?_
      refine lv_iconst (v := 1) hx hb dX1_takeBack_34 (by decide) ?_
      refine lv_isub hx hb dX1_takeBack_35 ?_
      refine lv_topi (fun y ey => ?_)
      obtain rfl : y = nI (sz - 1) := ey.trans (x_szm hs0)
      refine xa_put (ci := 1) (v := .int (nI (sz - 1))) (ty := .int) (C := RX1) (T := TX1) (N := 3) (ws' := [(hh, .inr (1, [.ref ka, .int (nI (x_pv nx)), .int (nI (sz - 1))])), (ka, .inl (cS, 24, .inr (.inr (.inr (.inr fk)))))] ++ ((xst cI cJ ad v ++ xst cI cJ (ads (x_pv nx)) (vs (x_pv nx))) ++ tl)) hx hb hts hiX1 tyX1 tyX1_ok nmX1 hown hK hP hD hS 0 rfl rfl 2 (by decide) (hts (.fieldLink RX1 21 "PointerSweep$History" "size" "I") (by decide +kernel)) (fun _ h9 => h9) rfl (by decide +kernel) rfl rfl (Nat.le_of_ble_eq_true rfl) dX1_takeBack_36 rfl (fun H locs hP hD hS => ?_)
      refine lv_aload_n hx hb dX1_takeBack_39 rfl (lv_at hl 1 rfl) ?_
      refine lv_aload_n hx hb dX1_takeBack_40 rfl (lv_at hl 0 rfl) ?_
      refine va_get (D := D) (ci := 1) (v := .ref ka) (C := RX1) (T := TX1) (N := 3) hx hb hts hiX1 hown hK hP 0 rfl rfl 0 (by decide) (hts (.fieldLink RX1 11 "PointerSweep$History" "kept" "[LPointerSweep$State;") (by decide +kernel)) (fun _ h9 => h9) rfl dX1_takeBack_41 ?_
      refine lv_aload_n hx hb dX1_takeBack_44 rfl (lv_at hl 0 rfl) ?_
      refine va_get (D := D) (ci := 1) (v := .int (nI (x_pv nx))) (C := RX1) (T := TX1) (N := 3) hx hb hts hiX1 hown hK hP 0 rfl rfl 1 (by decide) (hts (.fieldLink RX1 17 "PointerSweep$History" "next" "I") (by decide +kernel)) (fun _ h9 => h9) rfl dX1_takeBack_45 ?_
      refine xa_aldq hx hb hK hP 1 2 rfl rfl (x_pv nx) rfl hpl (by decide) (hka _ hpl) dX1_takeBack_48 ?_
      refine xk_callM (va_runV (As := [.ref (ads (x_pv nx) 0)]) (rest := []) ⟨hx, hb, hml, hown, hts⟩ (k_becomeF l D cI cJ cS ad (ads (x_pv nx)) v (vs (x_pv nx))) (cwV 1 hts gX1_takeBack_X2_become rfl rfl rfl (by decide +kernel) ⟨Nat.le_of_ble_eq_true rfl, Nat.le_of_ble_eq_true rfl⟩) (xk_preVm hK hN hP hD (ci := 2) rfl 0 rfl) rfl rfl hl.1 rfl (lv_room (Nat.le_of_ble_eq_true rfl)) dX1_takeBack_49 ⟨Nat.zero_le _, Nat.zero_le _⟩) hP hD hS rfl (fun H locs hP hD hS => ?_)
      replace hP := xk_Pperm hq.symm hP
      exact xk_vretW hx hb hr hlk hP hS hW1 dX1_takeBack_52
