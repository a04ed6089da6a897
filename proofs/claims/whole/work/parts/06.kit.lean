/-! The two forms of contract that every method here has (read: the heap stays; write: the cells of W0 come to hold W1), their start, their end, and their calls: a call is one row. -/
/-- what the tables say of nest mates (it isn't among the words that a contract may carry): it goes with the world -/
def xn_ws : List Cond := [.methodLinkNest RX4 11 yX2_init "PointerSweep", .methodLinkNest RX2 24 yX0_init "PointerSweep", .methodLinkNest RX1 24 yX2_init "PointerSweep", .methodLinkNest RX0 15 yX4_isCell "PointerSweep", .methodLinkNest RX2 87 yX4_oneIf "PointerSweep"]
def xn (U : State) : Prop := (∀ w ∈ xn_ws, va_Nw w U) ∧ va_AO RX2 U
theorem xn_form : ∀ w ∈ xn_ws, ∃ (a : String) (i : Nat) (x : MethodName) (h : String), w = .methodLinkNest a i x h := by
  intro w hw
  simp only [xn_ws, List.mem_cons, List.not_mem_nil, or_false] at hw
  rcases hw with rfl | rfl | rfl | rfl | rfl <;> exact ⟨_, _, _, _, rfl⟩
theorem xn.warm {s U : State} (hW : s.WarmedH U.vm) (h : xn s) : xn U := ⟨fun w hw => by
  have h1 := h.1 w hw
  obtain ⟨a, i, x, k, rfl⟩ := xn_form w hw
  exact va_Nw.warmM hW h1, h.2.moved hW.alike⟩
theorem xn.same {s U : State} (hv : s.vm = U.vm) (h : xn s) : xn U := ⟨fun w hw => by
  have h1 := h.1 w hw
  obtain ⟨a, i, x, k, rfl⟩ := xn_form w hw
  exact va_Nw.same rfl hv h1, h.2.moved (by rw [hv]; exact Vm.Alike.refl U.vm)⟩
section XK
variable {p : Program} {l : Launch} {e : Env} {R : Room} {s : State} {m : MethodId} {args : Array Value} {below : List Frame} {meth : Method} {c : Code} {H : Heap} {locs : List Loc} {cells slots : Nat} {Q : State → Prop}
variable {pc : Nat} {ls : Array Slot} {rest st0 : List Value} {D : va_G} {cl : List vw_C} {A : Nat → Prop} {tys : List (ClassId × FieldType)} {H0 : Heap} {a : Array Value}
def xk_in (ws : va_W) : Nat → Prop := fun q => q ∈ ws.map (fun x => x.1)
def xk_R (rv : Option Value) : Array Value → State → Outcome → State → Prop := fun _ st oc t => oc = .returned rv ∧ t.heap = st.heap
def xk_W (D : va_G) (cl : List vw_C) (W0 W1 : va_W) (rv : Option Value) : Array Value → State → Outcome → State → Prop := fun _ st oc t => oc = .returned rv ∧ va_P D cl W1 t.heap ∧ va_F (xk_in W0) st t
def xk_Br (D : va_G) (cl : List vw_C) (tys : List (ClassId × FieldType)) (ws : va_W) : State → Prop := fun U => va_P D cl ws U.heap ∧ va_K D cl tys U ∧ xn U
def xk_Bw (D : va_G) (cl : List vw_C) (tys : List (ClassId × FieldType)) (ws : va_W) : State → Prop := fun U => va_P D cl ws U.heap ∧ va_K D cl tys U ∧ xn U ∧ va_D (fun _ => True) ws
abbrev xk_Rd (l : Launch) (y : MethodName) (ws : List Cond) (rm : Room) (D : va_G) (cl : List vw_C) (tys : List (ClassId × FieldType)) (W0 : va_W) (av : List Value) (rv : Option Value) : Prop := Met l y ws rm (va_Pc av (xk_Br D cl tys W0)) (xk_R rv) 0 0 (fun _ => False)
abbrev xk_Wr (l : Launch) (y : MethodName) (ws : List Cond) (rm : Room) (D : va_G) (cl : List vw_C) (tys : List (ClassId × FieldType)) (W0 : va_W) (av : List Value) (W1 : va_W) (rv : Option Value) : Prop := Met l y ws rm (va_Pc av (xk_Bw D cl tys W0)) (xk_W D cl W0 W1 rv) 0 0 (xk_in W0)
theorem xk_blr {av : List Value} {W0 : va_W} : FrameBlind (va_Pc av (xk_Br D cl tys W0)) := fun a U g mk q => by
  obtain ⟨q0, qP, qK, qN⟩ := q
  exact ⟨q0, qP, va_K.moved (u := U) (U := U.calling g mk a) (Vm.Alike.refl U.vm) qK, qN.same (s := U) (U := U.calling g mk a) rfl⟩
theorem xk_blw {av : List Value} {W0 : va_W} : FrameBlind (va_Pc av (xk_Bw D cl tys W0)) := fun a U g mk q => by
  obtain ⟨q0, qP, qK, qN, qD⟩ := q
  exact ⟨q0, qP, va_K.moved (u := U) (U := U.calling g mk a) (Vm.Alike.refl U.vm) qK, qN.same (s := U) (U := U.calling g mk a) rfl, qD⟩
theorem xk_self {W0 : va_W} {B : Nat → Prop} (h : va_D B W0) : va_D (xk_in W0) W0 := ⟨h.1, fun _ q hk => List.mem_map.mpr ⟨q, List.mem_of_getElem? hk, rfl⟩⟩
theorem xk_Pmem {ws ws' : va_W} (hP : va_P D cl ws H) (h : ∀ q ∈ ws', q ∈ ws) : va_P D cl ws' H := fun k q hk => by
  obtain ⟨i, hi⟩ := List.getElem?_of_mem (h q (List.mem_of_getElem? hk))
  exact hP i q hi
theorem xk_Pat {ws : va_W} (hP : va_P D cl ws H) {q : Nat × va_E} (h : q ∈ ws) : va_at D cl q H := by
  obtain ⟨i, hi⟩ := List.getElem?_of_mem h
  exact hP i q hi
theorem xk_Dfst {ws ws' : va_W} (h : ws'.map (fun x => x.1) = ws.map (fun x => x.1)) (hD : va_D A ws) : va_D A ws' := by
  have key : ∀ (i : Nat) (q : Nat × va_E), ws'[i]? = some q → ∃ q2, ws[i]? = some q2 ∧ q2.1 = q.1 := by
    intro i q hq
    have h1 : (ws.map (fun x => x.1))[i]? = some q.1 := by rw [← h, List.getElem?_map, hq]; rfl
    rw [List.getElem?_map] at h1
    cases hw : ws[i]? with
    | none => rw [hw] at h1; cases h1
    | some q2 => rw [hw] at h1; exact ⟨q2, rfl, Option.some.inj h1⟩
  refine ⟨fun i j x y hx hy hxy => ?_, fun k q hk => ?_⟩
  · obtain ⟨x2, a1, a2⟩ := key i x hx
    obtain ⟨y2, b1, b2⟩ := key j y hy
    exact hD.1 i j x2 y2 a1 b1 (by rw [a2, b2, hxy])
  · obtain ⟨q2, a1, a2⟩ := key k q hk
    rw [← a2]
    exact hD.2 k q2 a1
/-- a read's call -/
theorem xk_callR {rv : Value} (hr : va_Run p l e R s m args below meth c H locs cells slots 0 0 (F0 m pc ls st0) rest (xk_R (some rv) a) (fun _ => False))
    (kk : W p l e R s m args below meth c H locs cells slots Q (F0 m (pc + 3) ls (rv :: rest))) : W p l e R s m args below meth c H locs cells slots Q (F0 m pc ls st0) := by
  intro T hT X
  obtain ⟨v, st₀, t, T', L, h0, X', hL, e1, e2, ⟨hv, hh⟩, st⟩ := hr T hT X
  cases hv
  obtain ⟨t2, a1, b1⟩ := kk T' (by rw [e1, hh, h0]) (Stand.forget X' (fun q h => (hL q h).elim))
  exact ⟨t2, st t2 a1, b1⟩
/-- a write's call, by membership -/
theorem xk_callC {rv : Option Value} {W0 W1 ws ws' : va_W} (hr : va_Run p l e R s m args below meth c H locs cells slots 0 0 (F0 m pc ls st0) rest (xk_W D cl W0 W1 rv a) (xk_in W0))
    (hP : va_P D cl ws H) (hD : va_D A ws) (hS : va_S A H0 H locs) (hsub : ∀ q ∈ W0, q ∈ ws) (hnew : ∀ x ∈ ws', x ∈ W1 ∨ (x ∈ ws ∧ ¬ xk_in W0 x.1)) (hfst : ws'.map (fun x => x.1) = ws.map (fun x => x.1))
    (kk : ∀ (H1 : Heap) (locs1 : List Loc), va_P D cl ws' H1 → va_D A ws' → va_S A H0 H1 locs1 → W p l e R s m args below meth c H1 locs1 cells slots Q (F0 m (pc + 3) ls (rv.toList ++ rest))) : W p l e R s m args below meth c H locs cells slots Q (F0 m pc ls st0) := by
  intro T hT X
  obtain ⟨v, st₀, t, T', L, h0, X', hL, e1, e2, ⟨hv, hP1, hz, hk⟩, st⟩ := hr T hT X
  cases hv
  rw [h0] at hz hk
  have hA : ∀ q, xk_in W0 q → A q := by
    intro q hq
    obtain ⟨x, hx, rfl⟩ := List.mem_map.mp hq
    obtain ⟨i, hi⟩ := List.getElem?_of_mem (hsub x hx)
    exact hD.2 i x hi
  have hP2 : va_P D cl ws' t.heap := by
    intro k q hkq
    rcases hnew q (List.mem_of_getElem? hkq) with h | ⟨h1, h2⟩
    · exact xk_Pat hP1 h
    · have h3 := xk_Pat hP h1
      exact h3.kept (hk q.1 h3.lt h2)
  obtain ⟨t2, a1, b1⟩ := kk T'.heap (locs ++ L) (by rw [e1]; exact hP2) (xk_Dfst hfst hD)
    ⟨Nat.le_trans hS.1 (by rw [e1]; exact hz), fun q h1 h2 => by rw [e1, hk q (Nat.lt_of_lt_of_le h1 hS.1) (fun z => h2 (hA q z))]; exact hS.2.1 q h1 h2, fun q hq => by
      rcases List.mem_append.mp hq with h | h
      · exact hS.2.2 q h
      · exact hA _ (hL q h)⟩ T' rfl X'
  exact ⟨t2, st t2 a1, b1⟩
def xk_set : va_W → List Nat → va_W → va_W
  | ws, i :: is, x :: es => xk_set (ws.set i x) is es
  | ws, _, _ => ws
theorem xk_set_mem : ∀ (is : List Nat) (es ws : va_W), is.length = es.length → ∀ (k : Nat) (x : Nat × va_E), (xk_set ws is es)[k]? = some x → x ∈ es ∨ (ws[k]? = some x ∧ k ∉ is)
  | [], [], ws, _, k, x, h => Or.inr ⟨h, List.not_mem_nil⟩
  | [], _ :: _, ws, hl, _, _, _ => by cases hl
  | _ :: _, [], ws, hl, _, _, _ => by cases hl
  | i :: is, y :: es, ws, hl, k, x, h => by
    rcases xk_set_mem is es (ws.set i y) (Nat.succ.inj hl) k x h with h1 | ⟨h1, h2⟩
    · exact Or.inl (List.mem_cons_of_mem _ h1)
    · by_cases hik : i = k
      · subst hik
        rw [List.getElem?_set] at h1
        split at h1
        · split at h1
          · exact Or.inl (by rw [← Option.some.inj h1]; exact List.mem_cons_self)
          · cases h1
        · exact absurd rfl (by assumption)
      · rw [List.getElem?_set_ne hik] at h1
        exact Or.inr ⟨h1, fun hm => by
          rcases List.mem_cons.mp hm with h3 | h3
          · exact hik h3.symm
          · exact h2 h3⟩
theorem xk_set_fst : ∀ (is : List Nat) (es ws : va_W), (∀ (j : Nat) (i : Nat) (x : Nat × va_E), is[j]? = some i → es[j]? = some x → (ws.map (fun x => x.1))[i]? = some x.1) → (xk_set ws is es).map (fun x => x.1) = ws.map (fun x => x.1)
  | [], _, _, _ => by simp [xk_set]
  | _ :: _, [], _, _ => by simp [xk_set]
  | i :: is, y :: es, ws, h => by
    have e1 : (ws.set i y).map (fun x => x.1) = ws.map (fun x => x.1) := by
      have h0 := h 0 i y rfl rfl
      rw [List.map_set]
      apply List.ext_getElem?
      intro k
      by_cases hik : i = k
      · subst hik
        rw [h0, List.getElem?_set_self (by exact (List.getElem?_eq_some_iff.mp h0).1)]
      · rw [List.getElem?_set_ne hik]
    show (xk_set (ws.set i y) is es).map (fun x => x.1) = _
    rw [xk_set_fst is es (ws.set i y) (fun j i' x a1 a2 => by rw [e1]; exact h (j + 1) i' x a1 a2), e1]
theorem xk_places {ws W0 : va_W} {is : List Nat} (hi : is.map (fun i => ws[i]?) = W0.map some) : is.length = W0.length ∧ ∀ (j i : Nat), is[j]? = some i → ∃ q, W0[j]? = some q ∧ ws[i]? = some q := by
  refine ⟨by have h := congrArg List.length hi; simpa using h, fun j i h => ?_⟩
  have h1 : (W0.map some)[j]? = some (ws[i]?) := by rw [← hi, List.getElem?_map, h]; rfl
  rw [List.getElem?_map] at h1
  cases hw : W0[j]? with
  | none => rw [hw] at h1; cases h1
  | some q => rw [hw] at h1; exact ⟨q, rfl, (Option.some.inj h1).symm⟩
theorem xk_apart {ws W0 : va_W} {is : List Nat} (hD : va_D A ws) (hi : is.map (fun i => ws[i]?) = W0.map some) {k : Nat} {x : Nat × va_E} (hx : ws[k]? = some x) (hk : k ∉ is) : ¬ xk_in W0 x.1 := by
  intro h
  obtain ⟨q, hq, hqx⟩ := List.mem_map.mp h
  obtain ⟨j, hj⟩ := List.getElem?_of_mem hq
  have hl := (xk_places hi).1
  have hjl : j < is.length := by rw [hl]; exact (List.getElem?_eq_some_iff.mp hj).1
  obtain ⟨q2, h1, h2⟩ := (xk_places hi).2 j is[j] (List.getElem?_eq_getElem hjl)
  rw [hj] at h1
  cases h1
  have := hD.1 k is[j] x q hx h2 hqx.symm
  exact hk (by rw [this]; exact List.getElem_mem hjl)
theorem xk_sub {ws W0 : va_W} {is : List Nat} (hi : is.map (fun i => ws[i]?) = W0.map some) : ∀ q ∈ W0, q ∈ ws := by
  intro q hq
  obtain ⟨j, hj⟩ := List.getElem?_of_mem hq
  have hl := (xk_places hi).1
  have hjl : j < is.length := by rw [hl]; exact (List.getElem?_eq_some_iff.mp hj).1
  obtain ⟨q2, h1, h2⟩ := (xk_places hi).2 j is[j] (List.getElem?_eq_getElem hjl)
  rw [hj] at h1
  cases h1
  exact List.mem_of_getElem? h2
/-- a write's call: the callee's cells stand at the places is of the caller's world -/
theorem xk_callW {rv : Option Value} {W0 W1 ws ws' : va_W} (hr : va_Run p l e R s m args below meth c H locs cells slots 0 0 (F0 m pc ls st0) rest (xk_W D cl W0 W1 rv a) (xk_in W0))
    (hP : va_P D cl ws H) (hD : va_D A ws) (hS : va_S A H0 H locs) (is : List Nat) (hi : is.map (fun i => ws[i]?) = W0.map some) (ha : W1.map (fun x => x.1) = W0.map (fun x => x.1)) (hs : xk_set ws is W1 = ws')
    (kk : ∀ (H1 : Heap) (locs1 : List Loc), va_P D cl ws' H1 → va_D A ws' → va_S A H0 H1 locs1 → W p l e R s m args below meth c H1 locs1 cells slots Q (F0 m (pc + 3) ls (rv.toList ++ rest))) : W p l e R s m args below meth c H locs cells slots Q (F0 m pc ls st0) := by
  have hl := (xk_places hi).1
  have hl1 : is.length = W1.length := by rw [hl]; have h := congrArg List.length ha; simpa using h.symm
  refine xk_callC hr hP hD hS (xk_sub hi) (fun x hx => ?_) ?_ kk
  · subst hs
    obtain ⟨k, hk⟩ := List.getElem?_of_mem hx
    rcases xk_set_mem is W1 ws hl1 k x hk with h | ⟨h1, h2⟩
    · exact Or.inl h
    · exact Or.inr ⟨List.mem_of_getElem? h1, xk_apart hD hi h1 h2⟩
  · subst hs
    refine xk_set_fst is W1 ws (fun j i x h1 h2 => ?_)
    obtain ⟨q, h3, h4⟩ := (xk_places hi).2 j i h1
    have h5 : (W1.map (fun x => x.1))[j]? = (W0.map (fun x => x.1))[j]? := by rw [ha]
    rw [List.getElem?_map, List.getElem?_map, h2, h3] at h5
    rw [List.getElem?_map, h4]
    exact h5.symm
/-- the same, where the callee's world is some places of X and all of the tail -/
theorem xk_callT {rv : Option Value} {cx cx1 pl pl1 X X' : va_W} (hr : va_Run p l e R s m args below meth c H locs cells slots 0 0 (F0 m pc ls st0) rest (xk_W D cl (cx ++ pl) (cx1 ++ pl1) rv a) (xk_in (cx ++ pl)))
    (hP : va_P D cl (X ++ pl) H) (hD : va_D A (X ++ pl)) (hS : va_S A H0 H locs) (is : List Nat) (hi : is.map (fun i => X[i]?) = cx.map some) (ha : cx1.map (fun x => x.1) = cx.map (fun x => x.1)) (hp : pl1.map (fun x => x.1) = pl.map (fun x => x.1)) (hs : xk_set X is cx1 = X')
    (kk : ∀ (H1 : Heap) (locs1 : List Loc), va_P D cl (X' ++ pl1) H1 → va_D A (X' ++ pl1) → va_S A H0 H1 locs1 → W p l e R s m args below meth c H1 locs1 cells slots Q (F0 m (pc + 3) ls (rv.toList ++ rest))) : W p l e R s m args below meth c H locs cells slots Q (F0 m pc ls st0) := by
  have hl := (xk_places hi).1
  have hl1 : is.length = cx1.length := by rw [hl]; have h := congrArg List.length ha; simpa using h.symm
  have hDX : va_D A X := ⟨fun i j x y hx hy => hD.1 i j x y (by rw [List.getElem?_append_left (List.getElem?_eq_some_iff.mp hx).1]; exact hx) (by rw [List.getElem?_append_left (List.getElem?_eq_some_iff.mp hy).1]; exact hy), fun k q hk => hD.2 k q (by rw [List.getElem?_append_left (List.getElem?_eq_some_iff.mp hk).1]; exact hk)⟩
  have hXp : ∀ x ∈ X, ¬ xk_in pl x.1 := by
    intro x hx h
    obtain ⟨q, hq, hqx⟩ := List.mem_map.mp h
    obtain ⟨i, hi1⟩ := List.getElem?_of_mem hx
    obtain ⟨j, hj1⟩ := List.getElem?_of_mem hq
    have hil := (List.getElem?_eq_some_iff.mp hi1).1
    have := hD.1 i (X.length + j) x q (by rw [List.getElem?_append_left hil]; exact hi1) (by rw [List.getElem?_append_right (Nat.le_add_right _ _), Nat.add_sub_cancel_left]; exact hj1) hqx.symm
    omega
  refine xk_callC hr hP hD hS (fun q hq => ?_) (fun x hx => ?_) ?_ kk
  · rcases List.mem_append.mp hq with h | h
    · exact List.mem_append_left _ (xk_sub hi q h)
    · exact List.mem_append_right _ h
  · subst hs
    rcases List.mem_append.mp hx with hx | hx
    · obtain ⟨k, hk⟩ := List.getElem?_of_mem hx
      rcases xk_set_mem is cx1 X hl1 k x hk with h | ⟨h1, h2⟩
      · exact Or.inl (List.mem_append_left _ h)
      · refine Or.inr ⟨List.mem_append_left _ (List.mem_of_getElem? h1), fun hz => ?_⟩
        obtain ⟨q, hq, hqx⟩ := List.mem_map.mp hz
        rcases List.mem_append.mp hq with h | h
        · exact xk_apart hDX hi h1 h2 (List.mem_map.mpr ⟨q, h, hqx⟩)
        · exact hXp x (List.mem_of_getElem? h1) (List.mem_map.mpr ⟨q, h, hqx⟩)
    · exact Or.inl (List.mem_append_right _ hx)
  · subst hs
    rw [List.map_append, List.map_append, hp]
    congr 1
    refine xk_set_fst is cx1 X (fun j i x h1 h2 => ?_)
    obtain ⟨q, h3, h4⟩ := (xk_places hi).2 j i h1
    have h5 : (cx1.map (fun x => x.1))[j]? = (cx.map (fun x => x.1))[j]? := by rw [ha]
    rw [List.getElem?_map, List.getElem?_map, h2, h3] at h5
    rw [List.getElem?_map, h4]
    exact h5.symm
/-- what a call asks of the caller's world -/
theorem xk_preSr {As : List Value} {W0 ws : va_W} (hK : va_K D cl tys s) (hN : xn s) (hP : va_P D cl ws H) (is : List Nat) (hs : is.filterMap (fun i => ws[i]?) = W0) : PreS s H (va_Pc As (xk_Br D cl tys W0)) As := ⟨xk_blr, fun U hU hW => ⟨rfl, by rw [hU]; exact hP.sub is hs, va_K.moved hW.alike hK, hN.warm hW⟩⟩
theorem xk_preVr {As : List Value} {b : Addr} {W0 ws : va_W} {ci : Nat} {q : vw_C} {fs : List Value} (hK : va_K D cl tys s) (hN : xn s) (hP : va_P D cl ws H) (is : List Nat) (hs : is.filterMap (fun i => ws[i]?) = W0) (hc : cl[ci]? = some q) (q0 : Nat) (he : W0[q0]? = some (b, .inr (ci, fs))) : PreV s H q.1 b (va_Pc (.ref b :: As) (xk_Br D cl tys W0)) As := ⟨xk_blr, va_recv hK (hP.sub is hs) hc he, fun U hU hW => ⟨rfl, by rw [hU]; exact hP.sub is hs, va_K.moved hW.alike hK, hN.warm hW⟩⟩
theorem xk_preSw {As : List Value} {W0 ws : va_W} (hK : va_K D cl tys s) (hN : xn s) (hP : va_P D cl ws H) (hD : va_D A ws) (is : List Nat) (hn : va_nd is = true) (hi : is.map (fun i => ws[i]?) = W0.map some) : PreS s H (va_Pc As (xk_Bw D cl tys W0)) As := ⟨xk_blw, fun U hU hW => ⟨rfl, by rw [hU]; exact xk_Pmem hP (xk_sub hi), va_K.moved hW.alike hK, hN.warm hW, (hD.sub is hn hi).weaken (fun _ _ _ _ => trivial)⟩⟩
theorem xk_preVw {As : List Value} {b : Addr} {W0 ws : va_W} {ci : Nat} {q : vw_C} {fs : List Value} (hK : va_K D cl tys s) (hN : xn s) (hP : va_P D cl ws H) (hD : va_D A ws) (is : List Nat) (hn : va_nd is = true) (hi : is.map (fun i => ws[i]?) = W0.map some) (hc : cl[ci]? = some q) (q0 : Nat) (he : W0[q0]? = some (b, .inr (ci, fs))) : PreV s H q.1 b (va_Pc (.ref b :: As) (xk_Bw D cl tys W0)) As := ⟨xk_blw, va_recv hK (xk_Pmem hP (xk_sub hi)) hc he, fun U hU hW => ⟨rfl, by rw [hU]; exact xk_Pmem hP (xk_sub hi), va_K.moved hW.alike hK, hN.warm hW, (hD.sub is hn hi).weaken (fun _ _ _ _ => trivial)⟩⟩
theorem xk_preVt {As : List Value} {b : Addr} {cx pl X : va_W} {ci : Nat} {q : vw_C} {fs : List Value} (hK : va_K D cl tys s) (hN : xn s) (hP : va_P D cl (X ++ pl) H) (hD : va_D A (X ++ pl)) (is : List Nat) (hn : va_nd is = true) (hi : is.map (fun i => X[i]?) = cx.map some) (hc : cl[ci]? = some q) (q0 : Nat) (he : (cx ++ pl)[q0]? = some (b, .inr (ci, fs))) : PreV s H q.1 b (va_Pc (.ref b :: As) (xk_Bw D cl tys (cx ++ pl))) As := by
  have hP2 : va_P D cl (cx ++ pl) H := hP.part is hi
  exact ⟨xk_blw, va_recv hK hP2 hc he, fun U hU hW => ⟨rfl, by rw [hU]; exact hP2, va_K.moved hW.alike hK, hN.warm hW, (hD.part is hn hi).weaken (fun _ _ _ _ => trivial)⟩⟩
/-- a method's start -/
theorem xk_rd {y : MethodName} {ws ws' : List Cond} {rm : Room} {cc : ByteArray} {maxL : Nat} {ret : Option FieldType} {W0 : va_W} {av : List Value} {rv : Option Value} (hy : plainName y.cls = true) (hw : ws = Cond.code y cc maxL ret :: ws') (hlen : (lg_sl av).length ≤ maxL)
    (body : ∀ (p : Program) (e : Env) (s : State) (m : MethodId) (below : List Frame) (meth : Method) (c : Code) (ls : Array Slot), p.tables.exec = Jvm.exec → c.code = cc → meth.sig.returnType = ret → meth.locks = false → c.maxLocals = maxL → s.vm.findClass y.cls = some m.cls → (∀ w ∈ ws, w.before av.toArray s = true) → lv_has ls maxL (lv_args 0 av) → va_P D cl W0 s.heap → va_K D cl tys s → xn s →
      W p l e rm s m av.toArray below meth c s.heap [] 0 0 (MQ below (xk_R rv) av.toArray s 0 0 (fun _ => False)) (F0 m 0 ls [])) : xk_Rd l y ws rm D cl tys W0 av rv := by
  refine Met.ofW (cc := cc) (maxL := maxL) (ret := ret) hy hw ?_
  intro p e s m args below meth c s₁ B hml hv
  obtain ⟨rfl, hP, hK, hN⟩ := hv
  have hts := atoms_spec (ws := ws) B.pre
  have hown : s.vm.findClass y.cls = some m.cls := findClass_of_methodNamed B.named
  have hl := lv_entry av (n := maxL) hlen
  rw [lg_entry_eq]
  generalize (lg_sl av ++ List.replicate (maxL - (lg_sl av).length) Slot.unset).toArray = ls at hl ⊢
  exact body p e s m below meth c ls B.exec B.bytes B.returns B.notSynchronized hml hown hts hl hP hK hN
theorem xk_wr {y : MethodName} {ws ws' : List Cond} {rm : Room} {cc : ByteArray} {maxL : Nat} {ret : Option FieldType} {W0 W1 : va_W} {av : List Value} {rv : Option Value} (hy : plainName y.cls = true) (hw : ws = Cond.code y cc maxL ret :: ws') (hlen : (lg_sl av).length ≤ maxL)
    (body : ∀ (p : Program) (e : Env) (s : State) (m : MethodId) (below : List Frame) (meth : Method) (c : Code) (ls : Array Slot), p.tables.exec = Jvm.exec → c.code = cc → meth.sig.returnType = ret → meth.locks = false → c.maxLocals = maxL → s.vm.findClass y.cls = some m.cls → (∀ w ∈ ws, w.before av.toArray s = true) → lv_has ls maxL (lv_args 0 av) → va_P D cl W0 s.heap → va_K D cl tys s → xn s → va_D (xk_in W0) W0 → va_S (xk_in W0) s.heap s.heap [] →
      W p l e rm s m av.toArray below meth c s.heap [] 0 0 (MQ below (xk_W D cl W0 W1 rv) av.toArray s 0 0 (xk_in W0)) (F0 m 0 ls [])) : xk_Wr l y ws rm D cl tys W0 av W1 rv := by
  refine Met.ofW (cc := cc) (maxL := maxL) (ret := ret) hy hw ?_
  intro p e s m args below meth c s₁ B hml hv
  obtain ⟨rfl, hP, hK, hN, hD⟩ := hv
  have hts := atoms_spec (ws := ws) B.pre
  have hown : s.vm.findClass y.cls = some m.cls := findClass_of_methodNamed B.named
  have hl := lv_entry av (n := maxL) hlen
  rw [lg_entry_eq]
  generalize (lg_sl av ++ List.replicate (maxL - (lg_sl av).length) Slot.unset).toArray = ls at hl ⊢
  exact body p e s m below meth c ls B.exec B.bytes B.returns B.notSynchronized hml hown hts hl hP hK hN (xk_self hD) va_S.rf
/-- a method's end -/
theorem xk_iretR {cc : ByteArray} {v v0 : Int32} (hx : p.tables.exec = Jvm.exec) (hb : c.code = cc) (hr : meth.sig.returnType = some .int) (hlk : meth.locks = false) (hv : v = v0) (hd : decode cc pc = .ok (.ireturn, 1)) : W p l e R s m args below meth c s.heap [] 0 0 (MQ below (xk_R (some (.int v0))) args s 0 0 (fun _ => False)) (F0 m pc ls [.int v]) := by
  subst hv
  exact W.iret hx hb hr (fun t ht hW => ⟨rfl, ht⟩) (fun q h => by cases h) hd hlk
theorem xk_zretR {cc : ByteArray} {v v0 : Int32} (hx : p.tables.exec = Jvm.exec) (hb : c.code = cc) (hr : meth.sig.returnType = some .boolean) (hlk : meth.locks = false) (hn : narrow .boolean (.int v) = .int v) (hv : v = v0) (hd : decode cc pc = .ok (.ireturn, 1)) : W p l e R s m args below meth c s.heap [] 0 0 (MQ below (xk_R (some (.int v0))) args s 0 0 (fun _ => False)) (F0 m pc ls [.int v]) := by
  subst hv
  exact W.zret hx hb hr hn (fun t ht hW => ⟨rfl, ht⟩) (fun q h => by cases h) hd hlk
theorem xk_lretR {cc : ByteArray} {v v0 : Int64} (hx : p.tables.exec = Jvm.exec) (hb : c.code = cc) (hr : meth.sig.returnType = some .long) (hlk : meth.locks = false) (hv : v = v0) (hd : decode cc pc = .ok (.lreturn, 1)) : W p l e R s m args below meth c s.heap [] 0 0 (MQ below (xk_R (some (.long v0))) args s 0 0 (fun _ => False)) (F0 m pc ls [.long v]) := by
  subst hv
  exact W.lret hx hb hr (fun t ht hW => ⟨rfl, ht⟩) (fun q h => by cases h) hd hlk
theorem xk_iretW {cc : ByteArray} {v v0 : Int32} {W0 W1 ws : va_W} (hx : p.tables.exec = Jvm.exec) (hb : c.code = cc) (hr : meth.sig.returnType = some .int) (hlk : meth.locks = false) (hP : va_P D cl ws H) (hS : va_S (xk_in W0) s.heap H locs) (hv : v = v0) (hw : ws = W1) (hd : decode cc pc = .ok (.ireturn, 1)) : W p l e R s m args below meth c H locs 0 0 (MQ below (xk_W D cl W0 W1 (some (.int v0))) args s 0 0 (xk_in W0)) (F0 m pc ls [.int v]) := by
  subst hv; subst hw
  exact W.iret hx hb hr (fun t ht hW => ⟨rfl, by rw [ht]; exact hP, hS.F ht⟩) hS.2.2 hd hlk
theorem xk_lretW {cc : ByteArray} {v v0 : Int64} {W0 W1 ws : va_W} (hx : p.tables.exec = Jvm.exec) (hb : c.code = cc) (hr : meth.sig.returnType = some .long) (hlk : meth.locks = false) (hP : va_P D cl ws H) (hS : va_S (xk_in W0) s.heap H locs) (hv : v = v0) (hw : ws = W1) (hd : decode cc pc = .ok (.lreturn, 1)) : W p l e R s m args below meth c H locs 0 0 (MQ below (xk_W D cl W0 W1 (some (.long v0))) args s 0 0 (xk_in W0)) (F0 m pc ls [.long v]) := by
  subst hv; subst hw
  exact W.lret hx hb hr (fun t ht hW => ⟨rfl, by rw [ht]; exact hP, hS.F ht⟩) hS.2.2 hd hlk
theorem xk_vretW {cc : ByteArray} {W0 W1 ws : va_W} (hx : p.tables.exec = Jvm.exec) (hb : c.code = cc) (hr : meth.sig.returnType = none) (hlk : meth.locks = false) (hP : va_P D cl ws H) (hS : va_S (xk_in W0) s.heap H locs) (hw : ws = W1) (hd : decode cc pc = .ok (.return_, 1)) : W p l e R s m args below meth c H locs 0 0 (MQ below (xk_W D cl W0 W1 none) args s 0 0 (xk_in W0)) (F0 m pc ls []) := by
  subst hw
  exact W.vret hx hb hr (fun t ht hW => ⟨rfl, by rw [ht]; exact hP, hS.F ht⟩) hS.2.2 hd hlk
/-- arrays by a number -/
theorem xa_lald {cc : ByteArray} {ws : va_W} {a : Nat} (hx : p.tables.exec = Jvm.exec) (hb : c.code = cc) (hK : va_K D cl tys s) (hP : va_P D cl ws H) (q0 t0 : Nat) {cA : ClassId} {n : Nat} {f : Nat → Int64} (ha : ws[q0]? = some (a, .inl (cA, n, .inr (.inl f)))) (ht : tys[t0]? = some (cA, .long)) {i : Int32} (k : Nat) (hi : i = nI k) (hk : k < n) (hn : n < 2 ^ 31) (hd : decode cc pc = .ok (.laload, 1))
    (kk : W p l e R s m args below meth c H locs cells slots Q (F0 m (pc + 1) ls (.long (f k) :: rest))) : W p l e R s m args below meth c H locs cells slots Q (F0 m pc ls (.int i :: .ref a :: rest)) := by
  subst hi
  refine va_lald hx hb hK hP q0 t0 ha ht (vp_in_nI hk hn) hd ?_
  rw [nI_clamp (Nat.lt_trans hk hn)]
  exact kk
theorem xa_iald {cc : ByteArray} {ws : va_W} {a : Nat} (hx : p.tables.exec = Jvm.exec) (hb : c.code = cc) (hK : va_K D cl tys s) (hP : va_P D cl ws H) (q0 t0 : Nat) {cA : ClassId} {n : Nat} {f : Nat → Int32} (ha : ws[q0]? = some (a, .inl (cA, n, .inl f))) (ht : tys[t0]? = some (cA, .int)) {i : Int32} (k : Nat) (hi : i = nI k) (hk : k < n) (hn : n < 2 ^ 31) (hd : decode cc pc = .ok (.iaload, 1))
    (kk : W p l e R s m args below meth c H locs cells slots Q (F0 m (pc + 1) ls (.int (f k) :: rest))) : W p l e R s m args below meth c H locs cells slots Q (F0 m pc ls (.int i :: .ref a :: rest)) := by
  subst hi
  refine va_iald hx hb hK hP q0 t0 ha ht (vp_in_nI hk hn) hd ?_
  rw [nI_clamp (Nat.lt_trans hk hn)]
  exact kk
theorem xa_last {cc : ByteArray} {ws ws' : va_W} {a : Nat} (hx : p.tables.exec = Jvm.exec) (hb : c.code = cc) (hK : va_K D cl tys s) (hP : va_P D cl ws H) (hD : va_D A ws) (hS : va_S A H0 H locs) (q0 t0 : Nat) {cA : ClassId} {n : Nat} {f : Nat → Int64} (ha : ws[q0]? = some (a, .inl (cA, n, .inr (.inl f)))) (ht : tys[t0]? = some (cA, .long)) {i : Int32} {x : Int64} (k : Nat) (hi : i = nI k) (hk : k < n) (hn : n < 2 ^ 31) (hd : decode cc pc = .ok (.lastore, 1)) (hs : ws.set q0 (a, .inl (cA, n, .inr (.inl (vp_updL f k x)))) = ws')
    (kk : ∀ (H1 : Heap) (locs1 : List Loc), va_P D cl ws' H1 → va_D A ws' → va_S A H0 H1 locs1 → W p l e R s m args below meth c H1 locs1 cells slots Q (F0 m (pc + 1) ls rest)) : W p l e R s m args below meth c H locs cells slots Q (F0 m pc ls (.long x :: .int i :: .ref a :: rest)) := by
  subst hi; subst hs
  refine va_last hx hb hK hP hD hS q0 t0 ha ht (vp_in_nI hk hn) hd ?_
  rw [nI_clamp (Nat.lt_trans hk hn)]
  exact kk
theorem xa_iast {cc : ByteArray} {ws ws' : va_W} {a : Nat} (hx : p.tables.exec = Jvm.exec) (hb : c.code = cc) (hK : va_K D cl tys s) (hP : va_P D cl ws H) (hD : va_D A ws) (hS : va_S A H0 H locs) (q0 t0 : Nat) {cA : ClassId} {n : Nat} {f : Nat → Int32} (ha : ws[q0]? = some (a, .inl (cA, n, .inl f))) (ht : tys[t0]? = some (cA, .int)) {i : Int32} {x : Int32} (k : Nat) (hi : i = nI k) (hk : k < n) (hn : n < 2 ^ 31) (hd : decode cc pc = .ok (.iastore, 1)) (hs : ws.set q0 (a, .inl (cA, n, .inl (upd f k x))) = ws')
    (kk : ∀ (H1 : Heap) (locs1 : List Loc), va_P D cl ws' H1 → va_D A ws' → va_S A H0 H1 locs1 → W p l e R s m args below meth c H1 locs1 cells slots Q (F0 m (pc + 1) ls rest)) : W p l e R s m args below meth c H locs cells slots Q (F0 m pc ls (.int x :: .int i :: .ref a :: rest)) := by
  subst hi; subst hs
  refine va_iast hx hb hK hP hD hS q0 t0 ha ht (vp_in_nI hk hn) hd ?_
  rw [nI_clamp (Nat.lt_trans hk hn)]
  exact kk
theorem xa_put {cc : ByteArray} {ws ws' : va_W} {a : Nat} (hx : p.tables.exec = Jvm.exec) (hb : c.code = cc) {own ref C : String} {T : u_T} {N ci index : Nat} {Ts : List Cond} (hts : ∀ w ∈ Ts, w.before args s = true) (hin : ∀ w ∈ u_ws C T N, w ∈ Ts) (ty0 : Nat → FieldType) (hty : ∀ k, k < N → parseFieldDescriptor (T k).2.2.1 = some (ty0 k)) (hnm : ∀ a, a < N → ∀ b, b < N → a ≠ b → (T a).2.1 ≠ (T b).2.1) (hown : s.vm.findClass own = some m.cls) (hK : va_K D cl tys s) (hP : va_P D cl ws H) (hD : va_D A ws) (hS0 : va_S A H0 H locs) (q0 : Nat) {fs : List Value} (he : ws[q0]? = some (a, .inr (ci, fs))) (hc : cl[ci]? = some (C, T, N)) (k : Nat) (hk : k < N) (hlink : (Cond.fieldLink own index ref (T k).2.1 (T k).2.2.1).before args s = true) (hsame : ∀ x, s.fieldFound? (T k).1 (T k).2.1 (T k).2.2.1 = some x → s.fieldFound? ref (T k).2.1 (T k).2.2.1 = some x) (hfin : (T k).2.2.2 = false) {ty : FieldType} {v : Value} (hd : parseFieldDescriptor (T k).2.2.1 = some ty) (hn : narrow ty v = v) (hfit : fits ty v = true) (hl : k < fs.length)
    (hdg : decode cc pc = .ok (.putfield index, 3)) (hs : ws.set q0 (a, .inr (ci, fs.set k v)) = ws') (kk : ∀ (H1 : Heap) (locs1 : List Loc), va_P D cl ws' H1 → va_D A ws' → va_S A H0 H1 locs1 → W p l e R s m args below meth c H1 locs1 cells slots Q (F0 m (pc + 3) ls rest)) : W p l e R s m args below meth c H locs cells slots Q (F0 m pc ls (v :: .ref a :: rest)) := by
  subst hs
  exact va_put hx hb hts hin ty0 hty hnm hown hK hP hD hS0 q0 he hc k hk hlink hsame hfin hd hn hfit hl hdg kk
end XK
