/-! A state's twelve cells, and the pool of the states that are kept -/
section XPL
abbrev xV : Type := (Nat → xw) × (Nat → xw) × (Nat → Int32) × (Nat → Bool) × (Nat → Bool) × (Nat → Bool) × (Nat → Bool) × Bool × Nat × (Nat → Bool)
def xst (cI cJ : ClassId) (ad : Nat → Nat) (v : xV) : va_W := [((ad 0), .inr (2, [.ref (ad 1), .ref (ad 2), .ref (ad 3), .ref (ad 4), .ref (ad 6), .ref (ad 8), .ref (ad 10), .int (xb v.2.2.2.2.2.2.2.1), .int (nI v.2.2.2.2.2.2.2.2.1), .int (xd v.2.2.2.2.2.2.2.2.2)])), ((ad 1), .inl (cJ, 256, .inr (.inl (xw_arr v.1)))), ((ad 2), .inl (cJ, 8, .inr (.inl (xw_arr v.2.1)))), ((ad 3), .inl (cI, 7, .inl v.2.2.1)), ((ad 4), .inr (0, [.ref (ad 5)])), ((ad 5), .inl (cJ, 4, .inr (.inl (xs_rows v.2.2.2.1)))), ((ad 6), .inr (0, [.ref (ad 7)])), ((ad 7), .inl (cJ, 4, .inr (.inl (xs_rows v.2.2.2.2.1)))), ((ad 8), .inr (0, [.ref (ad 9)])), ((ad 9), .inl (cJ, 4, .inr (.inl (xs_rows v.2.2.2.2.2.1)))), ((ad 10), .inr (0, [.ref (ad 11)])), ((ad 11), .inl (cJ, 4, .inr (.inl (xs_rows v.2.2.2.2.2.2.1))))]
/-- the first n states of the pool -/
def xpl (cI cJ : ClassId) (ads : Nat → Nat → Nat) (vs : Nat → xV) : Nat → va_W
  | 0 => []
  | n + 1 => xpl cI cJ ads vs n ++ xst cI cJ (ads n) (vs n)
/-- the same but for the k-th -/
def xpx (cI cJ : ClassId) (ads : Nat → Nat → Nat) (vs : Nat → xV) (k : Nat) : Nat → va_W
  | 0 => []
  | n + 1 => if n = k then xpl cI cJ ads vs n else xpx cI cJ ads vs k n ++ xst cI cJ (ads n) (vs n)
theorem xpl_perm (cI cJ : ClassId) (ads : Nat → Nat → Nat) (vs : Nat → xV) (k : Nat) : ∀ n, k < n → (xpl cI cJ ads vs n).Perm (xst cI cJ (ads k) (vs k) ++ xpx cI cJ ads vs k n)
  | 0, h => absurd h (Nat.not_lt_zero _)
  | n + 1, h => by
    show (xpl cI cJ ads vs n ++ xst cI cJ (ads n) (vs n)).Perm (xst cI cJ (ads k) (vs k) ++ (if n = k then xpl cI cJ ads vs n else xpx cI cJ ads vs k n ++ xst cI cJ (ads n) (vs n)))
    by_cases hk : n = k
    · rw [if_pos hk, hk]
      exact List.perm_append_comm
    · rw [if_neg hk, ← List.append_assoc]
      exact (xpl_perm cI cJ ads vs k n (by omega)).append_right _
theorem xpl_up (cI cJ : ClassId) (ads : Nat → Nat → Nat) (vs : Nat → xV) (k : Nat) (v : xV) : ∀ n, n ≤ k → xpl cI cJ ads (va_up vs k v) n = xpl cI cJ ads vs n
  | 0, _ => rfl
  | n + 1, h => by
    show xpl cI cJ ads (va_up vs k v) n ++ xst cI cJ (ads n) (va_up vs k v n) = _
    rw [xpl_up cI cJ ads vs k v n (by omega), va_up_ne vs v (by omega)]
    rfl
theorem xpx_up (cI cJ : ClassId) (ads : Nat → Nat → Nat) (vs : Nat → xV) (k : Nat) (v : xV) : ∀ n, xpx cI cJ ads (va_up vs k v) k n = xpx cI cJ ads vs k n
  | 0 => rfl
  | n + 1 => by
    show (if n = k then xpl cI cJ ads (va_up vs k v) n else xpx cI cJ ads (va_up vs k v) k n ++ xst cI cJ (ads n) (va_up vs k v n)) = (if n = k then xpl cI cJ ads vs n else xpx cI cJ ads vs k n ++ xst cI cJ (ads n) (vs n))
    by_cases hk : n = k
    · rw [if_pos hk, if_pos hk, xpl_up cI cJ ads vs k v n (by omega)]
    · rw [if_neg hk, if_neg hk, xpx_up cI cJ ads vs k v n, va_up_ne vs v hk]
theorem xst_fst (cI cJ : ClassId) (ad : Nat → Nat) (v v2 : xV) : (xst cI cJ ad v).map (fun x => x.1) = (xst cI cJ ad v2).map (fun x => x.1) := rfl
theorem xpl_fst (cI cJ : ClassId) (ads : Nat → Nat → Nat) (vs vs2 : Nat → xV) : ∀ n, (xpl cI cJ ads vs n).map (fun x => x.1) = (xpl cI cJ ads vs2 n).map (fun x => x.1)
  | 0 => rfl
  | n + 1 => by
    show (xpl cI cJ ads vs n ++ xst cI cJ (ads n) (vs n)).map (fun x => x.1) = (xpl cI cJ ads vs2 n ++ xst cI cJ (ads n) (vs2 n)).map (fun x => x.1)
    rw [List.map_append, List.map_append, xpl_fst cI cJ ads vs vs2 n, xst_fst cI cJ (ads n) (vs n) (vs2 n)]
theorem xk_Dnd {A : Nat → Prop} {ws : va_W} : va_D A ws ↔ ((ws.map (fun x => x.1)).Nodup ∧ ∀ q ∈ ws, A q.1) := by
  constructor
  · intro h
    refine ⟨?_, fun q hq => ?_⟩
    · rw [List.nodup_iff_pairwise_ne, List.pairwise_iff_getElem]
      intro i j hi hj hij he
      rw [List.length_map] at hi hj
      rw [List.getElem_map, List.getElem_map] at he
      have := h.1 i j ws[i] ws[j] (List.getElem?_eq_getElem hi) (List.getElem?_eq_getElem hj) he
      omega
    · obtain ⟨i, hi⟩ := List.getElem?_of_mem hq
      exact h.2 i q hi
  · intro h
    refine ⟨fun i j x y hx hy hxy => ?_, fun k q hk => h.2 q (List.mem_of_getElem? hk)⟩
    have h1 := h.1
    rw [List.nodup_iff_pairwise_ne, List.pairwise_iff_getElem] at h1
    obtain ⟨hi, hx⟩ := List.getElem?_eq_some_iff.mp hx
    obtain ⟨hj, hy⟩ := List.getElem?_eq_some_iff.mp hy
    rcases Nat.lt_trichotomy i j with q | q | q
    · exact absurd (by rw [List.getElem_map, List.getElem_map, hx, hy]; exact hxy) (h1 i j (by rw [List.length_map]; exact hi) (by rw [List.length_map]; exact hj) q)
    · exact q
    · exact absurd (by rw [List.getElem_map, List.getElem_map, hx, hy]; exact hxy.symm) (h1 j i (by rw [List.length_map]; exact hj) (by rw [List.length_map]; exact hi) q)
theorem xk_Dperm {A : Nat → Prop} {ws ws' : va_W} (hp : ws.Perm ws') (h : va_D A ws) : va_D A ws' := by
  rw [xk_Dnd] at h ⊢
  exact ⟨(hp.map _).nodup_iff.mp h.1, fun q hq => h.2 q (hp.mem_iff.mpr hq)⟩
theorem xk_Pperm {D : va_G} {cl : List vw_C} {H : Heap} {ws ws' : va_W} (hp : ws.Perm ws') (h : va_P D cl ws H) : va_P D cl ws' H := xk_Pmem h (fun q hq => hp.mem_iff.mpr hq)
section
variable {p : Program} {l : Launch} {e : Env} {R : Room} {s : State} {m : MethodId} {args : Array Value} {below : List Frame} {meth : Method} {c : Code} {H : Heap} {locs : List Loc} {cells slots : Nat} {Q : State → Prop}
variable {pc : Nat} {ls : Array Slot} {rest : List Value} {D : va_G} {cl : List vw_C} {tys : List (ClassId × FieldType)}
theorem xa_aldq {cc : ByteArray} {ws : va_W} {a : Nat} (hx : p.tables.exec = Jvm.exec) (hb : c.code = cc) (hK : va_K D cl tys s) (hP : va_P D cl ws H) (q0 t0 : Nat) {cA : ClassId} {C : String} {n : Nat} {f : Nat → Option Nat} (ha : ws[q0]? = some (a, .inl (cA, n, .inr (.inr (.inr (.inr f)))))) (ht : tys[t0]? = some (cA, .object C)) {i : Int32} (k : Nat) (hi : i = nI k) (hk : k < n) (hn : n < 2 ^ 31) {q : Nat} (hf : f k = some q) (hd : decode cc pc = .ok (.aaload, 1))
    (kk : W p l e R s m args below meth c H locs cells slots Q (F0 m (pc + 1) ls (.ref q :: rest))) : W p l e R s m args below meth c H locs cells slots Q (F0 m pc ls (.int i :: .ref a :: rest)) := by
  subst hi
  refine va_aldq hx hb hK hP q0 t0 ha ht (vp_in_nI hk hn) hd ?_
  rw [nI_clamp (Nat.lt_trans hk hn), hf]
  exact kk
end
/-- a writing method's start, the worlds of its goal being names -/
theorem xk_wr2 {l : Launch} {D : va_G} {cl : List vw_C} {tys : List (ClassId × FieldType)} {y : MethodName} {ws ws' : List Cond} {rm : Room} {cc : ByteArray} {maxL : Nat} {ret : Option FieldType} {W0 W1 : va_W} {av : List Value} {rv : Option Value} (hy : plainName y.cls = true) (hw : ws = Cond.code y cc maxL ret :: ws') (hlen : (lg_sl av).length ≤ maxL)
    (body : ∀ (p : Program) (e : Env) (s : State) (m : MethodId) (below : List Frame) (meth : Method) (c : Code) (ls : Array Slot) (W0v W1v : va_W), W1 = W1v → p.tables.exec = Jvm.exec → c.code = cc → meth.sig.returnType = ret → meth.locks = false → c.maxLocals = maxL → s.vm.findClass y.cls = some m.cls → (∀ w ∈ ws, w.before av.toArray s = true) → lv_has ls maxL (lv_args 0 av) → va_P D cl W0 s.heap → va_K D cl tys s → xn s → va_D (xk_in W0v) W0 → va_S (xk_in W0v) s.heap s.heap [] →
      W p l e rm s m av.toArray below meth c s.heap [] 0 0 (MQ below (xk_W D cl W0v W1v rv) av.toArray s 0 0 (xk_in W0v)) (F0 m 0 ls [])) : xk_Wr l y ws rm D cl tys W0 av W1 rv :=
  xk_wr hy hw hlen (fun p e s m below meth c ls hx hb hr hlk hml hown hts hl hP hK hN hD hS => body p e s m below meth c ls W0 W1 rfl hx hb hr hlk hml hown hts hl hP hK hN hD hS)
def x_nx (n : Nat) : Nat := if n + 1 < 24 then n + 1 else 0
def x_pv (n : Nat) : Nat := if 0 < n then n - 1 else 23
def x_sz (n : Nat) : Nat := min 24 (n + 1)
theorem x_nx_lt {n : Nat} (h : n < 24) : x_nx n < 24 := by unfold x_nx; split <;> omega
theorem x_pv_lt {n : Nat} (h : n < 24) : x_pv n < 24 := by unfold x_pv; split <;> omega
theorem x_nx_y {n : Nat} (h : n < 24) (c : ¬ 24 ≤ nI n + 1) : nI n + 1 = nI (x_nx n) := by
  rw [nI_1] at c ⊢
  have := xn_lt_of (a := 24) (by decide) (by omega) c
  unfold x_nx
  rw [if_pos this]
theorem x_nx_n {n : Nat} (h : n < 24) (c : 24 ≤ nI n + 1) : (0 : Int32) = nI (x_nx n) := by
  rw [nI_1] at c
  have := xn_le_of (a := 24) (by decide) (by omega) c
  unfold x_nx
  rw [if_neg (by omega)]
  rfl
theorem x_sz_min {n : Nat} (h : n ≤ 24) : (if nI n + 1 < 24 then nI n + 1 else 24) = nI (x_sz n) := by
  rw [nI_1]
  unfold x_sz
  by_cases h2 : n + 1 < 24
  · rw [if_pos (show nI (n + 1) < 24 from nI_lt (b := 24) h2 (by decide)), Nat.min_eq_right (by omega)]
  · rw [if_neg (show ¬ nI (n + 1) < 24 from nI_nlt (b := 24) (by omega) (by omega)), Nat.min_eq_left (by omega)]
    rfl
theorem x_pv_y {n : Nat} (h : n < 24) (c : ¬ nI n ≤ 0) : nI n - 1 = nI (x_pv n) := by
  have h0 : 0 < n := by
    rcases Nat.eq_zero_or_pos n with q | q
    · rw [q] at c; exact absurd (by decide) c
    · exact q
  obtain ⟨k, rfl⟩ : ∃ k, n = k + 1 := ⟨n - 1, by omega⟩
  rw [nI_pred]
  unfold x_pv
  rw [if_pos h0]
  rfl
theorem x_pv_n {n : Nat} (h : n < 24) (c : nI n ≤ 0) : (23 : Int32) = nI (x_pv n) := by
  have h0 : ¬ 0 < n := fun q => nI_nle q (by omega) c
  unfold x_pv
  rw [if_neg h0]
  rfl
theorem x_pos {n : Nat} (c : ¬ nI n ≤ 0) : 0 < n := by
  rcases Nat.eq_zero_or_pos n with q | q
  · rw [q] at c; exact absurd (by decide) c
  · exact q
theorem x_szm {n : Nat} (h : 0 < n) : nI n - 1 = nI (n - 1) := by
  obtain ⟨k, rfl⟩ : ∃ k, n = k + 1 := ⟨n - 1, by omega⟩
  rw [nI_pred]
  rfl
end XPL
