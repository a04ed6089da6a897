/-! What each call answers, and the state behind it where it is an act: both sides are tied to these -/
section XSP
def xN (x : Int32) : Nat := x.toInt.toNat
theorem xN_nI {k : Nat} (h : k < 2 ^ 31) : xN (nI k) = k := by unfold xN; rw [nI_toInt h]; rfl
/-- a word in order: bounds of at least one cell, within memory -/
def xw_ok2 (w : xw) : Prop := match w.2 with
  | none => True
  | some (f, t, r) => f < t ∧ t ≤ 256 ∧ r < 4
theorem xw_ok2_ok {w : xw} (h : xw_ok2 w) : xw_ok w := by
  obtain ⟨a, o⟩ := w
  cases o with
  | none => trivial
  | some q =>
    obtain ⟨f, t, r⟩ := q
    obtain ⟨h1, h2, h3⟩ := h
    exact ⟨by omega, by omega, h3⟩
theorem xw_ok2_p {w : xw} (h : xw_ok2 w) (hp : xw_p w = true) : w = (w.1, some (xw_f w, xw_t w, xw_r w)) ∧ xw_f w < xw_t w ∧ xw_t w ≤ 256 ∧ xw_r w < 4 := by
  obtain ⟨a, o⟩ := w
  cases o with
  | none => cases hp
  | some q => obtain ⟨f, t, r⟩ := q; exact ⟨rfl, h⟩
def x_ok (v : xV) : Prop := (∀ k, xw_ok2 (v.1 k)) ∧ (∀ k, xw_ok2 (v.2.1 k)) ∧ v.2.2.2.2.2.2.2.2.1 ≤ 16
theorem x_ok_m {v : xV} (h : x_ok v) : ∀ k, xw_ok (v.1 k) := fun k => xw_ok2_ok (h.1 k)
theorem x_ok_r {v : xV} (h : x_ok v) : ∀ k, xw_ok (v.2.1 k) := fun k => xw_ok2_ok (h.2.1 k)
def x_fault (w : xw) (right d n : Int32) : Int32 := if xw_p w = true then (if nI (xw_r w) &&& right = 0 then -12 else if xw_cov w d n = true then 0 else -13) else -11
def x_reg (v : xV) (r : Nat) (w : xw) : xV := (v.1, va_up v.2.1 r w, v.2.2.1, v.2.2.2.1, v.2.2.2.2.1, v.2.2.2.2.2.1, v.2.2.2.2.2.2.1, v.2.2.2.2.2.2.2.1, v.2.2.2.2.2.2.2.2.1, v.2.2.2.2.2.2.2.2.2)
def x_giv (v : xV) (r f n : Nat) : xV := (x_clr v.1 f (f + n), va_up v.2.1 r (nI f, some (f, f + n, 3)), v.2.2.1, x_add v.2.2.2.1 f (f + n), v.2.2.2.2.1, v.2.2.2.2.2.1, va_up v.2.2.2.2.2.2.1 f true, v.2.2.2.2.2.2.2.1, v.2.2.2.2.2.2.2.2.1, v.2.2.2.2.2.2.2.2.2)
def sp_give (v : xV) (r n : Int32) : Int32 × Option xV :=
  if xi r 8 = true ∧ ¬ n < 1 ∧ n ≤ 64 then
    (if x_ffr (xu v.2.2.2.1 v.2.2.2.2.1) n 256 0 0 < 0 then (-3, none) else (x_ffr (xu v.2.2.2.1 v.2.2.2.2.1) n 256 0 0, some (x_giv v (xN r) (xN (x_ffr (xu v.2.2.2.1 v.2.2.2.2.1) n 256 0 0)) (xN n))))
  else (-1, none)
def x_bak (v : xV) (f t : Nat) : xV := (v.1, v.2.1, v.2.2.1, x_sub v.2.2.2.1 f t, x_add v.2.2.2.2.1 f t, v.2.2.2.2.2.1, va_up v.2.2.2.2.2.2.1 f false, v.2.2.2.2.2.2.2.1, v.2.2.2.2.2.2.2.2.1, v.2.2.2.2.2.2.2.2.2)
def sp_back (v : xV) (r : Int32) : Int32 × Option xV :=
  if xi r 8 = true then
    (if xw_p (v.2.1 (xN r)) = true then
      (if x_isr v.2.2.2.1 v.2.2.2.2.2.2.1 (xw_f (v.2.1 (xN r))) (xw_t (v.2.1 (xN r))) = true then (nI (xw_t (v.2.1 (xN r))) - nI (xw_f (v.2.1 (xN r))), some (x_bak v (xw_f (v.2.1 (xN r))) (xw_t (v.2.1 (xN r))))) else (-2, none))
     else (-11, none))
  else (-1, none)
def sp_number (v : xV) (r x : Int32) : Int32 × Option xV := if xi r 8 = true then (0, some (x_reg v (xN r) (x, none))) else (-1, none)
def sp_copy (v : xV) (r q : Int32) : Int32 × Option xV := if xi r 8 = true ∧ xi q 8 = true then (0, some (x_reg v (xN r) (v.2.1 (xN q)))) else (-1, none)
def sp_move (v : xV) (r d : Int32) : Int32 × Option xV :=
  if xi r 8 = true then
    (if xw_p (v.2.1 (xN r)) = true then ((v.2.1 (xN r)).1 + d, some (x_reg v (xN r) ((v.2.1 (xN r)).1 + d, some (xw_f (v.2.1 (xN r)), xw_t (v.2.1 (xN r)), xw_r (v.2.1 (xN r)))))) else (-1000000011, none))
  else (-1000000001, none)
def sp_narrow (v : xV) (r q n k : Int32) : Int32 × Option xV :=
  if xi r 8 = true ∧ xi q 8 = true ∧ ¬ n < 1 ∧ ¬ k < 0 ∧ k ≤ 3 then
    (if xw_p (v.2.1 (xN q)) = true then
      (if xw_cov (v.2.1 (xN q)) 0 n = true then ((v.2.1 (xN q)).1, some (x_reg v (xN r) ((v.2.1 (xN q)).1, some (xN (v.2.1 (xN q)).1, xN (v.2.1 (xN q)).1 + xN n, xN (nI (xw_r (v.2.1 (xN q))) &&& k))))) else (-13, none))
     else (-11, none))
  else (-1, none)
def x_lok (v : xV) (r k : Nat) : xV := (v.1, va_up v.2.1 r (x_lk v.2.2.2.2.2.1 (v.1 k)), x_tk v.2.2.2.2.2.1 (v.1 k) v.2.2.1, v.2.2.2.1, v.2.2.2.2.1, v.2.2.2.2.2.1, v.2.2.2.2.2.2.1, v.2.2.2.2.2.2.2.1, v.2.2.2.2.2.2.2.2.1, v.2.2.2.2.2.2.2.2.2)
def sp_look (v : xV) (r q d : Int32) : Int32 × Option xV :=
  if xi r 8 = true ∧ xi q 8 = true then
    (if x_fault (v.2.1 (xN q)) 1 d 1 = 0 then (xb (xw_p (x_lk v.2.2.2.2.2.1 (v.1 (xN ((v.2.1 (xN q)).1 + d))))), some (x_lok v (xN r) (xN ((v.2.1 (xN q)).1 + d)))) else (x_fault (v.2.1 (xN q)) 1 d 1, none))
  else (-1, none)
def x_lay (v : xV) (k : Nat) (w : xw) : xV := (va_up v.1 k w, v.2.1, v.2.2.1, v.2.2.2.1, v.2.2.2.2.1, v.2.2.2.2.2.1, v.2.2.2.2.2.2.1, v.2.2.2.2.2.2.2.1, v.2.2.2.2.2.2.2.2.1, x_dk v.2.2.2.2.2.2.2.2.1 w k v.2.2.2.2.2.2.2.2.2)
def sp_lay (v : xV) (q d r : Int32) : Int32 × Option xV :=
  if xi q 8 = true ∧ xi r 8 = true then
    (if x_fault (v.2.1 (xN q)) 2 d 1 = 0 then ((v.2.1 (xN q)).1 + d, some (x_lay v (xN ((v.2.1 (xN q)).1 + d)) (v.2.1 (xN r)))) else (x_fault (v.2.1 (xN q)) 2 d 1, none))
  else (-1, none)
/-- n words looked up from b on, and how many of them were stale -/
def x_tks (X : Nat → Bool) (f : Nat → xw) (b : Nat) (tal : Nat → Int32) : Nat → (Nat → Int32)
  | 0 => tal
  | n + 1 => x_tk X (f (b + n)) (x_tks X f b tal n)
def x_mov (X : Nat → Bool) (f : Nat → xw) (a b n : Nat) : Nat → xw := fun k => if a ≤ k ∧ k < a + n then x_lk X (f (b + (k - a))) else f k
def x_dks (seen : Nat) (X : Nat → Bool) (f : Nat → xw) (a b : Nat) (dy : Nat → Bool) : Nat → (Nat → Bool)
  | 0 => dy
  | n + 1 => x_dk seen (x_lk X (f (b + n))) (a + n) (x_dks seen X f a b dy n)
def x_blk (v : xV) (a b n : Nat) : xV := (x_mov v.2.2.2.2.2.1 v.1 a b n, v.2.1, x_tks v.2.2.2.2.2.1 v.1 b v.2.2.1 n, v.2.2.2.1, v.2.2.2.2.1, v.2.2.2.2.2.1, v.2.2.2.2.2.2.1, v.2.2.2.2.2.2.2.1, v.2.2.2.2.2.2.2.2.1, x_dks v.2.2.2.2.2.2.2.2.1 v.2.2.2.2.2.1 v.1 a b v.2.2.2.2.2.2.2.2.2 n)
def sp_block (v : xV) (q d t e n : Int32) : Int32 × Option xV :=
  if xi q 8 = true ∧ xi t 8 = true ∧ ¬ n < 1 ∧ n ≤ 64 then
    (if x_fault (v.2.1 (xN q)) 2 d n = 0 then
      (if x_fault (v.2.1 (xN t)) 1 e n = 0 then (n, some (x_blk v (xN ((v.2.1 (xN q)).1 + d)) (xN ((v.2.1 (xN t)).1 + e)) (xN n))) else (x_fault (v.2.1 (xN t)) 1 e n, none))
     else (x_fault (v.2.1 (xN q)) 2 d n, none))
  else (-1, none)
def x_swp (v : xV) : xV := (v.1, v.2.1, v.2.2.1, v.2.2.2.1, v.2.2.2.2.1, v.2.2.2.2.1, v.2.2.2.2.2.2.1, true, v.2.2.2.2.2.2.2.2.1, v.2.2.2.2.2.2.2.2.2)
def sp_sweep (v : xV) : Int32 × Option xV := if v.2.2.2.2.2.2.2.1 = true then (-2, none) else (nI (xs_w v.2.2.2.2.1 0 256), some (x_swp v))
def x_stp (v : xV) (k : Nat) : xV := (x_cl v.2.2.2.2.2.1 v.1 (16 * v.2.2.2.2.2.2.2.2.1) (16 * x_stop v.2.2.2.2.2.2.2.2.1 k), v.2.1, x_pt v.2.2.2.2.2.1 v.1 v.2.2.2.2.2.2.2.2.1 k v.2.2.1, v.2.2.2.1, v.2.2.2.2.1, v.2.2.2.2.2.1, v.2.2.2.2.2.2.1, v.2.2.2.2.2.2.2.1, x_stop v.2.2.2.2.2.2.2.2.1 k, v.2.2.2.2.2.2.2.2.2)
def sp_step (v : xV) (n : Int32) : Int32 × Option xV :=
  if ¬ n < 1 ∧ n ≤ 16 then (if v.2.2.2.2.2.2.2.1 = true then (x_cn v.2.2.2.2.2.1 v.1 (16 * v.2.2.2.2.2.2.2.2.1) (16 * x_stop v.2.2.2.2.2.2.2.2.1 (xN n)), some (x_stp v (xN n))) else (-2, none)) else (-1, none)
def x_end (v : xV) : xV := (x_dm v.2.2.2.2.2.1 v.2.2.2.2.2.2.2.2.2 v.1 16, x_cl v.2.2.2.2.2.1 v.2.1 0 8, x_et v.2.2.2.2.2.1 v.2.2.2.2.2.2.2.2.2 v.1 v.2.1 v.2.2.1, v.2.2.2.1, fun i => v.2.2.2.2.1 i && !v.2.2.2.2.2.1 i, fun i => v.2.2.2.2.2.1 i && !v.2.2.2.2.2.1 i, v.2.2.2.2.2.2.1, false, 0, fun _ => false)
def sp_end (v : xV) : Int32 × Option xV := if v.2.2.2.2.2.2.2.1 = true ∧ 16 ≤ v.2.2.2.2.2.2.2.2.1 then (nI (xs_w v.2.2.2.2.2.1 0 256), some (x_end v)) else (-2, none)
def x_told (X : Nat → Bool) (w : xw) (use what : Int32) : Int32 :=
  if what = 0 then xb (xw_p w) else if what = 1 then w.1 else if what = 2 then nI (xw_f w) else if what = 3 then nI (xw_t w) else if what = 4 then nI (xw_r w) else if what = 5 then use else if what = 6 then xb (x_stale X w) else -1000000001
def sp_told (v : xV) (wh i what : Int32) : Int32 :=
  if wh = 0 ∧ xi i 8 = true then x_told v.2.2.2.2.2.1 (v.2.1 (xN i)) 0 what else if wh = 1 ∧ xi i 256 = true then x_told v.2.2.2.2.2.1 (v.1 (xN i)) (xu v.2.2.2.1 v.2.2.2.2.1 (xN i)) what else -1000000001
def sp_page (v : xV) (p what : Int32) : Int32 :=
  if xi p 16 = true then
    (if what = 0 then xb (decide (xN p < v.2.2.2.2.2.2.2.2.1)) else if what = 1 then xb (v.2.2.2.2.2.2.2.2.2 (xN p)) else if what = 2 then x_acc (fun k => xb (xw_p (v.1 k))) (16 * xN p) (16 * xN p + 16 - 16 * xN p) else if what = 3 then nI (xs_w v.2.2.2.1 (16 * xN p) (16 * xN p + 16)) else if what = 4 then nI (xs_w v.2.2.2.2.1 (16 * xN p) (16 * xN p + 16)) else -1)
  else -1
def sp_range (v : xV) (i what : Int32) : Int32 :=
  if xi i 256 = true ∧ ¬ what < 0 ∧ what ≤ 1 then
    (if v.2.2.2.1 (xN i) = true then (if what = 0 then nI (x_rf v.2.2.2.2.2.2.1 (xN i)) else nI (x_rt v.2.2.2.1 v.2.2.2.2.2.2.1 (255 - xN i) (xN i + 1)) - nI (x_rf v.2.2.2.2.2.2.1 (xN i))) else -4)
  else -1
def sp_count (v : xV) (sz : Nat) (what : Int32) : Int32 :=
  if ¬ what < 5 ∧ ¬ 12 ≤ what then v.2.2.1 (xN (what - 5)) else if what = 0 then 256 - nI (xs_w v.2.2.2.1 0 256) - nI (xs_w v.2.2.2.2.1 0 256) else if what = 1 then nI (xs_w v.2.2.2.1 0 256) else if what = 2 then nI (xs_w v.2.2.2.2.1 0 256) else if what = 3 then nI (xs_w v.2.2.2.2.2.1 0 256) else if what = 4 then nI (xs_w v.2.2.2.2.2.2.1 0 256) else if what = 12 then xb v.2.2.2.2.2.2.2.1 else if what = 13 then nI sz else -1
/-- the class's world -/
def xx (cI cJ cS : ClassId) (h0 ca hh ka : Nat) (fk : Nat → Option Nat) (ad : Nat → Nat) (ads : Nat → Nat → Nat) (N4 : Nat) (cr : Nat → Int64) (v : xV) (vs : Nat → xV) (nx sz : Nat) : va_W := [(h0, .inr (3, [.ref (ad 0), .ref hh, .ref ca])), (ca, .inl (cJ, 64, .inr (.inl cr))), (hh, .inr (1, [.ref ka, .int (nI nx), .int (nI sz)])), (ka, .inl (cS, 24, .inr (.inr (.inr (.inr fk)))))] ++ (xst cI cJ ad v ++ xpl cI cJ ads vs N4)
def xxo (cI cJ cS : ClassId) (h0 ca hh ka : Nat) (fk : Nat → Option Nat) (ad : Nat → Nat) (ads : Nat → Nat → Nat) (N4 : Nat) (cr : Nat → Int64) (v : xV) (vs : Nat → xV) (nx sz : Nat) (o : Option xV) : va_W := match o with
  | none => xx cI cJ cS h0 ca hh ka fk ad ads N4 cr v vs nx sz
  | some v' => xx cI cJ cS h0 ca hh ka fk ad ads N4 cr v' (va_up vs nx v) (x_nx nx) (x_sz sz)
end XSP
