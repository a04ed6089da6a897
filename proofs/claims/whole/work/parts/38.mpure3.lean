/-! The reference's words, moved and untagged, as states -/
section XM3
def x_ldy (v : xV) (k : Nat) : xV := (v.1, v.2.1, v.2.2.1, v.2.2.2.1, v.2.2.2.2.1, v.2.2.2.2.2.1, v.2.2.2.2.2.2.1, v.2.2.2.2.2.2.2.1, v.2.2.2.2.2.2.2.2.1, x_dk v.2.2.2.2.2.2.2.2.1 (v.1 k) k v.2.2.2.2.2.2.2.2.2)
theorem m_brm (v : xV) {r k : Nat} (hr : r < 8) (hk : k < 256) : u5 (xf v) (1280 + 5 * r) (xf v (5 * k)) (xf v (5 * k + 1)) (xf v (5 * k + 2)) (xf v (5 * k + 3)) (xf v (5 * k + 4)) = xf (x_reg v r (v.1 k)) := by
  have e0 : xf v (5 * k) = wc (v.1 k) 0 := xf_m v hk (k := 0) (by decide)
  rw [e0, xf_m v hk (by decide), xf_m v hk (by decide), xf_m v hk (by decide), xf_m v hk (by decide), xf_ur v hr]
theorem m_bmr (v : xV) {r k : Nat} (hr : r < 8) (hk : k < 256) : u5 (xf v) (5 * k) (xf v (1280 + 5 * r)) (xf v (1280 + 5 * r + 1)) (xf v (1280 + 5 * r + 2)) (xf v (1280 + 5 * r + 3)) (xf v (1280 + 5 * r + 4)) = xf (x_mem v k (v.2.1 r)) := by
  have e0 : xf v (1280 + 5 * r) = wc (v.2.1 r) 0 := xf_r v hr (k := 0) (by decide)
  rw [e0, xf_r v hr (by decide), xf_r v hr (by decide), xf_r v hr (by decide), xf_r v hr (by decide), xf_um v hk]
theorem m_brr (v : xV) {r q : Nat} (hr : r < 8) (hq : q < 8) : u5 (xf v) (1280 + 5 * r) (xf v (1280 + 5 * q)) (xf v (1280 + 5 * q + 1)) (xf v (1280 + 5 * q + 2)) (xf v (1280 + 5 * q + 3)) (xf v (1280 + 5 * q + 4)) = xf (x_reg v r (v.2.1 q)) := by
  have e0 : xf v (1280 + 5 * q) = wc (v.2.1 q) 0 := xf_r v hq (k := 0) (by decide)
  rw [e0, xf_r v hq (by decide), xf_r v hq (by decide), xf_r v hq (by decide), xf_r v hq (by decide), xf_ur v hr]
theorem m_utr (v : xV) {r : Nat} (hr : r < 8) : u5 (xf v) (1280 + 5 * r) 0 (xf v (1280 + 5 * r + 1)) 0 0 0 = xf (x_reg v r ((v.2.1 r).1, none)) := by
  rw [xf_r v hr (k := 1) (by decide)]
  exact xf_ur v hr ((v.2.1 r).1, none)
theorem m_utm (v : xV) {k : Nat} (hk : k < 256) : u5 (xf v) (5 * k) 0 (xf v (5 * k + 1)) 0 0 0 = xf (x_mem v k ((v.1 k).1, none)) := by
  rw [xf_m v hk (k := 1) (by decide)]
  exact xf_um v hk ((v.1 k).1, none)
theorem m_utz (v : xV) {k : Nat} (hk : k < 256) : u5 (xf v) (5 * k) 0 0 0 0 0 = xf (x_mem v k (0, none)) := xf_um v hk (0, none)
theorem m_lok_t (v : xV) {r k : Nat} (h : ¬ xb (x_stale v.2.2.2.2.2.1 (v.1 k)) = 0) : x_tal (x_reg (x_reg v r (v.1 k)) r (((x_reg v r (v.1 k)).2.1 r).1, none)) 3 (v.2.2.1 3 + 1) = x_lok v r k := by
  have e1 : (x_reg v r (v.1 k)).2.1 r = v.1 k := va_up_self v.2.1 r (v.1 k)
  rw [e1]
  unfold x_lok
  rw [x_lk_t h, x_tk_t h]
  show (v.1, va_up (va_up v.2.1 r (v.1 k)) r ((v.1 k).1, none), _) = _
  rw [bx_uu]
  rfl
theorem m_lok_f (v : xV) {r k : Nat} (h : xb (x_stale v.2.2.2.2.2.1 (v.1 k)) = 0) : x_reg v r (v.1 k) = x_lok v r k := by
  unfold x_lok
  rw [x_lk_f h, x_tk_f h]
  rfl
def x_clm (v : xV) (a b : Nat) : xV := (x_cl v.2.2.2.2.2.1 v.1 a b, v.2.1, v.2.2.1, v.2.2.2.1, v.2.2.2.2.1, v.2.2.2.2.2.1, v.2.2.2.2.2.2.1, v.2.2.2.2.2.2.2.1, v.2.2.2.2.2.2.2.2.1, v.2.2.2.2.2.2.2.2.2)
def x_clr_ (v : xV) (a b : Nat) : xV := (v.1, x_cl v.2.2.2.2.2.1 v.2.1 a b, v.2.2.1, v.2.2.2.1, v.2.2.2.2.1, v.2.2.2.2.2.1, v.2.2.2.2.2.2.1, v.2.2.2.2.2.2.2.1, v.2.2.2.2.2.2.2.2.1, v.2.2.2.2.2.2.2.2.2)
theorem x_clm_0 (v : xV) (a : Nat) : x_clm v a a = v := by unfold x_clm; rw [x_cl_0]
theorem x_clr_0' (v : xV) (a : Nat) : x_clr_ v a a = v := by unfold x_clr_; rw [x_cl_0]
theorem x_clm_t (v : xV) {a i : Nat} (h : a ≤ i) (hs : x_stale v.2.2.2.2.2.1 (v.1 i) = true) : x_mem (x_clm v a i) i (((x_clm v a i).1 i).1, none) = x_clm v a (i + 1) := by
  have e1 : (x_clm v a i).1 i = v.1 i := x_cl_at _ _ _ _
  rw [e1]
  unfold x_clm
  rw [← x_cl_t _ _ h hs]
  rfl
theorem x_clm_f (v : xV) {a i : Nat} (hs : x_stale v.2.2.2.2.2.1 (v.1 i) = false) : x_clm v a i = x_clm v a (i + 1) := by unfold x_clm; rw [x_cl_f _ _ hs]
theorem x_clr_t' (v : xV) {a i : Nat} (h : a ≤ i) (hs : x_stale v.2.2.2.2.2.1 (v.2.1 i) = true) : x_reg (x_clr_ v a i) i (((x_clr_ v a i).2.1 i).1, none) = x_clr_ v a (i + 1) := by
  have e1 : (x_clr_ v a i).2.1 i = v.2.1 i := x_cl_at _ _ _ _
  rw [e1]
  unfold x_clr_
  rw [← x_cl_t _ _ h hs]
  rfl
theorem x_clr_f' (v : xV) {a i : Nat} (hs : x_stale v.2.2.2.2.2.1 (v.2.1 i) = false) : x_clr_ v a i = x_clr_ v a (i + 1) := by unfold x_clr_; rw [x_cl_f _ _ hs]
theorem x_reg_at (v : xV) (r : Nat) (w : xw) : (x_reg v r w).2.1 r = w := va_up_self v.2.1 r w
theorem m_51 {a i : Nat} : nI (5 * a) + 5 * nI i = nI (5 * (a + i)) := by
  rw [show (5 : Int32) = nI 5 from rfl, pk_mul, nI_add, Nat.mul_add]
end XM3
