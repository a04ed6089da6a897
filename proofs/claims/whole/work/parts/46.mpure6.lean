section XM6
def mp_pf (v : xV) (what : Int32) (i : Nat) : Int32 := if what = 2 then xb (xw_p (v.1 i)) else xb (decide (xu v.2.2.2.1 v.2.2.2.2.1 i = what - 2))
def mp_page (v : xV) (pg what : Int32) : Int32 :=
  if xi pg 16 = true ∧ xi what 5 = true then
    (if what < 2 then (if what = 0 then xb (decide (xN pg < v.2.2.2.2.2.2.2.2.1)) else xb (v.2.2.2.2.2.2.2.2.2 (xN pg))) else x_acc (mp_pf v what) (16 * xN pg) (16 * xN pg + 16 - 16 * xN pg))
  else -1
def mp_range (v : xV) (i what : Int32) : Int32 :=
  if xi i 256 = true ∧ xi what 2 = true then
    (if x_fi v.2.2.2.1 v.2.2.2.2.2.2.1 (xN i) = -4 then -4 else if what = 0 then x_fi v.2.2.2.1 v.2.2.2.2.2.2.1 (xN i) else x_rs v.2.2.2.1 v.2.2.2.2.2.2.1 (x_fi v.2.2.2.1 v.2.2.2.2.2.2.1 (xN i)))
  else -1
def mp_ca (v : xV) (what : Int32) : Int32 := x_acc (fun i => xb (decide (xu v.2.2.2.1 v.2.2.2.2.1 i = what))) 0 256
def mp_cb (v : xV) : Int32 := x_acc (fun i => xb (v.2.2.2.2.2.1 i)) 0 256
def mp_cc (v : xV) : Int32 := x_acc (fun i => xb (decide (x_fi v.2.2.2.1 v.2.2.2.2.2.2.1 i = nI i))) 0 256
def mp_count (v : xV) (kp : Nat) (what : Int32) : Int32 :=
  if what = 0 then mp_ca v what else if what = 1 then mp_ca v what else if what = 2 then mp_ca v what else if what = 3 then mp_cb v else if what = 4 then mp_cc v else if what = 12 then xb v.2.2.2.2.2.2.2.1 else if what = 13 then nI kp else if xin what.toInt64 5 11 = true then v.2.2.1 (xN (what - 5)) else -1
theorem m_c5 {x : Int32} (h : xin x.toInt64 5 11 = true) : ∃ k, k < 7 ∧ 2121 + x - 5 = nI (2121 + k) ∧ xN (x - 5) = k := by
  rw [xin_i, decide_eq_true_eq] at h
  have e5 : (5 : Int64).toInt = 5 := rfl
  have e11 : (11 : Int64).toInt = 11 := rfl
  have e5' : (5 : Int32).toInt = 5 := rfl
  have e12' : (12 : Int32).toInt = 12 := rfl
  obtain ⟨k, hk, e1, e2⟩ := x_c5 (x := x) (by rw [Int32.lt_iff_toInt_lt]; omega) (by rw [Int32.le_iff_toInt_le]; omega)
  refine ⟨k, hk, ?_, e2⟩
  rw [Int32.sub_eq_add_neg, Int32.add_assoc, ← Int32.sub_eq_add_neg, e1]
  exact nI_add 2121 k
end XM6
