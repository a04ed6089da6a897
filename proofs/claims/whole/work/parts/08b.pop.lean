section XQ
theorem xp_i1 (c0 c1 c2 c3 c4 c5 c6 c7 : Nat) : (c0 + 256 * (c1 + 256 * (c2 + 256 * (c3 + 256 * (c4 + 256 * (c5 + 256 * (c6 + 256 * (c7 + 256 * 0)))))))) + (c1 + 256 * (c2 + 256 * (c3 + 256 * (c4 + 256 * (c5 + 256 * (c6 + 256 * (c7 + 256 * 0))))))) = (c0 + c1) + 256 * ((c1 + c2) + 256 * ((c2 + c3) + 256 * ((c3 + c4) + 256 * ((c4 + c5) + 256 * ((c5 + c6) + 256 * ((c6 + c7) + 256 * ((c7) + 256 * 0))))))) := by omega
theorem xp_i2 (c0 c1 c2 c3 c4 c5 c6 c7 : Nat) : ((c0 + c1) + 256 * ((c1 + c2) + 256 * ((c2 + c3) + 256 * ((c3 + c4) + 256 * ((c4 + c5) + 256 * ((c5 + c6) + 256 * ((c6 + c7) + 256 * ((c7) + 256 * 0)))))))) + ((c2 + c3) + 256 * ((c3 + c4) + 256 * ((c4 + c5) + 256 * ((c5 + c6) + 256 * ((c6 + c7) + 256 * ((c7) + 256 * 0)))))) = (c0 + c1 + c2 + c3) + 256 * ((c1 + c2 + c3 + c4) + 256 * ((c2 + c3 + c4 + c5) + 256 * ((c3 + c4 + c5 + c6) + 256 * ((c4 + c5 + c6 + c7) + 256 * ((c5 + c6 + c7) + 256 * ((c6 + c7) + 256 * ((c7) + 256 * 0))))))) := by omega
theorem xp_i3 (c0 c1 c2 c3 c4 c5 c6 c7 : Nat) : ((c0 + c1 + c2 + c3) + 256 * ((c1 + c2 + c3 + c4) + 256 * ((c2 + c3 + c4 + c5) + 256 * ((c3 + c4 + c5 + c6) + 256 * ((c4 + c5 + c6 + c7) + 256 * ((c5 + c6 + c7) + 256 * ((c6 + c7) + 256 * ((c7) + 256 * 0)))))))) + ((c4 + c5 + c6 + c7) + 256 * ((c5 + c6 + c7) + 256 * ((c6 + c7) + 256 * ((c7) + 256 * 0)))) = (c0 + c1 + c2 + c3 + c4 + c5 + c6 + c7) + 256 * ((c1 + c2 + c3 + c4 + c5 + c6 + c7) + 256 * ((c2 + c3 + c4 + c5 + c6 + c7) + 256 * ((c3 + c4 + c5 + c6 + c7) + 256 * ((c4 + c5 + c6 + c7) + 256 * ((c5 + c6 + c7) + 256 * ((c6 + c7) + 256 * ((c7) + 256 * 0))))))) := by omega
theorem xp_hl {a r N : Nat} (h1 : a < 256) (h2 : r < N) : a + 256 * r < 256 * N := by omega
theorem xp_hl8 {a0 a1 a2 a3 a4 a5 a6 a7 : Nat} (h0 : a0 < 256) (h1 : a1 < 256) (h2 : a2 < 256) (h3 : a3 < 256) (h4 : a4 < 256) (h5 : a5 < 256) (h6 : a6 < 256) (h7 : a7 < 256) : a0 + 256 * (a1 + 256 * (a2 + 256 * (a3 + 256 * (a4 + 256 * (a5 + 256 * (a6 + 256 * (a7 + 256 * 0))))))) < 18446744073709551616 := xp_hl h0 (xp_hl h1 (xp_hl h2 (xp_hl h3 (xp_hl h4 (xp_hl h5 (xp_hl h6 (xp_hl h7 (Nat.zero_lt_one))))))))
theorem xp_fin {F R : Nat} (h : F ≤ 64) : (F + 256 * R) % 128 = F := by omega
theorem xp_sum {c0 c1 c2 c3 c4 c5 c6 c7 : Nat} (q0 : c0 ≤ 8) (q1 : c1 ≤ 8) (q2 : c2 ≤ 8) (q3 : c3 ≤ 8) (q4 : c4 ≤ 8) (q5 : c5 ≤ 8) (q6 : c6 ≤ 8) (q7 : c7 ≤ 8) : ∀ c d e f : Nat, c = c0 + 256 * (c1 + 256 * (c2 + 256 * (c3 + 256 * (c4 + 256 * (c5 + 256 * (c6 + 256 * (c7 + 256 * 0))))))) → d = c + c / 256 → e = d + d / 65536 → f = e + e / 4294967296 → f % 128 = c0 + c1 + c2 + c3 + c4 + c5 + c6 + c7 ∧ c < 18446744073709551616 ∧ d < 18446744073709551616 ∧ e < 18446744073709551616 ∧ f < 18446744073709551616 := by
  have u0 : c0 < 256 := by omega
  have u1 : c1 < 256 := by omega
  have u2 : c2 < 256 := by omega
  have u3 : c3 < 256 := by omega
  have u4 : c4 < 256 := by omega
  have u5 : c5 < 256 := by omega
  have u6 : c6 < 256 := by omega
  have u7 : c7 < 256 := by omega
  have v0 : (c0 + c1) < 256 := by omega
  have v1 : (c1 + c2) < 256 := by omega
  have v2 : (c2 + c3) < 256 := by omega
  have v3 : (c3 + c4) < 256 := by omega
  have v4 : (c4 + c5) < 256 := by omega
  have v5 : (c5 + c6) < 256 := by omega
  have v6 : (c6 + c7) < 256 := by omega
  have v7 : (c7) < 256 := by omega
  have x0 : (c0 + c1 + c2 + c3) < 256 := by omega
  have x1 : (c1 + c2 + c3 + c4) < 256 := by omega
  have x2 : (c2 + c3 + c4 + c5) < 256 := by omega
  have x3 : (c3 + c4 + c5 + c6) < 256 := by omega
  have x4 : (c4 + c5 + c6 + c7) < 256 := by omega
  have x5 : (c5 + c6 + c7) < 256 := by omega
  have x6 : (c6 + c7) < 256 := by omega
  have x7 : (c7) < 256 := by omega
  have y0 : (c0 + c1 + c2 + c3 + c4 + c5 + c6 + c7) < 256 := by omega
  have y1 : (c1 + c2 + c3 + c4 + c5 + c6 + c7) < 256 := by omega
  have y2 : (c2 + c3 + c4 + c5 + c6 + c7) < 256 := by omega
  have y3 : (c3 + c4 + c5 + c6 + c7) < 256 := by omega
  have y4 : (c4 + c5 + c6 + c7) < 256 := by omega
  have y5 : (c5 + c6 + c7) < 256 := by omega
  have y6 : (c6 + c7) < 256 := by omega
  have y7 : (c7) < 256 := by omega
  have z : c0 + c1 + c2 + c3 + c4 + c5 + c6 + c7 ≤ 64 := by omega
  intro c d e f hc hd he hf
  subst hc
  rw [xp_dv u0, xp_i1] at hd
  subst hd
  rw [show 65536 = 256 * 256 from rfl, ← Nat.div_div_eq_div_mul, xp_dv v0, xp_dv v1, xp_i2] at he
  subst he
  rw [show 4294967296 = 256 * 256 * 256 * 256 from rfl, ← Nat.div_div_eq_div_mul, ← Nat.div_div_eq_div_mul, ← Nat.div_div_eq_div_mul, xp_dv x0, xp_dv x1, xp_dv x2, xp_dv x3, xp_i3] at hf
  subst hf
  exact ⟨xp_fin z, xp_hl8 u0 u1 u2 u3 u4 u5 u6 u7, xp_hl8 v0 v1 v2 v3 v4 v5 v6 v7, xp_hl8 x0 x1 x2 x3 x4 x5 x6 x7, xp_hl8 y0 y1 y2 y3 y4 y5 y6 y7⟩
theorem xp_M1 : xp_mk 85 8 = 6148914691236517205 := by decide +kernel
theorem xp_M2 : xp_mk 51 8 = 3689348814741910323 := by decide +kernel
theorem xp_M3 : xp_mk 15 8 = 1085102592571150095 := by decide +kernel
theorem xp_P8 : (256 : Nat) ^ 8 = 18446744073709551616 := by decide +kernel
theorem xp_P7 : 69 * (256 : Nat) ^ 7 = 4971973988617027584 := by decide +kernel
theorem xp_b16 {b : Nat} (h : b < 4971973988617027584) : b + b / 16 < 18446744073709551616 := by omega
/-- the whole of it -/
theorem xp_count (n a b c d e f : Nat) (hn : n < 18446744073709551616) (ha : a = n - (n / 2 &&& 6148914691236517205)) (hb : b = (a &&& 3689348814741910323) + (a / 4 &&& 3689348814741910323)) (hc : c = (b + b / 16) &&& 1085102592571150095)
    (hd : d = c + c / 256) (he : e = d + d / 65536) (hf : f = e + e / 4294967296) : f % 128 = xp_pc 64 n ∧ (n / 2 &&& 6148914691236517205) ≤ n ∧ a < 18446744073709551616 ∧ b + b / 16 < 18446744073709551616 ∧ b < 18446744073709551616 ∧ c < 18446744073709551616 ∧ d < 18446744073709551616 ∧ e < 18446744073709551616 ∧ f < 18446744073709551616 := by
  have h1 := xp_s1 8 n (by rw [xp_P8]; exact hn)
  rw [xp_M1] at h1
  have ea : a = xp_bm xp_g1 8 n := by rw [ha]; exact h1.2
  have hal : a < 256 ^ 8 := by rw [ea]; exact xp_bm_lt (fun r h => (xp_g1_lt r h).1) 8 n
  have h2 := xp_s2 8 a hal
  rw [xp_M2, ← hb, ea, xp_bm_bm (fun r h => (xp_g1_lt r h).1)] at h2
  have h3 := (xp_s3 (h := fun r => xp_g2 (xp_g1 r)) (fun r h => xp_g21 r h) 8 n).1
  rw [← h2, xp_M3, ← hc] at h3
  rw [xp_bm_congr (h := xp_pc 8) (fun r h => xp_c r h) 8 n] at h3
  rw [xp_bm_s, xp_bm_s, xp_bm_s, xp_bm_s, xp_bm_s, xp_bm_s, xp_bm_s, xp_bm_s, xp_bm_z] at h3
  have hbl : b < 256 ^ 8 := by rw [h2]; exact xp_bm_lt (fun r h => by have := (xp_g21 r h).1; omega) 8 n
  have hb3 : b < 69 * 256 ^ 7 := by rw [h2]; exact xp_bm_69 (fun r h => (xp_g21 r h).1) 7 n
  rw [xp_P8] at hal hbl
  rw [xp_P7] at hb3
  have hb2 : b + b / 16 < 18446744073709551616 := xp_b16 hb3
  have q : ∀ r, xp_pc 8 (r % 256) ≤ 8 := fun r => xp_pc8 _ (Nat.mod_lt _ (by decide))
  obtain ⟨r1, r2, r3, r4, r5⟩ := xp_sum (q n) (q (n / 256)) (q (n / 256 / 256)) (q (n / 256 / 256 / 256)) (q (n / 256 / 256 / 256 / 256)) (q (n / 256 / 256 / 256 / 256 / 256)) (q (n / 256 / 256 / 256 / 256 / 256 / 256)) (q (n / 256 / 256 / 256 / 256 / 256 / 256 / 256)) _ _ _ _ h3 hd he hf
  exact ⟨r1.trans (xp_pc_bytes n).symm, h1.1, hal, hb2, hbl, r2, r3, r4, r5⟩
end XQ
