/-! The law's loop -/
section
variable {L : Nat} {x : Nat → Int32} {S h : mx_H} {n c i : Int} {d : Nat}
theorem Inv.sl (v : Inv L x S h n c) : S (-2) (-2) = 24 ∧ S (-2) (-1) = L := by
  rw [v.s.n (-2) (by decide)]; exact ⟨rfl, rfl⟩
theorem w_sw (s : S (-2) (-2) = 24 ∧ S (-2) (-1) = L) (L2 : (L : Int) ≤ 3072) (i0 : 0 ≤ i ∧ i + 6 ≤ L) {op : Int} (q : mx_and (h (-2) i) 63 = op) : mx_ex d 257 18 [some (2, -2), some (2, 0), some (2, 38), some (0, i)] [] S h n = mx_sw op [(0, 220), (1, 283), (2, 296), (3, 339), (4, 372), (5, 435), (6, 468), (7, 511), (8, 544), (9, 578), (10, 601), (11, 654), (12, 687), (13, 710), (14, 723), (15, 756), (16, 779), (17, 802), (18, 855), (19, 868), (20, 891), (21, 914), (22, 958), (23, 1001), (24, 1034), (25, 1067), (26, 1100), (27, 1123), (28, 1136), (29, 1159), (30, 1193), (31, 1267), (32, 1280), (33, 1333), (34, 1376), (35, 1419), (36, 1462), (37, 1505), (38, 1538), (39, 1581), (40, 1604), (41, 1627), (42, 1640)] d 257 1653 [some (2, -2), some (2, 0), some (2, 38), some (0, i)] [] S h n := by
  obtain ⟨s1, s2⟩ := s
  rw [rh_L_law_18]
  simp (disch := omega) only [mx_vt_h, mx_vt_m, mx_cmp_0, mx_cmp_1, mx_cmp_2, mx_cmp_3, mx_cmp_4, mx_u_s, mx_u_a, mx_u_k, mx_z_a, mx_z_s, mx_t_a, mx_t_2, mx_t_1, mx_t_0, mx_gd_T, mx_gd_t, mx_br_T, mx_br_F, mx_br_t, mx_br_f, mx_br_n, mx_cl_T, mx_cl_t, mx_re_T, mx_re_t, mx_rt_v, mx_rt_0, mx_cu_t, mx_w_id, mx_l_id, mx_b_0, mx_b_1, mx_b_r, mx_nl_0, mx_nl_1, mx_nl_2, mx_nl_n, mx_nl_l, Int.reduceLE, Int.reduceLT, Int.reduceEq, Int.reduceAdd, Int.reduceSub, Int.reduceMul, Int.reduceNeg, Int.reduceToNat, and_self, true_and, and_true, false_and, and_false, true_or, or_true, false_or, or_false, not_true_eq_false, not_false_eq_true, eq_self, rw_L_law, s1, s2, q]
theorem w_s0 (v : Inv L x S h n c) (hc : c ≤ 599) (L2 : (L : Int) ≤ 3072) (i0 : 0 ≤ i ∧ i + 6 ≤ L) (q : mx_and (h (-2) i) 63 = 0) : ∃ S2 h2 n2, mx_ex (d + 13) 257 18 [some (2, -2), some (2, 0), some (2, 38), some (0, i)] [] S h n = mx_ex (d + 13) 257 18 [some (2, -2), some (2, 0), some (2, 38), some (0, i + 6)] [] S2 h2 n2 ∧ Inv L x S2 h2 n2 (c + 1) := by
  obtain ⟨S2, h2, n2, e, w⟩ := w_0 (d := d) v hc L2 i0
  refine ⟨S2, h2, n2, ?_, w⟩
  rw [w_sw v.sl L2 i0 q, ← e]
  simp (disch := omega) only [mx_sw_n, mx_sw_h, mx_sw_m]
theorem w_s1 (v : Inv L x S h n c) (hc : c ≤ 599) (L2 : (L : Int) ≤ 3072) (i0 : 0 ≤ i ∧ i + 6 ≤ L) (q : mx_and (h (-2) i) 63 = 1) : ∃ S2 h2 n2, mx_ex (d + 13) 257 18 [some (2, -2), some (2, 0), some (2, 38), some (0, i)] [] S h n = mx_ex (d + 13) 257 18 [some (2, -2), some (2, 0), some (2, 38), some (0, i + 6)] [] S2 h2 n2 ∧ Inv L x S2 h2 n2 (c + 1) := by
  obtain ⟨S2, h2, n2, e, w⟩ := w_1 (d := d) v hc L2 i0
  refine ⟨S2, h2, n2, ?_, w⟩
  rw [w_sw v.sl L2 i0 q, ← e]
  simp (disch := omega) only [mx_sw_n, mx_sw_h, mx_sw_m]
theorem w_s2 (v : Inv L x S h n c) (hc : c ≤ 599) (L2 : (L : Int) ≤ 3072) (i0 : 0 ≤ i ∧ i + 6 ≤ L) (q : mx_and (h (-2) i) 63 = 2) : ∃ S2 h2 n2, mx_ex (d + 13) 257 18 [some (2, -2), some (2, 0), some (2, 38), some (0, i)] [] S h n = mx_ex (d + 13) 257 18 [some (2, -2), some (2, 0), some (2, 38), some (0, i + 6)] [] S2 h2 n2 ∧ Inv L x S2 h2 n2 (c + 1) := by
  obtain ⟨S2, h2, n2, e, w⟩ := w_2 (d := d) v hc L2 i0
  refine ⟨S2, h2, n2, ?_, w⟩
  rw [w_sw v.sl L2 i0 q, ← e]
  simp (disch := omega) only [mx_sw_n, mx_sw_h, mx_sw_m]
theorem w_s3 (v : Inv L x S h n c) (hc : c ≤ 599) (L2 : (L : Int) ≤ 3072) (i0 : 0 ≤ i ∧ i + 6 ≤ L) (q : mx_and (h (-2) i) 63 = 3) : ∃ S2 h2 n2, mx_ex (d + 13) 257 18 [some (2, -2), some (2, 0), some (2, 38), some (0, i)] [] S h n = mx_ex (d + 13) 257 18 [some (2, -2), some (2, 0), some (2, 38), some (0, i + 6)] [] S2 h2 n2 ∧ Inv L x S2 h2 n2 (c + 1) := by
  obtain ⟨S2, h2, n2, e, w⟩ := w_3 (d := d) v hc L2 i0
  refine ⟨S2, h2, n2, ?_, w⟩
  rw [w_sw v.sl L2 i0 q, ← e]
  simp (disch := omega) only [mx_sw_n, mx_sw_h, mx_sw_m]
theorem w_s4 (v : Inv L x S h n c) (hc : c ≤ 599) (L2 : (L : Int) ≤ 3072) (i0 : 0 ≤ i ∧ i + 6 ≤ L) (q : mx_and (h (-2) i) 63 = 4) : ∃ S2 h2 n2, mx_ex (d + 13) 257 18 [some (2, -2), some (2, 0), some (2, 38), some (0, i)] [] S h n = mx_ex (d + 13) 257 18 [some (2, -2), some (2, 0), some (2, 38), some (0, i + 6)] [] S2 h2 n2 ∧ Inv L x S2 h2 n2 (c + 1) := by
  obtain ⟨S2, h2, n2, e, w⟩ := w_4 (d := d) v hc L2 i0
  refine ⟨S2, h2, n2, ?_, w⟩
  rw [w_sw v.sl L2 i0 q, ← e]
  simp (disch := omega) only [mx_sw_n, mx_sw_h, mx_sw_m]
theorem w_s5 (v : Inv L x S h n c) (hc : c ≤ 599) (L2 : (L : Int) ≤ 3072) (i0 : 0 ≤ i ∧ i + 6 ≤ L) (q : mx_and (h (-2) i) 63 = 5) : ∃ S2 h2 n2, mx_ex (d + 13) 257 18 [some (2, -2), some (2, 0), some (2, 38), some (0, i)] [] S h n = mx_ex (d + 13) 257 18 [some (2, -2), some (2, 0), some (2, 38), some (0, i + 6)] [] S2 h2 n2 ∧ Inv L x S2 h2 n2 (c + 1) := by
  obtain ⟨S2, h2, n2, e, w⟩ := w_5 (d := d) v hc L2 i0
  refine ⟨S2, h2, n2, ?_, w⟩
  rw [w_sw v.sl L2 i0 q, ← e]
  simp (disch := omega) only [mx_sw_n, mx_sw_h, mx_sw_m]
theorem w_s6 (v : Inv L x S h n c) (hc : c ≤ 599) (L2 : (L : Int) ≤ 3072) (i0 : 0 ≤ i ∧ i + 6 ≤ L) (q : mx_and (h (-2) i) 63 = 6) : ∃ S2 h2 n2, mx_ex (d + 13) 257 18 [some (2, -2), some (2, 0), some (2, 38), some (0, i)] [] S h n = mx_ex (d + 13) 257 18 [some (2, -2), some (2, 0), some (2, 38), some (0, i + 6)] [] S2 h2 n2 ∧ Inv L x S2 h2 n2 (c + 1) := by
  obtain ⟨S2, h2, n2, e, w⟩ := w_6 (d := d) v hc L2 i0
  refine ⟨S2, h2, n2, ?_, w⟩
  rw [w_sw v.sl L2 i0 q, ← e]
  simp (disch := omega) only [mx_sw_n, mx_sw_h, mx_sw_m]
theorem w_s7 (v : Inv L x S h n c) (hc : c ≤ 599) (L2 : (L : Int) ≤ 3072) (i0 : 0 ≤ i ∧ i + 6 ≤ L) (q : mx_and (h (-2) i) 63 = 7) : ∃ S2 h2 n2, mx_ex (d + 13) 257 18 [some (2, -2), some (2, 0), some (2, 38), some (0, i)] [] S h n = mx_ex (d + 13) 257 18 [some (2, -2), some (2, 0), some (2, 38), some (0, i + 6)] [] S2 h2 n2 ∧ Inv L x S2 h2 n2 (c + 1) := by
  obtain ⟨S2, h2, n2, e, w⟩ := w_7 (d := d) v hc L2 i0
  refine ⟨S2, h2, n2, ?_, w⟩
  rw [w_sw v.sl L2 i0 q, ← e]
  simp (disch := omega) only [mx_sw_n, mx_sw_h, mx_sw_m]
theorem w_s8 (v : Inv L x S h n c) (hc : c ≤ 599) (L2 : (L : Int) ≤ 3072) (i0 : 0 ≤ i ∧ i + 6 ≤ L) (q : mx_and (h (-2) i) 63 = 8) : ∃ S2 h2 n2, mx_ex (d + 13) 257 18 [some (2, -2), some (2, 0), some (2, 38), some (0, i)] [] S h n = mx_ex (d + 13) 257 18 [some (2, -2), some (2, 0), some (2, 38), some (0, i + 6)] [] S2 h2 n2 ∧ Inv L x S2 h2 n2 (c + 1) := by
  obtain ⟨S2, h2, n2, e, w⟩ := w_8 (d := d) v hc L2 i0
  refine ⟨S2, h2, n2, ?_, w⟩
  rw [w_sw v.sl L2 i0 q, ← e]
  simp (disch := omega) only [mx_sw_n, mx_sw_h, mx_sw_m]
theorem w_s9 (v : Inv L x S h n c) (hc : c ≤ 599) (L2 : (L : Int) ≤ 3072) (i0 : 0 ≤ i ∧ i + 6 ≤ L) (q : mx_and (h (-2) i) 63 = 9) : ∃ S2 h2 n2, mx_ex (d + 13) 257 18 [some (2, -2), some (2, 0), some (2, 38), some (0, i)] [] S h n = mx_ex (d + 13) 257 18 [some (2, -2), some (2, 0), some (2, 38), some (0, i + 6)] [] S2 h2 n2 ∧ Inv L x S2 h2 n2 (c + 1) := by
  obtain ⟨S2, h2, n2, e, w⟩ := w_9 (d := d) v hc L2 i0
  refine ⟨S2, h2, n2, ?_, w⟩
  rw [w_sw v.sl L2 i0 q, ← e]
  simp (disch := omega) only [mx_sw_n, mx_sw_h, mx_sw_m]
theorem w_s10 (v : Inv L x S h n c) (hc : c ≤ 599) (L2 : (L : Int) ≤ 3072) (i0 : 0 ≤ i ∧ i + 6 ≤ L) (q : mx_and (h (-2) i) 63 = 10) : ∃ S2 h2 n2, mx_ex (d + 13) 257 18 [some (2, -2), some (2, 0), some (2, 38), some (0, i)] [] S h n = mx_ex (d + 13) 257 18 [some (2, -2), some (2, 0), some (2, 38), some (0, i + 6)] [] S2 h2 n2 ∧ Inv L x S2 h2 n2 (c + 1) := by
  obtain ⟨S2, h2, n2, e, w⟩ := w_10 (d := d) v hc L2 i0
  refine ⟨S2, h2, n2, ?_, w⟩
  rw [w_sw v.sl L2 i0 q, ← e]
  simp (disch := omega) only [mx_sw_n, mx_sw_h, mx_sw_m]
theorem w_s11 (v : Inv L x S h n c) (hc : c ≤ 599) (L2 : (L : Int) ≤ 3072) (i0 : 0 ≤ i ∧ i + 6 ≤ L) (q : mx_and (h (-2) i) 63 = 11) : ∃ S2 h2 n2, mx_ex (d + 13) 257 18 [some (2, -2), some (2, 0), some (2, 38), some (0, i)] [] S h n = mx_ex (d + 13) 257 18 [some (2, -2), some (2, 0), some (2, 38), some (0, i + 6)] [] S2 h2 n2 ∧ Inv L x S2 h2 n2 (c + 1) := by
  obtain ⟨S2, h2, n2, e, w⟩ := w_11 (d := d) v hc L2 i0
  refine ⟨S2, h2, n2, ?_, w⟩
  rw [w_sw v.sl L2 i0 q, ← e]
  simp (disch := omega) only [mx_sw_n, mx_sw_h, mx_sw_m]
theorem w_s12 (v : Inv L x S h n c) (hc : c ≤ 599) (L2 : (L : Int) ≤ 3072) (i0 : 0 ≤ i ∧ i + 6 ≤ L) (q : mx_and (h (-2) i) 63 = 12) : ∃ S2 h2 n2, mx_ex (d + 13) 257 18 [some (2, -2), some (2, 0), some (2, 38), some (0, i)] [] S h n = mx_ex (d + 13) 257 18 [some (2, -2), some (2, 0), some (2, 38), some (0, i + 6)] [] S2 h2 n2 ∧ Inv L x S2 h2 n2 (c + 1) := by
  obtain ⟨S2, h2, n2, e, w⟩ := w_12 (d := d) v hc L2 i0
  refine ⟨S2, h2, n2, ?_, w⟩
  rw [w_sw v.sl L2 i0 q, ← e]
  simp (disch := omega) only [mx_sw_n, mx_sw_h, mx_sw_m]
theorem w_s13 (v : Inv L x S h n c) (hc : c ≤ 599) (L2 : (L : Int) ≤ 3072) (i0 : 0 ≤ i ∧ i + 6 ≤ L) (q : mx_and (h (-2) i) 63 = 13) : ∃ S2 h2 n2, mx_ex (d + 13) 257 18 [some (2, -2), some (2, 0), some (2, 38), some (0, i)] [] S h n = mx_ex (d + 13) 257 18 [some (2, -2), some (2, 0), some (2, 38), some (0, i + 6)] [] S2 h2 n2 ∧ Inv L x S2 h2 n2 (c + 1) := by
  obtain ⟨S2, h2, n2, e, w⟩ := w_13 (d := d) v hc L2 i0
  refine ⟨S2, h2, n2, ?_, w⟩
  rw [w_sw v.sl L2 i0 q, ← e]
  simp (disch := omega) only [mx_sw_n, mx_sw_h, mx_sw_m]
theorem w_s14 (v : Inv L x S h n c) (hc : c ≤ 599) (L2 : (L : Int) ≤ 3072) (i0 : 0 ≤ i ∧ i + 6 ≤ L) (q : mx_and (h (-2) i) 63 = 14) : ∃ S2 h2 n2, mx_ex (d + 13) 257 18 [some (2, -2), some (2, 0), some (2, 38), some (0, i)] [] S h n = mx_ex (d + 13) 257 18 [some (2, -2), some (2, 0), some (2, 38), some (0, i + 6)] [] S2 h2 n2 ∧ Inv L x S2 h2 n2 (c + 1) := by
  obtain ⟨S2, h2, n2, e, w⟩ := w_14 (d := d) v hc L2 i0
  refine ⟨S2, h2, n2, ?_, w⟩
  rw [w_sw v.sl L2 i0 q, ← e]
  simp (disch := omega) only [mx_sw_n, mx_sw_h, mx_sw_m]
theorem w_s15 (v : Inv L x S h n c) (hc : c ≤ 599) (L2 : (L : Int) ≤ 3072) (i0 : 0 ≤ i ∧ i + 6 ≤ L) (q : mx_and (h (-2) i) 63 = 15) : ∃ S2 h2 n2, mx_ex (d + 13) 257 18 [some (2, -2), some (2, 0), some (2, 38), some (0, i)] [] S h n = mx_ex (d + 13) 257 18 [some (2, -2), some (2, 0), some (2, 38), some (0, i + 6)] [] S2 h2 n2 ∧ Inv L x S2 h2 n2 (c + 1) := by
  obtain ⟨S2, h2, n2, e, w⟩ := w_15 (d := d) v hc L2 i0
  refine ⟨S2, h2, n2, ?_, w⟩
  rw [w_sw v.sl L2 i0 q, ← e]
  simp (disch := omega) only [mx_sw_n, mx_sw_h, mx_sw_m]
theorem w_s16 (v : Inv L x S h n c) (hc : c ≤ 599) (L2 : (L : Int) ≤ 3072) (i0 : 0 ≤ i ∧ i + 6 ≤ L) (q : mx_and (h (-2) i) 63 = 16) : ∃ S2 h2 n2, mx_ex (d + 13) 257 18 [some (2, -2), some (2, 0), some (2, 38), some (0, i)] [] S h n = mx_ex (d + 13) 257 18 [some (2, -2), some (2, 0), some (2, 38), some (0, i + 6)] [] S2 h2 n2 ∧ Inv L x S2 h2 n2 (c + 1) := by
  obtain ⟨S2, h2, n2, e, w⟩ := w_16 (d := d) v hc L2 i0
  refine ⟨S2, h2, n2, ?_, w⟩
  rw [w_sw v.sl L2 i0 q, ← e]
  simp (disch := omega) only [mx_sw_n, mx_sw_h, mx_sw_m]
theorem w_s17 (v : Inv L x S h n c) (hc : c ≤ 599) (L2 : (L : Int) ≤ 3072) (i0 : 0 ≤ i ∧ i + 6 ≤ L) (q : mx_and (h (-2) i) 63 = 17) : ∃ S2 h2 n2, mx_ex (d + 13) 257 18 [some (2, -2), some (2, 0), some (2, 38), some (0, i)] [] S h n = mx_ex (d + 13) 257 18 [some (2, -2), some (2, 0), some (2, 38), some (0, i + 6)] [] S2 h2 n2 ∧ Inv L x S2 h2 n2 (c + 1) := by
  obtain ⟨S2, h2, n2, e, w⟩ := w_17 (d := d) v hc L2 i0
  refine ⟨S2, h2, n2, ?_, w⟩
  rw [w_sw v.sl L2 i0 q, ← e]
  simp (disch := omega) only [mx_sw_n, mx_sw_h, mx_sw_m]
theorem w_s18 (v : Inv L x S h n c) (hc : c ≤ 599) (L2 : (L : Int) ≤ 3072) (i0 : 0 ≤ i ∧ i + 6 ≤ L) (q : mx_and (h (-2) i) 63 = 18) : ∃ S2 h2 n2, mx_ex (d + 13) 257 18 [some (2, -2), some (2, 0), some (2, 38), some (0, i)] [] S h n = mx_ex (d + 13) 257 18 [some (2, -2), some (2, 0), some (2, 38), some (0, i + 6)] [] S2 h2 n2 ∧ Inv L x S2 h2 n2 (c + 1) := by
  obtain ⟨S2, h2, n2, e, w⟩ := w_18 (d := d) v hc L2 i0
  refine ⟨S2, h2, n2, ?_, w⟩
  rw [w_sw v.sl L2 i0 q, ← e]
  simp (disch := omega) only [mx_sw_n, mx_sw_h, mx_sw_m]
theorem w_s19 (v : Inv L x S h n c) (hc : c ≤ 599) (L2 : (L : Int) ≤ 3072) (i0 : 0 ≤ i ∧ i + 6 ≤ L) (q : mx_and (h (-2) i) 63 = 19) : ∃ S2 h2 n2, mx_ex (d + 13) 257 18 [some (2, -2), some (2, 0), some (2, 38), some (0, i)] [] S h n = mx_ex (d + 13) 257 18 [some (2, -2), some (2, 0), some (2, 38), some (0, i + 6)] [] S2 h2 n2 ∧ Inv L x S2 h2 n2 (c + 1) := by
  obtain ⟨S2, h2, n2, e, w⟩ := w_19 (d := d) v hc L2 i0
  refine ⟨S2, h2, n2, ?_, w⟩
  rw [w_sw v.sl L2 i0 q, ← e]
  simp (disch := omega) only [mx_sw_n, mx_sw_h, mx_sw_m]
theorem w_s20 (v : Inv L x S h n c) (hc : c ≤ 599) (L2 : (L : Int) ≤ 3072) (i0 : 0 ≤ i ∧ i + 6 ≤ L) (q : mx_and (h (-2) i) 63 = 20) : ∃ S2 h2 n2, mx_ex (d + 13) 257 18 [some (2, -2), some (2, 0), some (2, 38), some (0, i)] [] S h n = mx_ex (d + 13) 257 18 [some (2, -2), some (2, 0), some (2, 38), some (0, i + 6)] [] S2 h2 n2 ∧ Inv L x S2 h2 n2 (c + 1) := by
  obtain ⟨S2, h2, n2, e, w⟩ := w_20 (d := d) v hc L2 i0
  refine ⟨S2, h2, n2, ?_, w⟩
  rw [w_sw v.sl L2 i0 q, ← e]
  simp (disch := omega) only [mx_sw_n, mx_sw_h, mx_sw_m]
theorem w_s21 (v : Inv L x S h n c) (hc : c ≤ 599) (L2 : (L : Int) ≤ 3072) (i0 : 0 ≤ i ∧ i + 6 ≤ L) (q : mx_and (h (-2) i) 63 = 21) : ∃ S2 h2 n2, mx_ex (d + 13) 257 18 [some (2, -2), some (2, 0), some (2, 38), some (0, i)] [] S h n = mx_ex (d + 13) 257 18 [some (2, -2), some (2, 0), some (2, 38), some (0, i + 6)] [] S2 h2 n2 ∧ Inv L x S2 h2 n2 (c + 1) := by
  obtain ⟨S2, h2, n2, e, w⟩ := w_21 (d := d) v hc L2 i0
  refine ⟨S2, h2, n2, ?_, w⟩
  rw [w_sw v.sl L2 i0 q, ← e]
  simp (disch := omega) only [mx_sw_n, mx_sw_h, mx_sw_m]
theorem w_s22 (v : Inv L x S h n c) (hc : c ≤ 599) (L2 : (L : Int) ≤ 3072) (i0 : 0 ≤ i ∧ i + 6 ≤ L) (q : mx_and (h (-2) i) 63 = 22) : ∃ S2 h2 n2, mx_ex (d + 13) 257 18 [some (2, -2), some (2, 0), some (2, 38), some (0, i)] [] S h n = mx_ex (d + 13) 257 18 [some (2, -2), some (2, 0), some (2, 38), some (0, i + 6)] [] S2 h2 n2 ∧ Inv L x S2 h2 n2 (c + 1) := by
  obtain ⟨S2, h2, n2, e, w⟩ := w_22 (d := d) v hc L2 i0
  refine ⟨S2, h2, n2, ?_, w⟩
  rw [w_sw v.sl L2 i0 q, ← e]
  simp (disch := omega) only [mx_sw_n, mx_sw_h, mx_sw_m]
theorem w_s23 (v : Inv L x S h n c) (hc : c ≤ 599) (L2 : (L : Int) ≤ 3072) (i0 : 0 ≤ i ∧ i + 6 ≤ L) (q : mx_and (h (-2) i) 63 = 23) : ∃ S2 h2 n2, mx_ex (d + 13) 257 18 [some (2, -2), some (2, 0), some (2, 38), some (0, i)] [] S h n = mx_ex (d + 13) 257 18 [some (2, -2), some (2, 0), some (2, 38), some (0, i + 6)] [] S2 h2 n2 ∧ Inv L x S2 h2 n2 (c + 1) := by
  obtain ⟨S2, h2, n2, e, w⟩ := w_23 (d := d) v hc L2 i0
  refine ⟨S2, h2, n2, ?_, w⟩
  rw [w_sw v.sl L2 i0 q, ← e]
  simp (disch := omega) only [mx_sw_n, mx_sw_h, mx_sw_m]
theorem w_s24 (v : Inv L x S h n c) (hc : c ≤ 599) (L2 : (L : Int) ≤ 3072) (i0 : 0 ≤ i ∧ i + 6 ≤ L) (q : mx_and (h (-2) i) 63 = 24) : ∃ S2 h2 n2, mx_ex (d + 13) 257 18 [some (2, -2), some (2, 0), some (2, 38), some (0, i)] [] S h n = mx_ex (d + 13) 257 18 [some (2, -2), some (2, 0), some (2, 38), some (0, i + 6)] [] S2 h2 n2 ∧ Inv L x S2 h2 n2 (c + 1) := by
  obtain ⟨S2, h2, n2, e, w⟩ := w_24 (d := d) v hc L2 i0
  refine ⟨S2, h2, n2, ?_, w⟩
  rw [w_sw v.sl L2 i0 q, ← e]
  simp (disch := omega) only [mx_sw_n, mx_sw_h, mx_sw_m]
theorem w_s25 (v : Inv L x S h n c) (hc : c ≤ 599) (L2 : (L : Int) ≤ 3072) (i0 : 0 ≤ i ∧ i + 6 ≤ L) (q : mx_and (h (-2) i) 63 = 25) : ∃ S2 h2 n2, mx_ex (d + 13) 257 18 [some (2, -2), some (2, 0), some (2, 38), some (0, i)] [] S h n = mx_ex (d + 13) 257 18 [some (2, -2), some (2, 0), some (2, 38), some (0, i + 6)] [] S2 h2 n2 ∧ Inv L x S2 h2 n2 (c + 1) := by
  obtain ⟨S2, h2, n2, e, w⟩ := w_25 (d := d) v hc L2 i0
  refine ⟨S2, h2, n2, ?_, w⟩
  rw [w_sw v.sl L2 i0 q, ← e]
  simp (disch := omega) only [mx_sw_n, mx_sw_h, mx_sw_m]
theorem w_s26 (v : Inv L x S h n c) (hc : c ≤ 599) (L2 : (L : Int) ≤ 3072) (i0 : 0 ≤ i ∧ i + 6 ≤ L) (q : mx_and (h (-2) i) 63 = 26) : ∃ S2 h2 n2, mx_ex (d + 13) 257 18 [some (2, -2), some (2, 0), some (2, 38), some (0, i)] [] S h n = mx_ex (d + 13) 257 18 [some (2, -2), some (2, 0), some (2, 38), some (0, i + 6)] [] S2 h2 n2 ∧ Inv L x S2 h2 n2 (c + 1) := by
  obtain ⟨S2, h2, n2, e, w⟩ := w_26 (d := d) v hc L2 i0
  refine ⟨S2, h2, n2, ?_, w⟩
  rw [w_sw v.sl L2 i0 q, ← e]
  simp (disch := omega) only [mx_sw_n, mx_sw_h, mx_sw_m]
theorem w_s27 (v : Inv L x S h n c) (hc : c ≤ 599) (L2 : (L : Int) ≤ 3072) (i0 : 0 ≤ i ∧ i + 6 ≤ L) (q : mx_and (h (-2) i) 63 = 27) : ∃ S2 h2 n2, mx_ex (d + 13) 257 18 [some (2, -2), some (2, 0), some (2, 38), some (0, i)] [] S h n = mx_ex (d + 13) 257 18 [some (2, -2), some (2, 0), some (2, 38), some (0, i + 6)] [] S2 h2 n2 ∧ Inv L x S2 h2 n2 (c + 1) := by
  obtain ⟨S2, h2, n2, e, w⟩ := w_27 (d := d) v hc L2 i0
  refine ⟨S2, h2, n2, ?_, w⟩
  rw [w_sw v.sl L2 i0 q, ← e]
  simp (disch := omega) only [mx_sw_n, mx_sw_h, mx_sw_m]
theorem w_s28 (v : Inv L x S h n c) (hc : c ≤ 599) (L2 : (L : Int) ≤ 3072) (i0 : 0 ≤ i ∧ i + 6 ≤ L) (q : mx_and (h (-2) i) 63 = 28) : ∃ S2 h2 n2, mx_ex (d + 13) 257 18 [some (2, -2), some (2, 0), some (2, 38), some (0, i)] [] S h n = mx_ex (d + 13) 257 18 [some (2, -2), some (2, 0), some (2, 38), some (0, i + 6)] [] S2 h2 n2 ∧ Inv L x S2 h2 n2 (c + 1) := by
  obtain ⟨S2, h2, n2, e, w⟩ := w_28 (d := d) v hc L2 i0
  refine ⟨S2, h2, n2, ?_, w⟩
  rw [w_sw v.sl L2 i0 q, ← e]
  simp (disch := omega) only [mx_sw_n, mx_sw_h, mx_sw_m]
theorem w_s29 (v : Inv L x S h n c) (hc : c ≤ 599) (L2 : (L : Int) ≤ 3072) (i0 : 0 ≤ i ∧ i + 6 ≤ L) (q : mx_and (h (-2) i) 63 = 29) : ∃ S2 h2 n2, mx_ex (d + 13) 257 18 [some (2, -2), some (2, 0), some (2, 38), some (0, i)] [] S h n = mx_ex (d + 13) 257 18 [some (2, -2), some (2, 0), some (2, 38), some (0, i + 6)] [] S2 h2 n2 ∧ Inv L x S2 h2 n2 (c + 1) := by
  obtain ⟨S2, h2, n2, e, w⟩ := w_29 (d := d) v hc L2 i0
  refine ⟨S2, h2, n2, ?_, w⟩
  rw [w_sw v.sl L2 i0 q, ← e]
  simp (disch := omega) only [mx_sw_n, mx_sw_h, mx_sw_m]
theorem w_s30 (v : Inv L x S h n c) (hc : c ≤ 599) (L2 : (L : Int) ≤ 3072) (i0 : 0 ≤ i ∧ i + 6 ≤ L) (q : mx_and (h (-2) i) 63 = 30) : ∃ S2 h2 n2, mx_ex (d + 13) 257 18 [some (2, -2), some (2, 0), some (2, 38), some (0, i)] [] S h n = mx_ex (d + 13) 257 18 [some (2, -2), some (2, 0), some (2, 38), some (0, i + 6)] [] S2 h2 n2 ∧ Inv L x S2 h2 n2 (c + 1) := by
  obtain ⟨S2, h2, n2, e, w⟩ := w_30 (d := d) v hc L2 i0
  refine ⟨S2, h2, n2, ?_, w⟩
  rw [w_sw v.sl L2 i0 q, ← e]
  simp (disch := omega) only [mx_sw_n, mx_sw_h, mx_sw_m]
theorem w_s31 (v : Inv L x S h n c) (hc : c ≤ 599) (L2 : (L : Int) ≤ 3072) (i0 : 0 ≤ i ∧ i + 6 ≤ L) (q : mx_and (h (-2) i) 63 = 31) : ∃ S2 h2 n2, mx_ex (d + 13) 257 18 [some (2, -2), some (2, 0), some (2, 38), some (0, i)] [] S h n = mx_ex (d + 13) 257 18 [some (2, -2), some (2, 0), some (2, 38), some (0, i + 6)] [] S2 h2 n2 ∧ Inv L x S2 h2 n2 (c + 1) := by
  obtain ⟨S2, h2, n2, e, w⟩ := w_31 (d := d) v hc L2 i0
  refine ⟨S2, h2, n2, ?_, w⟩
  rw [w_sw v.sl L2 i0 q, ← e]
  simp (disch := omega) only [mx_sw_n, mx_sw_h, mx_sw_m]
theorem w_s32 (v : Inv L x S h n c) (hc : c ≤ 599) (L2 : (L : Int) ≤ 3072) (i0 : 0 ≤ i ∧ i + 6 ≤ L) (q : mx_and (h (-2) i) 63 = 32) : ∃ S2 h2 n2, mx_ex (d + 13) 257 18 [some (2, -2), some (2, 0), some (2, 38), some (0, i)] [] S h n = mx_ex (d + 13) 257 18 [some (2, -2), some (2, 0), some (2, 38), some (0, i + 6)] [] S2 h2 n2 ∧ Inv L x S2 h2 n2 (c + 1) := by
  obtain ⟨S2, h2, n2, e, w⟩ := w_32 (d := d) v hc L2 i0
  refine ⟨S2, h2, n2, ?_, w⟩
  rw [w_sw v.sl L2 i0 q, ← e]
  simp (disch := omega) only [mx_sw_n, mx_sw_h, mx_sw_m]
theorem w_s33 (v : Inv L x S h n c) (hc : c ≤ 599) (L2 : (L : Int) ≤ 3072) (i0 : 0 ≤ i ∧ i + 6 ≤ L) (q : mx_and (h (-2) i) 63 = 33) : ∃ S2 h2 n2, mx_ex (d + 13) 257 18 [some (2, -2), some (2, 0), some (2, 38), some (0, i)] [] S h n = mx_ex (d + 13) 257 18 [some (2, -2), some (2, 0), some (2, 38), some (0, i + 6)] [] S2 h2 n2 ∧ Inv L x S2 h2 n2 (c + 1) := by
  obtain ⟨S2, h2, n2, e, w⟩ := w_33 (d := d) v hc L2 i0
  refine ⟨S2, h2, n2, ?_, w⟩
  rw [w_sw v.sl L2 i0 q, ← e]
  simp (disch := omega) only [mx_sw_n, mx_sw_h, mx_sw_m]
theorem w_s34 (v : Inv L x S h n c) (hc : c ≤ 599) (L2 : (L : Int) ≤ 3072) (i0 : 0 ≤ i ∧ i + 6 ≤ L) (q : mx_and (h (-2) i) 63 = 34) : ∃ S2 h2 n2, mx_ex (d + 13) 257 18 [some (2, -2), some (2, 0), some (2, 38), some (0, i)] [] S h n = mx_ex (d + 13) 257 18 [some (2, -2), some (2, 0), some (2, 38), some (0, i + 6)] [] S2 h2 n2 ∧ Inv L x S2 h2 n2 (c + 1) := by
  obtain ⟨S2, h2, n2, e, w⟩ := w_34 (d := d) v hc L2 i0
  refine ⟨S2, h2, n2, ?_, w⟩
  rw [w_sw v.sl L2 i0 q, ← e]
  simp (disch := omega) only [mx_sw_n, mx_sw_h, mx_sw_m]
theorem w_s35 (v : Inv L x S h n c) (hc : c ≤ 599) (L2 : (L : Int) ≤ 3072) (i0 : 0 ≤ i ∧ i + 6 ≤ L) (q : mx_and (h (-2) i) 63 = 35) : ∃ S2 h2 n2, mx_ex (d + 13) 257 18 [some (2, -2), some (2, 0), some (2, 38), some (0, i)] [] S h n = mx_ex (d + 13) 257 18 [some (2, -2), some (2, 0), some (2, 38), some (0, i + 6)] [] S2 h2 n2 ∧ Inv L x S2 h2 n2 (c + 1) := by
  obtain ⟨S2, h2, n2, e, w⟩ := w_35 (d := d) v hc L2 i0
  refine ⟨S2, h2, n2, ?_, w⟩
  rw [w_sw v.sl L2 i0 q, ← e]
  simp (disch := omega) only [mx_sw_n, mx_sw_h, mx_sw_m]
theorem w_s36 (v : Inv L x S h n c) (hc : c ≤ 599) (L2 : (L : Int) ≤ 3072) (i0 : 0 ≤ i ∧ i + 6 ≤ L) (q : mx_and (h (-2) i) 63 = 36) : ∃ S2 h2 n2, mx_ex (d + 13) 257 18 [some (2, -2), some (2, 0), some (2, 38), some (0, i)] [] S h n = mx_ex (d + 13) 257 18 [some (2, -2), some (2, 0), some (2, 38), some (0, i + 6)] [] S2 h2 n2 ∧ Inv L x S2 h2 n2 (c + 1) := by
  obtain ⟨S2, h2, n2, e, w⟩ := w_36 (d := d) v hc L2 i0
  refine ⟨S2, h2, n2, ?_, w⟩
  rw [w_sw v.sl L2 i0 q, ← e]
  simp (disch := omega) only [mx_sw_n, mx_sw_h, mx_sw_m]
theorem w_s37 (v : Inv L x S h n c) (hc : c ≤ 599) (L2 : (L : Int) ≤ 3072) (i0 : 0 ≤ i ∧ i + 6 ≤ L) (q : mx_and (h (-2) i) 63 = 37) : ∃ S2 h2 n2, mx_ex (d + 13) 257 18 [some (2, -2), some (2, 0), some (2, 38), some (0, i)] [] S h n = mx_ex (d + 13) 257 18 [some (2, -2), some (2, 0), some (2, 38), some (0, i + 6)] [] S2 h2 n2 ∧ Inv L x S2 h2 n2 (c + 1) := by
  obtain ⟨S2, h2, n2, e, w⟩ := w_37 (d := d) v hc L2 i0
  refine ⟨S2, h2, n2, ?_, w⟩
  rw [w_sw v.sl L2 i0 q, ← e]
  simp (disch := omega) only [mx_sw_n, mx_sw_h, mx_sw_m]
theorem w_s38 (v : Inv L x S h n c) (hc : c ≤ 599) (L2 : (L : Int) ≤ 3072) (i0 : 0 ≤ i ∧ i + 6 ≤ L) (q : mx_and (h (-2) i) 63 = 38) : ∃ S2 h2 n2, mx_ex (d + 13) 257 18 [some (2, -2), some (2, 0), some (2, 38), some (0, i)] [] S h n = mx_ex (d + 13) 257 18 [some (2, -2), some (2, 0), some (2, 38), some (0, i + 6)] [] S2 h2 n2 ∧ Inv L x S2 h2 n2 (c + 1) := by
  obtain ⟨S2, h2, n2, e, w⟩ := w_38 (d := d) v hc L2 i0
  refine ⟨S2, h2, n2, ?_, w⟩
  rw [w_sw v.sl L2 i0 q, ← e]
  simp (disch := omega) only [mx_sw_n, mx_sw_h, mx_sw_m]
theorem w_s39 (v : Inv L x S h n c) (hc : c ≤ 599) (L2 : (L : Int) ≤ 3072) (i0 : 0 ≤ i ∧ i + 6 ≤ L) (q : mx_and (h (-2) i) 63 = 39) : ∃ S2 h2 n2, mx_ex (d + 13) 257 18 [some (2, -2), some (2, 0), some (2, 38), some (0, i)] [] S h n = mx_ex (d + 13) 257 18 [some (2, -2), some (2, 0), some (2, 38), some (0, i + 6)] [] S2 h2 n2 ∧ Inv L x S2 h2 n2 (c + 1) := by
  obtain ⟨S2, h2, n2, e, w⟩ := w_39 (d := d) v hc L2 i0
  refine ⟨S2, h2, n2, ?_, w⟩
  rw [w_sw v.sl L2 i0 q, ← e]
  simp (disch := omega) only [mx_sw_n, mx_sw_h, mx_sw_m]
theorem w_s40 (v : Inv L x S h n c) (hc : c ≤ 599) (L2 : (L : Int) ≤ 3072) (i0 : 0 ≤ i ∧ i + 6 ≤ L) (q : mx_and (h (-2) i) 63 = 40) : ∃ S2 h2 n2, mx_ex (d + 13) 257 18 [some (2, -2), some (2, 0), some (2, 38), some (0, i)] [] S h n = mx_ex (d + 13) 257 18 [some (2, -2), some (2, 0), some (2, 38), some (0, i + 6)] [] S2 h2 n2 ∧ Inv L x S2 h2 n2 (c + 1) := by
  obtain ⟨S2, h2, n2, e, w⟩ := w_40 (d := d) v hc L2 i0
  refine ⟨S2, h2, n2, ?_, w⟩
  rw [w_sw v.sl L2 i0 q, ← e]
  simp (disch := omega) only [mx_sw_n, mx_sw_h, mx_sw_m]
theorem w_s41 (v : Inv L x S h n c) (hc : c ≤ 599) (L2 : (L : Int) ≤ 3072) (i0 : 0 ≤ i ∧ i + 6 ≤ L) (q : mx_and (h (-2) i) 63 = 41) : ∃ S2 h2 n2, mx_ex (d + 13) 257 18 [some (2, -2), some (2, 0), some (2, 38), some (0, i)] [] S h n = mx_ex (d + 13) 257 18 [some (2, -2), some (2, 0), some (2, 38), some (0, i + 6)] [] S2 h2 n2 ∧ Inv L x S2 h2 n2 (c + 1) := by
  obtain ⟨S2, h2, n2, e, w⟩ := w_41 (d := d) v hc L2 i0
  refine ⟨S2, h2, n2, ?_, w⟩
  rw [w_sw v.sl L2 i0 q, ← e]
  simp (disch := omega) only [mx_sw_n, mx_sw_h, mx_sw_m]
theorem w_s42 (v : Inv L x S h n c) (hc : c ≤ 599) (L2 : (L : Int) ≤ 3072) (i0 : 0 ≤ i ∧ i + 6 ≤ L) (q : mx_and (h (-2) i) 63 = 42) : ∃ S2 h2 n2, mx_ex (d + 13) 257 18 [some (2, -2), some (2, 0), some (2, 38), some (0, i)] [] S h n = mx_ex (d + 13) 257 18 [some (2, -2), some (2, 0), some (2, 38), some (0, i + 6)] [] S2 h2 n2 ∧ Inv L x S2 h2 n2 (c + 1) := by
  obtain ⟨S2, h2, n2, e, w⟩ := w_42 (d := d) v hc L2 i0
  refine ⟨S2, h2, n2, ?_, w⟩
  rw [w_sw v.sl L2 i0 q, ← e]
  simp (disch := omega) only [mx_sw_n, mx_sw_h, mx_sw_m]
theorem w_sx (s : S (-2) (-2) = 24 ∧ S (-2) (-1) = L) (L2 : (L : Int) ≤ 3072) (i0 : 0 ≤ i ∧ i + 6 ≤ L) (q : ¬ (0 ≤ mx_and (h (-2) i) 63 ∧ mx_and (h (-2) i) 63 ≤ 42)) : mx_ex (d + 13) 257 18 [some (2, -2), some (2, 0), some (2, 38), some (0, i)] [] S h n = mx_ex (d + 13) 257 18 [some (2, -2), some (2, 0), some (2, 38), some (0, i + 6)] [] S h n := by
  obtain ⟨op, eo⟩ : ∃ op, id (mx_and (h (-2) i) 63 = op) := ⟨_, rfl⟩
  have eo : mx_and (h (-2) i) 63 = op := eo
  rw [w_sw s L2 i0 eo]
  rw [eo] at q
  simp (disch := omega) only [mx_sw_n, mx_sw_h, mx_sw_m]
  clear q eo s
  simp (disch := omega) only [mx_vt_h, mx_vt_m, mx_cmp_0, mx_cmp_1, mx_cmp_2, mx_cmp_3, mx_cmp_4, mx_u_s, mx_u_a, mx_u_k, mx_z_a, mx_z_s, mx_t_a, mx_t_2, mx_t_1, mx_t_0, mx_gd_T, mx_gd_t, mx_br_T, mx_br_F, mx_br_t, mx_br_f, mx_br_n, mx_cl_T, mx_cl_t, mx_re_T, mx_re_t, mx_rt_v, mx_rt_0, mx_cu_t, mx_w_id, mx_l_id, mx_b_0, mx_b_1, mx_b_r, mx_nl_0, mx_nl_1, mx_nl_2, mx_nl_n, mx_nl_l, mx_sw_n, mx_sw_h, mx_sw_m, Int.reduceLE, Int.reduceLT, Int.reduceEq, Int.reduceAdd, Int.reduceSub, Int.reduceMul, Int.reduceNeg, Int.reduceToNat, and_self, true_and, and_true, false_and, and_false, true_or, or_true, false_or, or_false, not_true_eq_false, not_false_eq_true, eq_self, rw_L_law_16]
theorem w_en (s : S (-2) (-2) = 24 ∧ S (-2) (-1) = L) (L2 : (L : Int) ≤ 3072) (i0 : 0 ≤ i ∧ i ≤ L) (q : ¬ i + 6 ≤ L) : mx_ex (d + 13) 257 18 [some (2, -2), some (2, 0), some (2, 38), some (0, i)] [] S h n = some (some (0, 1), S, h, n) := by
  obtain ⟨s1, s2⟩ := s
  rw [rh_L_law_18]
  simp (disch := omega) only [mx_vt_h, mx_vt_m, mx_cmp_0, mx_cmp_1, mx_cmp_2, mx_cmp_3, mx_cmp_4, mx_u_s, mx_u_a, mx_u_k, mx_z_a, mx_z_s, mx_t_a, mx_t_2, mx_t_1, mx_t_0, mx_gd_T, mx_gd_t, mx_br_T, mx_br_F, mx_br_t, mx_br_f, mx_br_n, mx_cl_T, mx_cl_t, mx_re_T, mx_re_t, mx_rt_v, mx_rt_0, mx_cu_t, mx_w_id, mx_l_id, mx_b_0, mx_b_1, mx_b_r, mx_nl_0, mx_nl_1, mx_nl_2, mx_nl_n, mx_nl_l, mx_sw_n, mx_sw_h, mx_sw_m, Int.reduceLE, Int.reduceLT, Int.reduceEq, Int.reduceAdd, Int.reduceSub, Int.reduceMul, Int.reduceNeg, Int.reduceToNat, and_self, true_and, and_true, false_and, and_false, true_or, or_true, false_or, or_false, not_true_eq_false, not_false_eq_true, eq_self, rw_L_law, rw_L_law_16, s1, s2]
end
