section
variable {L : Nat} {x : Nat → Int32} {S h : mx_H} {n c i : Int} {d : Nat}
theorem w_22 (v : Inv L x S h n c) (hc : c ≤ 599) (L2 : (L : Int) ≤ 3072) (i0 : 0 ≤ i ∧ i + 6 ≤ L) : ∃ S2 h2 n2, mx_ex (d + 13) 257 958 [some (2, -2), some (2, 0), some (2, 38), some (0, i)] [] S h n = mx_ex (d + 13) 257 18 [some (2, -2), some (2, 0), some (2, 38), some (0, i + 6)] [] S2 h2 n2 ∧ Inv L x S2 h2 n2 (c + 1) := by
  have b := v.bx
  have A : ag L x 121 210 [(0, h (-2) (i + 1)), (0, h (-2) (i + 2)), (0, h (-2) (i + 3))] 0 c := a_written hc
  obtain ⟨y, S1, h1, n1, S2, h2, n2, e1, e2, V, s2, g2, t0, t1, l0, s0⟩ := ag_run A d v
  refine ⟨S2, h2, n2, ?_, V⟩
  clear v hc A V b
  simp (disch := omega) only [mx_vt_h, mx_vt_m, mx_cmp_0, mx_cmp_1, mx_cmp_2, mx_cmp_3, mx_cmp_4, mx_u_s, mx_u_a, mx_u_k, mx_z_a, mx_z_s, mx_t_a, mx_t_2, mx_t_1, mx_t_0, mx_gd_T, mx_gd_t, mx_br_T, mx_br_F, mx_br_t, mx_br_f, mx_br_n, mx_cl_T, mx_cl_t, mx_re_T, mx_re_t, mx_rt_v, mx_rt_0, mx_cu_t, mx_w_id, mx_l_id, mx_b_0, mx_b_1, mx_b_r, mx_nl_0, mx_nl_1, mx_nl_2, mx_nl_n, mx_nl_l, mx_sw_n, mx_sw_h, mx_sw_m, Int.reduceLE, Int.reduceLT, Int.reduceEq, Int.reduceAdd, Int.reduceSub, Int.reduceMul, Int.reduceNeg, Int.reduceToNat, and_self, true_and, and_true, false_and, and_false, true_or, or_true, false_or, or_false, not_true_eq_false, not_false_eq_true, eq_self, rw_L_law_8, rw_L_law_9, rw_L_law_16, e1, e2, s2, g2, t0, t1, l0, s0]
theorem w_23 (v : Inv L x S h n c) (hc : c ≤ 599) (L2 : (L : Int) ≤ 3072) (i0 : 0 ≤ i ∧ i + 6 ≤ L) : ∃ S2 h2 n2, mx_ex (d + 13) 257 1001 [some (2, -2), some (2, 0), some (2, 38), some (0, i)] [] S h n = mx_ex (d + 13) 257 18 [some (2, -2), some (2, 0), some (2, 38), some (0, i + 6)] [] S2 h2 n2 ∧ Inv L x S2 h2 n2 (c + 1) := by
  have b := v.bx
  have A : ag L x 122 213 [(0, h (-2) (i + 1)), (0, h (-2) (i + 2))] 0 c := a_alike hc (b _).1 (b _).2
  obtain ⟨y, S1, h1, n1, S2, h2, n2, e1, e2, V, s2, g2, t0, t1, l0, s0⟩ := ag_run A d v
  refine ⟨S2, h2, n2, ?_, V⟩
  clear v hc A V b
  simp (disch := omega) only [mx_vt_h, mx_vt_m, mx_cmp_0, mx_cmp_1, mx_cmp_2, mx_cmp_3, mx_cmp_4, mx_u_s, mx_u_a, mx_u_k, mx_z_a, mx_z_s, mx_t_a, mx_t_2, mx_t_1, mx_t_0, mx_gd_T, mx_gd_t, mx_br_T, mx_br_F, mx_br_t, mx_br_f, mx_br_n, mx_cl_T, mx_cl_t, mx_re_T, mx_re_t, mx_rt_v, mx_rt_0, mx_cu_t, mx_w_id, mx_l_id, mx_b_0, mx_b_1, mx_b_r, mx_nl_0, mx_nl_1, mx_nl_2, mx_nl_n, mx_nl_l, mx_sw_n, mx_sw_h, mx_sw_m, Int.reduceLE, Int.reduceLT, Int.reduceEq, Int.reduceAdd, Int.reduceSub, Int.reduceMul, Int.reduceNeg, Int.reduceToNat, and_self, true_and, and_true, false_and, and_false, true_or, or_true, false_or, or_false, not_true_eq_false, not_false_eq_true, eq_self, rw_L_law_9, rw_L_law_16, e1, e2, s2, g2, t0, t1, l0, s0]
theorem w_24 (v : Inv L x S h n c) (hc : c ≤ 599) (L2 : (L : Int) ≤ 3072) (i0 : 0 ≤ i ∧ i + 6 ≤ L) : ∃ S2 h2 n2, mx_ex (d + 13) 257 1034 [some (2, -2), some (2, 0), some (2, 38), some (0, i)] [] S h n = mx_ex (d + 13) 257 18 [some (2, -2), some (2, 0), some (2, 38), some (0, i + 6)] [] S2 h2 n2 ∧ Inv L x S2 h2 n2 (c + 1) := by
  have b := v.bx
  have A : ag L x 123 214 [(0, h (-2) (i + 1)), (0, h (-2) (i + 2))] 0 c := a_shortest hc (b _).1 (b _).2
  obtain ⟨y, S1, h1, n1, S2, h2, n2, e1, e2, V, s2, g2, t0, t1, l0, s0⟩ := ag_run A d v
  refine ⟨S2, h2, n2, ?_, V⟩
  clear v hc A V b
  simp (disch := omega) only [mx_vt_h, mx_vt_m, mx_cmp_0, mx_cmp_1, mx_cmp_2, mx_cmp_3, mx_cmp_4, mx_u_s, mx_u_a, mx_u_k, mx_z_a, mx_z_s, mx_t_a, mx_t_2, mx_t_1, mx_t_0, mx_gd_T, mx_gd_t, mx_br_T, mx_br_F, mx_br_t, mx_br_f, mx_br_n, mx_cl_T, mx_cl_t, mx_re_T, mx_re_t, mx_rt_v, mx_rt_0, mx_cu_t, mx_w_id, mx_l_id, mx_b_0, mx_b_1, mx_b_r, mx_nl_0, mx_nl_1, mx_nl_2, mx_nl_n, mx_nl_l, mx_sw_n, mx_sw_h, mx_sw_m, Int.reduceLE, Int.reduceLT, Int.reduceEq, Int.reduceAdd, Int.reduceSub, Int.reduceMul, Int.reduceNeg, Int.reduceToNat, and_self, true_and, and_true, false_and, and_false, true_or, or_true, false_or, or_false, not_true_eq_false, not_false_eq_true, eq_self, rw_L_law_9, rw_L_law_10, rw_L_law_16, e1, e2, s2, g2, t0, t1, l0, s0]
theorem w_25 (v : Inv L x S h n c) (hc : c ≤ 599) (L2 : (L : Int) ≤ 3072) (i0 : 0 ≤ i ∧ i + 6 ≤ L) : ∃ S2 h2 n2, mx_ex (d + 13) 257 1067 [some (2, -2), some (2, 0), some (2, 38), some (0, i)] [] S h n = mx_ex (d + 13) 257 18 [some (2, -2), some (2, 0), some (2, 38), some (0, i + 6)] [] S2 h2 n2 ∧ Inv L x S2 h2 n2 (c + 1) := by
  have b := v.bx
  have A : ag L x 124 216 [(0, h (-2) (i + 1)), (0, h (-2) (i + 2))] 0 c := a_add hc
  obtain ⟨y, S1, h1, n1, S2, h2, n2, e1, e2, V, s2, g2, t0, t1, l0, s0⟩ := ag_run A d v
  refine ⟨S2, h2, n2, ?_, V⟩
  clear v hc A V b
  simp (disch := omega) only [mx_vt_h, mx_vt_m, mx_cmp_0, mx_cmp_1, mx_cmp_2, mx_cmp_3, mx_cmp_4, mx_u_s, mx_u_a, mx_u_k, mx_z_a, mx_z_s, mx_t_a, mx_t_2, mx_t_1, mx_t_0, mx_gd_T, mx_gd_t, mx_br_T, mx_br_F, mx_br_t, mx_br_f, mx_br_n, mx_cl_T, mx_cl_t, mx_re_T, mx_re_t, mx_rt_v, mx_rt_0, mx_cu_t, mx_w_id, mx_l_id, mx_b_0, mx_b_1, mx_b_r, mx_nl_0, mx_nl_1, mx_nl_2, mx_nl_n, mx_nl_l, mx_sw_n, mx_sw_h, mx_sw_m, Int.reduceLE, Int.reduceLT, Int.reduceEq, Int.reduceAdd, Int.reduceSub, Int.reduceMul, Int.reduceNeg, Int.reduceToNat, and_self, true_and, and_true, false_and, and_false, true_or, or_true, false_or, or_false, not_true_eq_false, not_false_eq_true, eq_self, rw_L_law_10, rw_L_law_16, e1, e2, s2, g2, t0, t1, l0, s0]
theorem w_26 (v : Inv L x S h n c) (hc : c ≤ 599) (L2 : (L : Int) ≤ 3072) (i0 : 0 ≤ i ∧ i + 6 ≤ L) : ∃ S2 h2 n2, mx_ex (d + 13) 257 1100 [some (2, -2), some (2, 0), some (2, 38), some (0, i)] [] S h n = mx_ex (d + 13) 257 18 [some (2, -2), some (2, 0), some (2, 38), some (0, i + 6)] [] S2 h2 n2 ∧ Inv L x S2 h2 n2 (c + 1) := by
  have b := v.bx
  have A : ag L x 125 217 [(0, h (-2) (i + 1))] 0 c := a_seed hc
  obtain ⟨y, S1, h1, n1, S2, h2, n2, e1, e2, V, s2, g2, t0, t1, l0, s0⟩ := ag_run A d v
  refine ⟨S2, h2, n2, ?_, V⟩
  clear v hc A V b
  simp (disch := omega) only [mx_vt_h, mx_vt_m, mx_cmp_0, mx_cmp_1, mx_cmp_2, mx_cmp_3, mx_cmp_4, mx_u_s, mx_u_a, mx_u_k, mx_z_a, mx_z_s, mx_t_a, mx_t_2, mx_t_1, mx_t_0, mx_gd_T, mx_gd_t, mx_br_T, mx_br_F, mx_br_t, mx_br_f, mx_br_n, mx_cl_T, mx_cl_t, mx_re_T, mx_re_t, mx_rt_v, mx_rt_0, mx_cu_t, mx_w_id, mx_l_id, mx_b_0, mx_b_1, mx_b_r, mx_nl_0, mx_nl_1, mx_nl_2, mx_nl_n, mx_nl_l, mx_sw_n, mx_sw_h, mx_sw_m, Int.reduceLE, Int.reduceLT, Int.reduceEq, Int.reduceAdd, Int.reduceSub, Int.reduceMul, Int.reduceNeg, Int.reduceToNat, and_self, true_and, and_true, false_and, and_false, true_or, or_true, false_or, or_false, not_true_eq_false, not_false_eq_true, eq_self, rw_L_law_10, rw_L_law_16, e1, e2, s2, g2, t0, t1, l0, s0]
theorem w_27 (v : Inv L x S h n c) (hc : c ≤ 599) (L2 : (L : Int) ≤ 3072) (i0 : 0 ≤ i ∧ i + 6 ≤ L) : ∃ S2 h2 n2, mx_ex (d + 13) 257 1123 [some (2, -2), some (2, 0), some (2, 38), some (0, i)] [] S h n = mx_ex (d + 13) 257 18 [some (2, -2), some (2, 0), some (2, 38), some (0, i + 6)] [] S2 h2 n2 ∧ Inv L x S2 h2 n2 (c + 1) := by
  have b := v.bx
  have A : ag L x 126 218 [] 0 c := a_guess hc
  obtain ⟨y, S1, h1, n1, S2, h2, n2, e1, e2, V, s2, g2, t0, t1, l0, s0⟩ := ag_run A d v
  refine ⟨S2, h2, n2, ?_, V⟩
  clear v hc A V b
  simp (disch := omega) only [mx_vt_h, mx_vt_m, mx_cmp_0, mx_cmp_1, mx_cmp_2, mx_cmp_3, mx_cmp_4, mx_u_s, mx_u_a, mx_u_k, mx_z_a, mx_z_s, mx_t_a, mx_t_2, mx_t_1, mx_t_0, mx_gd_T, mx_gd_t, mx_br_T, mx_br_F, mx_br_t, mx_br_f, mx_br_n, mx_cl_T, mx_cl_t, mx_re_T, mx_re_t, mx_rt_v, mx_rt_0, mx_cu_t, mx_w_id, mx_l_id, mx_b_0, mx_b_1, mx_b_r, mx_nl_0, mx_nl_1, mx_nl_2, mx_nl_n, mx_nl_l, mx_sw_n, mx_sw_h, mx_sw_m, Int.reduceLE, Int.reduceLT, Int.reduceEq, Int.reduceAdd, Int.reduceSub, Int.reduceMul, Int.reduceNeg, Int.reduceToNat, and_self, true_and, and_true, false_and, and_false, true_or, or_true, false_or, or_false, not_true_eq_false, not_false_eq_true, eq_self, rw_L_law_10, rw_L_law_16, e1, e2, s2, g2, t0, t1, l0, s0]
theorem w_28 (v : Inv L x S h n c) (hc : c ≤ 599) (L2 : (L : Int) ≤ 3072) (i0 : 0 ≤ i ∧ i + 6 ≤ L) : ∃ S2 h2 n2, mx_ex (d + 13) 257 1136 [some (2, -2), some (2, 0), some (2, 38), some (0, i)] [] S h n = mx_ex (d + 13) 257 18 [some (2, -2), some (2, 0), some (2, 38), some (0, i + 6)] [] S2 h2 n2 ∧ Inv L x S2 h2 n2 (c + 1) := by
  have b := v.bx
  have A : ag L x 127 219 [(0, h (-2) (i + 1))] 0 c := a_prove hc (b _).1 (b _).2
  obtain ⟨y, S1, h1, n1, S2, h2, n2, e1, e2, V, s2, g2, t0, t1, l0, s0⟩ := ag_run A d v
  refine ⟨S2, h2, n2, ?_, V⟩
  clear v hc A V b
  simp (disch := omega) only [mx_vt_h, mx_vt_m, mx_cmp_0, mx_cmp_1, mx_cmp_2, mx_cmp_3, mx_cmp_4, mx_u_s, mx_u_a, mx_u_k, mx_z_a, mx_z_s, mx_t_a, mx_t_2, mx_t_1, mx_t_0, mx_gd_T, mx_gd_t, mx_br_T, mx_br_F, mx_br_t, mx_br_f, mx_br_n, mx_cl_T, mx_cl_t, mx_re_T, mx_re_t, mx_rt_v, mx_rt_0, mx_cu_t, mx_w_id, mx_l_id, mx_b_0, mx_b_1, mx_b_r, mx_nl_0, mx_nl_1, mx_nl_2, mx_nl_n, mx_nl_l, mx_sw_n, mx_sw_h, mx_sw_m, Int.reduceLE, Int.reduceLT, Int.reduceEq, Int.reduceAdd, Int.reduceSub, Int.reduceMul, Int.reduceNeg, Int.reduceToNat, and_self, true_and, and_true, false_and, and_false, true_or, or_true, false_or, or_false, not_true_eq_false, not_false_eq_true, eq_self, rw_L_law_10, rw_L_law_11, rw_L_law_16, e1, e2, s2, g2, t0, t1, l0, s0]
theorem w_29 (v : Inv L x S h n c) (hc : c ≤ 599) (L2 : (L : Int) ≤ 3072) (i0 : 0 ≤ i ∧ i + 6 ≤ L) : ∃ S2 h2 n2, mx_ex (d + 13) 257 1159 [some (2, -2), some (2, 0), some (2, 38), some (0, i)] [] S h n = mx_ex (d + 13) 257 18 [some (2, -2), some (2, 0), some (2, 38), some (0, i + 6)] [] S2 h2 n2 ∧ Inv L x S2 h2 n2 (c + 1) := by
  have b := v.bx
  have A : ag L x 128 221 [(0, h (-2) (i + 1)), (0, h (-2) (i + 2))] 1 c := a_row hc
  obtain ⟨y, S1, h1, n1, S2, h2, n2, e1, e2, V, s2, g2, t0, t1, l0, s0⟩ := ag_run A d v
  refine ⟨S2, h2, n2, ?_, V⟩
  clear v hc A V b
  simp (disch := omega) only [mx_vt_h, mx_vt_m, mx_cmp_0, mx_cmp_1, mx_cmp_2, mx_cmp_3, mx_cmp_4, mx_u_s, mx_u_a, mx_u_k, mx_z_a, mx_z_s, mx_t_a, mx_t_2, mx_t_1, mx_t_0, mx_gd_T, mx_gd_t, mx_br_T, mx_br_F, mx_br_t, mx_br_f, mx_br_n, mx_cl_T, mx_cl_t, mx_re_T, mx_re_t, mx_rt_v, mx_rt_0, mx_cu_t, mx_w_id, mx_l_id, mx_b_0, mx_b_1, mx_b_r, mx_nl_0, mx_nl_1, mx_nl_2, mx_nl_n, mx_nl_l, mx_sw_n, mx_sw_h, mx_sw_m, Int.reduceLE, Int.reduceLT, Int.reduceEq, Int.reduceAdd, Int.reduceSub, Int.reduceMul, Int.reduceNeg, Int.reduceToNat, and_self, true_and, and_true, false_and, and_false, true_or, or_true, false_or, or_false, not_true_eq_false, not_false_eq_true, eq_self, rw_L_law_11, rw_L_law_16, e1, e2, s2, g2, t0, t1, l0, s0]
theorem w_30 (v : Inv L x S h n c) (hc : c ≤ 599) (L2 : (L : Int) ≤ 3072) (i0 : 0 ≤ i ∧ i + 6 ≤ L) : ∃ S2 h2 n2, mx_ex (d + 13) 257 1193 [some (2, -2), some (2, 0), some (2, 38), some (0, i)] [] S h n = mx_ex (d + 13) 257 18 [some (2, -2), some (2, 0), some (2, 38), some (0, i + 6)] [] S2 h2 n2 ∧ Inv L x S2 h2 n2 (c + 1) := by
  have b := v.bx
  have A : ag L x 129 222 [(0, h (-2) (i + 1)), (0, h (-2) (i + 2)), (1, ml_or (ml_shl (h (-2) (i + 3)) 32) (ml_and (h (-2) (i + 4)) 4294967295))] 1 c := a_alterRow hc
  obtain ⟨y, S1, h1, n1, S2, h2, n2, e1, e2, V, s2, g2, t0, t1, l0, s0⟩ := ag_run A d v
  refine ⟨S2, h2, n2, ?_, V⟩
  clear v hc A V b
  simp (disch := omega) only [mx_vt_h, mx_vt_m, mx_cmp_0, mx_cmp_1, mx_cmp_2, mx_cmp_3, mx_cmp_4, mx_u_s, mx_u_a, mx_u_k, mx_z_a, mx_z_s, mx_t_a, mx_t_2, mx_t_1, mx_t_0, mx_gd_T, mx_gd_t, mx_br_T, mx_br_F, mx_br_t, mx_br_f, mx_br_n, mx_cl_T, mx_cl_t, mx_re_T, mx_re_t, mx_rt_v, mx_rt_0, mx_cu_t, mx_w_id, mx_l_id, mx_b_0, mx_b_1, mx_b_r, mx_nl_0, mx_nl_1, mx_nl_2, mx_nl_n, mx_nl_l, mx_sw_n, mx_sw_h, mx_sw_m, Int.reduceLE, Int.reduceLT, Int.reduceEq, Int.reduceAdd, Int.reduceSub, Int.reduceMul, Int.reduceNeg, Int.reduceToNat, and_self, true_and, and_true, false_and, and_false, true_or, or_true, false_or, or_false, not_true_eq_false, not_false_eq_true, eq_self, rw_L_law_11, rw_L_law_12, rw_L_law_16, e1, e2, s2, g2, t0, t1, l0, s0]
theorem w_31 (v : Inv L x S h n c) (hc : c ≤ 599) (L2 : (L : Int) ≤ 3072) (i0 : 0 ≤ i ∧ i + 6 ≤ L) : ∃ S2 h2 n2, mx_ex (d + 13) 257 1267 [some (2, -2), some (2, 0), some (2, 38), some (0, i)] [] S h n = mx_ex (d + 13) 257 18 [some (2, -2), some (2, 0), some (2, 38), some (0, i + 6)] [] S2 h2 n2 ∧ Inv L x S2 h2 n2 (c + 1) := by
  have b := v.bx
  have A : ag L x 130 224 [] 0 c := a_judge hc
  obtain ⟨y, S1, h1, n1, S2, h2, n2, e1, e2, V, s2, g2, t0, t1, l0, s0⟩ := ag_run A d v
  refine ⟨S2, h2, n2, ?_, V⟩
  clear v hc A V b
  simp (disch := omega) only [mx_vt_h, mx_vt_m, mx_cmp_0, mx_cmp_1, mx_cmp_2, mx_cmp_3, mx_cmp_4, mx_u_s, mx_u_a, mx_u_k, mx_z_a, mx_z_s, mx_t_a, mx_t_2, mx_t_1, mx_t_0, mx_gd_T, mx_gd_t, mx_br_T, mx_br_F, mx_br_t, mx_br_f, mx_br_n, mx_cl_T, mx_cl_t, mx_re_T, mx_re_t, mx_rt_v, mx_rt_0, mx_cu_t, mx_w_id, mx_l_id, mx_b_0, mx_b_1, mx_b_r, mx_nl_0, mx_nl_1, mx_nl_2, mx_nl_n, mx_nl_l, mx_sw_n, mx_sw_h, mx_sw_m, Int.reduceLE, Int.reduceLT, Int.reduceEq, Int.reduceAdd, Int.reduceSub, Int.reduceMul, Int.reduceNeg, Int.reduceToNat, and_self, true_and, and_true, false_and, and_false, true_or, or_true, false_or, or_false, not_true_eq_false, not_false_eq_true, eq_self, rw_L_law_12, rw_L_law_16, e1, e2, s2, g2, t0, t1, l0, s0]
theorem w_32 (v : Inv L x S h n c) (hc : c ≤ 599) (L2 : (L : Int) ≤ 3072) (i0 : 0 ≤ i ∧ i + 6 ≤ L) : ∃ S2 h2 n2, mx_ex (d + 13) 257 1280 [some (2, -2), some (2, 0), some (2, 38), some (0, i)] [] S h n = mx_ex (d + 13) 257 18 [some (2, -2), some (2, 0), some (2, 38), some (0, i + 6)] [] S2 h2 n2 ∧ Inv L x S2 h2 n2 (c + 1) := by
  have b := v.bx
  have A : ag L x 131 226 [(0, h (-2) (i + 1)), (0, h (-2) (i + 2)), (0, h (-2) (i + 3)), (0, h (-2) (i + 4))] 0 c := a_signs hc (b _).1 (b _).2
  obtain ⟨y, S1, h1, n1, S2, h2, n2, e1, e2, V, s2, g2, t0, t1, l0, s0⟩ := ag_run A d v
  refine ⟨S2, h2, n2, ?_, V⟩
  clear v hc A V b
  simp (disch := omega) only [mx_vt_h, mx_vt_m, mx_cmp_0, mx_cmp_1, mx_cmp_2, mx_cmp_3, mx_cmp_4, mx_u_s, mx_u_a, mx_u_k, mx_z_a, mx_z_s, mx_t_a, mx_t_2, mx_t_1, mx_t_0, mx_gd_T, mx_gd_t, mx_br_T, mx_br_F, mx_br_t, mx_br_f, mx_br_n, mx_cl_T, mx_cl_t, mx_re_T, mx_re_t, mx_rt_v, mx_rt_0, mx_cu_t, mx_w_id, mx_l_id, mx_b_0, mx_b_1, mx_b_r, mx_nl_0, mx_nl_1, mx_nl_2, mx_nl_n, mx_nl_l, mx_sw_n, mx_sw_h, mx_sw_m, Int.reduceLE, Int.reduceLT, Int.reduceEq, Int.reduceAdd, Int.reduceSub, Int.reduceMul, Int.reduceNeg, Int.reduceToNat, and_self, true_and, and_true, false_and, and_false, true_or, or_true, false_or, or_false, not_true_eq_false, not_false_eq_true, eq_self, rw_L_law_12, rw_L_law_13, rw_L_law_16, e1, e2, s2, g2, t0, t1, l0, s0]
theorem w_33 (v : Inv L x S h n c) (hc : c ≤ 599) (L2 : (L : Int) ≤ 3072) (i0 : 0 ≤ i ∧ i + 6 ≤ L) : ∃ S2 h2 n2, mx_ex (d + 13) 257 1333 [some (2, -2), some (2, 0), some (2, 38), some (0, i)] [] S h n = mx_ex (d + 13) 257 18 [some (2, -2), some (2, 0), some (2, 38), some (0, i + 6)] [] S2 h2 n2 ∧ Inv L x S2 h2 n2 (c + 1) := by
  have b := v.bx
  have A : ag L x 132 227 [(0, h (-2) (i + 1)), (0, h (-2) (i + 2)), (0, h (-2) (i + 3))] 0 c := a_sheet hc
  obtain ⟨y, S1, h1, n1, S2, h2, n2, e1, e2, V, s2, g2, t0, t1, l0, s0⟩ := ag_run A d v
  refine ⟨S2, h2, n2, ?_, V⟩
  clear v hc A V b
  simp (disch := omega) only [mx_vt_h, mx_vt_m, mx_cmp_0, mx_cmp_1, mx_cmp_2, mx_cmp_3, mx_cmp_4, mx_u_s, mx_u_a, mx_u_k, mx_z_a, mx_z_s, mx_t_a, mx_t_2, mx_t_1, mx_t_0, mx_gd_T, mx_gd_t, mx_br_T, mx_br_F, mx_br_t, mx_br_f, mx_br_n, mx_cl_T, mx_cl_t, mx_re_T, mx_re_t, mx_rt_v, mx_rt_0, mx_cu_t, mx_w_id, mx_l_id, mx_b_0, mx_b_1, mx_b_r, mx_nl_0, mx_nl_1, mx_nl_2, mx_nl_n, mx_nl_l, mx_sw_n, mx_sw_h, mx_sw_m, Int.reduceLE, Int.reduceLT, Int.reduceEq, Int.reduceAdd, Int.reduceSub, Int.reduceMul, Int.reduceNeg, Int.reduceToNat, and_self, true_and, and_true, false_and, and_false, true_or, or_true, false_or, or_false, not_true_eq_false, not_false_eq_true, eq_self, rw_L_law_13, rw_L_law_16, e1, e2, s2, g2, t0, t1, l0, s0]
theorem w_34 (v : Inv L x S h n c) (hc : c ≤ 599) (L2 : (L : Int) ≤ 3072) (i0 : 0 ≤ i ∧ i + 6 ≤ L) : ∃ S2 h2 n2, mx_ex (d + 13) 257 1376 [some (2, -2), some (2, 0), some (2, 38), some (0, i)] [] S h n = mx_ex (d + 13) 257 18 [some (2, -2), some (2, 0), some (2, 38), some (0, i + 6)] [] S2 h2 n2 ∧ Inv L x S2 h2 n2 (c + 1) := by
  have b := v.bx
  have A : ag L x 133 229 [(0, h (-2) (i + 1)), (0, h (-2) (i + 2)), (0, h (-2) (i + 3))] 0 c := a_put hc (b _).1 (b _).2
  obtain ⟨y, S1, h1, n1, S2, h2, n2, e1, e2, V, s2, g2, t0, t1, l0, s0⟩ := ag_run A d v
  refine ⟨S2, h2, n2, ?_, V⟩
  clear v hc A V b
  simp (disch := omega) only [mx_vt_h, mx_vt_m, mx_cmp_0, mx_cmp_1, mx_cmp_2, mx_cmp_3, mx_cmp_4, mx_u_s, mx_u_a, mx_u_k, mx_z_a, mx_z_s, mx_t_a, mx_t_2, mx_t_1, mx_t_0, mx_gd_T, mx_gd_t, mx_br_T, mx_br_F, mx_br_t, mx_br_f, mx_br_n, mx_cl_T, mx_cl_t, mx_re_T, mx_re_t, mx_rt_v, mx_rt_0, mx_cu_t, mx_w_id, mx_l_id, mx_b_0, mx_b_1, mx_b_r, mx_nl_0, mx_nl_1, mx_nl_2, mx_nl_n, mx_nl_l, mx_sw_n, mx_sw_h, mx_sw_m, Int.reduceLE, Int.reduceLT, Int.reduceEq, Int.reduceAdd, Int.reduceSub, Int.reduceMul, Int.reduceNeg, Int.reduceToNat, and_self, true_and, and_true, false_and, and_false, true_or, or_true, false_or, or_false, not_true_eq_false, not_false_eq_true, eq_self, rw_L_law_13, rw_L_law_14, rw_L_law_16, e1, e2, s2, g2, t0, t1, l0, s0]
theorem w_35 (v : Inv L x S h n c) (hc : c ≤ 599) (L2 : (L : Int) ≤ 3072) (i0 : 0 ≤ i ∧ i + 6 ≤ L) : ∃ S2 h2 n2, mx_ex (d + 13) 257 1419 [some (2, -2), some (2, 0), some (2, 38), some (0, i)] [] S h n = mx_ex (d + 13) 257 18 [some (2, -2), some (2, 0), some (2, 38), some (0, i + 6)] [] S2 h2 n2 ∧ Inv L x S2 h2 n2 (c + 1) := by
  have b := v.bx
  have A : ag L x 134 230 [(0, h (-2) (i + 1)), (0, h (-2) (i + 2)), (0, h (-2) (i + 3))] 0 c := a_item hc
  obtain ⟨y, S1, h1, n1, S2, h2, n2, e1, e2, V, s2, g2, t0, t1, l0, s0⟩ := ag_run A d v
  refine ⟨S2, h2, n2, ?_, V⟩
  clear v hc A V b
  simp (disch := omega) only [mx_vt_h, mx_vt_m, mx_cmp_0, mx_cmp_1, mx_cmp_2, mx_cmp_3, mx_cmp_4, mx_u_s, mx_u_a, mx_u_k, mx_z_a, mx_z_s, mx_t_a, mx_t_2, mx_t_1, mx_t_0, mx_gd_T, mx_gd_t, mx_br_T, mx_br_F, mx_br_t, mx_br_f, mx_br_n, mx_cl_T, mx_cl_t, mx_re_T, mx_re_t, mx_rt_v, mx_rt_0, mx_cu_t, mx_w_id, mx_l_id, mx_b_0, mx_b_1, mx_b_r, mx_nl_0, mx_nl_1, mx_nl_2, mx_nl_n, mx_nl_l, mx_sw_n, mx_sw_h, mx_sw_m, Int.reduceLE, Int.reduceLT, Int.reduceEq, Int.reduceAdd, Int.reduceSub, Int.reduceMul, Int.reduceNeg, Int.reduceToNat, and_self, true_and, and_true, false_and, and_false, true_or, or_true, false_or, or_false, not_true_eq_false, not_false_eq_true, eq_self, rw_L_law_14, rw_L_law_16, e1, e2, s2, g2, t0, t1, l0, s0]
theorem w_36 (v : Inv L x S h n c) (hc : c ≤ 599) (L2 : (L : Int) ≤ 3072) (i0 : 0 ≤ i ∧ i + 6 ≤ L) : ∃ S2 h2 n2, mx_ex (d + 13) 257 1462 [some (2, -2), some (2, 0), some (2, 38), some (0, i)] [] S h n = mx_ex (d + 13) 257 18 [some (2, -2), some (2, 0), some (2, 38), some (0, i + 6)] [] S2 h2 n2 ∧ Inv L x S2 h2 n2 (c + 1) := by
  have b := v.bx
  have A : ag L x 135 232 [(0, h (-2) (i + 1)), (0, h (-2) (i + 2)), (0, h (-2) (i + 3))] 0 c := a_shelf hc
  obtain ⟨y, S1, h1, n1, S2, h2, n2, e1, e2, V, s2, g2, t0, t1, l0, s0⟩ := ag_run A d v
  refine ⟨S2, h2, n2, ?_, V⟩
  clear v hc A V b
  simp (disch := omega) only [mx_vt_h, mx_vt_m, mx_cmp_0, mx_cmp_1, mx_cmp_2, mx_cmp_3, mx_cmp_4, mx_u_s, mx_u_a, mx_u_k, mx_z_a, mx_z_s, mx_t_a, mx_t_2, mx_t_1, mx_t_0, mx_gd_T, mx_gd_t, mx_br_T, mx_br_F, mx_br_t, mx_br_f, mx_br_n, mx_cl_T, mx_cl_t, mx_re_T, mx_re_t, mx_rt_v, mx_rt_0, mx_cu_t, mx_w_id, mx_l_id, mx_b_0, mx_b_1, mx_b_r, mx_nl_0, mx_nl_1, mx_nl_2, mx_nl_n, mx_nl_l, mx_sw_n, mx_sw_h, mx_sw_m, Int.reduceLE, Int.reduceLT, Int.reduceEq, Int.reduceAdd, Int.reduceSub, Int.reduceMul, Int.reduceNeg, Int.reduceToNat, and_self, true_and, and_true, false_and, and_false, true_or, or_true, false_or, or_false, not_true_eq_false, not_false_eq_true, eq_self, rw_L_law_14, rw_L_law_15, rw_L_law_16, e1, e2, s2, g2, t0, t1, l0, s0]
theorem w_37 (v : Inv L x S h n c) (hc : c ≤ 599) (L2 : (L : Int) ≤ 3072) (i0 : 0 ≤ i ∧ i + 6 ≤ L) : ∃ S2 h2 n2, mx_ex (d + 13) 257 1505 [some (2, -2), some (2, 0), some (2, 38), some (0, i)] [] S h n = mx_ex (d + 13) 257 18 [some (2, -2), some (2, 0), some (2, 38), some (0, i + 6)] [] S2 h2 n2 ∧ Inv L x S2 h2 n2 (c + 1) := by
  have b := v.bx
  have A : ag L x 136 235 [(0, h (-2) (i + 1)), (0, h (-2) (i + 2))] 0 c := a_taken hc
  obtain ⟨y, S1, h1, n1, S2, h2, n2, e1, e2, V, s2, g2, t0, t1, l0, s0⟩ := ag_run A d v
  refine ⟨S2, h2, n2, ?_, V⟩
  clear v hc A V b
  simp (disch := omega) only [mx_vt_h, mx_vt_m, mx_cmp_0, mx_cmp_1, mx_cmp_2, mx_cmp_3, mx_cmp_4, mx_u_s, mx_u_a, mx_u_k, mx_z_a, mx_z_s, mx_t_a, mx_t_2, mx_t_1, mx_t_0, mx_gd_T, mx_gd_t, mx_br_T, mx_br_F, mx_br_t, mx_br_f, mx_br_n, mx_cl_T, mx_cl_t, mx_re_T, mx_re_t, mx_rt_v, mx_rt_0, mx_cu_t, mx_w_id, mx_l_id, mx_b_0, mx_b_1, mx_b_r, mx_nl_0, mx_nl_1, mx_nl_2, mx_nl_n, mx_nl_l, mx_sw_n, mx_sw_h, mx_sw_m, Int.reduceLE, Int.reduceLT, Int.reduceEq, Int.reduceAdd, Int.reduceSub, Int.reduceMul, Int.reduceNeg, Int.reduceToNat, and_self, true_and, and_true, false_and, and_false, true_or, or_true, false_or, or_false, not_true_eq_false, not_false_eq_true, eq_self, rw_L_law_15, rw_L_law_16, e1, e2, s2, g2, t0, t1, l0, s0]
theorem w_38 (v : Inv L x S h n c) (hc : c ≤ 599) (L2 : (L : Int) ≤ 3072) (i0 : 0 ≤ i ∧ i + 6 ≤ L) : ∃ S2 h2 n2, mx_ex (d + 13) 257 1538 [some (2, -2), some (2, 0), some (2, 38), some (0, i)] [] S h n = mx_ex (d + 13) 257 18 [some (2, -2), some (2, 0), some (2, 38), some (0, i + 6)] [] S2 h2 n2 ∧ Inv L x S2 h2 n2 (c + 1) := by
  have b := v.bx
  have A : ag L x 137 243 [(0, h (-2) (i + 1)), (0, h (-2) (i + 2)), (0, h (-2) (i + 3))] 0 c := a_act hc
  obtain ⟨y, S1, h1, n1, S2, h2, n2, e1, e2, V, s2, g2, t0, t1, l0, s0⟩ := ag_run A d v
  refine ⟨S2, h2, n2, ?_, V⟩
  clear v hc A V b
  simp (disch := omega) only [mx_vt_h, mx_vt_m, mx_cmp_0, mx_cmp_1, mx_cmp_2, mx_cmp_3, mx_cmp_4, mx_u_s, mx_u_a, mx_u_k, mx_z_a, mx_z_s, mx_t_a, mx_t_2, mx_t_1, mx_t_0, mx_gd_T, mx_gd_t, mx_br_T, mx_br_F, mx_br_t, mx_br_f, mx_br_n, mx_cl_T, mx_cl_t, mx_re_T, mx_re_t, mx_rt_v, mx_rt_0, mx_cu_t, mx_w_id, mx_l_id, mx_b_0, mx_b_1, mx_b_r, mx_nl_0, mx_nl_1, mx_nl_2, mx_nl_n, mx_nl_l, mx_sw_n, mx_sw_h, mx_sw_m, Int.reduceLE, Int.reduceLT, Int.reduceEq, Int.reduceAdd, Int.reduceSub, Int.reduceMul, Int.reduceNeg, Int.reduceToNat, and_self, true_and, and_true, false_and, and_false, true_or, or_true, false_or, or_false, not_true_eq_false, not_false_eq_true, eq_self, rw_L_law_15, rw_L_law_16, e1, e2, s2, g2, t0, t1, l0, s0]
theorem w_39 (v : Inv L x S h n c) (hc : c ≤ 599) (L2 : (L : Int) ≤ 3072) (i0 : 0 ≤ i ∧ i + 6 ≤ L) : ∃ S2 h2 n2, mx_ex (d + 13) 257 1581 [some (2, -2), some (2, 0), some (2, 38), some (0, i)] [] S h n = mx_ex (d + 13) 257 18 [some (2, -2), some (2, 0), some (2, 38), some (0, i + 6)] [] S2 h2 n2 ∧ Inv L x S2 h2 n2 (c + 1) := by
  have b := v.bx
  have A : ag L x 138 244 [(0, h (-2) (i + 1))] 0 c := a_trace hc
  obtain ⟨y, S1, h1, n1, S2, h2, n2, e1, e2, V, s2, g2, t0, t1, l0, s0⟩ := ag_run A d v
  refine ⟨S2, h2, n2, ?_, V⟩
  clear v hc A V b
  simp (disch := omega) only [mx_vt_h, mx_vt_m, mx_cmp_0, mx_cmp_1, mx_cmp_2, mx_cmp_3, mx_cmp_4, mx_u_s, mx_u_a, mx_u_k, mx_z_a, mx_z_s, mx_t_a, mx_t_2, mx_t_1, mx_t_0, mx_gd_T, mx_gd_t, mx_br_T, mx_br_F, mx_br_t, mx_br_f, mx_br_n, mx_cl_T, mx_cl_t, mx_re_T, mx_re_t, mx_rt_v, mx_rt_0, mx_cu_t, mx_w_id, mx_l_id, mx_b_0, mx_b_1, mx_b_r, mx_nl_0, mx_nl_1, mx_nl_2, mx_nl_n, mx_nl_l, mx_sw_n, mx_sw_h, mx_sw_m, Int.reduceLE, Int.reduceLT, Int.reduceEq, Int.reduceAdd, Int.reduceSub, Int.reduceMul, Int.reduceNeg, Int.reduceToNat, and_self, true_and, and_true, false_and, and_false, true_or, or_true, false_or, or_false, not_true_eq_false, not_false_eq_true, eq_self, rw_L_law_16, e1, e2, s2, g2, t0, t1, l0, s0]
theorem w_40 (v : Inv L x S h n c) (hc : c ≤ 599) (L2 : (L : Int) ≤ 3072) (i0 : 0 ≤ i ∧ i + 6 ≤ L) : ∃ S2 h2 n2, mx_ex (d + 13) 257 1604 [some (2, -2), some (2, 0), some (2, 38), some (0, i)] [] S h n = mx_ex (d + 13) 257 18 [some (2, -2), some (2, 0), some (2, 38), some (0, i + 6)] [] S2 h2 n2 ∧ Inv L x S2 h2 n2 (c + 1) := by
  have b := v.bx
  have A : ag L x 139 245 [(0, h (-2) (i + 1))] 0 c := a_many hc
  obtain ⟨y, S1, h1, n1, S2, h2, n2, e1, e2, V, s2, g2, t0, t1, l0, s0⟩ := ag_run A d v
  refine ⟨S2, h2, n2, ?_, V⟩
  clear v hc A V b
  simp (disch := omega) only [mx_vt_h, mx_vt_m, mx_cmp_0, mx_cmp_1, mx_cmp_2, mx_cmp_3, mx_cmp_4, mx_u_s, mx_u_a, mx_u_k, mx_z_a, mx_z_s, mx_t_a, mx_t_2, mx_t_1, mx_t_0, mx_gd_T, mx_gd_t, mx_br_T, mx_br_F, mx_br_t, mx_br_f, mx_br_n, mx_cl_T, mx_cl_t, mx_re_T, mx_re_t, mx_rt_v, mx_rt_0, mx_cu_t, mx_w_id, mx_l_id, mx_b_0, mx_b_1, mx_b_r, mx_nl_0, mx_nl_1, mx_nl_2, mx_nl_n, mx_nl_l, mx_sw_n, mx_sw_h, mx_sw_m, Int.reduceLE, Int.reduceLT, Int.reduceEq, Int.reduceAdd, Int.reduceSub, Int.reduceMul, Int.reduceNeg, Int.reduceToNat, and_self, true_and, and_true, false_and, and_false, true_or, or_true, false_or, or_false, not_true_eq_false, not_false_eq_true, eq_self, rw_L_law_16, e1, e2, s2, g2, t0, t1, l0, s0]
theorem w_41 (v : Inv L x S h n c) (hc : c ≤ 599) (L2 : (L : Int) ≤ 3072) (i0 : 0 ≤ i ∧ i + 6 ≤ L) : ∃ S2 h2 n2, mx_ex (d + 13) 257 1627 [some (2, -2), some (2, 0), some (2, 38), some (0, i)] [] S h n = mx_ex (d + 13) 257 18 [some (2, -2), some (2, 0), some (2, 38), some (0, i + 6)] [] S2 h2 n2 ∧ Inv L x S2 h2 n2 (c + 1) := by
  have b := v.bx
  have A : ag L x 140 246 [] 0 c := a_keep hc
  obtain ⟨y, S1, h1, n1, S2, h2, n2, e1, e2, V, s2, g2, t0, t1, l0, s0⟩ := ag_run A d v
  refine ⟨S2, h2, n2, ?_, V⟩
  clear v hc A V b
  simp (disch := omega) only [mx_vt_h, mx_vt_m, mx_cmp_0, mx_cmp_1, mx_cmp_2, mx_cmp_3, mx_cmp_4, mx_u_s, mx_u_a, mx_u_k, mx_z_a, mx_z_s, mx_t_a, mx_t_2, mx_t_1, mx_t_0, mx_gd_T, mx_gd_t, mx_br_T, mx_br_F, mx_br_t, mx_br_f, mx_br_n, mx_cl_T, mx_cl_t, mx_re_T, mx_re_t, mx_rt_v, mx_rt_0, mx_cu_t, mx_w_id, mx_l_id, mx_b_0, mx_b_1, mx_b_r, mx_nl_0, mx_nl_1, mx_nl_2, mx_nl_n, mx_nl_l, mx_sw_n, mx_sw_h, mx_sw_m, Int.reduceLE, Int.reduceLT, Int.reduceEq, Int.reduceAdd, Int.reduceSub, Int.reduceMul, Int.reduceNeg, Int.reduceToNat, and_self, true_and, and_true, false_and, and_false, true_or, or_true, false_or, or_false, not_true_eq_false, not_false_eq_true, eq_self, rw_L_law_16, e1, e2, s2, g2, t0, t1, l0, s0]
theorem w_42 (v : Inv L x S h n c) (hc : c ≤ 599) (L2 : (L : Int) ≤ 3072) (i0 : 0 ≤ i ∧ i + 6 ≤ L) : ∃ S2 h2 n2, mx_ex (d + 13) 257 1640 [some (2, -2), some (2, 0), some (2, 38), some (0, i)] [] S h n = mx_ex (d + 13) 257 18 [some (2, -2), some (2, 0), some (2, 38), some (0, i + 6)] [] S2 h2 n2 ∧ Inv L x S2 h2 n2 (c + 1) := by
  have b := v.bx
  have A : ag L x 141 247 [] 0 c := a_again hc
  obtain ⟨y, S1, h1, n1, S2, h2, n2, e1, e2, V, s2, g2, t0, t1, l0, s0⟩ := ag_run A d v
  refine ⟨S2, h2, n2, ?_, V⟩
  clear v hc A V b
  simp (disch := omega) only [mx_vt_h, mx_vt_m, mx_cmp_0, mx_cmp_1, mx_cmp_2, mx_cmp_3, mx_cmp_4, mx_u_s, mx_u_a, mx_u_k, mx_z_a, mx_z_s, mx_t_a, mx_t_2, mx_t_1, mx_t_0, mx_gd_T, mx_gd_t, mx_br_T, mx_br_F, mx_br_t, mx_br_f, mx_br_n, mx_cl_T, mx_cl_t, mx_re_T, mx_re_t, mx_rt_v, mx_rt_0, mx_cu_t, mx_w_id, mx_l_id, mx_b_0, mx_b_1, mx_b_r, mx_nl_0, mx_nl_1, mx_nl_2, mx_nl_n, mx_nl_l, mx_sw_n, mx_sw_h, mx_sw_m, Int.reduceLE, Int.reduceLT, Int.reduceEq, Int.reduceAdd, Int.reduceSub, Int.reduceMul, Int.reduceNeg, Int.reduceToNat, and_self, true_and, and_true, false_and, and_false, true_or, or_true, false_or, or_false, not_true_eq_false, not_false_eq_true, eq_self, rw_L_law_16, e1, e2, s2, g2, t0, t1, l0, s0]
end
