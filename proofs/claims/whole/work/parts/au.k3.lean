/-! The law's calls -/
section
variable {L : Nat} {x : Nat → Int32} {S h : mx_H} {n c i : Int} {d : Nat}
theorem Inv.bx (v : Inv L x S h n c) (j : Int) : -2147483648 ≤ h (-2) j ∧ h (-2) j ≤ 2147483647 := by
  rw [v.g (-2) (by decide)]; exact st_32 x (-2) j
theorem Inv.nt (v : Inv L x S h n c) : ng_T S := by
  intro a z
  rw [v.s.n a z]
  rcases st_tag L a with ⟨h, _⟩ | ⟨h, _⟩ | ⟨h, _⟩ | ⟨h, _⟩ <;> omega
theorem ag_run {m1 m2 t : Nat} {as : List mx_V} (A : ag L x m1 m2 as t c) (d : Nat) (v : Inv L x S h n c) : ∃ y S1 h1 n1 S2 h2 n2, mx_M (d + 12) m1 ((2, 0) :: as) S h n = some (some (t, y), S1, h1, n1) ∧ mx_M (d + 12) m2 ((2, 38) :: as) S1 h1 n1 = some (some (t, y), S2, h2, n2) ∧ Inv L x S2 h2 n2 (c + 1) ∧ S1 (-2) = S (-2) ∧ h1 (-2) = h (-2) ∧ S 0 (-2) = 7 ∧ S1 38 (-2) = 13 ∧ S (-2) (-1) = L ∧ S (-2) (-2) = 24 := by
  obtain ⟨v1, S1, h1, n1, e1, v2, S2, h2, n2, e2, ⟨y, q1, q2⟩, V⟩ := A d S h n v
  subst q1 q2
  obtain ⟨f, r⟩ := (mx_ex_iff mx_cd mx_ml _ _ _ _ _ _ _ _ _).mp e1
  have vn := v.n
  have N := ng_rn st_ng _ _ _ _ _ _ _ _ _ _ _ _ _ r (by omega) v.nt
  refine ⟨y, S1, h1, n1, S2, h2, n2, e1, e2, V, (N.1 _ (by decide)).1, (N.1 _ (by decide)).2, v.s.x.e.1, ?_, ?_, ?_⟩
  · rw [N.2 38 (by omega)]; exact v.s.m.e.1
  · rw [v.s.n (-2) (by decide)]; rfl
  · rw [v.s.n (-2) (by decide)]; rfl
theorem w_0 (v : Inv L x S h n c) (hc : c ≤ 599) (L2 : (L : Int) ≤ 3072) (i0 : 0 ≤ i ∧ i + 6 ≤ L) : ∃ S2 h2 n2, mx_ex (d + 13) 257 220 [some (2, -2), some (2, 0), some (2, 38), some (0, i)] [] S h n = mx_ex (d + 13) 257 18 [some (2, -2), some (2, 0), some (2, 38), some (0, i + 6)] [] S2 h2 n2 ∧ Inv L x S2 h2 n2 (c + 1) := by
  have b := v.bx
  have A : ag L x 99 163 [(1, ml_or (ml_shl (h (-2) (i + 1)) 32) (ml_and (h (-2) (i + 2)) 4294967295)), (0, h (-2) (i + 3))] 0 c := a_feed hc
  obtain ⟨y, S1, h1, n1, S2, h2, n2, e1, e2, V, s2, g2, t0, t1, l0, s0⟩ := ag_run A d v
  refine ⟨S2, h2, n2, ?_, V⟩
  clear v hc A V b
  simp (disch := omega) only [mx_vt_h, mx_vt_m, mx_cmp_0, mx_cmp_1, mx_cmp_2, mx_cmp_3, mx_cmp_4, mx_u_s, mx_u_a, mx_u_k, mx_z_a, mx_z_s, mx_t_a, mx_t_2, mx_t_1, mx_t_0, mx_gd_T, mx_gd_t, mx_br_T, mx_br_F, mx_br_t, mx_br_f, mx_br_n, mx_cl_T, mx_cl_t, mx_re_T, mx_re_t, mx_rt_v, mx_rt_0, mx_cu_t, mx_w_id, mx_l_id, mx_b_0, mx_b_1, mx_b_r, mx_nl_0, mx_nl_1, mx_nl_2, mx_nl_n, mx_nl_l, mx_sw_n, mx_sw_h, mx_sw_m, Int.reduceLE, Int.reduceLT, Int.reduceEq, Int.reduceAdd, Int.reduceSub, Int.reduceMul, Int.reduceNeg, Int.reduceToNat, and_self, true_and, and_true, false_and, and_false, true_or, or_true, false_or, or_false, not_true_eq_false, not_false_eq_true, eq_self, rw_L_law, rw_L_law_1, rw_L_law_16, e1, e2, s2, g2, t0, t1, l0, s0]
theorem w_1 (v : Inv L x S h n c) (hc : c ≤ 599) (L2 : (L : Int) ≤ 3072) (i0 : 0 ≤ i ∧ i + 6 ≤ L) : ∃ S2 h2 n2, mx_ex (d + 13) 257 283 [some (2, -2), some (2, 0), some (2, 38), some (0, i)] [] S h n = mx_ex (d + 13) 257 18 [some (2, -2), some (2, 0), some (2, 38), some (0, i + 6)] [] S2 h2 n2 ∧ Inv L x S2 h2 n2 (c + 1) := by
  have b := v.bx
  have A : ag L x 100 174 [] 0 c := a_valley hc
  obtain ⟨y, S1, h1, n1, S2, h2, n2, e1, e2, V, s2, g2, t0, t1, l0, s0⟩ := ag_run A d v
  refine ⟨S2, h2, n2, ?_, V⟩
  clear v hc A V b
  simp (disch := omega) only [mx_vt_h, mx_vt_m, mx_cmp_0, mx_cmp_1, mx_cmp_2, mx_cmp_3, mx_cmp_4, mx_u_s, mx_u_a, mx_u_k, mx_z_a, mx_z_s, mx_t_a, mx_t_2, mx_t_1, mx_t_0, mx_gd_T, mx_gd_t, mx_br_T, mx_br_F, mx_br_t, mx_br_f, mx_br_n, mx_cl_T, mx_cl_t, mx_re_T, mx_re_t, mx_rt_v, mx_rt_0, mx_cu_t, mx_w_id, mx_l_id, mx_b_0, mx_b_1, mx_b_r, mx_nl_0, mx_nl_1, mx_nl_2, mx_nl_n, mx_nl_l, mx_sw_n, mx_sw_h, mx_sw_m, Int.reduceLE, Int.reduceLT, Int.reduceEq, Int.reduceAdd, Int.reduceSub, Int.reduceMul, Int.reduceNeg, Int.reduceToNat, and_self, true_and, and_true, false_and, and_false, true_or, or_true, false_or, or_false, not_true_eq_false, not_false_eq_true, eq_self, rw_L_law_1, rw_L_law_16, e1, e2, s2, g2, t0, t1, l0, s0]
theorem w_2 (v : Inv L x S h n c) (hc : c ≤ 599) (L2 : (L : Int) ≤ 3072) (i0 : 0 ≤ i ∧ i + 6 ≤ L) : ∃ S2 h2 n2, mx_ex (d + 13) 257 296 [some (2, -2), some (2, 0), some (2, 38), some (0, i)] [] S h n = mx_ex (d + 13) 257 18 [some (2, -2), some (2, 0), some (2, 38), some (0, i + 6)] [] S2 h2 n2 ∧ Inv L x S2 h2 n2 (c + 1) := by
  have b := v.bx
  have A : ag L x 101 175 [(0, h (-2) (i + 1)), (0, h (-2) (i + 2)), (0, h (-2) (i + 3))] 0 c := a_evening hc
  obtain ⟨y, S1, h1, n1, S2, h2, n2, e1, e2, V, s2, g2, t0, t1, l0, s0⟩ := ag_run A d v
  refine ⟨S2, h2, n2, ?_, V⟩
  clear v hc A V b
  simp (disch := omega) only [mx_vt_h, mx_vt_m, mx_cmp_0, mx_cmp_1, mx_cmp_2, mx_cmp_3, mx_cmp_4, mx_u_s, mx_u_a, mx_u_k, mx_z_a, mx_z_s, mx_t_a, mx_t_2, mx_t_1, mx_t_0, mx_gd_T, mx_gd_t, mx_br_T, mx_br_F, mx_br_t, mx_br_f, mx_br_n, mx_cl_T, mx_cl_t, mx_re_T, mx_re_t, mx_rt_v, mx_rt_0, mx_cu_t, mx_w_id, mx_l_id, mx_b_0, mx_b_1, mx_b_r, mx_nl_0, mx_nl_1, mx_nl_2, mx_nl_n, mx_nl_l, mx_sw_n, mx_sw_h, mx_sw_m, Int.reduceLE, Int.reduceLT, Int.reduceEq, Int.reduceAdd, Int.reduceSub, Int.reduceMul, Int.reduceNeg, Int.reduceToNat, and_self, true_and, and_true, false_and, and_false, true_or, or_true, false_or, or_false, not_true_eq_false, not_false_eq_true, eq_self, rw_L_law_1, rw_L_law_16, e1, e2, s2, g2, t0, t1, l0, s0]
theorem w_3 (v : Inv L x S h n c) (hc : c ≤ 599) (L2 : (L : Int) ≤ 3072) (i0 : 0 ≤ i ∧ i + 6 ≤ L) : ∃ S2 h2 n2, mx_ex (d + 13) 257 339 [some (2, -2), some (2, 0), some (2, 38), some (0, i)] [] S h n = mx_ex (d + 13) 257 18 [some (2, -2), some (2, 0), some (2, 38), some (0, i + 6)] [] S2 h2 n2 ∧ Inv L x S2 h2 n2 (c + 1) := by
  have b := v.bx
  have A : ag L x 102 176 [(0, h (-2) (i + 1)), (0, h (-2) (i + 2))] 0 c := a_eveningOf hc
  obtain ⟨y, S1, h1, n1, S2, h2, n2, e1, e2, V, s2, g2, t0, t1, l0, s0⟩ := ag_run A d v
  refine ⟨S2, h2, n2, ?_, V⟩
  clear v hc A V b
  simp (disch := omega) only [mx_vt_h, mx_vt_m, mx_cmp_0, mx_cmp_1, mx_cmp_2, mx_cmp_3, mx_cmp_4, mx_u_s, mx_u_a, mx_u_k, mx_z_a, mx_z_s, mx_t_a, mx_t_2, mx_t_1, mx_t_0, mx_gd_T, mx_gd_t, mx_br_T, mx_br_F, mx_br_t, mx_br_f, mx_br_n, mx_cl_T, mx_cl_t, mx_re_T, mx_re_t, mx_rt_v, mx_rt_0, mx_cu_t, mx_w_id, mx_l_id, mx_b_0, mx_b_1, mx_b_r, mx_nl_0, mx_nl_1, mx_nl_2, mx_nl_n, mx_nl_l, mx_sw_n, mx_sw_h, mx_sw_m, Int.reduceLE, Int.reduceLT, Int.reduceEq, Int.reduceAdd, Int.reduceSub, Int.reduceMul, Int.reduceNeg, Int.reduceToNat, and_self, true_and, and_true, false_and, and_false, true_or, or_true, false_or, or_false, not_true_eq_false, not_false_eq_true, eq_self, rw_L_law_1, rw_L_law_2, rw_L_law_16, e1, e2, s2, g2, t0, t1, l0, s0]
theorem w_4 (v : Inv L x S h n c) (hc : c ≤ 599) (L2 : (L : Int) ≤ 3072) (i0 : 0 ≤ i ∧ i + 6 ≤ L) : ∃ S2 h2 n2, mx_ex (d + 13) 257 372 [some (2, -2), some (2, 0), some (2, 38), some (0, i)] [] S h n = mx_ex (d + 13) 257 18 [some (2, -2), some (2, 0), some (2, 38), some (0, i + 6)] [] S2 h2 n2 ∧ Inv L x S2 h2 n2 (c + 1) := by
  have b := v.bx
  have A : ag L x 103 177 [(0, h (-2) (i + 1)), (0, h (-2) (i + 2)), (0, h (-2) (i + 3)), (0, h (-2) (i + 4)), (0, h (-2) (i + 5))] 0 c := a_note hc
  obtain ⟨y, S1, h1, n1, S2, h2, n2, e1, e2, V, s2, g2, t0, t1, l0, s0⟩ := ag_run A d v
  refine ⟨S2, h2, n2, ?_, V⟩
  clear v hc A V b
  simp (disch := omega) only [mx_vt_h, mx_vt_m, mx_cmp_0, mx_cmp_1, mx_cmp_2, mx_cmp_3, mx_cmp_4, mx_u_s, mx_u_a, mx_u_k, mx_z_a, mx_z_s, mx_t_a, mx_t_2, mx_t_1, mx_t_0, mx_gd_T, mx_gd_t, mx_br_T, mx_br_F, mx_br_t, mx_br_f, mx_br_n, mx_cl_T, mx_cl_t, mx_re_T, mx_re_t, mx_rt_v, mx_rt_0, mx_cu_t, mx_w_id, mx_l_id, mx_b_0, mx_b_1, mx_b_r, mx_nl_0, mx_nl_1, mx_nl_2, mx_nl_n, mx_nl_l, mx_sw_n, mx_sw_h, mx_sw_m, Int.reduceLE, Int.reduceLT, Int.reduceEq, Int.reduceAdd, Int.reduceSub, Int.reduceMul, Int.reduceNeg, Int.reduceToNat, and_self, true_and, and_true, false_and, and_false, true_or, or_true, false_or, or_false, not_true_eq_false, not_false_eq_true, eq_self, rw_L_law_2, rw_L_law_16, e1, e2, s2, g2, t0, t1, l0, s0]
theorem w_5 (v : Inv L x S h n c) (hc : c ≤ 599) (L2 : (L : Int) ≤ 3072) (i0 : 0 ≤ i ∧ i + 6 ≤ L) : ∃ S2 h2 n2, mx_ex (d + 13) 257 435 [some (2, -2), some (2, 0), some (2, 38), some (0, i)] [] S h n = mx_ex (d + 13) 257 18 [some (2, -2), some (2, 0), some (2, 38), some (0, i + 6)] [] S2 h2 n2 ∧ Inv L x S2 h2 n2 (c + 1) := by
  have b := v.bx
  have A : ag L x 104 178 [(0, h (-2) (i + 1)), (0, h (-2) (i + 2))] 0 c := a_noteOf hc (b _).1 (b _).2
  obtain ⟨y, S1, h1, n1, S2, h2, n2, e1, e2, V, s2, g2, t0, t1, l0, s0⟩ := ag_run A d v
  refine ⟨S2, h2, n2, ?_, V⟩
  clear v hc A V b
  simp (disch := omega) only [mx_vt_h, mx_vt_m, mx_cmp_0, mx_cmp_1, mx_cmp_2, mx_cmp_3, mx_cmp_4, mx_u_s, mx_u_a, mx_u_k, mx_z_a, mx_z_s, mx_t_a, mx_t_2, mx_t_1, mx_t_0, mx_gd_T, mx_gd_t, mx_br_T, mx_br_F, mx_br_t, mx_br_f, mx_br_n, mx_cl_T, mx_cl_t, mx_re_T, mx_re_t, mx_rt_v, mx_rt_0, mx_cu_t, mx_w_id, mx_l_id, mx_b_0, mx_b_1, mx_b_r, mx_nl_0, mx_nl_1, mx_nl_2, mx_nl_n, mx_nl_l, mx_sw_n, mx_sw_h, mx_sw_m, Int.reduceLE, Int.reduceLT, Int.reduceEq, Int.reduceAdd, Int.reduceSub, Int.reduceMul, Int.reduceNeg, Int.reduceToNat, and_self, true_and, and_true, false_and, and_false, true_or, or_true, false_or, or_false, not_true_eq_false, not_false_eq_true, eq_self, rw_L_law_2, rw_L_law_3, rw_L_law_16, e1, e2, s2, g2, t0, t1, l0, s0]
theorem w_6 (v : Inv L x S h n c) (hc : c ≤ 599) (L2 : (L : Int) ≤ 3072) (i0 : 0 ≤ i ∧ i + 6 ≤ L) : ∃ S2 h2 n2, mx_ex (d + 13) 257 468 [some (2, -2), some (2, 0), some (2, 38), some (0, i)] [] S h n = mx_ex (d + 13) 257 18 [some (2, -2), some (2, 0), some (2, 38), some (0, i + 6)] [] S2 h2 n2 ∧ Inv L x S2 h2 n2 (c + 1) := by
  have b := v.bx
  have A : ag L x 105 180 [(0, h (-2) (i + 1)), (0, h (-2) (i + 2)), (0, h (-2) (i + 3))] 0 c := a_alter hc
  obtain ⟨y, S1, h1, n1, S2, h2, n2, e1, e2, V, s2, g2, t0, t1, l0, s0⟩ := ag_run A d v
  refine ⟨S2, h2, n2, ?_, V⟩
  clear v hc A V b
  simp (disch := omega) only [mx_vt_h, mx_vt_m, mx_cmp_0, mx_cmp_1, mx_cmp_2, mx_cmp_3, mx_cmp_4, mx_u_s, mx_u_a, mx_u_k, mx_z_a, mx_z_s, mx_t_a, mx_t_2, mx_t_1, mx_t_0, mx_gd_T, mx_gd_t, mx_br_T, mx_br_F, mx_br_t, mx_br_f, mx_br_n, mx_cl_T, mx_cl_t, mx_re_T, mx_re_t, mx_rt_v, mx_rt_0, mx_cu_t, mx_w_id, mx_l_id, mx_b_0, mx_b_1, mx_b_r, mx_nl_0, mx_nl_1, mx_nl_2, mx_nl_n, mx_nl_l, mx_sw_n, mx_sw_h, mx_sw_m, Int.reduceLE, Int.reduceLT, Int.reduceEq, Int.reduceAdd, Int.reduceSub, Int.reduceMul, Int.reduceNeg, Int.reduceToNat, and_self, true_and, and_true, false_and, and_false, true_or, or_true, false_or, or_false, not_true_eq_false, not_false_eq_true, eq_self, rw_L_law_3, rw_L_law_16, e1, e2, s2, g2, t0, t1, l0, s0]
theorem w_7 (v : Inv L x S h n c) (hc : c ≤ 599) (L2 : (L : Int) ≤ 3072) (i0 : 0 ≤ i ∧ i + 6 ≤ L) : ∃ S2 h2 n2, mx_ex (d + 13) 257 511 [some (2, -2), some (2, 0), some (2, 38), some (0, i)] [] S h n = mx_ex (d + 13) 257 18 [some (2, -2), some (2, 0), some (2, 38), some (0, i + 6)] [] S2 h2 n2 ∧ Inv L x S2 h2 n2 (c + 1) := by
  have b := v.bx
  have A : ag L x 106 181 [(0, h (-2) (i + 1)), (0, h (-2) (i + 2))] 0 c := a_move hc
  obtain ⟨y, S1, h1, n1, S2, h2, n2, e1, e2, V, s2, g2, t0, t1, l0, s0⟩ := ag_run A d v
  refine ⟨S2, h2, n2, ?_, V⟩
  clear v hc A V b
  simp (disch := omega) only [mx_vt_h, mx_vt_m, mx_cmp_0, mx_cmp_1, mx_cmp_2, mx_cmp_3, mx_cmp_4, mx_u_s, mx_u_a, mx_u_k, mx_z_a, mx_z_s, mx_t_a, mx_t_2, mx_t_1, mx_t_0, mx_gd_T, mx_gd_t, mx_br_T, mx_br_F, mx_br_t, mx_br_f, mx_br_n, mx_cl_T, mx_cl_t, mx_re_T, mx_re_t, mx_rt_v, mx_rt_0, mx_cu_t, mx_w_id, mx_l_id, mx_b_0, mx_b_1, mx_b_r, mx_nl_0, mx_nl_1, mx_nl_2, mx_nl_n, mx_nl_l, mx_sw_n, mx_sw_h, mx_sw_m, Int.reduceLE, Int.reduceLT, Int.reduceEq, Int.reduceAdd, Int.reduceSub, Int.reduceMul, Int.reduceNeg, Int.reduceToNat, and_self, true_and, and_true, false_and, and_false, true_or, or_true, false_or, or_false, not_true_eq_false, not_false_eq_true, eq_self, rw_L_law_3, rw_L_law_4, rw_L_law_16, e1, e2, s2, g2, t0, t1, l0, s0]
theorem w_8 (v : Inv L x S h n c) (hc : c ≤ 599) (L2 : (L : Int) ≤ 3072) (i0 : 0 ≤ i ∧ i + 6 ≤ L) : ∃ S2 h2 n2, mx_ex (d + 13) 257 544 [some (2, -2), some (2, 0), some (2, 38), some (0, i)] [] S h n = mx_ex (d + 13) 257 18 [some (2, -2), some (2, 0), some (2, 38), some (0, i + 6)] [] S2 h2 n2 ∧ Inv L x S2 h2 n2 (c + 1) := by
  have b := v.bx
  have A : ag L x 107 185 [(0, h (-2) (i + 1)), (0, h (-2) (i + 2))] 1 c := a_worth hc
  obtain ⟨y, S1, h1, n1, S2, h2, n2, e1, e2, V, s2, g2, t0, t1, l0, s0⟩ := ag_run A d v
  refine ⟨S2, h2, n2, ?_, V⟩
  clear v hc A V b
  simp (disch := omega) only [mx_vt_h, mx_vt_m, mx_cmp_0, mx_cmp_1, mx_cmp_2, mx_cmp_3, mx_cmp_4, mx_u_s, mx_u_a, mx_u_k, mx_z_a, mx_z_s, mx_t_a, mx_t_2, mx_t_1, mx_t_0, mx_gd_T, mx_gd_t, mx_br_T, mx_br_F, mx_br_t, mx_br_f, mx_br_n, mx_cl_T, mx_cl_t, mx_re_T, mx_re_t, mx_rt_v, mx_rt_0, mx_cu_t, mx_w_id, mx_l_id, mx_b_0, mx_b_1, mx_b_r, mx_nl_0, mx_nl_1, mx_nl_2, mx_nl_n, mx_nl_l, mx_sw_n, mx_sw_h, mx_sw_m, Int.reduceLE, Int.reduceLT, Int.reduceEq, Int.reduceAdd, Int.reduceSub, Int.reduceMul, Int.reduceNeg, Int.reduceToNat, and_self, true_and, and_true, false_and, and_false, true_or, or_true, false_or, or_false, not_true_eq_false, not_false_eq_true, eq_self, rw_L_law_4, rw_L_law_16, e1, e2, s2, g2, t0, t1, l0, s0]
theorem w_9 (v : Inv L x S h n c) (hc : c ≤ 599) (L2 : (L : Int) ≤ 3072) (i0 : 0 ≤ i ∧ i + 6 ≤ L) : ∃ S2 h2 n2, mx_ex (d + 13) 257 578 [some (2, -2), some (2, 0), some (2, 38), some (0, i)] [] S h n = mx_ex (d + 13) 257 18 [some (2, -2), some (2, 0), some (2, 38), some (0, i + 6)] [] S2 h2 n2 ∧ Inv L x S2 h2 n2 (c + 1) := by
  have b := v.bx
  have A : ag L x 108 186 [(0, h (-2) (i + 1))] 0 c := a_can hc
  obtain ⟨y, S1, h1, n1, S2, h2, n2, e1, e2, V, s2, g2, t0, t1, l0, s0⟩ := ag_run A d v
  refine ⟨S2, h2, n2, ?_, V⟩
  clear v hc A V b
  simp (disch := omega) only [mx_vt_h, mx_vt_m, mx_cmp_0, mx_cmp_1, mx_cmp_2, mx_cmp_3, mx_cmp_4, mx_u_s, mx_u_a, mx_u_k, mx_z_a, mx_z_s, mx_t_a, mx_t_2, mx_t_1, mx_t_0, mx_gd_T, mx_gd_t, mx_br_T, mx_br_F, mx_br_t, mx_br_f, mx_br_n, mx_cl_T, mx_cl_t, mx_re_T, mx_re_t, mx_rt_v, mx_rt_0, mx_cu_t, mx_w_id, mx_l_id, mx_b_0, mx_b_1, mx_b_r, mx_nl_0, mx_nl_1, mx_nl_2, mx_nl_n, mx_nl_l, mx_sw_n, mx_sw_h, mx_sw_m, Int.reduceLE, Int.reduceLT, Int.reduceEq, Int.reduceAdd, Int.reduceSub, Int.reduceMul, Int.reduceNeg, Int.reduceToNat, and_self, true_and, and_true, false_and, and_false, true_or, or_true, false_or, or_false, not_true_eq_false, not_false_eq_true, eq_self, rw_L_law_4, rw_L_law_16, e1, e2, s2, g2, t0, t1, l0, s0]
theorem w_10 (v : Inv L x S h n c) (hc : c ≤ 599) (L2 : (L : Int) ≤ 3072) (i0 : 0 ≤ i ∧ i + 6 ≤ L) : ∃ S2 h2 n2, mx_ex (d + 13) 257 601 [some (2, -2), some (2, 0), some (2, 38), some (0, i)] [] S h n = mx_ex (d + 13) 257 18 [some (2, -2), some (2, 0), some (2, 38), some (0, i + 6)] [] S2 h2 n2 ∧ Inv L x S2 h2 n2 (c + 1) := by
  have b := v.bx
  have A : ag L x 109 188 [(0, h (-2) (i + 1)), (0, h (-2) (i + 2)), (0, h (-2) (i + 3)), (0, h (-2) (i + 4))] 0 c := a_line hc
  obtain ⟨y, S1, h1, n1, S2, h2, n2, e1, e2, V, s2, g2, t0, t1, l0, s0⟩ := ag_run A d v
  refine ⟨S2, h2, n2, ?_, V⟩
  clear v hc A V b
  simp (disch := omega) only [mx_vt_h, mx_vt_m, mx_cmp_0, mx_cmp_1, mx_cmp_2, mx_cmp_3, mx_cmp_4, mx_u_s, mx_u_a, mx_u_k, mx_z_a, mx_z_s, mx_t_a, mx_t_2, mx_t_1, mx_t_0, mx_gd_T, mx_gd_t, mx_br_T, mx_br_F, mx_br_t, mx_br_f, mx_br_n, mx_cl_T, mx_cl_t, mx_re_T, mx_re_t, mx_rt_v, mx_rt_0, mx_cu_t, mx_w_id, mx_l_id, mx_b_0, mx_b_1, mx_b_r, mx_nl_0, mx_nl_1, mx_nl_2, mx_nl_n, mx_nl_l, mx_sw_n, mx_sw_h, mx_sw_m, Int.reduceLE, Int.reduceLT, Int.reduceEq, Int.reduceAdd, Int.reduceSub, Int.reduceMul, Int.reduceNeg, Int.reduceToNat, and_self, true_and, and_true, false_and, and_false, true_or, or_true, false_or, or_false, not_true_eq_false, not_false_eq_true, eq_self, rw_L_law_4, rw_L_law_5, rw_L_law_16, e1, e2, s2, g2, t0, t1, l0, s0]
theorem w_11 (v : Inv L x S h n c) (hc : c ≤ 599) (L2 : (L : Int) ≤ 3072) (i0 : 0 ≤ i ∧ i + 6 ≤ L) : ∃ S2 h2 n2, mx_ex (d + 13) 257 654 [some (2, -2), some (2, 0), some (2, 38), some (0, i)] [] S h n = mx_ex (d + 13) 257 18 [some (2, -2), some (2, 0), some (2, 38), some (0, i + 6)] [] S2 h2 n2 ∧ Inv L x S2 h2 n2 (c + 1) := by
  have b := v.bx
  have A : ag L x 110 189 [(0, h (-2) (i + 1)), (0, h (-2) (i + 2))] 0 c := a_lineOf hc
  obtain ⟨y, S1, h1, n1, S2, h2, n2, e1, e2, V, s2, g2, t0, t1, l0, s0⟩ := ag_run A d v
  refine ⟨S2, h2, n2, ?_, V⟩
  clear v hc A V b
  simp (disch := omega) only [mx_vt_h, mx_vt_m, mx_cmp_0, mx_cmp_1, mx_cmp_2, mx_cmp_3, mx_cmp_4, mx_u_s, mx_u_a, mx_u_k, mx_z_a, mx_z_s, mx_t_a, mx_t_2, mx_t_1, mx_t_0, mx_gd_T, mx_gd_t, mx_br_T, mx_br_F, mx_br_t, mx_br_f, mx_br_n, mx_cl_T, mx_cl_t, mx_re_T, mx_re_t, mx_rt_v, mx_rt_0, mx_cu_t, mx_w_id, mx_l_id, mx_b_0, mx_b_1, mx_b_r, mx_nl_0, mx_nl_1, mx_nl_2, mx_nl_n, mx_nl_l, mx_sw_n, mx_sw_h, mx_sw_m, Int.reduceLE, Int.reduceLT, Int.reduceEq, Int.reduceAdd, Int.reduceSub, Int.reduceMul, Int.reduceNeg, Int.reduceToNat, and_self, true_and, and_true, false_and, and_false, true_or, or_true, false_or, or_false, not_true_eq_false, not_false_eq_true, eq_self, rw_L_law_5, rw_L_law_16, e1, e2, s2, g2, t0, t1, l0, s0]
theorem w_12 (v : Inv L x S h n c) (hc : c ≤ 599) (L2 : (L : Int) ≤ 3072) (i0 : 0 ≤ i ∧ i + 6 ≤ L) : ∃ S2 h2 n2, mx_ex (d + 13) 257 687 [some (2, -2), some (2, 0), some (2, 38), some (0, i)] [] S h n = mx_ex (d + 13) 257 18 [some (2, -2), some (2, 0), some (2, 38), some (0, i + 6)] [] S2 h2 n2 ∧ Inv L x S2 h2 n2 (c + 1) := by
  have b := v.bx
  have A : ag L x 111 190 [(0, h (-2) (i + 1))] 0 c := a_strike hc
  obtain ⟨y, S1, h1, n1, S2, h2, n2, e1, e2, V, s2, g2, t0, t1, l0, s0⟩ := ag_run A d v
  refine ⟨S2, h2, n2, ?_, V⟩
  clear v hc A V b
  simp (disch := omega) only [mx_vt_h, mx_vt_m, mx_cmp_0, mx_cmp_1, mx_cmp_2, mx_cmp_3, mx_cmp_4, mx_u_s, mx_u_a, mx_u_k, mx_z_a, mx_z_s, mx_t_a, mx_t_2, mx_t_1, mx_t_0, mx_gd_T, mx_gd_t, mx_br_T, mx_br_F, mx_br_t, mx_br_f, mx_br_n, mx_cl_T, mx_cl_t, mx_re_T, mx_re_t, mx_rt_v, mx_rt_0, mx_cu_t, mx_w_id, mx_l_id, mx_b_0, mx_b_1, mx_b_r, mx_nl_0, mx_nl_1, mx_nl_2, mx_nl_n, mx_nl_l, mx_sw_n, mx_sw_h, mx_sw_m, Int.reduceLE, Int.reduceLT, Int.reduceEq, Int.reduceAdd, Int.reduceSub, Int.reduceMul, Int.reduceNeg, Int.reduceToNat, and_self, true_and, and_true, false_and, and_false, true_or, or_true, false_or, or_false, not_true_eq_false, not_false_eq_true, eq_self, rw_L_law_5, rw_L_law_6, rw_L_law_16, e1, e2, s2, g2, t0, t1, l0, s0]
theorem w_13 (v : Inv L x S h n c) (hc : c ≤ 599) (L2 : (L : Int) ≤ 3072) (i0 : 0 ≤ i ∧ i + 6 ≤ L) : ∃ S2 h2 n2, mx_ex (d + 13) 257 710 [some (2, -2), some (2, 0), some (2, 38), some (0, i)] [] S h n = mx_ex (d + 13) 257 18 [some (2, -2), some (2, 0), some (2, 38), some (0, i + 6)] [] S2 h2 n2 ∧ Inv L x S2 h2 n2 (c + 1) := by
  have b := v.bx
  have A : ag L x 112 196 [] 0 c := a_worlds hc
  obtain ⟨y, S1, h1, n1, S2, h2, n2, e1, e2, V, s2, g2, t0, t1, l0, s0⟩ := ag_run A d v
  refine ⟨S2, h2, n2, ?_, V⟩
  clear v hc A V b
  simp (disch := omega) only [mx_vt_h, mx_vt_m, mx_cmp_0, mx_cmp_1, mx_cmp_2, mx_cmp_3, mx_cmp_4, mx_u_s, mx_u_a, mx_u_k, mx_z_a, mx_z_s, mx_t_a, mx_t_2, mx_t_1, mx_t_0, mx_gd_T, mx_gd_t, mx_br_T, mx_br_F, mx_br_t, mx_br_f, mx_br_n, mx_cl_T, mx_cl_t, mx_re_T, mx_re_t, mx_rt_v, mx_rt_0, mx_cu_t, mx_w_id, mx_l_id, mx_b_0, mx_b_1, mx_b_r, mx_nl_0, mx_nl_1, mx_nl_2, mx_nl_n, mx_nl_l, mx_sw_n, mx_sw_h, mx_sw_m, Int.reduceLE, Int.reduceLT, Int.reduceEq, Int.reduceAdd, Int.reduceSub, Int.reduceMul, Int.reduceNeg, Int.reduceToNat, and_self, true_and, and_true, false_and, and_false, true_or, or_true, false_or, or_false, not_true_eq_false, not_false_eq_true, eq_self, rw_L_law_6, rw_L_law_16, e1, e2, s2, g2, t0, t1, l0, s0]
theorem w_14 (v : Inv L x S h n c) (hc : c ≤ 599) (L2 : (L : Int) ≤ 3072) (i0 : 0 ≤ i ∧ i + 6 ≤ L) : ∃ S2 h2 n2, mx_ex (d + 13) 257 723 [some (2, -2), some (2, 0), some (2, 38), some (0, i)] [] S h n = mx_ex (d + 13) 257 18 [some (2, -2), some (2, 0), some (2, 38), some (0, i + 6)] [] S2 h2 n2 ∧ Inv L x S2 h2 n2 (c + 1) := by
  have b := v.bx
  have A : ag L x 113 199 [(0, h (-2) (i + 1)), (0, h (-2) (i + 2))] 0 c := a_world hc (b _).1 (b _).2
  obtain ⟨y, S1, h1, n1, S2, h2, n2, e1, e2, V, s2, g2, t0, t1, l0, s0⟩ := ag_run A d v
  refine ⟨S2, h2, n2, ?_, V⟩
  clear v hc A V b
  simp (disch := omega) only [mx_vt_h, mx_vt_m, mx_cmp_0, mx_cmp_1, mx_cmp_2, mx_cmp_3, mx_cmp_4, mx_u_s, mx_u_a, mx_u_k, mx_z_a, mx_z_s, mx_t_a, mx_t_2, mx_t_1, mx_t_0, mx_gd_T, mx_gd_t, mx_br_T, mx_br_F, mx_br_t, mx_br_f, mx_br_n, mx_cl_T, mx_cl_t, mx_re_T, mx_re_t, mx_rt_v, mx_rt_0, mx_cu_t, mx_w_id, mx_l_id, mx_b_0, mx_b_1, mx_b_r, mx_nl_0, mx_nl_1, mx_nl_2, mx_nl_n, mx_nl_l, mx_sw_n, mx_sw_h, mx_sw_m, Int.reduceLE, Int.reduceLT, Int.reduceEq, Int.reduceAdd, Int.reduceSub, Int.reduceMul, Int.reduceNeg, Int.reduceToNat, and_self, true_and, and_true, false_and, and_false, true_or, or_true, false_or, or_false, not_true_eq_false, not_false_eq_true, eq_self, rw_L_law_6, rw_L_law_16, e1, e2, s2, g2, t0, t1, l0, s0]
theorem w_15 (v : Inv L x S h n c) (hc : c ≤ 599) (L2 : (L : Int) ≤ 3072) (i0 : 0 ≤ i ∧ i + 6 ≤ L) : ∃ S2 h2 n2, mx_ex (d + 13) 257 756 [some (2, -2), some (2, 0), some (2, 38), some (0, i)] [] S h n = mx_ex (d + 13) 257 18 [some (2, -2), some (2, 0), some (2, 38), some (0, i + 6)] [] S2 h2 n2 ∧ Inv L x S2 h2 n2 (c + 1) := by
  have b := v.bx
  have A : ag L x 114 200 [(0, h (-2) (i + 1))] 0 c := a_may hc
  obtain ⟨y, S1, h1, n1, S2, h2, n2, e1, e2, V, s2, g2, t0, t1, l0, s0⟩ := ag_run A d v
  refine ⟨S2, h2, n2, ?_, V⟩
  clear v hc A V b
  simp (disch := omega) only [mx_vt_h, mx_vt_m, mx_cmp_0, mx_cmp_1, mx_cmp_2, mx_cmp_3, mx_cmp_4, mx_u_s, mx_u_a, mx_u_k, mx_z_a, mx_z_s, mx_t_a, mx_t_2, mx_t_1, mx_t_0, mx_gd_T, mx_gd_t, mx_br_T, mx_br_F, mx_br_t, mx_br_f, mx_br_n, mx_cl_T, mx_cl_t, mx_re_T, mx_re_t, mx_rt_v, mx_rt_0, mx_cu_t, mx_w_id, mx_l_id, mx_b_0, mx_b_1, mx_b_r, mx_nl_0, mx_nl_1, mx_nl_2, mx_nl_n, mx_nl_l, mx_sw_n, mx_sw_h, mx_sw_m, Int.reduceLE, Int.reduceLT, Int.reduceEq, Int.reduceAdd, Int.reduceSub, Int.reduceMul, Int.reduceNeg, Int.reduceToNat, and_self, true_and, and_true, false_and, and_false, true_or, or_true, false_or, or_false, not_true_eq_false, not_false_eq_true, eq_self, rw_L_law_6, rw_L_law_16, e1, e2, s2, g2, t0, t1, l0, s0]
theorem w_16 (v : Inv L x S h n c) (hc : c ≤ 599) (L2 : (L : Int) ≤ 3072) (i0 : 0 ≤ i ∧ i + 6 ≤ L) : ∃ S2 h2 n2, mx_ex (d + 13) 257 779 [some (2, -2), some (2, 0), some (2, 38), some (0, i)] [] S h n = mx_ex (d + 13) 257 18 [some (2, -2), some (2, 0), some (2, 38), some (0, i + 6)] [] S2 h2 n2 ∧ Inv L x S2 h2 n2 (c + 1) := by
  have b := v.bx
  have A : ag L x 115 201 [(0, h (-2) (i + 1))] 0 c := a_sure hc
  obtain ⟨y, S1, h1, n1, S2, h2, n2, e1, e2, V, s2, g2, t0, t1, l0, s0⟩ := ag_run A d v
  refine ⟨S2, h2, n2, ?_, V⟩
  clear v hc A V b
  simp (disch := omega) only [mx_vt_h, mx_vt_m, mx_cmp_0, mx_cmp_1, mx_cmp_2, mx_cmp_3, mx_cmp_4, mx_u_s, mx_u_a, mx_u_k, mx_z_a, mx_z_s, mx_t_a, mx_t_2, mx_t_1, mx_t_0, mx_gd_T, mx_gd_t, mx_br_T, mx_br_F, mx_br_t, mx_br_f, mx_br_n, mx_cl_T, mx_cl_t, mx_re_T, mx_re_t, mx_rt_v, mx_rt_0, mx_cu_t, mx_w_id, mx_l_id, mx_b_0, mx_b_1, mx_b_r, mx_nl_0, mx_nl_1, mx_nl_2, mx_nl_n, mx_nl_l, mx_sw_n, mx_sw_h, mx_sw_m, Int.reduceLE, Int.reduceLT, Int.reduceEq, Int.reduceAdd, Int.reduceSub, Int.reduceMul, Int.reduceNeg, Int.reduceToNat, and_self, true_and, and_true, false_and, and_false, true_or, or_true, false_or, or_false, not_true_eq_false, not_false_eq_true, eq_self, rw_L_law_6, rw_L_law_7, rw_L_law_16, e1, e2, s2, g2, t0, t1, l0, s0]
theorem w_17 (v : Inv L x S h n c) (hc : c ≤ 599) (L2 : (L : Int) ≤ 3072) (i0 : 0 ≤ i ∧ i + 6 ≤ L) : ∃ S2 h2 n2, mx_ex (d + 13) 257 802 [some (2, -2), some (2, 0), some (2, 38), some (0, i)] [] S h n = mx_ex (d + 13) 257 18 [some (2, -2), some (2, 0), some (2, 38), some (0, i + 6)] [] S2 h2 n2 ∧ Inv L x S2 h2 n2 (c + 1) := by
  have b := v.bx
  have A : ag L x 116 202 [(0, h (-2) (i + 1)), (0, h (-2) (i + 2)), (0, h (-2) (i + 3)), (0, h (-2) (i + 4))] 0 c := a_holds hc
  obtain ⟨y, S1, h1, n1, S2, h2, n2, e1, e2, V, s2, g2, t0, t1, l0, s0⟩ := ag_run A d v
  refine ⟨S2, h2, n2, ?_, V⟩
  clear v hc A V b
  simp (disch := omega) only [mx_vt_h, mx_vt_m, mx_cmp_0, mx_cmp_1, mx_cmp_2, mx_cmp_3, mx_cmp_4, mx_u_s, mx_u_a, mx_u_k, mx_z_a, mx_z_s, mx_t_a, mx_t_2, mx_t_1, mx_t_0, mx_gd_T, mx_gd_t, mx_br_T, mx_br_F, mx_br_t, mx_br_f, mx_br_n, mx_cl_T, mx_cl_t, mx_re_T, mx_re_t, mx_rt_v, mx_rt_0, mx_cu_t, mx_w_id, mx_l_id, mx_b_0, mx_b_1, mx_b_r, mx_nl_0, mx_nl_1, mx_nl_2, mx_nl_n, mx_nl_l, mx_sw_n, mx_sw_h, mx_sw_m, Int.reduceLE, Int.reduceLT, Int.reduceEq, Int.reduceAdd, Int.reduceSub, Int.reduceMul, Int.reduceNeg, Int.reduceToNat, and_self, true_and, and_true, false_and, and_false, true_or, or_true, false_or, or_false, not_true_eq_false, not_false_eq_true, eq_self, rw_L_law_7, rw_L_law_16, e1, e2, s2, g2, t0, t1, l0, s0]
theorem w_18 (v : Inv L x S h n c) (hc : c ≤ 599) (L2 : (L : Int) ≤ 3072) (i0 : 0 ≤ i ∧ i + 6 ≤ L) : ∃ S2 h2 n2, mx_ex (d + 13) 257 855 [some (2, -2), some (2, 0), some (2, 38), some (0, i)] [] S h n = mx_ex (d + 13) 257 18 [some (2, -2), some (2, 0), some (2, 38), some (0, i + 6)] [] S2 h2 n2 ∧ Inv L x S2 h2 n2 (c + 1) := by
  have b := v.bx
  have A : ag L x 117 204 [] 0 c := a_proof hc
  obtain ⟨y, S1, h1, n1, S2, h2, n2, e1, e2, V, s2, g2, t0, t1, l0, s0⟩ := ag_run A d v
  refine ⟨S2, h2, n2, ?_, V⟩
  clear v hc A V b
  simp (disch := omega) only [mx_vt_h, mx_vt_m, mx_cmp_0, mx_cmp_1, mx_cmp_2, mx_cmp_3, mx_cmp_4, mx_u_s, mx_u_a, mx_u_k, mx_z_a, mx_z_s, mx_t_a, mx_t_2, mx_t_1, mx_t_0, mx_gd_T, mx_gd_t, mx_br_T, mx_br_F, mx_br_t, mx_br_f, mx_br_n, mx_cl_T, mx_cl_t, mx_re_T, mx_re_t, mx_rt_v, mx_rt_0, mx_cu_t, mx_w_id, mx_l_id, mx_b_0, mx_b_1, mx_b_r, mx_nl_0, mx_nl_1, mx_nl_2, mx_nl_n, mx_nl_l, mx_sw_n, mx_sw_h, mx_sw_m, Int.reduceLE, Int.reduceLT, Int.reduceEq, Int.reduceAdd, Int.reduceSub, Int.reduceMul, Int.reduceNeg, Int.reduceToNat, and_self, true_and, and_true, false_and, and_false, true_or, or_true, false_or, or_false, not_true_eq_false, not_false_eq_true, eq_self, rw_L_law_7, rw_L_law_16, e1, e2, s2, g2, t0, t1, l0, s0]
theorem w_19 (v : Inv L x S h n c) (hc : c ≤ 599) (L2 : (L : Int) ≤ 3072) (i0 : 0 ≤ i ∧ i + 6 ≤ L) : ∃ S2 h2 n2, mx_ex (d + 13) 257 868 [some (2, -2), some (2, 0), some (2, 38), some (0, i)] [] S h n = mx_ex (d + 13) 257 18 [some (2, -2), some (2, 0), some (2, 38), some (0, i + 6)] [] S2 h2 n2 ∧ Inv L x S2 h2 n2 (c + 1) := by
  have b := v.bx
  have A : ag L x 118 205 [(0, h (-2) (i + 1))] 0 c := a_mended hc
  obtain ⟨y, S1, h1, n1, S2, h2, n2, e1, e2, V, s2, g2, t0, t1, l0, s0⟩ := ag_run A d v
  refine ⟨S2, h2, n2, ?_, V⟩
  clear v hc A V b
  simp (disch := omega) only [mx_vt_h, mx_vt_m, mx_cmp_0, mx_cmp_1, mx_cmp_2, mx_cmp_3, mx_cmp_4, mx_u_s, mx_u_a, mx_u_k, mx_z_a, mx_z_s, mx_t_a, mx_t_2, mx_t_1, mx_t_0, mx_gd_T, mx_gd_t, mx_br_T, mx_br_F, mx_br_t, mx_br_f, mx_br_n, mx_cl_T, mx_cl_t, mx_re_T, mx_re_t, mx_rt_v, mx_rt_0, mx_cu_t, mx_w_id, mx_l_id, mx_b_0, mx_b_1, mx_b_r, mx_nl_0, mx_nl_1, mx_nl_2, mx_nl_n, mx_nl_l, mx_sw_n, mx_sw_h, mx_sw_m, Int.reduceLE, Int.reduceLT, Int.reduceEq, Int.reduceAdd, Int.reduceSub, Int.reduceMul, Int.reduceNeg, Int.reduceToNat, and_self, true_and, and_true, false_and, and_false, true_or, or_true, false_or, or_false, not_true_eq_false, not_false_eq_true, eq_self, rw_L_law_7, rw_L_law_8, rw_L_law_16, e1, e2, s2, g2, t0, t1, l0, s0]
theorem w_20 (v : Inv L x S h n c) (hc : c ≤ 599) (L2 : (L : Int) ≤ 3072) (i0 : 0 ≤ i ∧ i + 6 ≤ L) : ∃ S2 h2 n2, mx_ex (d + 13) 257 891 [some (2, -2), some (2, 0), some (2, 38), some (0, i)] [] S h n = mx_ex (d + 13) 257 18 [some (2, -2), some (2, 0), some (2, 38), some (0, i + 6)] [] S2 h2 n2 ∧ Inv L x S2 h2 n2 (c + 1) := by
  have b := v.bx
  have A : ag L x 119 206 [(0, h (-2) (i + 1))] 0 c := a_which hc
  obtain ⟨y, S1, h1, n1, S2, h2, n2, e1, e2, V, s2, g2, t0, t1, l0, s0⟩ := ag_run A d v
  refine ⟨S2, h2, n2, ?_, V⟩
  clear v hc A V b
  simp (disch := omega) only [mx_vt_h, mx_vt_m, mx_cmp_0, mx_cmp_1, mx_cmp_2, mx_cmp_3, mx_cmp_4, mx_u_s, mx_u_a, mx_u_k, mx_z_a, mx_z_s, mx_t_a, mx_t_2, mx_t_1, mx_t_0, mx_gd_T, mx_gd_t, mx_br_T, mx_br_F, mx_br_t, mx_br_f, mx_br_n, mx_cl_T, mx_cl_t, mx_re_T, mx_re_t, mx_rt_v, mx_rt_0, mx_cu_t, mx_w_id, mx_l_id, mx_b_0, mx_b_1, mx_b_r, mx_nl_0, mx_nl_1, mx_nl_2, mx_nl_n, mx_nl_l, mx_sw_n, mx_sw_h, mx_sw_m, Int.reduceLE, Int.reduceLT, Int.reduceEq, Int.reduceAdd, Int.reduceSub, Int.reduceMul, Int.reduceNeg, Int.reduceToNat, and_self, true_and, and_true, false_and, and_false, true_or, or_true, false_or, or_false, not_true_eq_false, not_false_eq_true, eq_self, rw_L_law_8, rw_L_law_16, e1, e2, s2, g2, t0, t1, l0, s0]
theorem w_21 (v : Inv L x S h n c) (hc : c ≤ 599) (L2 : (L : Int) ≤ 3072) (i0 : 0 ≤ i ∧ i + 6 ≤ L) : ∃ S2 h2 n2, mx_ex (d + 13) 257 914 [some (2, -2), some (2, 0), some (2, 38), some (0, i)] [] S h n = mx_ex (d + 13) 257 18 [some (2, -2), some (2, 0), some (2, 38), some (0, i + 6)] [] S2 h2 n2 ∧ Inv L x S2 h2 n2 (c + 1) := by
  have b := v.bx
  have A : ag L x 120 207 [(0, h (-2) (i + 1)), (0, h (-2) (i + 2)), (0, h (-2) (i + 3))] 1 c := a_gain hc
  obtain ⟨y, S1, h1, n1, S2, h2, n2, e1, e2, V, s2, g2, t0, t1, l0, s0⟩ := ag_run A d v
  refine ⟨S2, h2, n2, ?_, V⟩
  clear v hc A V b
  simp (disch := omega) only [mx_vt_h, mx_vt_m, mx_cmp_0, mx_cmp_1, mx_cmp_2, mx_cmp_3, mx_cmp_4, mx_u_s, mx_u_a, mx_u_k, mx_z_a, mx_z_s, mx_t_a, mx_t_2, mx_t_1, mx_t_0, mx_gd_T, mx_gd_t, mx_br_T, mx_br_F, mx_br_t, mx_br_f, mx_br_n, mx_cl_T, mx_cl_t, mx_re_T, mx_re_t, mx_rt_v, mx_rt_0, mx_cu_t, mx_w_id, mx_l_id, mx_b_0, mx_b_1, mx_b_r, mx_nl_0, mx_nl_1, mx_nl_2, mx_nl_n, mx_nl_l, mx_sw_n, mx_sw_h, mx_sw_m, Int.reduceLE, Int.reduceLT, Int.reduceEq, Int.reduceAdd, Int.reduceSub, Int.reduceMul, Int.reduceNeg, Int.reduceToNat, and_self, true_and, and_true, false_and, and_false, true_or, or_true, false_or, or_false, not_true_eq_false, not_false_eq_true, eq_self, rw_L_law_8, rw_L_law_16, e1, e2, s2, g2, t0, t1, l0, s0]
end
