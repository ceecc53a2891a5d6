section
variable {L : Nat} {x : Nat → Int32} {S0 h0 : mx_H} {n0 : Int} {S h : mx_H} {n : Int} {d dR : Nat} {t : Int → Int} {N p : Int} {σ : Int → Int}
theorem J_ev_r0 {S' h' : mx_H} {n' : Int} (Y : RX t N p S' h') (y39 : h' 39 = σ) (wN : 0 ≤ σ 0 ∧ σ 0 ≤ 6) (wL : 0 ≤ σ 1 ∧ σ 1 ≤ 6)  (q0 : ¬ tnu t N (0) (2) (tpl t N p)) : ∃ g', mx_M (d + 5) 171 [(2, 38)] S' h' n' = some (some (0, 0), S', g', n') ∧ fR h' g' ∧ RX t N (tpl t N p) S' g' := by
  obtain ⟨k0, a0, b0, _, Y0⟩ := Y.nx (d := d + 2) (n := n')
  have y0 : k0 39 = σ := by rw [b0.1 39 (by decide)]; exact y39
  have yy0 : k0 39 1 = σ 1 := by rw [y0]
  have z0 : k0 39 1 = σ 1 := yy0
  have zz := (Y0).u0 (d := d + 1) (n := n') (by omega) (by omega) q0
  refine ⟨k0, ?_, b0.r, Y0⟩
  simp (disch := omega) only [mx_vt_h, mx_vt_m, mx_cmp_0, mx_cmp_1, mx_cmp_2, mx_cmp_3, mx_cmp_4, mx_u_s, mx_u_a, mx_u_k, mx_z_a, mx_z_s, mx_t_a, mx_t_2, mx_t_1, mx_t_0, mx_gd_T, mx_gd_t, mx_br_T, mx_br_F, mx_br_t, mx_br_f, mx_br_n, mx_cl_T, mx_cl_t, mx_re_T, mx_re_t, mx_rt_v, mx_rt_0, mx_cu_t, mx_w_id, mx_l_id, mx_b_0, mx_b_1, mx_b_r, mx_nl_0, mx_nl_1, mx_nl_2, mx_nl_n, mx_nl_l, mx_sw_n, mx_sw_h, mx_sw_m, Int.reduceLE, Int.reduceLT, Int.reduceEq, Int.reduceAdd, Int.reduceSub, Int.reduceMul, Int.reduceNeg, Int.reduceToNat, and_self, true_and, and_true, false_and, and_false, true_or, or_true, false_or, or_false, not_true_eq_false, not_false_eq_true, eq_self, rw_X12_takesEvening, Y.m.e, y39, y0, a0, z0, zz]
theorem J_ev_r1 {S' h' : mx_H} {n' : Int} (Y : RX t N p S' h') (y39 : h' 39 = σ) (wN : 0 ≤ σ 0 ∧ σ 0 ≤ 6) (wL : 0 ≤ σ 1 ∧ σ 1 ≤ 6) (q0 : tnu t N (0) (2) (tpl t N p)) (q1 : ¬ tnu t N (2) (16) (tpl t N (tpl t N p))) : ∃ g', mx_M (d + 5) 171 [(2, 38)] S' h' n' = some (some (0, 0), S', g', n') ∧ fR h' g' ∧ RX t N (tpl t N (tpl t N p)) S' g' := by
  have h0 := q0.2
  obtain ⟨k0, a0, b0, _, Y0⟩ := Y.nx (d := d + 2) (n := n')
  have y0 : k0 39 = σ := by rw [b0.1 39 (by decide)]; exact y39
  have yy0 : k0 39 1 = σ 1 := by rw [y0]
  have z0 : k0 39 1 = σ 1 := yy0
  obtain ⟨k1, a1, b1, v1, Y1⟩ := (Y0).u (d := d + 1) (n := n') (by omega) (by omega) q0
  have y1 : k1 39 = σ := by rw [b1.1 39 (by decide)]; exact y0
  have yy1 : k1 39 1 = σ 1 := by rw [b1.1 39 (by decide)]; exact z0
  have z1 : k1 39 1 = σ 1 := yy1
  have zz := (Y1).u0 (d := d + 1) (n := n') (by omega) (by omega) q1
  refine ⟨k1, ?_, ((b0.r).t b1.r), Y1⟩
  simp (disch := omega) only [mx_vt_h, mx_vt_m, mx_cmp_0, mx_cmp_1, mx_cmp_2, mx_cmp_3, mx_cmp_4, mx_u_s, mx_u_a, mx_u_k, mx_z_a, mx_z_s, mx_t_a, mx_t_2, mx_t_1, mx_t_0, mx_gd_T, mx_gd_t, mx_br_T, mx_br_F, mx_br_t, mx_br_f, mx_br_n, mx_cl_T, mx_cl_t, mx_re_T, mx_re_t, mx_rt_v, mx_rt_0, mx_cu_t, mx_w_id, mx_l_id, mx_b_0, mx_b_1, mx_b_r, mx_nl_0, mx_nl_1, mx_nl_2, mx_nl_n, mx_nl_l, mx_sw_n, mx_sw_h, mx_sw_m, Int.reduceLE, Int.reduceLT, Int.reduceEq, Int.reduceAdd, Int.reduceSub, Int.reduceMul, Int.reduceNeg, Int.reduceToNat, and_self, true_and, and_true, false_and, and_false, true_or, or_true, false_or, or_false, not_true_eq_false, not_false_eq_true, eq_self, rw_X12_takesEvening, Y.m.e, y39, y0, a0, z0, a1, v1, yy1, y1, z1, zz]
theorem J_ev_r2 {S' h' : mx_H} {n' : Int} (Y : RX t N p S' h') (y39 : h' 39 = σ) (wN : 0 ≤ σ 0 ∧ σ 0 ≤ 6) (wL : 0 ≤ σ 1 ∧ σ 1 ≤ 6) (q0 : tnu t N (0) (2) (tpl t N p)) (q1 : tnu t N (2) (16) (tpl t N (tpl t N p))) (q2 : ¬ tnu t N (tva t N (tpl t N (tpl t N p))) (16) (tpl t N (tpl t N (tpl t N p)))) : ∃ g', mx_M (d + 5) 171 [(2, 38)] S' h' n' = some (some (0, 0), S', g', n') ∧ fR h' g' ∧ RX t N (tpl t N (tpl t N (tpl t N p))) S' g' := by
  have h0 := q0.2
  have h1 := q1.2
  obtain ⟨k0, a0, b0, _, Y0⟩ := Y.nx (d := d + 2) (n := n')
  have y0 : k0 39 = σ := by rw [b0.1 39 (by decide)]; exact y39
  have yy0 : k0 39 1 = σ 1 := by rw [y0]
  have z0 : k0 39 1 = σ 1 := yy0
  obtain ⟨k1, a1, b1, v1, Y1⟩ := (Y0).u (d := d + 1) (n := n') (by omega) (by omega) q0
  have y1 : k1 39 = σ := by rw [b1.1 39 (by decide)]; exact y0
  have yy1 : k1 39 1 = σ 1 := by rw [b1.1 39 (by decide)]; exact z0
  have z1 : k1 39 1 = σ 1 := yy1
  obtain ⟨k2, a2, b2, v2, Y2⟩ := (Y1).u (d := d + 1) (n := n') (by omega) (by omega) q1
  have y2 : k2 39 = σ := by rw [b2.1 39 (by decide)]; exact y1
  have yy2 : k2 39 1 = σ 1 := by rw [b2.1 39 (by decide)]; exact z1
  have z2 : k2 39 1 = σ 1 := yy2
  have zz := (Y2).u0 (d := d + 1) (n := n') (by omega) (by omega) q2
  refine ⟨k2, ?_, ((((b0.r).t b1.r)).t b2.r), Y2⟩
  simp (disch := omega) only [mx_vt_h, mx_vt_m, mx_cmp_0, mx_cmp_1, mx_cmp_2, mx_cmp_3, mx_cmp_4, mx_u_s, mx_u_a, mx_u_k, mx_z_a, mx_z_s, mx_t_a, mx_t_2, mx_t_1, mx_t_0, mx_gd_T, mx_gd_t, mx_br_T, mx_br_F, mx_br_t, mx_br_f, mx_br_n, mx_cl_T, mx_cl_t, mx_re_T, mx_re_t, mx_rt_v, mx_rt_0, mx_cu_t, mx_w_id, mx_l_id, mx_b_0, mx_b_1, mx_b_r, mx_nl_0, mx_nl_1, mx_nl_2, mx_nl_n, mx_nl_l, mx_sw_n, mx_sw_h, mx_sw_m, Int.reduceLE, Int.reduceLT, Int.reduceEq, Int.reduceAdd, Int.reduceSub, Int.reduceMul, Int.reduceNeg, Int.reduceToNat, and_self, true_and, and_true, false_and, and_false, true_or, or_true, false_or, or_false, not_true_eq_false, not_false_eq_true, eq_self, rw_X12_takesEvening, Y.m.e, y39, y0, a0, z0, a1, v1, yy1, y1, z1, a2, v2, yy2, y2, z2, zz]
theorem J_ev_r3 {S' h' : mx_H} {n' : Int} (Y : RX t N p S' h') (y39 : h' 39 = σ) (wN : 0 ≤ σ 0 ∧ σ 0 ≤ 6) (wL : 0 ≤ σ 1 ∧ σ 1 ≤ 6) (q0 : tnu t N (0) (2) (tpl t N p)) (q1 : tnu t N (2) (16) (tpl t N (tpl t N p))) (q2 : tnu t N (tva t N (tpl t N (tpl t N p))) (16) (tpl t N (tpl t N (tpl t N p)))) (q3 : ¬ tby t N 59 (tpl t N (tpl t N (tpl t N (tpl t N p))))) : ∃ g', mx_M (d + 5) 171 [(2, 38)] S' h' n' = some (some (0, 0), S', g', n') ∧ fR h' g' ∧ RX t N (tpl t N (tpl t N (tpl t N (tpl t N p)))) S' g' := by
  have h0 := q0.2
  have h1 := q1.2
  have h2 := q2.2
  obtain ⟨k0, a0, b0, _, Y0⟩ := Y.nx (d := d + 2) (n := n')
  have y0 : k0 39 = σ := by rw [b0.1 39 (by decide)]; exact y39
  have yy0 : k0 39 1 = σ 1 := by rw [y0]
  have z0 : k0 39 1 = σ 1 := yy0
  obtain ⟨k1, a1, b1, v1, Y1⟩ := (Y0).u (d := d + 1) (n := n') (by omega) (by omega) q0
  have y1 : k1 39 = σ := by rw [b1.1 39 (by decide)]; exact y0
  have yy1 : k1 39 1 = σ 1 := by rw [b1.1 39 (by decide)]; exact z0
  have z1 : k1 39 1 = σ 1 := yy1
  obtain ⟨k2, a2, b2, v2, Y2⟩ := (Y1).u (d := d + 1) (n := n') (by omega) (by omega) q1
  have y2 : k2 39 = σ := by rw [b2.1 39 (by decide)]; exact y1
  have yy2 : k2 39 1 = σ 1 := by rw [b2.1 39 (by decide)]; exact z1
  have z2 : k2 39 1 = σ 1 := yy2
  obtain ⟨k3, a3, b3, v3, Y3⟩ := (Y2).u (d := d + 1) (n := n') (by omega) (by omega) q2
  have y3 : k3 39 = σ := by rw [b3.1 39 (by decide)]; exact y2
  have yy3 : k3 39 1 = σ 1 := by rw [b3.1 39 (by decide)]; exact z2
  have W3 : RX t N (tpl t N (tpl t N (tpl t N (tpl t N p)))) S' (mx_u (mx_u k3 39 (3 + 2 * tva t N (tpl t N p)) (tva t N (tpl t N (tpl t N p)))) 39 (3 + 2 * tva t N (tpl t N p) + 1) (tva t N (tpl t N (tpl t N (tpl t N p))))) := ((Y3).w).w
  have F3 : fR h' (mx_u (mx_u k3 39 (3 + 2 * tva t N (tpl t N p)) (tva t N (tpl t N (tpl t N p)))) 39 (3 + 2 * tva t N (tpl t N p) + 1) (tva t N (tpl t N (tpl t N (tpl t N p))))) := ((((((((b0.r).t b1.r)).t b2.r)).t b3.r)).u).u
  have w3 : (mx_u (mx_u k3 39 (3 + 2 * tva t N (tpl t N p)) (tva t N (tpl t N (tpl t N p)))) 39 (3 + 2 * tva t N (tpl t N p) + 1) (tva t N (tpl t N (tpl t N (tpl t N p))))) 39 = (rwu (rwu σ (3 + 2 * tva t N (tpl t N p)) (tva t N (tpl t N (tpl t N p)))) (3 + 2 * tva t N (tpl t N p) + 1) (tva t N (tpl t N (tpl t N (tpl t N p))))) := by simp only [rwu_39, y3]
  have z3 : (mx_u (mx_u k3 39 (3 + 2 * tva t N (tpl t N p)) (tva t N (tpl t N (tpl t N p)))) 39 (3 + 2 * tva t N (tpl t N p) + 1) (tva t N (tpl t N (tpl t N (tpl t N p))))) 39 1 = σ 1 := by rw [mx_u_k (by omega), mx_u_k (by omega)]; exact yy3
  have zz := (W3).y0 (d := d + 1) (n := n') (by decide) q3
  refine ⟨(mx_u (mx_u k3 39 (3 + 2 * tva t N (tpl t N p)) (tva t N (tpl t N (tpl t N p)))) 39 (3 + 2 * tva t N (tpl t N p) + 1) (tva t N (tpl t N (tpl t N (tpl t N p))))), ?_, F3, W3⟩
  simp (disch := omega) only [mx_vt_h, mx_vt_m, mx_cmp_0, mx_cmp_1, mx_cmp_2, mx_cmp_3, mx_cmp_4, mx_u_s, mx_u_a, mx_u_k, mx_z_a, mx_z_s, mx_t_a, mx_t_2, mx_t_1, mx_t_0, mx_gd_T, mx_gd_t, mx_br_T, mx_br_F, mx_br_t, mx_br_f, mx_br_n, mx_cl_T, mx_cl_t, mx_re_T, mx_re_t, mx_rt_v, mx_rt_0, mx_cu_t, mx_w_id, mx_l_id, mx_b_0, mx_b_1, mx_b_r, mx_nl_0, mx_nl_1, mx_nl_2, mx_nl_n, mx_nl_l, mx_sw_n, mx_sw_h, mx_sw_m, Int.reduceLE, Int.reduceLT, Int.reduceEq, Int.reduceAdd, Int.reduceSub, Int.reduceMul, Int.reduceNeg, Int.reduceToNat, and_self, true_and, and_true, false_and, and_false, true_or, or_true, false_or, or_false, not_true_eq_false, not_false_eq_true, eq_self, rw_X12_takesEvening, Y.m.e, y39, y0, a0, z0, a1, v1, yy1, y1, z1, a2, v2, yy2, y2, z2, a3, v3, yy3, y3, z3, zz]
theorem J_ev_rs {S' h' : mx_H} {n' : Int} (Y : RX t N p S' h') (y39 : h' 39 = σ) (wN : 0 ≤ σ 0 ∧ σ 0 ≤ 6) (wL : 0 ≤ σ 1 ∧ σ 1 ≤ 6) (q0 : tnu t N (0) (2) (tpl t N p)) (q1 : tnu t N (2) (16) (tpl t N (tpl t N p))) (q2 : tnu t N (tva t N (tpl t N (tpl t N p))) (16) (tpl t N (tpl t N (tpl t N p)))) (q3 : tby t N 59 (tpl t N (tpl t N (tpl t N (tpl t N p))))) : ∃ g', mx_M (d + 5) 171 [(2, 38)] S' h' n' = some (some (0, 1), S', g', n') ∧ fR h' g' ∧ RX t N (tpl t N (tpl t N (tpl t N (tpl t N (tpl t N p))))) S' g' ∧ g' 39 = eset σ (tva t N (tpl t N p)) (tva t N (tpl t N (tpl t N p))) (tva t N (tpl t N (tpl t N (tpl t N p)))) := by
  have h0 := q0.2
  have h1 := q1.2
  have h2 := q2.2
  obtain ⟨k0, a0, b0, _, Y0⟩ := Y.nx (d := d + 2) (n := n')
  have y0 : k0 39 = σ := by rw [b0.1 39 (by decide)]; exact y39
  have yy0 : k0 39 1 = σ 1 := by rw [y0]
  have z0 : k0 39 1 = σ 1 := yy0
  obtain ⟨k1, a1, b1, v1, Y1⟩ := (Y0).u (d := d + 1) (n := n') (by omega) (by omega) q0
  have y1 : k1 39 = σ := by rw [b1.1 39 (by decide)]; exact y0
  have yy1 : k1 39 1 = σ 1 := by rw [b1.1 39 (by decide)]; exact z0
  have z1 : k1 39 1 = σ 1 := yy1
  obtain ⟨k2, a2, b2, v2, Y2⟩ := (Y1).u (d := d + 1) (n := n') (by omega) (by omega) q1
  have y2 : k2 39 = σ := by rw [b2.1 39 (by decide)]; exact y1
  have yy2 : k2 39 1 = σ 1 := by rw [b2.1 39 (by decide)]; exact z1
  have z2 : k2 39 1 = σ 1 := yy2
  obtain ⟨k3, a3, b3, v3, Y3⟩ := (Y2).u (d := d + 1) (n := n') (by omega) (by omega) q2
  have y3 : k3 39 = σ := by rw [b3.1 39 (by decide)]; exact y2
  have yy3 : k3 39 1 = σ 1 := by rw [b3.1 39 (by decide)]; exact z2
  have W3 : RX t N (tpl t N (tpl t N (tpl t N (tpl t N p)))) S' (mx_u (mx_u k3 39 (3 + 2 * tva t N (tpl t N p)) (tva t N (tpl t N (tpl t N p)))) 39 (3 + 2 * tva t N (tpl t N p) + 1) (tva t N (tpl t N (tpl t N (tpl t N p))))) := ((Y3).w).w
  have F3 : fR h' (mx_u (mx_u k3 39 (3 + 2 * tva t N (tpl t N p)) (tva t N (tpl t N (tpl t N p)))) 39 (3 + 2 * tva t N (tpl t N p) + 1) (tva t N (tpl t N (tpl t N (tpl t N p))))) := ((((((((b0.r).t b1.r)).t b2.r)).t b3.r)).u).u
  have w3 : (mx_u (mx_u k3 39 (3 + 2 * tva t N (tpl t N p)) (tva t N (tpl t N (tpl t N p)))) 39 (3 + 2 * tva t N (tpl t N p) + 1) (tva t N (tpl t N (tpl t N (tpl t N p))))) 39 = (rwu (rwu σ (3 + 2 * tva t N (tpl t N p)) (tva t N (tpl t N (tpl t N p)))) (3 + 2 * tva t N (tpl t N p) + 1) (tva t N (tpl t N (tpl t N (tpl t N p))))) := by simp only [rwu_39, y3]
  have z3 : (mx_u (mx_u k3 39 (3 + 2 * tva t N (tpl t N p)) (tva t N (tpl t N (tpl t N p)))) 39 (3 + 2 * tva t N (tpl t N p) + 1) (tva t N (tpl t N (tpl t N (tpl t N p))))) 39 1 = σ 1 := by rw [mx_u_k (by omega), mx_u_k (by omega)]; exact yy3
  obtain ⟨k4, a4, b4, _, Y4⟩ := (W3).y (d := d + 1) (n := n') (by decide) q3
  have y4 : k4 39 = (rwu (rwu σ (3 + 2 * tva t N (tpl t N p)) (tva t N (tpl t N (tpl t N p)))) (3 + 2 * tva t N (tpl t N p) + 1) (tva t N (tpl t N (tpl t N (tpl t N p))))) := by rw [b4.1 39 (by decide)]; exact w3
  have yy4 : k4 39 1 = σ 1 := by rw [b4.1 39 (by decide)]; exact z3
  refine ⟨k4, ?_, ((F3).t b4.r), Y4, ?_⟩
  · simp (disch := omega) only [mx_vt_h, mx_vt_m, mx_cmp_0, mx_cmp_1, mx_cmp_2, mx_cmp_3, mx_cmp_4, mx_u_s, mx_u_a, mx_u_k, mx_z_a, mx_z_s, mx_t_a, mx_t_2, mx_t_1, mx_t_0, mx_gd_T, mx_gd_t, mx_br_T, mx_br_F, mx_br_t, mx_br_f, mx_br_n, mx_cl_T, mx_cl_t, mx_re_T, mx_re_t, mx_rt_v, mx_rt_0, mx_cu_t, mx_w_id, mx_l_id, mx_b_0, mx_b_1, mx_b_r, mx_nl_0, mx_nl_1, mx_nl_2, mx_nl_n, mx_nl_l, mx_sw_n, mx_sw_h, mx_sw_m, Int.reduceLE, Int.reduceLT, Int.reduceEq, Int.reduceAdd, Int.reduceSub, Int.reduceMul, Int.reduceNeg, Int.reduceToNat, and_self, true_and, and_true, false_and, and_false, true_or, or_true, false_or, or_false, not_true_eq_false, not_false_eq_true, eq_self, rw_X12_takesEvening, Y.m.e, y39, y0, a0, z0, a1, v1, yy1, y1, z1, a2, v2, yy2, y2, z2, a3, v3, yy3, y3, z3, a4, yy4]
  · rw [y4]; funext j; simp only [rwu, eset]
theorem J_ev (s0 : sv S0 23) (n5 : 53 ≤ n0) (X : CX t N p S h) (D : DS S0 h0 n0 σ S h n) : JB L x t N S0 h0 n0 p σ (mx_M (d + 5) 65 [(2, 22)] S h n) (fun S' h' n' => mx_M (dR + 5) 171 [(2, 38)] S' h' n') := by
  have wN := D.w.N
  have wL := D.w.L
  have c3 : h 23 3 = σ 0 := D.r.c
  have c4 : h 23 4 = σ 1 := D.r.L
  obtain ⟨g0, e0, f0, X0⟩ := X.nx (d := d + 2) (n := n)
  have D0 := D.go f0
  have c30 : g0 23 3 = σ 0 := D0.r.c
  have c40 : g0 23 4 = σ 1 := D0.r.L
  by_cases q0 : tnu t N (0) (2) (tpl t N p)
  rotate_left 1
  · refine Or.inl ⟨(tpl t N p), S, g0, n, ?_, X0, D0.f, fun S' h' n' Y y39 _ => J_ev_r0 Y y39 wN wL q0⟩
    have zz := X0.u0 (d := d + 1) (n := n) q0
    simp (disch := omega) only [mx_vt_h, mx_vt_m, mx_cmp_0, mx_cmp_1, mx_cmp_2, mx_cmp_3, mx_cmp_4, mx_u_s, mx_u_a, mx_u_k, mx_z_a, mx_z_s, mx_t_a, mx_t_2, mx_t_1, mx_t_0, mx_gd_T, mx_gd_t, mx_br_T, mx_br_F, mx_br_t, mx_br_f, mx_br_n, mx_cl_T, mx_cl_t, mx_re_T, mx_re_t, mx_rt_v, mx_rt_0, mx_cu_t, mx_w_id, mx_l_id, mx_b_0, mx_b_1, mx_b_r, mx_nl_0, mx_nl_1, mx_nl_2, mx_nl_n, mx_nl_l, mx_sw_n, mx_sw_h, mx_sw_m, Int.reduceLE, Int.reduceLT, Int.reduceEq, Int.reduceAdd, Int.reduceSub, Int.reduceMul, Int.reduceNeg, Int.reduceToNat, and_self, true_and, and_true, false_and, and_false, true_or, or_true, false_or, or_false, not_true_eq_false, not_false_eq_true, eq_self, rw_X7_eveningTold, X.s.e, D.f.sd s0 n5, c3, c4, e0, c30, c40, zz]
  obtain ⟨g1, e1, f1, X1⟩ := X0.u (d := d + 1) (n := n) q0
  have h1 := q0.2
  have D1 := D0.go f1
  have c31 : g1 23 3 = σ 0 := D1.r.c
  have c41 : g1 23 4 = σ 1 := D1.r.L
  by_cases q1 : tnu t N (2) (16) (tpl t N (tpl t N p))
  rotate_left 1
  · refine Or.inl ⟨(tpl t N (tpl t N p)), S, g1, n, ?_, X1, D1.f, fun S' h' n' Y y39 _ => J_ev_r1 Y y39 wN wL q0 q1⟩
    have zz := X1.u0 (d := d + 1) (n := n) q1
    simp (disch := omega) only [mx_vt_h, mx_vt_m, mx_cmp_0, mx_cmp_1, mx_cmp_2, mx_cmp_3, mx_cmp_4, mx_u_s, mx_u_a, mx_u_k, mx_z_a, mx_z_s, mx_t_a, mx_t_2, mx_t_1, mx_t_0, mx_gd_T, mx_gd_t, mx_br_T, mx_br_F, mx_br_t, mx_br_f, mx_br_n, mx_cl_T, mx_cl_t, mx_re_T, mx_re_t, mx_rt_v, mx_rt_0, mx_cu_t, mx_w_id, mx_l_id, mx_b_0, mx_b_1, mx_b_r, mx_nl_0, mx_nl_1, mx_nl_2, mx_nl_n, mx_nl_l, mx_sw_n, mx_sw_h, mx_sw_m, Int.reduceLE, Int.reduceLT, Int.reduceEq, Int.reduceAdd, Int.reduceSub, Int.reduceMul, Int.reduceNeg, Int.reduceToNat, and_self, true_and, and_true, false_and, and_false, true_or, or_true, false_or, or_false, not_true_eq_false, not_false_eq_true, eq_self, rw_X7_eveningTold, X.s.e, D.f.sd s0 n5, c3, c4, e0, c30, c40, e1, c31, c41, zz]
  obtain ⟨g2, e2, f2, X2⟩ := X1.u (d := d + 1) (n := n) q1
  have h2 := q1.2
  have D2 := D1.go f2
  have c32 : g2 23 3 = σ 0 := D2.r.c
  have c42 : g2 23 4 = σ 1 := D2.r.L
  by_cases q2 : tnu t N (tva t N (tpl t N (tpl t N p))) (16) (tpl t N (tpl t N (tpl t N p)))
  rotate_left 1
  · refine Or.inl ⟨(tpl t N (tpl t N (tpl t N p))), S, g2, n, ?_, X2, D2.f, fun S' h' n' Y y39 _ => J_ev_r2 Y y39 wN wL q0 q1 q2⟩
    have zz := X2.u0 (d := d + 1) (n := n) q2
    simp (disch := omega) only [mx_vt_h, mx_vt_m, mx_cmp_0, mx_cmp_1, mx_cmp_2, mx_cmp_3, mx_cmp_4, mx_u_s, mx_u_a, mx_u_k, mx_z_a, mx_z_s, mx_t_a, mx_t_2, mx_t_1, mx_t_0, mx_gd_T, mx_gd_t, mx_br_T, mx_br_F, mx_br_t, mx_br_f, mx_br_n, mx_cl_T, mx_cl_t, mx_re_T, mx_re_t, mx_rt_v, mx_rt_0, mx_cu_t, mx_w_id, mx_l_id, mx_b_0, mx_b_1, mx_b_r, mx_nl_0, mx_nl_1, mx_nl_2, mx_nl_n, mx_nl_l, mx_sw_n, mx_sw_h, mx_sw_m, Int.reduceLE, Int.reduceLT, Int.reduceEq, Int.reduceAdd, Int.reduceSub, Int.reduceMul, Int.reduceNeg, Int.reduceToNat, and_self, true_and, and_true, false_and, and_false, true_or, or_true, false_or, or_false, not_true_eq_false, not_false_eq_true, eq_self, rw_X7_eveningTold, X.s.e, D.f.sd s0 n5, c3, c4, e0, c30, c40, e1, c31, c41, e2, c32, c42, zz]
  obtain ⟨g3, e3, f3, X3⟩ := X2.u (d := d + 1) (n := n) q2
  have h3 := q2.2
  have D3 := D2.go f3
  have c33 : g3 23 3 = σ 0 := D3.r.c
  have c43 : g3 23 4 = σ 1 := D3.r.L
  by_cases q3 : tby t N 59 (tpl t N (tpl t N (tpl t N (tpl t N p))))
  rotate_left 1
  · refine Or.inl ⟨(tpl t N (tpl t N (tpl t N (tpl t N p)))), S, g3, n, ?_, X3, D3.f, fun S' h' n' Y y39 _ => J_ev_r3 Y y39 wN wL q0 q1 q2 q3⟩
    have zz := X3.b0 (d := d + 1) (n := n) q3
    simp (disch := omega) only [mx_vt_h, mx_vt_m, mx_cmp_0, mx_cmp_1, mx_cmp_2, mx_cmp_3, mx_cmp_4, mx_u_s, mx_u_a, mx_u_k, mx_z_a, mx_z_s, mx_t_a, mx_t_2, mx_t_1, mx_t_0, mx_gd_T, mx_gd_t, mx_br_T, mx_br_F, mx_br_t, mx_br_f, mx_br_n, mx_cl_T, mx_cl_t, mx_re_T, mx_re_t, mx_rt_v, mx_rt_0, mx_cu_t, mx_w_id, mx_l_id, mx_b_0, mx_b_1, mx_b_r, mx_nl_0, mx_nl_1, mx_nl_2, mx_nl_n, mx_nl_l, mx_sw_n, mx_sw_h, mx_sw_m, Int.reduceLE, Int.reduceLT, Int.reduceEq, Int.reduceAdd, Int.reduceSub, Int.reduceMul, Int.reduceNeg, Int.reduceToNat, and_self, true_and, and_true, false_and, and_false, true_or, or_true, false_or, or_false, not_true_eq_false, not_false_eq_true, eq_self, rw_X7_eveningTold, X.s.e, D.f.sd s0 n5, c3, c4, e0, c30, c40, e1, c31, c41, e2, c32, c42, e3, c33, c43, zz]
  obtain ⟨g4, e4, f4, X4⟩ := X3.b (d := d + 1) (n := n) q3
  have D4 := D3.go f4
  have c34 : g4 23 3 = σ 0 := D4.r.c
  have c44 : g4 23 4 = σ 1 := D4.r.L
  have r0 := tpl_m (t := t) (N := N) (p := p) (X.p0.2)
  have r1 := tpl_m (t := t) (N := N) (p := (tpl t N p)) (r0.2)
  have r2 := tpl_m (t := t) (N := N) (p := (tpl t N (tpl t N p))) (r1.2)
  have r3 := tpl_m (t := t) (N := N) (p := (tpl t N (tpl t N (tpl t N p)))) (r2.2)
  have r4 := tpl_m (t := t) (N := N) (p := (tpl t N (tpl t N (tpl t N (tpl t N p))))) (r3.2)
  refine Or.inr ⟨(tpl t N (tpl t N (tpl t N (tpl t N (tpl t N p))))), eset σ (tva t N (tpl t N p)) (tva t N (tpl t N (tpl t N p))) (tva t N (tpl t N (tpl t N (tpl t N p)))), S, mx_u (mx_u (mx_u g4 24 (tva t N (tpl t N p)) (tva t N (tpl t N (tpl t N p)))) 25 (tva t N (tpl t N p)) (tva t N (tpl t N (tpl t N (tpl t N p))))) 23 5 (mx_w (g4 23 5 + 1)), n, ?_, ?_, ?_, ?_, ?_, fun S' h' n' Y y39 _ => J_ev_rs Y y39 wN wL q0 q1 q2 q3⟩
  · simp (disch := omega) only [mx_vt_h, mx_vt_m, mx_cmp_0, mx_cmp_1, mx_cmp_2, mx_cmp_3, mx_cmp_4, mx_u_s, mx_u_a, mx_u_k, mx_z_a, mx_z_s, mx_t_a, mx_t_2, mx_t_1, mx_t_0, mx_gd_T, mx_gd_t, mx_br_T, mx_br_F, mx_br_t, mx_br_f, mx_br_n, mx_cl_T, mx_cl_t, mx_re_T, mx_re_t, mx_rt_v, mx_rt_0, mx_cu_t, mx_w_id, mx_l_id, mx_b_0, mx_b_1, mx_b_r, mx_nl_0, mx_nl_1, mx_nl_2, mx_nl_n, mx_nl_l, mx_sw_n, mx_sw_h, mx_sw_m, Int.reduceLE, Int.reduceLT, Int.reduceEq, Int.reduceAdd, Int.reduceSub, Int.reduceMul, Int.reduceNeg, Int.reduceToNat, and_self, true_and, and_true, false_and, and_false, true_or, or_true, false_or, or_false, not_true_eq_false, not_false_eq_true, eq_self, rw_X7_eveningTold, rw_X10_setEvening, X.s.e, D.f.sd s0 n5, c3, c4, e0, c30, c40, e1, c31, c41, e2, c32, c42, e3, c33, c43, e4, c34, c44]
  · exact X4.go (by simp (disch := omega) only [mx_u_a]) (by simp (disch := omega) only [mx_u_a])
  · refine DS.mk (DF.mk D4.f.S0 D4.f.S4 (fun b a c => by simp (disch := omega) only [mx_u_a]; exact D4.f.g0 b a c) D4.f.m) (rr_ev D4.r D4.w (by omega) (by decide) ?_ ?_ ?_ ?_ ?_ ?_ ?_ ?_) (eset_w D4.w (by omega) (by omega) (by omega)) ?_
    · simp (disch := omega) only [mx_u_a, mx_u_k]
    · simp (disch := omega) only [mx_u_a, mx_u_k]
    · intro k k0; simp only [Int.reduceAdd]; simp (disch := omega) only [mx_u_a, mx_u_k]
    · simp only [Int.reduceAdd]; simp (disch := omega) only [mx_u_a, mx_u_s]
    · intro k k0; simp only [Int.reduceAdd]; simp (disch := omega) only [mx_u_a, mx_u_k]
    · simp only [Int.reduceAdd]; simp (disch := omega) only [mx_u_a, mx_u_s]
    · simp only [Int.reduceAdd]; simp (disch := omega) only [mx_u_a]
    · intro q q1; simp (disch := omega) only [mx_u_a]
    · have := D4.m
      unfold eset; rw [if_neg (by omega), if_neg (by omega)]; exact this
  · omega
  · unfold eset; rw [if_neg (by omega), if_neg (by omega)]
end
