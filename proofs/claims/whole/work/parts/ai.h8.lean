theorem lad_0 {σ : Int → Int} {a b : Int} (l0 : 0 ≤ σ 1) : rwu (rwu (rwu (rwu (rwu (rwu σ (69 + 4 * σ 1) 0) (69 + 4 * σ 1 + 1) a) (69 + 4 * σ 1 + 2) 0) (69 + 4 * σ 1 + 3) 0) (69 + 4 * σ 1 + 2) b) 1 (σ 1 + 1) = ladd σ 0 a b 0 := by
  funext j; unfold rwu ladd
  by_cases c1 : j = 1
  · simp (disch := omega) only [if_pos, if_neg]
  · by_cases c2 : j = 69 + 4 * σ 1
    · simp (disch := omega) only [if_pos, if_neg]
    · by_cases c3 : j = 69 + 4 * σ 1 + 1
      · simp (disch := omega) only [if_pos, if_neg]
      · by_cases c4 : j = 69 + 4 * σ 1 + 2
        · simp (disch := omega) only [if_pos, if_neg]
        · by_cases c5 : j = 69 + 4 * σ 1 + 3
          · simp (disch := omega) only [if_pos, if_neg]
          · simp (disch := omega) only [if_neg]
theorem lad_1 {σ : Int → Int} {a b : Int} (l0 : 0 ≤ σ 1) : rwu (rwu (rwu (rwu (rwu (rwu σ (69 + 4 * σ 1) 1) (69 + 4 * σ 1 + 1) a) (69 + 4 * σ 1 + 2) 0) (69 + 4 * σ 1 + 3) 0) (69 + 4 * σ 1 + 2) b) 1 (σ 1 + 1) = ladd σ 1 a b 0 := by
  funext j; unfold rwu ladd
  by_cases c1 : j = 1
  · simp (disch := omega) only [if_pos, if_neg]
  · by_cases c2 : j = 69 + 4 * σ 1
    · simp (disch := omega) only [if_pos, if_neg]
    · by_cases c3 : j = 69 + 4 * σ 1 + 1
      · simp (disch := omega) only [if_pos, if_neg]
      · by_cases c4 : j = 69 + 4 * σ 1 + 2
        · simp (disch := omega) only [if_pos, if_neg]
        · by_cases c5 : j = 69 + 4 * σ 1 + 3
          · simp (disch := omega) only [if_pos, if_neg]
          · simp (disch := omega) only [if_neg]
theorem lad_2 {σ : Int → Int} {a b e : Int} (l0 : 0 ≤ σ 1) : rwu (rwu (rwu (rwu (rwu (rwu (rwu σ (69 + 4 * σ 1) 2) (69 + 4 * σ 1 + 1) a) (69 + 4 * σ 1 + 2) 0) (69 + 4 * σ 1 + 3) 0) (69 + 4 * σ 1 + 2) b) (69 + 4 * σ 1 + 3) e) 1 (σ 1 + 1) = ladd σ 2 a b e := by
  funext j; unfold rwu ladd
  by_cases c1 : j = 1
  · simp (disch := omega) only [if_pos, if_neg]
  · by_cases c2 : j = 69 + 4 * σ 1
    · simp (disch := omega) only [if_pos, if_neg]
    · by_cases c3 : j = 69 + 4 * σ 1 + 1
      · simp (disch := omega) only [if_pos, if_neg]
      · by_cases c4 : j = 69 + 4 * σ 1 + 2
        · simp (disch := omega) only [if_pos, if_neg]
        · by_cases c5 : j = 69 + 4 * σ 1 + 3
          · simp (disch := omega) only [if_pos, if_neg]
          · simp (disch := omega) only [if_neg]
theorem lad_3 {σ : Int → Int} {a e : Int} (l0 : 0 ≤ σ 1) : rwu (rwu (rwu (rwu (rwu (rwu σ (69 + 4 * σ 1) 3) (69 + 4 * σ 1 + 1) a) (69 + 4 * σ 1 + 2) 0) (69 + 4 * σ 1 + 3) 0) (69 + 4 * σ 1 + 3) e) 1 (σ 1 + 1) = ladd σ 3 a 0 e := by
  funext j; unfold rwu ladd
  by_cases c1 : j = 1
  · simp (disch := omega) only [if_pos, if_neg]
  · by_cases c2 : j = 69 + 4 * σ 1
    · simp (disch := omega) only [if_pos, if_neg]
    · by_cases c3 : j = 69 + 4 * σ 1 + 1
      · simp (disch := omega) only [if_pos, if_neg]
      · by_cases c4 : j = 69 + 4 * σ 1 + 2
        · simp (disch := omega) only [if_pos, if_neg]
        · by_cases c5 : j = 69 + 4 * σ 1 + 3
          · simp (disch := omega) only [if_pos, if_neg]
          · simp (disch := omega) only [if_neg]
section
variable {L : Nat} {x : Nat → Int32} {S0 h0 : mx_H} {n0 : Int} {S h : mx_H} {n : Int} {d dR : Nat} {t : Int → Int} {N p : Int} {σ : Int → Int}
theorem J_l0_r0 {S' h' : mx_H} {n' : Int} (Y : RX t N p S' h') (y39 : h' 39 = σ) (wN : 0 ≤ σ 0 ∧ σ 0 ≤ 6) (wL : 0 ≤ σ 1 ∧ σ 1 ≤ 5)  (q0 : ¬ tnu t N (0) (σ 0 - 1) (tpl t N p)) : ∃ g', mx_M (d + 5) 172 [(2, 38), (0, 0)] S' h' n' = some (some (0, 0), S', g', n') ∧ fR h' g' ∧ RX t N (tpl t N p) S' g' := by
  obtain ⟨k0, a0, b0, _, Y0⟩ := Y.nx (d := d + 2) (n := n')
  have y0 : k0 39 = σ := by rw [b0.1 39 (by decide)]; exact y39
  have yy0 : k0 39 1 = σ 1 := by rw [y0]
  have z0 : k0 39 1 = σ 1 := yy0
  have zz := (Y0).u0 (d := d + 1) (n := n') (by omega) (by omega) q0
  refine ⟨k0, ?_, b0.r, Y0⟩
  simp (disch := omega) only [mx_vt_h, mx_vt_m, mx_cmp_0, mx_cmp_1, mx_cmp_2, mx_cmp_3, mx_cmp_4, mx_u_s, mx_u_a, mx_u_k, mx_z_a, mx_z_s, mx_t_a, mx_t_2, mx_t_1, mx_t_0, mx_gd_T, mx_gd_t, mx_br_T, mx_br_F, mx_br_t, mx_br_f, mx_br_n, mx_cl_T, mx_cl_t, mx_re_T, mx_re_t, mx_rt_v, mx_rt_0, mx_cu_t, mx_w_id, mx_l_id, mx_b_0, mx_b_1, mx_b_r, mx_nl_0, mx_nl_1, mx_nl_2, mx_nl_n, mx_nl_l, mx_sw_n, mx_sw_h, mx_sw_m, Int.reduceLE, Int.reduceLT, Int.reduceEq, Int.reduceAdd, Int.reduceSub, Int.reduceMul, Int.reduceNeg, Int.reduceToNat, and_self, true_and, and_true, false_and, and_false, true_or, or_true, false_or, or_false, not_true_eq_false, not_false_eq_true, eq_self, rw_X12_takesLine, rw_X12_takesLine_1, Y.m.e, y39, y0, a0, z0, zz]
theorem J_l0_r1 {S' h' : mx_H} {n' : Int} (Y : RX t N p S' h') (y39 : h' 39 = σ) (wN : 0 ≤ σ 0 ∧ σ 0 ≤ 6) (wL : 0 ≤ σ 1 ∧ σ 1 ≤ 5) (q0 : tnu t N (0) (σ 0 - 1) (tpl t N p)) (q1 : ¬ tnu t N (0) (σ 0 - 1) (tpl t N (tpl t N p))) : ∃ g', mx_M (d + 5) 172 [(2, 38), (0, 0)] S' h' n' = some (some (0, 0), S', g', n') ∧ fR h' g' ∧ RX t N (tpl t N (tpl t N p)) S' g' := by
  have h0 := q0.2
  obtain ⟨k0, a0, b0, _, Y0⟩ := Y.nx (d := d + 2) (n := n')
  have y0 : k0 39 = σ := by rw [b0.1 39 (by decide)]; exact y39
  have yy0 : k0 39 1 = σ 1 := by rw [y0]
  have z0 : k0 39 1 = σ 1 := yy0
  obtain ⟨k1, a1, b1, v1, Y1⟩ := (Y0).u (d := d + 1) (n := n') (by omega) (by omega) q0
  have y1 : k1 39 = σ := by rw [b1.1 39 (by decide)]; exact y0
  have yy1 : k1 39 1 = σ 1 := by rw [b1.1 39 (by decide)]; exact z0
  have W1 : RX t N (tpl t N (tpl t N p)) S' (mx_u (mx_u (mx_u (mx_u k1 39 (69 + 4 * σ 1) (0)) 39 (69 + 4 * σ 1 + 1) (tva t N (tpl t N p))) 39 (69 + 4 * σ 1 + 2) (0)) 39 (69 + 4 * σ 1 + 3) (0)) := ((((Y1).w).w).w).w
  have F1 : fR h' (mx_u (mx_u (mx_u (mx_u k1 39 (69 + 4 * σ 1) (0)) 39 (69 + 4 * σ 1 + 1) (tva t N (tpl t N p))) 39 (69 + 4 * σ 1 + 2) (0)) 39 (69 + 4 * σ 1 + 3) (0)) := ((((((b0.r).t b1.r)).u).u).u).u
  have w1 : (mx_u (mx_u (mx_u (mx_u k1 39 (69 + 4 * σ 1) (0)) 39 (69 + 4 * σ 1 + 1) (tva t N (tpl t N p))) 39 (69 + 4 * σ 1 + 2) (0)) 39 (69 + 4 * σ 1 + 3) (0)) 39 = (rwu (rwu (rwu (rwu σ (69 + 4 * σ 1) (0)) (69 + 4 * σ 1 + 1) (tva t N (tpl t N p))) (69 + 4 * σ 1 + 2) (0)) (69 + 4 * σ 1 + 3) (0)) := by simp only [rwu_39, y1]
  have z1 : (mx_u (mx_u (mx_u (mx_u k1 39 (69 + 4 * σ 1) (0)) 39 (69 + 4 * σ 1 + 1) (tva t N (tpl t N p))) 39 (69 + 4 * σ 1 + 2) (0)) 39 (69 + 4 * σ 1 + 3) (0)) 39 1 = σ 1 := by rw [mx_u_k (by omega), mx_u_k (by omega), mx_u_k (by omega), mx_u_k (by omega)]; exact yy1
  have zz := (W1).u0 (d := d + 1) (n := n') (by omega) (by omega) q1
  refine ⟨(mx_u (mx_u (mx_u (mx_u k1 39 (69 + 4 * σ 1) (0)) 39 (69 + 4 * σ 1 + 1) (tva t N (tpl t N p))) 39 (69 + 4 * σ 1 + 2) (0)) 39 (69 + 4 * σ 1 + 3) (0)), ?_, F1, W1⟩
  simp (disch := omega) only [mx_vt_h, mx_vt_m, mx_cmp_0, mx_cmp_1, mx_cmp_2, mx_cmp_3, mx_cmp_4, mx_u_s, mx_u_a, mx_u_k, mx_z_a, mx_z_s, mx_t_a, mx_t_2, mx_t_1, mx_t_0, mx_gd_T, mx_gd_t, mx_br_T, mx_br_F, mx_br_t, mx_br_f, mx_br_n, mx_cl_T, mx_cl_t, mx_re_T, mx_re_t, mx_rt_v, mx_rt_0, mx_cu_t, mx_w_id, mx_l_id, mx_b_0, mx_b_1, mx_b_r, mx_nl_0, mx_nl_1, mx_nl_2, mx_nl_n, mx_nl_l, mx_sw_n, mx_sw_h, mx_sw_m, Int.reduceLE, Int.reduceLT, Int.reduceEq, Int.reduceAdd, Int.reduceSub, Int.reduceMul, Int.reduceNeg, Int.reduceToNat, and_self, true_and, and_true, false_and, and_false, true_or, or_true, false_or, or_false, not_true_eq_false, not_false_eq_true, eq_self, rw_X12_takesLine, rw_X12_takesLine_1, Y.m.e, y39, y0, a0, z0, a1, v1, yy1, y1, z1, zz]
theorem J_l0_r2 {S' h' : mx_H} {n' : Int} (Y : RX t N p S' h') (y39 : h' 39 = σ) (wN : 0 ≤ σ 0 ∧ σ 0 ≤ 6) (wL : 0 ≤ σ 1 ∧ σ 1 ≤ 5) (q0 : tnu t N (0) (σ 0 - 1) (tpl t N p)) (q1 : tnu t N (0) (σ 0 - 1) (tpl t N (tpl t N p))) (q2 : ¬ tby t N 59 (tpl t N (tpl t N (tpl t N p)))) : ∃ g', mx_M (d + 5) 172 [(2, 38), (0, 0)] S' h' n' = some (some (0, 0), S', g', n') ∧ fR h' g' ∧ RX t N (tpl t N (tpl t N (tpl t N p))) S' g' := by
  have h0 := q0.2
  have h1 := q1.2
  obtain ⟨k0, a0, b0, _, Y0⟩ := Y.nx (d := d + 2) (n := n')
  have y0 : k0 39 = σ := by rw [b0.1 39 (by decide)]; exact y39
  have yy0 : k0 39 1 = σ 1 := by rw [y0]
  have z0 : k0 39 1 = σ 1 := yy0
  obtain ⟨k1, a1, b1, v1, Y1⟩ := (Y0).u (d := d + 1) (n := n') (by omega) (by omega) q0
  have y1 : k1 39 = σ := by rw [b1.1 39 (by decide)]; exact y0
  have yy1 : k1 39 1 = σ 1 := by rw [b1.1 39 (by decide)]; exact z0
  have W1 : RX t N (tpl t N (tpl t N p)) S' (mx_u (mx_u (mx_u (mx_u k1 39 (69 + 4 * σ 1) (0)) 39 (69 + 4 * σ 1 + 1) (tva t N (tpl t N p))) 39 (69 + 4 * σ 1 + 2) (0)) 39 (69 + 4 * σ 1 + 3) (0)) := ((((Y1).w).w).w).w
  have F1 : fR h' (mx_u (mx_u (mx_u (mx_u k1 39 (69 + 4 * σ 1) (0)) 39 (69 + 4 * σ 1 + 1) (tva t N (tpl t N p))) 39 (69 + 4 * σ 1 + 2) (0)) 39 (69 + 4 * σ 1 + 3) (0)) := ((((((b0.r).t b1.r)).u).u).u).u
  have w1 : (mx_u (mx_u (mx_u (mx_u k1 39 (69 + 4 * σ 1) (0)) 39 (69 + 4 * σ 1 + 1) (tva t N (tpl t N p))) 39 (69 + 4 * σ 1 + 2) (0)) 39 (69 + 4 * σ 1 + 3) (0)) 39 = (rwu (rwu (rwu (rwu σ (69 + 4 * σ 1) (0)) (69 + 4 * σ 1 + 1) (tva t N (tpl t N p))) (69 + 4 * σ 1 + 2) (0)) (69 + 4 * σ 1 + 3) (0)) := by simp only [rwu_39, y1]
  have z1 : (mx_u (mx_u (mx_u (mx_u k1 39 (69 + 4 * σ 1) (0)) 39 (69 + 4 * σ 1 + 1) (tva t N (tpl t N p))) 39 (69 + 4 * σ 1 + 2) (0)) 39 (69 + 4 * σ 1 + 3) (0)) 39 1 = σ 1 := by rw [mx_u_k (by omega), mx_u_k (by omega), mx_u_k (by omega), mx_u_k (by omega)]; exact yy1
  obtain ⟨k2, a2, b2, v2, Y2⟩ := (W1).u (d := d + 1) (n := n') (by omega) (by omega) q1
  have y2 : k2 39 = (rwu (rwu (rwu (rwu σ (69 + 4 * σ 1) (0)) (69 + 4 * σ 1 + 1) (tva t N (tpl t N p))) (69 + 4 * σ 1 + 2) (0)) (69 + 4 * σ 1 + 3) (0)) := by rw [b2.1 39 (by decide)]; exact w1
  have yy2 : k2 39 1 = σ 1 := by rw [b2.1 39 (by decide)]; exact z1
  have W2 : RX t N (tpl t N (tpl t N (tpl t N p))) S' (mx_u (mx_u k2 39 (69 + 4 * σ 1 + 2) (tva t N (tpl t N (tpl t N p)))) 39 (1) (σ 1 + 1)) := ((Y2).w).w
  have F2 : fR h' (mx_u (mx_u k2 39 (69 + 4 * σ 1 + 2) (tva t N (tpl t N (tpl t N p)))) 39 (1) (σ 1 + 1)) := ((((F1).t b2.r)).u).u
  have w2 : (mx_u (mx_u k2 39 (69 + 4 * σ 1 + 2) (tva t N (tpl t N (tpl t N p)))) 39 (1) (σ 1 + 1)) 39 = (rwu (rwu (rwu (rwu (rwu (rwu σ (69 + 4 * σ 1) (0)) (69 + 4 * σ 1 + 1) (tva t N (tpl t N p))) (69 + 4 * σ 1 + 2) (0)) (69 + 4 * σ 1 + 3) (0)) (69 + 4 * σ 1 + 2) (tva t N (tpl t N (tpl t N p)))) (1) (σ 1 + 1)) := by simp only [rwu_39, y2]
  have z2 : (mx_u (mx_u k2 39 (69 + 4 * σ 1 + 2) (tva t N (tpl t N (tpl t N p)))) 39 (1) (σ 1 + 1)) 39 1 = σ 1 + 1 := mx_u_s
  have zz := (W2).y0 (d := d + 1) (n := n') (by decide) q2
  refine ⟨(mx_u (mx_u k2 39 (69 + 4 * σ 1 + 2) (tva t N (tpl t N (tpl t N p)))) 39 (1) (σ 1 + 1)), ?_, F2, W2⟩
  simp (disch := omega) only [mx_vt_h, mx_vt_m, mx_cmp_0, mx_cmp_1, mx_cmp_2, mx_cmp_3, mx_cmp_4, mx_u_s, mx_u_a, mx_u_k, mx_z_a, mx_z_s, mx_t_a, mx_t_2, mx_t_1, mx_t_0, mx_gd_T, mx_gd_t, mx_br_T, mx_br_F, mx_br_t, mx_br_f, mx_br_n, mx_cl_T, mx_cl_t, mx_re_T, mx_re_t, mx_rt_v, mx_rt_0, mx_cu_t, mx_w_id, mx_l_id, mx_b_0, mx_b_1, mx_b_r, mx_nl_0, mx_nl_1, mx_nl_2, mx_nl_n, mx_nl_l, mx_sw_n, mx_sw_h, mx_sw_m, Int.reduceLE, Int.reduceLT, Int.reduceEq, Int.reduceAdd, Int.reduceSub, Int.reduceMul, Int.reduceNeg, Int.reduceToNat, and_self, true_and, and_true, false_and, and_false, true_or, or_true, false_or, or_false, not_true_eq_false, not_false_eq_true, eq_self, rw_X12_takesLine, rw_X12_takesLine_1, Y.m.e, y39, y0, a0, z0, a1, v1, yy1, y1, z1, a2, v2, yy2, z2, zz]
theorem J_l0_rs {S' h' : mx_H} {n' : Int} (Y : RX t N p S' h') (y39 : h' 39 = σ) (wN : 0 ≤ σ 0 ∧ σ 0 ≤ 6) (wL : 0 ≤ σ 1 ∧ σ 1 ≤ 5) (q0 : tnu t N (0) (σ 0 - 1) (tpl t N p)) (q1 : tnu t N (0) (σ 0 - 1) (tpl t N (tpl t N p))) (q2 : tby t N 59 (tpl t N (tpl t N (tpl t N p)))) : ∃ g', mx_M (d + 5) 172 [(2, 38), (0, 0)] S' h' n' = some (some (0, 1), S', g', n') ∧ fR h' g' ∧ RX t N (tpl t N (tpl t N (tpl t N (tpl t N p)))) S' g' ∧ g' 39 = ladd σ 0 (tva t N (tpl t N p)) (tva t N (tpl t N (tpl t N p))) (0) := by
  have h0 := q0.2
  have h1 := q1.2
  obtain ⟨k0, a0, b0, _, Y0⟩ := Y.nx (d := d + 2) (n := n')
  have y0 : k0 39 = σ := by rw [b0.1 39 (by decide)]; exact y39
  have yy0 : k0 39 1 = σ 1 := by rw [y0]
  have z0 : k0 39 1 = σ 1 := yy0
  obtain ⟨k1, a1, b1, v1, Y1⟩ := (Y0).u (d := d + 1) (n := n') (by omega) (by omega) q0
  have y1 : k1 39 = σ := by rw [b1.1 39 (by decide)]; exact y0
  have yy1 : k1 39 1 = σ 1 := by rw [b1.1 39 (by decide)]; exact z0
  have W1 : RX t N (tpl t N (tpl t N p)) S' (mx_u (mx_u (mx_u (mx_u k1 39 (69 + 4 * σ 1) (0)) 39 (69 + 4 * σ 1 + 1) (tva t N (tpl t N p))) 39 (69 + 4 * σ 1 + 2) (0)) 39 (69 + 4 * σ 1 + 3) (0)) := ((((Y1).w).w).w).w
  have F1 : fR h' (mx_u (mx_u (mx_u (mx_u k1 39 (69 + 4 * σ 1) (0)) 39 (69 + 4 * σ 1 + 1) (tva t N (tpl t N p))) 39 (69 + 4 * σ 1 + 2) (0)) 39 (69 + 4 * σ 1 + 3) (0)) := ((((((b0.r).t b1.r)).u).u).u).u
  have w1 : (mx_u (mx_u (mx_u (mx_u k1 39 (69 + 4 * σ 1) (0)) 39 (69 + 4 * σ 1 + 1) (tva t N (tpl t N p))) 39 (69 + 4 * σ 1 + 2) (0)) 39 (69 + 4 * σ 1 + 3) (0)) 39 = (rwu (rwu (rwu (rwu σ (69 + 4 * σ 1) (0)) (69 + 4 * σ 1 + 1) (tva t N (tpl t N p))) (69 + 4 * σ 1 + 2) (0)) (69 + 4 * σ 1 + 3) (0)) := by simp only [rwu_39, y1]
  have z1 : (mx_u (mx_u (mx_u (mx_u k1 39 (69 + 4 * σ 1) (0)) 39 (69 + 4 * σ 1 + 1) (tva t N (tpl t N p))) 39 (69 + 4 * σ 1 + 2) (0)) 39 (69 + 4 * σ 1 + 3) (0)) 39 1 = σ 1 := by rw [mx_u_k (by omega), mx_u_k (by omega), mx_u_k (by omega), mx_u_k (by omega)]; exact yy1
  obtain ⟨k2, a2, b2, v2, Y2⟩ := (W1).u (d := d + 1) (n := n') (by omega) (by omega) q1
  have y2 : k2 39 = (rwu (rwu (rwu (rwu σ (69 + 4 * σ 1) (0)) (69 + 4 * σ 1 + 1) (tva t N (tpl t N p))) (69 + 4 * σ 1 + 2) (0)) (69 + 4 * σ 1 + 3) (0)) := by rw [b2.1 39 (by decide)]; exact w1
  have yy2 : k2 39 1 = σ 1 := by rw [b2.1 39 (by decide)]; exact z1
  have W2 : RX t N (tpl t N (tpl t N (tpl t N p))) S' (mx_u (mx_u k2 39 (69 + 4 * σ 1 + 2) (tva t N (tpl t N (tpl t N p)))) 39 (1) (σ 1 + 1)) := ((Y2).w).w
  have F2 : fR h' (mx_u (mx_u k2 39 (69 + 4 * σ 1 + 2) (tva t N (tpl t N (tpl t N p)))) 39 (1) (σ 1 + 1)) := ((((F1).t b2.r)).u).u
  have w2 : (mx_u (mx_u k2 39 (69 + 4 * σ 1 + 2) (tva t N (tpl t N (tpl t N p)))) 39 (1) (σ 1 + 1)) 39 = (rwu (rwu (rwu (rwu (rwu (rwu σ (69 + 4 * σ 1) (0)) (69 + 4 * σ 1 + 1) (tva t N (tpl t N p))) (69 + 4 * σ 1 + 2) (0)) (69 + 4 * σ 1 + 3) (0)) (69 + 4 * σ 1 + 2) (tva t N (tpl t N (tpl t N p)))) (1) (σ 1 + 1)) := by simp only [rwu_39, y2]
  have z2 : (mx_u (mx_u k2 39 (69 + 4 * σ 1 + 2) (tva t N (tpl t N (tpl t N p)))) 39 (1) (σ 1 + 1)) 39 1 = σ 1 + 1 := mx_u_s
  obtain ⟨k3, a3, b3, _, Y3⟩ := (W2).y (d := d + 1) (n := n') (by decide) q2
  have y3 : k3 39 = (rwu (rwu (rwu (rwu (rwu (rwu σ (69 + 4 * σ 1) (0)) (69 + 4 * σ 1 + 1) (tva t N (tpl t N p))) (69 + 4 * σ 1 + 2) (0)) (69 + 4 * σ 1 + 3) (0)) (69 + 4 * σ 1 + 2) (tva t N (tpl t N (tpl t N p)))) (1) (σ 1 + 1)) := by rw [b3.1 39 (by decide)]; exact w2
  have yy3 : k3 39 1 = σ 1 + 1 := by rw [b3.1 39 (by decide)]; exact z2
  refine ⟨k3, ?_, ((F2).t b3.r), Y3, ?_⟩
  · simp (disch := omega) only [mx_vt_h, mx_vt_m, mx_cmp_0, mx_cmp_1, mx_cmp_2, mx_cmp_3, mx_cmp_4, mx_u_s, mx_u_a, mx_u_k, mx_z_a, mx_z_s, mx_t_a, mx_t_2, mx_t_1, mx_t_0, mx_gd_T, mx_gd_t, mx_br_T, mx_br_F, mx_br_t, mx_br_f, mx_br_n, mx_cl_T, mx_cl_t, mx_re_T, mx_re_t, mx_rt_v, mx_rt_0, mx_cu_t, mx_w_id, mx_l_id, mx_b_0, mx_b_1, mx_b_r, mx_nl_0, mx_nl_1, mx_nl_2, mx_nl_n, mx_nl_l, mx_sw_n, mx_sw_h, mx_sw_m, Int.reduceLE, Int.reduceLT, Int.reduceEq, Int.reduceAdd, Int.reduceSub, Int.reduceMul, Int.reduceNeg, Int.reduceToNat, and_self, true_and, and_true, false_and, and_false, true_or, or_true, false_or, or_false, not_true_eq_false, not_false_eq_true, eq_self, rw_X12_takesLine, rw_X12_takesLine_1, Y.m.e, y39, y0, a0, z0, a1, v1, yy1, y1, z1, a2, v2, yy2, z2, a3, yy3]
  · rw [y3]; exact lad_0 wL.1
theorem J_l0 (s0 : sv S0 23) (n5 : 53 ≤ n0) (X : CX t N p S h) (D : DS S0 h0 n0 σ S h n) : JB L x t N S0 h0 n0 p σ (mx_M (d + 5) 66 [(2, 22), (0, 0)] S h n) (fun S' h' n' => mx_M (dR + 5) 172 [(2, 38), (0, 0)] S' h' n') := by
  have wN := D.w.N
  have wL := D.w.L
  have c3 : h 23 3 = σ 0 := D.r.c
  have c4 : h 23 4 = σ 1 := D.r.L
  by_cases q6 : σ 1 = 6
  rotate_left 1
  rotate_left 1
  · refine Or.inl ⟨p, S, h, n, ?_, X, D.f, ?_⟩
    · simp (disch := omega) only [mx_vt_h, mx_vt_m, mx_cmp_0, mx_cmp_1, mx_cmp_2, mx_cmp_3, mx_cmp_4, mx_u_s, mx_u_a, mx_u_k, mx_z_a, mx_z_s, mx_t_a, mx_t_2, mx_t_1, mx_t_0, mx_gd_T, mx_gd_t, mx_br_T, mx_br_F, mx_br_t, mx_br_f, mx_br_n, mx_cl_T, mx_cl_t, mx_re_T, mx_re_t, mx_rt_v, mx_rt_0, mx_cu_t, mx_w_id, mx_l_id, mx_b_0, mx_b_1, mx_b_r, mx_nl_0, mx_nl_1, mx_nl_2, mx_nl_n, mx_nl_l, mx_sw_n, mx_sw_h, mx_sw_m, Int.reduceLE, Int.reduceLT, Int.reduceEq, Int.reduceAdd, Int.reduceSub, Int.reduceMul, Int.reduceNeg, Int.reduceToNat, and_self, true_and, and_true, false_and, and_false, true_or, or_true, false_or, or_false, not_true_eq_false, not_false_eq_true, eq_self, rw_X7_lineTold, rw_X7_lineTold_1, X.s.e, D.f.sd s0 n5, c3, c4]
    · intro S' h' n' Y y39 _
      refine ⟨h', ?_, fR_0, Y⟩
      simp (disch := omega) only [mx_vt_h, mx_vt_m, mx_cmp_0, mx_cmp_1, mx_cmp_2, mx_cmp_3, mx_cmp_4, mx_u_s, mx_u_a, mx_u_k, mx_z_a, mx_z_s, mx_t_a, mx_t_2, mx_t_1, mx_t_0, mx_gd_T, mx_gd_t, mx_br_T, mx_br_F, mx_br_t, mx_br_f, mx_br_n, mx_cl_T, mx_cl_t, mx_re_T, mx_re_t, mx_rt_v, mx_rt_0, mx_cu_t, mx_w_id, mx_l_id, mx_b_0, mx_b_1, mx_b_r, mx_nl_0, mx_nl_1, mx_nl_2, mx_nl_n, mx_nl_l, mx_sw_n, mx_sw_h, mx_sw_m, Int.reduceLE, Int.reduceLT, Int.reduceEq, Int.reduceAdd, Int.reduceSub, Int.reduceMul, Int.reduceNeg, Int.reduceToNat, and_self, true_and, and_true, false_and, and_false, true_or, or_true, false_or, or_false, not_true_eq_false, not_false_eq_true, eq_self, rw_X12_takesLine, rw_X12_takesLine_1, Y.m.e, y39, q6]
  have wL : 0 ≤ σ 1 ∧ σ 1 ≤ 5 := by omega
  obtain ⟨g0, e0, f0, X0⟩ := X.nx (d := d + 2) (n := n)
  have D0 := D.go f0
  have c30 : g0 23 3 = σ 0 := D0.r.c
  have c40 : g0 23 4 = σ 1 := D0.r.L
  by_cases q0 : tnu t N (0) (σ 0 - 1) (tpl t N p)
  rotate_left 1
  · refine Or.inl ⟨(tpl t N p), S, g0, n, ?_, X0, D0.f, fun S' h' n' Y y39 _ => J_l0_r0 Y y39 wN wL q0⟩
    have zz := X0.u0 (d := d + 1) (n := n) q0
    simp (disch := omega) only [mx_vt_h, mx_vt_m, mx_cmp_0, mx_cmp_1, mx_cmp_2, mx_cmp_3, mx_cmp_4, mx_u_s, mx_u_a, mx_u_k, mx_z_a, mx_z_s, mx_t_a, mx_t_2, mx_t_1, mx_t_0, mx_gd_T, mx_gd_t, mx_br_T, mx_br_F, mx_br_t, mx_br_f, mx_br_n, mx_cl_T, mx_cl_t, mx_re_T, mx_re_t, mx_rt_v, mx_rt_0, mx_cu_t, mx_w_id, mx_l_id, mx_b_0, mx_b_1, mx_b_r, mx_nl_0, mx_nl_1, mx_nl_2, mx_nl_n, mx_nl_l, mx_sw_n, mx_sw_h, mx_sw_m, Int.reduceLE, Int.reduceLT, Int.reduceEq, Int.reduceAdd, Int.reduceSub, Int.reduceMul, Int.reduceNeg, Int.reduceToNat, and_self, true_and, and_true, false_and, and_false, true_or, or_true, false_or, or_false, not_true_eq_false, not_false_eq_true, eq_self, rw_X7_lineTold, rw_X7_lineTold_1, X.s.e, D.f.sd s0 n5, c3, c4, e0, c30, c40, zz]
  obtain ⟨g1, e1, f1, X1⟩ := X0.u (d := d + 1) (n := n) q0
  have h1 := q0.2
  have D1 := D0.go f1
  have c31 : g1 23 3 = σ 0 := D1.r.c
  have c41 : g1 23 4 = σ 1 := D1.r.L
  by_cases q1 : tnu t N (0) (σ 0 - 1) (tpl t N (tpl t N p))
  rotate_left 1
  · refine Or.inl ⟨(tpl t N (tpl t N p)), S, g1, n, ?_, X1, D1.f, fun S' h' n' Y y39 _ => J_l0_r1 Y y39 wN wL q0 q1⟩
    have zz := X1.u0 (d := d + 1) (n := n) q1
    simp (disch := omega) only [mx_vt_h, mx_vt_m, mx_cmp_0, mx_cmp_1, mx_cmp_2, mx_cmp_3, mx_cmp_4, mx_u_s, mx_u_a, mx_u_k, mx_z_a, mx_z_s, mx_t_a, mx_t_2, mx_t_1, mx_t_0, mx_gd_T, mx_gd_t, mx_br_T, mx_br_F, mx_br_t, mx_br_f, mx_br_n, mx_cl_T, mx_cl_t, mx_re_T, mx_re_t, mx_rt_v, mx_rt_0, mx_cu_t, mx_w_id, mx_l_id, mx_b_0, mx_b_1, mx_b_r, mx_nl_0, mx_nl_1, mx_nl_2, mx_nl_n, mx_nl_l, mx_sw_n, mx_sw_h, mx_sw_m, Int.reduceLE, Int.reduceLT, Int.reduceEq, Int.reduceAdd, Int.reduceSub, Int.reduceMul, Int.reduceNeg, Int.reduceToNat, and_self, true_and, and_true, false_and, and_false, true_or, or_true, false_or, or_false, not_true_eq_false, not_false_eq_true, eq_self, rw_X7_lineTold, rw_X7_lineTold_1, X.s.e, D.f.sd s0 n5, c3, c4, e0, c30, c40, e1, c31, c41, zz]
  obtain ⟨g2, e2, f2, X2⟩ := X1.u (d := d + 1) (n := n) q1
  have h2 := q1.2
  have D2 := D1.go f2
  have c32 : g2 23 3 = σ 0 := D2.r.c
  have c42 : g2 23 4 = σ 1 := D2.r.L
  by_cases q2 : tby t N 59 (tpl t N (tpl t N (tpl t N p)))
  rotate_left 1
  · refine Or.inl ⟨(tpl t N (tpl t N (tpl t N p))), S, g2, n, ?_, X2, D2.f, fun S' h' n' Y y39 _ => J_l0_r2 Y y39 wN wL q0 q1 q2⟩
    have zz := X2.b0 (d := d + 1) (n := n) q2
    simp (disch := omega) only [mx_vt_h, mx_vt_m, mx_cmp_0, mx_cmp_1, mx_cmp_2, mx_cmp_3, mx_cmp_4, mx_u_s, mx_u_a, mx_u_k, mx_z_a, mx_z_s, mx_t_a, mx_t_2, mx_t_1, mx_t_0, mx_gd_T, mx_gd_t, mx_br_T, mx_br_F, mx_br_t, mx_br_f, mx_br_n, mx_cl_T, mx_cl_t, mx_re_T, mx_re_t, mx_rt_v, mx_rt_0, mx_cu_t, mx_w_id, mx_l_id, mx_b_0, mx_b_1, mx_b_r, mx_nl_0, mx_nl_1, mx_nl_2, mx_nl_n, mx_nl_l, mx_sw_n, mx_sw_h, mx_sw_m, Int.reduceLE, Int.reduceLT, Int.reduceEq, Int.reduceAdd, Int.reduceSub, Int.reduceMul, Int.reduceNeg, Int.reduceToNat, and_self, true_and, and_true, false_and, and_false, true_or, or_true, false_or, or_false, not_true_eq_false, not_false_eq_true, eq_self, rw_X7_lineTold, rw_X7_lineTold_1, X.s.e, D.f.sd s0 n5, c3, c4, e0, c30, c40, e1, c31, c41, e2, c32, c42, zz]
  obtain ⟨g3, e3, f3, X3⟩ := X2.b (d := d + 1) (n := n) q2
  have D3 := D2.go f3
  have c33 : g3 23 3 = σ 0 := D3.r.c
  have c43 : g3 23 4 = σ 1 := D3.r.L
  have r0 := tpl_m (t := t) (N := N) (p := p) (X.p0.2)
  have r1 := tpl_m (t := t) (N := N) (p := (tpl t N p)) (r0.2)
  have r2 := tpl_m (t := t) (N := N) (p := (tpl t N (tpl t N p))) (r1.2)
  have r3 := tpl_m (t := t) (N := N) (p := (tpl t N (tpl t N (tpl t N p)))) (r2.2)
  refine Or.inr ⟨(tpl t N (tpl t N (tpl t N (tpl t N p)))), ladd σ 0 (tva t N (tpl t N p)) (tva t N (tpl t N (tpl t N p))) (0), S, mx_u (mx_u (mx_u (mx_u (mx_u (mx_u g3 26 (σ 1 * 4) 0) 26 (σ 1 * 4 + 1) (tva t N (tpl t N p))) 26 (σ 1 * 4 + 2) (tva t N (tpl t N (tpl t N p)))) 26 (σ 1 * 4 + 3) (0)) 23 4 (σ 1 + 1)) 23 5 (mx_w (g3 23 5 + 1)), n, ?_, ?_, ?_, ?_, ?_, fun S' h' n' Y y39 _ => J_l0_rs Y y39 wN wL q0 q1 q2⟩
  · simp (disch := omega) only [mx_vt_h, mx_vt_m, mx_cmp_0, mx_cmp_1, mx_cmp_2, mx_cmp_3, mx_cmp_4, mx_u_s, mx_u_a, mx_u_k, mx_z_a, mx_z_s, mx_t_a, mx_t_2, mx_t_1, mx_t_0, mx_gd_T, mx_gd_t, mx_br_T, mx_br_F, mx_br_t, mx_br_f, mx_br_n, mx_cl_T, mx_cl_t, mx_re_T, mx_re_t, mx_rt_v, mx_rt_0, mx_cu_t, mx_w_id, mx_l_id, mx_b_0, mx_b_1, mx_b_r, mx_nl_0, mx_nl_1, mx_nl_2, mx_nl_n, mx_nl_l, mx_sw_n, mx_sw_h, mx_sw_m, Int.reduceLE, Int.reduceLT, Int.reduceEq, Int.reduceAdd, Int.reduceSub, Int.reduceMul, Int.reduceNeg, Int.reduceToNat, and_self, true_and, and_true, false_and, and_false, true_or, or_true, false_or, or_false, not_true_eq_false, not_false_eq_true, eq_self, rw_X7_lineTold, rw_X7_lineTold_1, rw_X10_addLine, X.s.e, D.f.sd s0 n5, c3, c4, e0, c30, c40, e1, c31, c41, e2, c32, c42, e3, c33, c43]
  · exact X3.go (by simp (disch := omega) only [mx_u_a]) (by simp (disch := omega) only [mx_u_a])
  · refine DS.mk (DF.mk D3.f.S0 D3.f.S4 (fun b a c => by simp (disch := omega) only [mx_u_a]; exact D3.f.g0 b a c) D3.f.m) (rr_la D3.r D3.w (by omega) (by decide) ?_ ?_ ?_ ?_ ?_ ?_ ?_ ?_ ?_ ?_) (ladd_w D3.w (by omega) (by decide) (by omega) (by omega) (by omega) (by omega) (by omega)) ?_
    · simp (disch := omega) only [mx_u_a, mx_u_k]
    · simp (disch := omega) only [mx_u_k, mx_u_s]
    · simp only [Int.reduceAdd]; simp (disch := omega) only [mx_u_a]
    · simp only [Int.reduceAdd]; simp (disch := omega) only [mx_u_a]
    · intro k k0; simp only [Int.reduceAdd]; simp (disch := omega) only [mx_u_a, mx_u_k]
    · simp only [Int.reduceAdd]; simp (disch := omega) only [mx_u_a, mx_u_k, mx_u_s]
    · simp only [Int.reduceAdd]; simp (disch := omega) only [mx_u_a, mx_u_k, mx_u_s]
    · simp only [Int.reduceAdd]; simp (disch := omega) only [mx_u_a, mx_u_k, mx_u_s]
    · simp only [Int.reduceAdd]; simp (disch := omega) only [mx_u_a, mx_u_k, mx_u_s]
    · intro q q1; simp (disch := omega) only [mx_u_a]
    · have := D3.m
      rw [ladd_o (by decide) (by omega)]; exact this
  · omega
  · rw [ladd_o (by decide) (by omega)]
theorem J_l1_r0 {S' h' : mx_H} {n' : Int} (Y : RX t N p S' h') (y39 : h' 39 = σ) (wN : 0 ≤ σ 0 ∧ σ 0 ≤ 6) (wL : 0 ≤ σ 1 ∧ σ 1 ≤ 5)  (q0 : ¬ tnu t N (0) (σ 0 - 1) (tpl t N p)) : ∃ g', mx_M (d + 5) 172 [(2, 38), (0, 1)] S' h' n' = some (some (0, 0), S', g', n') ∧ fR h' g' ∧ RX t N (tpl t N p) S' g' := by
  obtain ⟨k0, a0, b0, _, Y0⟩ := Y.nx (d := d + 2) (n := n')
  have y0 : k0 39 = σ := by rw [b0.1 39 (by decide)]; exact y39
  have yy0 : k0 39 1 = σ 1 := by rw [y0]
  have z0 : k0 39 1 = σ 1 := yy0
  have zz := (Y0).u0 (d := d + 1) (n := n') (by omega) (by omega) q0
  refine ⟨k0, ?_, b0.r, Y0⟩
  simp (disch := omega) only [mx_vt_h, mx_vt_m, mx_cmp_0, mx_cmp_1, mx_cmp_2, mx_cmp_3, mx_cmp_4, mx_u_s, mx_u_a, mx_u_k, mx_z_a, mx_z_s, mx_t_a, mx_t_2, mx_t_1, mx_t_0, mx_gd_T, mx_gd_t, mx_br_T, mx_br_F, mx_br_t, mx_br_f, mx_br_n, mx_cl_T, mx_cl_t, mx_re_T, mx_re_t, mx_rt_v, mx_rt_0, mx_cu_t, mx_w_id, mx_l_id, mx_b_0, mx_b_1, mx_b_r, mx_nl_0, mx_nl_1, mx_nl_2, mx_nl_n, mx_nl_l, mx_sw_n, mx_sw_h, mx_sw_m, Int.reduceLE, Int.reduceLT, Int.reduceEq, Int.reduceAdd, Int.reduceSub, Int.reduceMul, Int.reduceNeg, Int.reduceToNat, and_self, true_and, and_true, false_and, and_false, true_or, or_true, false_or, or_false, not_true_eq_false, not_false_eq_true, eq_self, rw_X12_takesLine, rw_X12_takesLine_1, Y.m.e, y39, y0, a0, z0, zz]
theorem J_l1_r1 {S' h' : mx_H} {n' : Int} (Y : RX t N p S' h') (y39 : h' 39 = σ) (wN : 0 ≤ σ 0 ∧ σ 0 ≤ 6) (wL : 0 ≤ σ 1 ∧ σ 1 ≤ 5) (q0 : tnu t N (0) (σ 0 - 1) (tpl t N p)) (q1 : ¬ tnu t N (0) (σ 0 - 1) (tpl t N (tpl t N p))) : ∃ g', mx_M (d + 5) 172 [(2, 38), (0, 1)] S' h' n' = some (some (0, 0), S', g', n') ∧ fR h' g' ∧ RX t N (tpl t N (tpl t N p)) S' g' := by
  have h0 := q0.2
  obtain ⟨k0, a0, b0, _, Y0⟩ := Y.nx (d := d + 2) (n := n')
  have y0 : k0 39 = σ := by rw [b0.1 39 (by decide)]; exact y39
  have yy0 : k0 39 1 = σ 1 := by rw [y0]
  have z0 : k0 39 1 = σ 1 := yy0
  obtain ⟨k1, a1, b1, v1, Y1⟩ := (Y0).u (d := d + 1) (n := n') (by omega) (by omega) q0
  have y1 : k1 39 = σ := by rw [b1.1 39 (by decide)]; exact y0
  have yy1 : k1 39 1 = σ 1 := by rw [b1.1 39 (by decide)]; exact z0
  have W1 : RX t N (tpl t N (tpl t N p)) S' (mx_u (mx_u (mx_u (mx_u k1 39 (69 + 4 * σ 1) (1)) 39 (69 + 4 * σ 1 + 1) (tva t N (tpl t N p))) 39 (69 + 4 * σ 1 + 2) (0)) 39 (69 + 4 * σ 1 + 3) (0)) := ((((Y1).w).w).w).w
  have F1 : fR h' (mx_u (mx_u (mx_u (mx_u k1 39 (69 + 4 * σ 1) (1)) 39 (69 + 4 * σ 1 + 1) (tva t N (tpl t N p))) 39 (69 + 4 * σ 1 + 2) (0)) 39 (69 + 4 * σ 1 + 3) (0)) := ((((((b0.r).t b1.r)).u).u).u).u
  have w1 : (mx_u (mx_u (mx_u (mx_u k1 39 (69 + 4 * σ 1) (1)) 39 (69 + 4 * σ 1 + 1) (tva t N (tpl t N p))) 39 (69 + 4 * σ 1 + 2) (0)) 39 (69 + 4 * σ 1 + 3) (0)) 39 = (rwu (rwu (rwu (rwu σ (69 + 4 * σ 1) (1)) (69 + 4 * σ 1 + 1) (tva t N (tpl t N p))) (69 + 4 * σ 1 + 2) (0)) (69 + 4 * σ 1 + 3) (0)) := by simp only [rwu_39, y1]
  have z1 : (mx_u (mx_u (mx_u (mx_u k1 39 (69 + 4 * σ 1) (1)) 39 (69 + 4 * σ 1 + 1) (tva t N (tpl t N p))) 39 (69 + 4 * σ 1 + 2) (0)) 39 (69 + 4 * σ 1 + 3) (0)) 39 1 = σ 1 := by rw [mx_u_k (by omega), mx_u_k (by omega), mx_u_k (by omega), mx_u_k (by omega)]; exact yy1
  have zz := (W1).u0 (d := d + 1) (n := n') (by omega) (by omega) q1
  refine ⟨(mx_u (mx_u (mx_u (mx_u k1 39 (69 + 4 * σ 1) (1)) 39 (69 + 4 * σ 1 + 1) (tva t N (tpl t N p))) 39 (69 + 4 * σ 1 + 2) (0)) 39 (69 + 4 * σ 1 + 3) (0)), ?_, F1, W1⟩
  simp (disch := omega) only [mx_vt_h, mx_vt_m, mx_cmp_0, mx_cmp_1, mx_cmp_2, mx_cmp_3, mx_cmp_4, mx_u_s, mx_u_a, mx_u_k, mx_z_a, mx_z_s, mx_t_a, mx_t_2, mx_t_1, mx_t_0, mx_gd_T, mx_gd_t, mx_br_T, mx_br_F, mx_br_t, mx_br_f, mx_br_n, mx_cl_T, mx_cl_t, mx_re_T, mx_re_t, mx_rt_v, mx_rt_0, mx_cu_t, mx_w_id, mx_l_id, mx_b_0, mx_b_1, mx_b_r, mx_nl_0, mx_nl_1, mx_nl_2, mx_nl_n, mx_nl_l, mx_sw_n, mx_sw_h, mx_sw_m, Int.reduceLE, Int.reduceLT, Int.reduceEq, Int.reduceAdd, Int.reduceSub, Int.reduceMul, Int.reduceNeg, Int.reduceToNat, and_self, true_and, and_true, false_and, and_false, true_or, or_true, false_or, or_false, not_true_eq_false, not_false_eq_true, eq_self, rw_X12_takesLine, rw_X12_takesLine_1, Y.m.e, y39, y0, a0, z0, a1, v1, yy1, y1, z1, zz]
theorem J_l1_r2 {S' h' : mx_H} {n' : Int} (Y : RX t N p S' h') (y39 : h' 39 = σ) (wN : 0 ≤ σ 0 ∧ σ 0 ≤ 6) (wL : 0 ≤ σ 1 ∧ σ 1 ≤ 5) (q0 : tnu t N (0) (σ 0 - 1) (tpl t N p)) (q1 : tnu t N (0) (σ 0 - 1) (tpl t N (tpl t N p))) (q2 : ¬ tby t N 59 (tpl t N (tpl t N (tpl t N p)))) : ∃ g', mx_M (d + 5) 172 [(2, 38), (0, 1)] S' h' n' = some (some (0, 0), S', g', n') ∧ fR h' g' ∧ RX t N (tpl t N (tpl t N (tpl t N p))) S' g' := by
  have h0 := q0.2
  have h1 := q1.2
  obtain ⟨k0, a0, b0, _, Y0⟩ := Y.nx (d := d + 2) (n := n')
  have y0 : k0 39 = σ := by rw [b0.1 39 (by decide)]; exact y39
  have yy0 : k0 39 1 = σ 1 := by rw [y0]
  have z0 : k0 39 1 = σ 1 := yy0
  obtain ⟨k1, a1, b1, v1, Y1⟩ := (Y0).u (d := d + 1) (n := n') (by omega) (by omega) q0
  have y1 : k1 39 = σ := by rw [b1.1 39 (by decide)]; exact y0
  have yy1 : k1 39 1 = σ 1 := by rw [b1.1 39 (by decide)]; exact z0
  have W1 : RX t N (tpl t N (tpl t N p)) S' (mx_u (mx_u (mx_u (mx_u k1 39 (69 + 4 * σ 1) (1)) 39 (69 + 4 * σ 1 + 1) (tva t N (tpl t N p))) 39 (69 + 4 * σ 1 + 2) (0)) 39 (69 + 4 * σ 1 + 3) (0)) := ((((Y1).w).w).w).w
  have F1 : fR h' (mx_u (mx_u (mx_u (mx_u k1 39 (69 + 4 * σ 1) (1)) 39 (69 + 4 * σ 1 + 1) (tva t N (tpl t N p))) 39 (69 + 4 * σ 1 + 2) (0)) 39 (69 + 4 * σ 1 + 3) (0)) := ((((((b0.r).t b1.r)).u).u).u).u
  have w1 : (mx_u (mx_u (mx_u (mx_u k1 39 (69 + 4 * σ 1) (1)) 39 (69 + 4 * σ 1 + 1) (tva t N (tpl t N p))) 39 (69 + 4 * σ 1 + 2) (0)) 39 (69 + 4 * σ 1 + 3) (0)) 39 = (rwu (rwu (rwu (rwu σ (69 + 4 * σ 1) (1)) (69 + 4 * σ 1 + 1) (tva t N (tpl t N p))) (69 + 4 * σ 1 + 2) (0)) (69 + 4 * σ 1 + 3) (0)) := by simp only [rwu_39, y1]
  have z1 : (mx_u (mx_u (mx_u (mx_u k1 39 (69 + 4 * σ 1) (1)) 39 (69 + 4 * σ 1 + 1) (tva t N (tpl t N p))) 39 (69 + 4 * σ 1 + 2) (0)) 39 (69 + 4 * σ 1 + 3) (0)) 39 1 = σ 1 := by rw [mx_u_k (by omega), mx_u_k (by omega), mx_u_k (by omega), mx_u_k (by omega)]; exact yy1
  obtain ⟨k2, a2, b2, v2, Y2⟩ := (W1).u (d := d + 1) (n := n') (by omega) (by omega) q1
  have y2 : k2 39 = (rwu (rwu (rwu (rwu σ (69 + 4 * σ 1) (1)) (69 + 4 * σ 1 + 1) (tva t N (tpl t N p))) (69 + 4 * σ 1 + 2) (0)) (69 + 4 * σ 1 + 3) (0)) := by rw [b2.1 39 (by decide)]; exact w1
  have yy2 : k2 39 1 = σ 1 := by rw [b2.1 39 (by decide)]; exact z1
  have W2 : RX t N (tpl t N (tpl t N (tpl t N p))) S' (mx_u (mx_u k2 39 (69 + 4 * σ 1 + 2) (tva t N (tpl t N (tpl t N p)))) 39 (1) (σ 1 + 1)) := ((Y2).w).w
  have F2 : fR h' (mx_u (mx_u k2 39 (69 + 4 * σ 1 + 2) (tva t N (tpl t N (tpl t N p)))) 39 (1) (σ 1 + 1)) := ((((F1).t b2.r)).u).u
  have w2 : (mx_u (mx_u k2 39 (69 + 4 * σ 1 + 2) (tva t N (tpl t N (tpl t N p)))) 39 (1) (σ 1 + 1)) 39 = (rwu (rwu (rwu (rwu (rwu (rwu σ (69 + 4 * σ 1) (1)) (69 + 4 * σ 1 + 1) (tva t N (tpl t N p))) (69 + 4 * σ 1 + 2) (0)) (69 + 4 * σ 1 + 3) (0)) (69 + 4 * σ 1 + 2) (tva t N (tpl t N (tpl t N p)))) (1) (σ 1 + 1)) := by simp only [rwu_39, y2]
  have z2 : (mx_u (mx_u k2 39 (69 + 4 * σ 1 + 2) (tva t N (tpl t N (tpl t N p)))) 39 (1) (σ 1 + 1)) 39 1 = σ 1 + 1 := mx_u_s
  have zz := (W2).y0 (d := d + 1) (n := n') (by decide) q2
  refine ⟨(mx_u (mx_u k2 39 (69 + 4 * σ 1 + 2) (tva t N (tpl t N (tpl t N p)))) 39 (1) (σ 1 + 1)), ?_, F2, W2⟩
  simp (disch := omega) only [mx_vt_h, mx_vt_m, mx_cmp_0, mx_cmp_1, mx_cmp_2, mx_cmp_3, mx_cmp_4, mx_u_s, mx_u_a, mx_u_k, mx_z_a, mx_z_s, mx_t_a, mx_t_2, mx_t_1, mx_t_0, mx_gd_T, mx_gd_t, mx_br_T, mx_br_F, mx_br_t, mx_br_f, mx_br_n, mx_cl_T, mx_cl_t, mx_re_T, mx_re_t, mx_rt_v, mx_rt_0, mx_cu_t, mx_w_id, mx_l_id, mx_b_0, mx_b_1, mx_b_r, mx_nl_0, mx_nl_1, mx_nl_2, mx_nl_n, mx_nl_l, mx_sw_n, mx_sw_h, mx_sw_m, Int.reduceLE, Int.reduceLT, Int.reduceEq, Int.reduceAdd, Int.reduceSub, Int.reduceMul, Int.reduceNeg, Int.reduceToNat, and_self, true_and, and_true, false_and, and_false, true_or, or_true, false_or, or_false, not_true_eq_false, not_false_eq_true, eq_self, rw_X12_takesLine, rw_X12_takesLine_1, Y.m.e, y39, y0, a0, z0, a1, v1, yy1, y1, z1, a2, v2, yy2, z2, zz]
theorem J_l1_rs {S' h' : mx_H} {n' : Int} (Y : RX t N p S' h') (y39 : h' 39 = σ) (wN : 0 ≤ σ 0 ∧ σ 0 ≤ 6) (wL : 0 ≤ σ 1 ∧ σ 1 ≤ 5) (q0 : tnu t N (0) (σ 0 - 1) (tpl t N p)) (q1 : tnu t N (0) (σ 0 - 1) (tpl t N (tpl t N p))) (q2 : tby t N 59 (tpl t N (tpl t N (tpl t N p)))) : ∃ g', mx_M (d + 5) 172 [(2, 38), (0, 1)] S' h' n' = some (some (0, 1), S', g', n') ∧ fR h' g' ∧ RX t N (tpl t N (tpl t N (tpl t N (tpl t N p)))) S' g' ∧ g' 39 = ladd σ 1 (tva t N (tpl t N p)) (tva t N (tpl t N (tpl t N p))) (0) := by
  have h0 := q0.2
  have h1 := q1.2
  obtain ⟨k0, a0, b0, _, Y0⟩ := Y.nx (d := d + 2) (n := n')
  have y0 : k0 39 = σ := by rw [b0.1 39 (by decide)]; exact y39
  have yy0 : k0 39 1 = σ 1 := by rw [y0]
  have z0 : k0 39 1 = σ 1 := yy0
  obtain ⟨k1, a1, b1, v1, Y1⟩ := (Y0).u (d := d + 1) (n := n') (by omega) (by omega) q0
  have y1 : k1 39 = σ := by rw [b1.1 39 (by decide)]; exact y0
  have yy1 : k1 39 1 = σ 1 := by rw [b1.1 39 (by decide)]; exact z0
  have W1 : RX t N (tpl t N (tpl t N p)) S' (mx_u (mx_u (mx_u (mx_u k1 39 (69 + 4 * σ 1) (1)) 39 (69 + 4 * σ 1 + 1) (tva t N (tpl t N p))) 39 (69 + 4 * σ 1 + 2) (0)) 39 (69 + 4 * σ 1 + 3) (0)) := ((((Y1).w).w).w).w
  have F1 : fR h' (mx_u (mx_u (mx_u (mx_u k1 39 (69 + 4 * σ 1) (1)) 39 (69 + 4 * σ 1 + 1) (tva t N (tpl t N p))) 39 (69 + 4 * σ 1 + 2) (0)) 39 (69 + 4 * σ 1 + 3) (0)) := ((((((b0.r).t b1.r)).u).u).u).u
  have w1 : (mx_u (mx_u (mx_u (mx_u k1 39 (69 + 4 * σ 1) (1)) 39 (69 + 4 * σ 1 + 1) (tva t N (tpl t N p))) 39 (69 + 4 * σ 1 + 2) (0)) 39 (69 + 4 * σ 1 + 3) (0)) 39 = (rwu (rwu (rwu (rwu σ (69 + 4 * σ 1) (1)) (69 + 4 * σ 1 + 1) (tva t N (tpl t N p))) (69 + 4 * σ 1 + 2) (0)) (69 + 4 * σ 1 + 3) (0)) := by simp only [rwu_39, y1]
  have z1 : (mx_u (mx_u (mx_u (mx_u k1 39 (69 + 4 * σ 1) (1)) 39 (69 + 4 * σ 1 + 1) (tva t N (tpl t N p))) 39 (69 + 4 * σ 1 + 2) (0)) 39 (69 + 4 * σ 1 + 3) (0)) 39 1 = σ 1 := by rw [mx_u_k (by omega), mx_u_k (by omega), mx_u_k (by omega), mx_u_k (by omega)]; exact yy1
  obtain ⟨k2, a2, b2, v2, Y2⟩ := (W1).u (d := d + 1) (n := n') (by omega) (by omega) q1
  have y2 : k2 39 = (rwu (rwu (rwu (rwu σ (69 + 4 * σ 1) (1)) (69 + 4 * σ 1 + 1) (tva t N (tpl t N p))) (69 + 4 * σ 1 + 2) (0)) (69 + 4 * σ 1 + 3) (0)) := by rw [b2.1 39 (by decide)]; exact w1
  have yy2 : k2 39 1 = σ 1 := by rw [b2.1 39 (by decide)]; exact z1
  have W2 : RX t N (tpl t N (tpl t N (tpl t N p))) S' (mx_u (mx_u k2 39 (69 + 4 * σ 1 + 2) (tva t N (tpl t N (tpl t N p)))) 39 (1) (σ 1 + 1)) := ((Y2).w).w
  have F2 : fR h' (mx_u (mx_u k2 39 (69 + 4 * σ 1 + 2) (tva t N (tpl t N (tpl t N p)))) 39 (1) (σ 1 + 1)) := ((((F1).t b2.r)).u).u
  have w2 : (mx_u (mx_u k2 39 (69 + 4 * σ 1 + 2) (tva t N (tpl t N (tpl t N p)))) 39 (1) (σ 1 + 1)) 39 = (rwu (rwu (rwu (rwu (rwu (rwu σ (69 + 4 * σ 1) (1)) (69 + 4 * σ 1 + 1) (tva t N (tpl t N p))) (69 + 4 * σ 1 + 2) (0)) (69 + 4 * σ 1 + 3) (0)) (69 + 4 * σ 1 + 2) (tva t N (tpl t N (tpl t N p)))) (1) (σ 1 + 1)) := by simp only [rwu_39, y2]
  have z2 : (mx_u (mx_u k2 39 (69 + 4 * σ 1 + 2) (tva t N (tpl t N (tpl t N p)))) 39 (1) (σ 1 + 1)) 39 1 = σ 1 + 1 := mx_u_s
  obtain ⟨k3, a3, b3, _, Y3⟩ := (W2).y (d := d + 1) (n := n') (by decide) q2
  have y3 : k3 39 = (rwu (rwu (rwu (rwu (rwu (rwu σ (69 + 4 * σ 1) (1)) (69 + 4 * σ 1 + 1) (tva t N (tpl t N p))) (69 + 4 * σ 1 + 2) (0)) (69 + 4 * σ 1 + 3) (0)) (69 + 4 * σ 1 + 2) (tva t N (tpl t N (tpl t N p)))) (1) (σ 1 + 1)) := by rw [b3.1 39 (by decide)]; exact w2
  have yy3 : k3 39 1 = σ 1 + 1 := by rw [b3.1 39 (by decide)]; exact z2
  refine ⟨k3, ?_, ((F2).t b3.r), Y3, ?_⟩
  · simp (disch := omega) only [mx_vt_h, mx_vt_m, mx_cmp_0, mx_cmp_1, mx_cmp_2, mx_cmp_3, mx_cmp_4, mx_u_s, mx_u_a, mx_u_k, mx_z_a, mx_z_s, mx_t_a, mx_t_2, mx_t_1, mx_t_0, mx_gd_T, mx_gd_t, mx_br_T, mx_br_F, mx_br_t, mx_br_f, mx_br_n, mx_cl_T, mx_cl_t, mx_re_T, mx_re_t, mx_rt_v, mx_rt_0, mx_cu_t, mx_w_id, mx_l_id, mx_b_0, mx_b_1, mx_b_r, mx_nl_0, mx_nl_1, mx_nl_2, mx_nl_n, mx_nl_l, mx_sw_n, mx_sw_h, mx_sw_m, Int.reduceLE, Int.reduceLT, Int.reduceEq, Int.reduceAdd, Int.reduceSub, Int.reduceMul, Int.reduceNeg, Int.reduceToNat, and_self, true_and, and_true, false_and, and_false, true_or, or_true, false_or, or_false, not_true_eq_false, not_false_eq_true, eq_self, rw_X12_takesLine, rw_X12_takesLine_1, Y.m.e, y39, y0, a0, z0, a1, v1, yy1, y1, z1, a2, v2, yy2, z2, a3, yy3]
  · rw [y3]; exact lad_1 wL.1
theorem J_l1 (s0 : sv S0 23) (n5 : 53 ≤ n0) (X : CX t N p S h) (D : DS S0 h0 n0 σ S h n) : JB L x t N S0 h0 n0 p σ (mx_M (d + 5) 66 [(2, 22), (0, 1)] S h n) (fun S' h' n' => mx_M (dR + 5) 172 [(2, 38), (0, 1)] S' h' n') := by
  have wN := D.w.N
  have wL := D.w.L
  have c3 : h 23 3 = σ 0 := D.r.c
  have c4 : h 23 4 = σ 1 := D.r.L
  by_cases q6 : σ 1 = 6
  rotate_left 1
  rotate_left 1
  · refine Or.inl ⟨p, S, h, n, ?_, X, D.f, ?_⟩
    · simp (disch := omega) only [mx_vt_h, mx_vt_m, mx_cmp_0, mx_cmp_1, mx_cmp_2, mx_cmp_3, mx_cmp_4, mx_u_s, mx_u_a, mx_u_k, mx_z_a, mx_z_s, mx_t_a, mx_t_2, mx_t_1, mx_t_0, mx_gd_T, mx_gd_t, mx_br_T, mx_br_F, mx_br_t, mx_br_f, mx_br_n, mx_cl_T, mx_cl_t, mx_re_T, mx_re_t, mx_rt_v, mx_rt_0, mx_cu_t, mx_w_id, mx_l_id, mx_b_0, mx_b_1, mx_b_r, mx_nl_0, mx_nl_1, mx_nl_2, mx_nl_n, mx_nl_l, mx_sw_n, mx_sw_h, mx_sw_m, Int.reduceLE, Int.reduceLT, Int.reduceEq, Int.reduceAdd, Int.reduceSub, Int.reduceMul, Int.reduceNeg, Int.reduceToNat, and_self, true_and, and_true, false_and, and_false, true_or, or_true, false_or, or_false, not_true_eq_false, not_false_eq_true, eq_self, rw_X7_lineTold, rw_X7_lineTold_1, X.s.e, D.f.sd s0 n5, c3, c4]
    · intro S' h' n' Y y39 _
      refine ⟨h', ?_, fR_0, Y⟩
      simp (disch := omega) only [mx_vt_h, mx_vt_m, mx_cmp_0, mx_cmp_1, mx_cmp_2, mx_cmp_3, mx_cmp_4, mx_u_s, mx_u_a, mx_u_k, mx_z_a, mx_z_s, mx_t_a, mx_t_2, mx_t_1, mx_t_0, mx_gd_T, mx_gd_t, mx_br_T, mx_br_F, mx_br_t, mx_br_f, mx_br_n, mx_cl_T, mx_cl_t, mx_re_T, mx_re_t, mx_rt_v, mx_rt_0, mx_cu_t, mx_w_id, mx_l_id, mx_b_0, mx_b_1, mx_b_r, mx_nl_0, mx_nl_1, mx_nl_2, mx_nl_n, mx_nl_l, mx_sw_n, mx_sw_h, mx_sw_m, Int.reduceLE, Int.reduceLT, Int.reduceEq, Int.reduceAdd, Int.reduceSub, Int.reduceMul, Int.reduceNeg, Int.reduceToNat, and_self, true_and, and_true, false_and, and_false, true_or, or_true, false_or, or_false, not_true_eq_false, not_false_eq_true, eq_self, rw_X12_takesLine, rw_X12_takesLine_1, Y.m.e, y39, q6]
  have wL : 0 ≤ σ 1 ∧ σ 1 ≤ 5 := by omega
  obtain ⟨g0, e0, f0, X0⟩ := X.nx (d := d + 2) (n := n)
  have D0 := D.go f0
  have c30 : g0 23 3 = σ 0 := D0.r.c
  have c40 : g0 23 4 = σ 1 := D0.r.L
  by_cases q0 : tnu t N (0) (σ 0 - 1) (tpl t N p)
  rotate_left 1
  · refine Or.inl ⟨(tpl t N p), S, g0, n, ?_, X0, D0.f, fun S' h' n' Y y39 _ => J_l1_r0 Y y39 wN wL q0⟩
    have zz := X0.u0 (d := d + 1) (n := n) q0
    simp (disch := omega) only [mx_vt_h, mx_vt_m, mx_cmp_0, mx_cmp_1, mx_cmp_2, mx_cmp_3, mx_cmp_4, mx_u_s, mx_u_a, mx_u_k, mx_z_a, mx_z_s, mx_t_a, mx_t_2, mx_t_1, mx_t_0, mx_gd_T, mx_gd_t, mx_br_T, mx_br_F, mx_br_t, mx_br_f, mx_br_n, mx_cl_T, mx_cl_t, mx_re_T, mx_re_t, mx_rt_v, mx_rt_0, mx_cu_t, mx_w_id, mx_l_id, mx_b_0, mx_b_1, mx_b_r, mx_nl_0, mx_nl_1, mx_nl_2, mx_nl_n, mx_nl_l, mx_sw_n, mx_sw_h, mx_sw_m, Int.reduceLE, Int.reduceLT, Int.reduceEq, Int.reduceAdd, Int.reduceSub, Int.reduceMul, Int.reduceNeg, Int.reduceToNat, and_self, true_and, and_true, false_and, and_false, true_or, or_true, false_or, or_false, not_true_eq_false, not_false_eq_true, eq_self, rw_X7_lineTold, rw_X7_lineTold_1, X.s.e, D.f.sd s0 n5, c3, c4, e0, c30, c40, zz]
  obtain ⟨g1, e1, f1, X1⟩ := X0.u (d := d + 1) (n := n) q0
  have h1 := q0.2
  have D1 := D0.go f1
  have c31 : g1 23 3 = σ 0 := D1.r.c
  have c41 : g1 23 4 = σ 1 := D1.r.L
  by_cases q1 : tnu t N (0) (σ 0 - 1) (tpl t N (tpl t N p))
  rotate_left 1
  · refine Or.inl ⟨(tpl t N (tpl t N p)), S, g1, n, ?_, X1, D1.f, fun S' h' n' Y y39 _ => J_l1_r1 Y y39 wN wL q0 q1⟩
    have zz := X1.u0 (d := d + 1) (n := n) q1
    simp (disch := omega) only [mx_vt_h, mx_vt_m, mx_cmp_0, mx_cmp_1, mx_cmp_2, mx_cmp_3, mx_cmp_4, mx_u_s, mx_u_a, mx_u_k, mx_z_a, mx_z_s, mx_t_a, mx_t_2, mx_t_1, mx_t_0, mx_gd_T, mx_gd_t, mx_br_T, mx_br_F, mx_br_t, mx_br_f, mx_br_n, mx_cl_T, mx_cl_t, mx_re_T, mx_re_t, mx_rt_v, mx_rt_0, mx_cu_t, mx_w_id, mx_l_id, mx_b_0, mx_b_1, mx_b_r, mx_nl_0, mx_nl_1, mx_nl_2, mx_nl_n, mx_nl_l, mx_sw_n, mx_sw_h, mx_sw_m, Int.reduceLE, Int.reduceLT, Int.reduceEq, Int.reduceAdd, Int.reduceSub, Int.reduceMul, Int.reduceNeg, Int.reduceToNat, and_self, true_and, and_true, false_and, and_false, true_or, or_true, false_or, or_false, not_true_eq_false, not_false_eq_true, eq_self, rw_X7_lineTold, rw_X7_lineTold_1, X.s.e, D.f.sd s0 n5, c3, c4, e0, c30, c40, e1, c31, c41, zz]
  obtain ⟨g2, e2, f2, X2⟩ := X1.u (d := d + 1) (n := n) q1
  have h2 := q1.2
  have D2 := D1.go f2
  have c32 : g2 23 3 = σ 0 := D2.r.c
  have c42 : g2 23 4 = σ 1 := D2.r.L
  by_cases q2 : tby t N 59 (tpl t N (tpl t N (tpl t N p)))
  rotate_left 1
  · refine Or.inl ⟨(tpl t N (tpl t N (tpl t N p))), S, g2, n, ?_, X2, D2.f, fun S' h' n' Y y39 _ => J_l1_r2 Y y39 wN wL q0 q1 q2⟩
    have zz := X2.b0 (d := d + 1) (n := n) q2
    simp (disch := omega) only [mx_vt_h, mx_vt_m, mx_cmp_0, mx_cmp_1, mx_cmp_2, mx_cmp_3, mx_cmp_4, mx_u_s, mx_u_a, mx_u_k, mx_z_a, mx_z_s, mx_t_a, mx_t_2, mx_t_1, mx_t_0, mx_gd_T, mx_gd_t, mx_br_T, mx_br_F, mx_br_t, mx_br_f, mx_br_n, mx_cl_T, mx_cl_t, mx_re_T, mx_re_t, mx_rt_v, mx_rt_0, mx_cu_t, mx_w_id, mx_l_id, mx_b_0, mx_b_1, mx_b_r, mx_nl_0, mx_nl_1, mx_nl_2, mx_nl_n, mx_nl_l, mx_sw_n, mx_sw_h, mx_sw_m, Int.reduceLE, Int.reduceLT, Int.reduceEq, Int.reduceAdd, Int.reduceSub, Int.reduceMul, Int.reduceNeg, Int.reduceToNat, and_self, true_and, and_true, false_and, and_false, true_or, or_true, false_or, or_false, not_true_eq_false, not_false_eq_true, eq_self, rw_X7_lineTold, rw_X7_lineTold_1, X.s.e, D.f.sd s0 n5, c3, c4, e0, c30, c40, e1, c31, c41, e2, c32, c42, zz]
  obtain ⟨g3, e3, f3, X3⟩ := X2.b (d := d + 1) (n := n) q2
  have D3 := D2.go f3
  have c33 : g3 23 3 = σ 0 := D3.r.c
  have c43 : g3 23 4 = σ 1 := D3.r.L
  have r0 := tpl_m (t := t) (N := N) (p := p) (X.p0.2)
  have r1 := tpl_m (t := t) (N := N) (p := (tpl t N p)) (r0.2)
  have r2 := tpl_m (t := t) (N := N) (p := (tpl t N (tpl t N p))) (r1.2)
  have r3 := tpl_m (t := t) (N := N) (p := (tpl t N (tpl t N (tpl t N p)))) (r2.2)
  refine Or.inr ⟨(tpl t N (tpl t N (tpl t N (tpl t N p)))), ladd σ 1 (tva t N (tpl t N p)) (tva t N (tpl t N (tpl t N p))) (0), S, mx_u (mx_u (mx_u (mx_u (mx_u (mx_u g3 26 (σ 1 * 4) 1) 26 (σ 1 * 4 + 1) (tva t N (tpl t N p))) 26 (σ 1 * 4 + 2) (tva t N (tpl t N (tpl t N p)))) 26 (σ 1 * 4 + 3) (0)) 23 4 (σ 1 + 1)) 23 5 (mx_w (g3 23 5 + 1)), n, ?_, ?_, ?_, ?_, ?_, fun S' h' n' Y y39 _ => J_l1_rs Y y39 wN wL q0 q1 q2⟩
  · simp (disch := omega) only [mx_vt_h, mx_vt_m, mx_cmp_0, mx_cmp_1, mx_cmp_2, mx_cmp_3, mx_cmp_4, mx_u_s, mx_u_a, mx_u_k, mx_z_a, mx_z_s, mx_t_a, mx_t_2, mx_t_1, mx_t_0, mx_gd_T, mx_gd_t, mx_br_T, mx_br_F, mx_br_t, mx_br_f, mx_br_n, mx_cl_T, mx_cl_t, mx_re_T, mx_re_t, mx_rt_v, mx_rt_0, mx_cu_t, mx_w_id, mx_l_id, mx_b_0, mx_b_1, mx_b_r, mx_nl_0, mx_nl_1, mx_nl_2, mx_nl_n, mx_nl_l, mx_sw_n, mx_sw_h, mx_sw_m, Int.reduceLE, Int.reduceLT, Int.reduceEq, Int.reduceAdd, Int.reduceSub, Int.reduceMul, Int.reduceNeg, Int.reduceToNat, and_self, true_and, and_true, false_and, and_false, true_or, or_true, false_or, or_false, not_true_eq_false, not_false_eq_true, eq_self, rw_X7_lineTold, rw_X7_lineTold_1, rw_X10_addLine, X.s.e, D.f.sd s0 n5, c3, c4, e0, c30, c40, e1, c31, c41, e2, c32, c42, e3, c33, c43]
  · exact X3.go (by simp (disch := omega) only [mx_u_a]) (by simp (disch := omega) only [mx_u_a])
  · refine DS.mk (DF.mk D3.f.S0 D3.f.S4 (fun b a c => by simp (disch := omega) only [mx_u_a]; exact D3.f.g0 b a c) D3.f.m) (rr_la D3.r D3.w (by omega) (by decide) ?_ ?_ ?_ ?_ ?_ ?_ ?_ ?_ ?_ ?_) (ladd_w D3.w (by omega) (by decide) (by omega) (by omega) (by omega) (by omega) (by omega)) ?_
    · simp (disch := omega) only [mx_u_a, mx_u_k]
    · simp (disch := omega) only [mx_u_k, mx_u_s]
    · simp only [Int.reduceAdd]; simp (disch := omega) only [mx_u_a]
    · simp only [Int.reduceAdd]; simp (disch := omega) only [mx_u_a]
    · intro k k0; simp only [Int.reduceAdd]; simp (disch := omega) only [mx_u_a, mx_u_k]
    · simp only [Int.reduceAdd]; simp (disch := omega) only [mx_u_a, mx_u_k, mx_u_s]
    · simp only [Int.reduceAdd]; simp (disch := omega) only [mx_u_a, mx_u_k, mx_u_s]
    · simp only [Int.reduceAdd]; simp (disch := omega) only [mx_u_a, mx_u_k, mx_u_s]
    · simp only [Int.reduceAdd]; simp (disch := omega) only [mx_u_a, mx_u_k, mx_u_s]
    · intro q q1; simp (disch := omega) only [mx_u_a]
    · have := D3.m
      rw [ladd_o (by decide) (by omega)]; exact this
  · omega
  · rw [ladd_o (by decide) (by omega)]
end
