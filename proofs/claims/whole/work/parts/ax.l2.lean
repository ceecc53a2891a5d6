section
variable {L : Nat} {x : Nat → Int32} {S h : mx_H} {n : Int} {d : Nat}
theorem n_V2 {a : Int} (a0 : 0 ≤ a) (s : S a (-2) = 8) (en : n = a + 1) : mx_W (mx_M (d + 1) 84 [(2, a)] S h n) (fun v S' h' n' => v = none ∧ n' = a + 5 ∧ (∀ b, b < a → S' b = S b ∧ h' b = h b) ∧ sv S' a ∧ h' a 3 = 0 ∧ h' a 4 = 0 ∧ h' a 5 = 0 ∧ (∀ e, 0 ≤ e → e ≤ 2 → h' (a + 1) e = 2) ∧ ∀ e, 0 ≤ e → e ≤ 2 → h' (a + 2) e = 16) := by
  subst en; exact n_V a0 s
theorem n_F (s : S 2 (-2) = 9) (s3 : S (-3) (-2) = 24 ∧ S (-3) (-1) = 8 ∧ S (-4) (-2) = 24 ∧ S (-4) (-1) = 8) : mx_W (mx_M (d + 2) 12 [(2, 2)] S h 3) (fun v S' h' n' => v = none ∧ n' = 17 ∧ (∀ b, b < 2 → S' b = S b ∧ h' b = h b) ∧ sh_F S' ∧ (h' 2 14 = -1 ∧ h' 2 15 = -1 ∧ h' 3 3 = 0 ∧ h' 3 4 = 0 ∧ h' 3 5 = 0) ∧ (∀ e, 0 ≤ e → e ≤ 2 → h' 4 e = 2) ∧ (∀ e, 0 ≤ e → e ≤ 2 → h' 5 e = 16) ∧ ∀ k, h' 15 k = 0) := by
  simp (disch := omega) only [mx_vt_h, mx_vt_m, mx_cmp_0, mx_cmp_1, mx_cmp_2, mx_cmp_3, mx_cmp_4, mx_u_s, mx_u_a, mx_u_k, mx_z_a, mx_z_s, mx_t_a, mx_t_2, mx_t_1, mx_t_0, mx_gd_T, mx_gd_t, mx_br_T, mx_br_F, mx_br_t, mx_br_f, mx_br_n, mx_cl_T, mx_cl_t, mx_re_T, mx_re_t, mx_rt_v, mx_rt_0, mx_cu_t, mx_w_id, mx_l_id, mx_b_0, mx_b_1, mx_b_r, mx_nl_0, mx_nl_1, mx_nl_2, mx_nl_n, mx_nl_l, mx_sw_n, mx_sw_h, mx_sw_m, Int.reduceLE, Int.reduceLT, Int.reduceEq, Int.reduceAdd, Int.reduceSub, Int.reduceMul, Int.reduceNeg, Int.reduceToNat, and_self, true_and, and_true, false_and, and_false, true_or, or_true, false_or, or_false, not_true_eq_false, not_false_eq_true, eq_self, rw_X2_init, s]
  refine mx_W_rm (n_V2 (a := 3) (by decide) (by simp (disch := omega) only [mx_t_a, mx_t_2]) (by decide)) ?_
  rintro v S1 h1 n1 ⟨rfl, rfl, F, V, v3, v4, v5, vl, vh⟩
  have s2 : S1 2 = S 2 := by rw [(F 2 (by decide)).1]; simp (disch := omega) only [mx_t_a]
  have z3 : S1 (-3) = S (-3) := by rw [(F (-3) (by decide)).1]; simp (disch := omega) only [mx_t_a]
  have z4 : S1 (-4) = S (-4) := by rw [(F (-4) (by decide)).1]; simp (disch := omega) only [mx_t_a]
  have Ve := V.e
  simp only [Int.reduceAdd] at Ve vl vh
  simp (disch := omega) only [mx_vt_h, mx_vt_m, mx_cmp_0, mx_cmp_1, mx_cmp_2, mx_cmp_3, mx_cmp_4, mx_u_s, mx_u_a, mx_u_k, mx_z_a, mx_z_s, mx_t_a, mx_t_2, mx_t_1, mx_t_0, mx_gd_T, mx_gd_t, mx_br_T, mx_br_F, mx_br_t, mx_br_f, mx_br_n, mx_cl_T, mx_cl_t, mx_re_T, mx_re_t, mx_rt_v, mx_rt_0, mx_cu_t, mx_w_id, mx_l_id, mx_b_0, mx_b_1, mx_b_r, mx_nl_0, mx_nl_1, mx_nl_2, mx_nl_n, mx_nl_l, mx_sw_n, mx_sw_h, mx_sw_m, Int.reduceLE, Int.reduceLT, Int.reduceEq, Int.reduceAdd, Int.reduceSub, Int.reduceMul, Int.reduceNeg, Int.reduceToNat, and_self, true_and, and_true, false_and, and_false, true_or, or_true, false_or, or_false, not_true_eq_false, not_false_eq_true, eq_self, rw_X2_init, s2, s, Option.toList, List.nil_append]
  refine mx_W_s ⟨rfl, rfl, fun b b0 => ⟨?_, ?_⟩, sh_F.mk ?_, ?_, fun e e0 e1 => ?_, fun e e0 e1 => ?_, fun k => ?_⟩
  · have f := (F b (by omega)).1
    simp (disch := omega) only [mx_u_a, mx_t_a] at f ⊢
    exact f
  · have f := (F b (by omega)).2
    simp (disch := omega) only [mx_u_a, mx_z_a] at f ⊢
    exact f
  · simp (disch := omega) only [mx_u_a, mx_u_k, mx_u_s, mx_t_a, mx_t_2, mx_t_1, z3, z4, s2, s, s3, Ve, and_self]
  · simp (disch := omega) only [mx_u_a, mx_u_k, mx_u_s, mx_z_a, mx_z_s, v3, v4, v5, and_self]
  · simp (disch := omega) only [mx_u_a, mx_z_a]; exact vl e e0 e1
  · simp (disch := omega) only [mx_u_a, mx_z_a]; exact vh e e0 e1
  · simp (disch := omega) only [mx_u_a, mx_z_a, mx_z_s]
theorem n_T (s : S 22 (-2) = 10) : mx_W (mx_M (d + 2) 59 [(2, 22)] S h 23) (fun v S' h' n' => v = none ∧ n' = 30 ∧ (∀ b, b < 22 → S' b = S b ∧ h' b = h b) ∧ sv S' 23 ∧ S' 22 (-2) = 10 ∧ S' 22 0 = 23 ∧ S' 22 2 = 28 ∧ S' 28 (-2) = 20 ∧ S' 28 (-1) = 6) := by
  simp (disch := omega) only [mx_vt_h, mx_vt_m, mx_cmp_0, mx_cmp_1, mx_cmp_2, mx_cmp_3, mx_cmp_4, mx_u_s, mx_u_a, mx_u_k, mx_z_a, mx_z_s, mx_t_a, mx_t_2, mx_t_1, mx_t_0, mx_gd_T, mx_gd_t, mx_br_T, mx_br_F, mx_br_t, mx_br_f, mx_br_n, mx_cl_T, mx_cl_t, mx_re_T, mx_re_t, mx_rt_v, mx_rt_0, mx_cu_t, mx_w_id, mx_l_id, mx_b_0, mx_b_1, mx_b_r, mx_nl_0, mx_nl_1, mx_nl_2, mx_nl_n, mx_nl_l, mx_sw_n, mx_sw_h, mx_sw_m, Int.reduceLE, Int.reduceLT, Int.reduceEq, Int.reduceAdd, Int.reduceSub, Int.reduceMul, Int.reduceNeg, Int.reduceToNat, and_self, true_and, and_true, false_and, and_false, true_or, or_true, false_or, or_false, not_true_eq_false, not_false_eq_true, eq_self, rw_X7_init, s]
  refine mx_W_rm (n_V2 (a := 23) (by decide) (by simp (disch := omega) only [mx_t_a, mx_t_2]) (by decide)) ?_
  rintro v S1 h1 n1 ⟨rfl, rfl, F, V, v3, v4, v5, vl, vh⟩
  have s2 : S1 22 = S 22 := by rw [(F 22 (by decide)).1]; simp (disch := omega) only [mx_t_a]
  have Ve := V.e
  simp only [Int.reduceAdd] at Ve
  simp (disch := omega) only [mx_vt_h, mx_vt_m, mx_cmp_0, mx_cmp_1, mx_cmp_2, mx_cmp_3, mx_cmp_4, mx_u_s, mx_u_a, mx_u_k, mx_z_a, mx_z_s, mx_t_a, mx_t_2, mx_t_1, mx_t_0, mx_gd_T, mx_gd_t, mx_br_T, mx_br_F, mx_br_t, mx_br_f, mx_br_n, mx_cl_T, mx_cl_t, mx_re_T, mx_re_t, mx_rt_v, mx_rt_0, mx_cu_t, mx_w_id, mx_l_id, mx_b_0, mx_b_1, mx_b_r, mx_nl_0, mx_nl_1, mx_nl_2, mx_nl_n, mx_nl_l, mx_sw_n, mx_sw_h, mx_sw_m, Int.reduceLE, Int.reduceLT, Int.reduceEq, Int.reduceAdd, Int.reduceSub, Int.reduceMul, Int.reduceNeg, Int.reduceToNat, and_self, true_and, and_true, false_and, and_false, true_or, or_true, false_or, or_false, not_true_eq_false, not_false_eq_true, eq_self, rw_X7_init, s2, s, Option.toList, List.nil_append]
  refine mx_W_s ⟨rfl, rfl, fun b b0 => ⟨?_, ?_⟩, sv.mk ?_, ?_⟩
  · have f := (F b (by omega)).1
    simp (disch := omega) only [mx_u_a, mx_t_a] at f ⊢
    exact f
  · have f := (F b (by omega)).2
    simp (disch := omega) only [mx_u_a, mx_z_a] at f ⊢
    exact f
  · simp only [Int.reduceAdd]
    simp (disch := omega) only [mx_u_a, mx_u_k, mx_u_s, mx_t_a, mx_t_2, mx_t_1, Ve, and_self]
  · simp (disch := omega) only [mx_u_a, mx_u_k, mx_u_s, mx_t_a, mx_t_2, mx_t_1, s2, s, and_self]
theorem n_P (s : S 36 (-2) = 11) : mx_W (mx_M (d + 1) 74 [(2, 36)] S h 37) (fun v S' h' n' => v = none ∧ n' = 38 ∧ (∀ b, b < 36 → S' b = S b ∧ h' b = h b) ∧ S' 36 (-2) = 11 ∧ S' 36 0 = 37 ∧ S' 37 (-2) = 20 ∧ S' 37 (-1) = 32 ∧ h' 36 1 = 0 ∧ h' 36 2 = -1) := by
  simp (disch := omega) only [mx_vt_h, mx_vt_m, mx_cmp_0, mx_cmp_1, mx_cmp_2, mx_cmp_3, mx_cmp_4, mx_u_s, mx_u_a, mx_u_k, mx_z_a, mx_z_s, mx_t_a, mx_t_2, mx_t_1, mx_t_0, mx_gd_T, mx_gd_t, mx_br_T, mx_br_F, mx_br_t, mx_br_f, mx_br_n, mx_cl_T, mx_cl_t, mx_re_T, mx_re_t, mx_rt_v, mx_rt_0, mx_cu_t, mx_w_id, mx_l_id, mx_b_0, mx_b_1, mx_b_r, mx_nl_0, mx_nl_1, mx_nl_2, mx_nl_n, mx_nl_l, mx_sw_n, mx_sw_h, mx_sw_m, Int.reduceLE, Int.reduceLT, Int.reduceEq, Int.reduceAdd, Int.reduceSub, Int.reduceMul, Int.reduceNeg, Int.reduceToNat, and_self, true_and, and_true, false_and, and_false, true_or, or_true, false_or, or_false, not_true_eq_false, not_false_eq_true, eq_self, rw_X8_init, s]
  refine mx_W_s ⟨rfl, rfl, fun b b0 => ⟨?_, ?_⟩, ?_⟩
  · simp (disch := omega) only [mx_u_a, mx_t_a]
  · simp (disch := omega) only [mx_u_a, mx_z_a]
  · simp (disch := omega) only [mx_u_a, mx_u_k, mx_u_s, mx_t_a, mx_t_2, mx_t_1, s, and_self]
theorem n_C (s : S 0 (-2) = 7) (s3 : S (-3) (-2) = 24 ∧ S (-3) (-1) = 8 ∧ S (-4) (-2) = 24 ∧ S (-4) (-1) = 8) : mx_W (mx_M (d + 3) 98 [(2, 0)] S h 1) (fun v S' h' n' => v = none ∧ n' = 38 ∧ (∀ b, b < 0 → S' b = S b ∧ h' b = h b) ∧ sh_F S' ∧ sv S' 17 ∧ sv S' 23 ∧ sh_X S' ∧ (h' 0 1 = 0 ∧ h' 0 5 = 0 ∧ h' 0 6 = 1 ∧ h' 0 10 = 0) ∧ (h' 2 14 = -1 ∧ h' 2 15 = -1 ∧ h' 3 3 = 0 ∧ h' 3 4 = 0 ∧ h' 3 5 = 0) ∧ (∀ e, 0 ≤ e → e ≤ 2 → h' 4 e = 2) ∧ (∀ e, 0 ≤ e → e ≤ 2 → h' 5 e = 16) ∧ (∀ k, h' 15 k = 0) ∧ (∀ k, 0 ≤ k → k ≤ 3 → S' 32 k = -1 ∧ S' 35 k = -1 ∧ h' 33 k = 2) ∧ h' 36 1 = 0 ∧ h' 36 2 = -1) := by
  simp (disch := omega) only [mx_vt_h, mx_vt_m, mx_cmp_0, mx_cmp_1, mx_cmp_2, mx_cmp_3, mx_cmp_4, mx_u_s, mx_u_a, mx_u_k, mx_z_a, mx_z_s, mx_t_a, mx_t_2, mx_t_1, mx_t_0, mx_gd_T, mx_gd_t, mx_br_T, mx_br_F, mx_br_t, mx_br_f, mx_br_n, mx_cl_T, mx_cl_t, mx_re_T, mx_re_t, mx_rt_v, mx_rt_0, mx_cu_t, mx_w_id, mx_l_id, mx_b_0, mx_b_1, mx_b_r, mx_nl_0, mx_nl_1, mx_nl_2, mx_nl_n, mx_nl_l, mx_sw_n, mx_sw_h, mx_sw_m, Int.reduceLE, Int.reduceLT, Int.reduceEq, Int.reduceAdd, Int.reduceSub, Int.reduceMul, Int.reduceNeg, Int.reduceToNat, and_self, true_and, and_true, false_and, and_false, true_or, or_true, false_or, or_false, not_true_eq_false, not_false_eq_true, eq_self, rw_X11_init, rw_X11_init_1, s]
  refine mx_W_rm (n_F (by simp (disch := omega) only [mx_t_a, mx_t_2]) (by simp (disch := omega) only [mx_t_a, mx_u_a]; exact s3)) ?_
  rintro v S1 h1 n1 ⟨rfl, rfl, F1, sF, f2, f4, f5, f15⟩
  have p0 : S1 0 (-2) = 7 ∧ S1 0 0 = 1 := by
    rw [(F1 0 (by decide)).1]
    simp (disch := omega) only [mx_u_a, mx_u_k, mx_u_s, mx_t_a, s, and_self]
  have p1 : S1 1 (-2) = 20 ∧ S1 1 (-1) = 200 := by
    rw [(F1 1 (by decide)).1]
    simp (disch := omega) only [mx_u_a, mx_u_k, mx_u_s, mx_t_a, mx_t_2, mx_t_1, and_self]
  have pn : ∀ b, b < 0 → S1 b = S b ∧ h1 b = h b := fun b b0 => by
    have a := F1 b (by omega)
    simp (disch := omega) only [mx_u_a, mx_t_a, mx_z_a] at a
    exact a
  have g0 : h1 0 1 = 0 := by
    rw [(F1 0 (by decide)).2]
    simp (disch := omega) only [mx_u_a, mx_u_k, mx_u_s, mx_z_a]
  clear F1
  simp (disch := omega) only [mx_vt_h, mx_vt_m, mx_cmp_0, mx_cmp_1, mx_cmp_2, mx_cmp_3, mx_cmp_4, mx_u_s, mx_u_a, mx_u_k, mx_z_a, mx_z_s, mx_t_a, mx_t_2, mx_t_1, mx_t_0, mx_gd_T, mx_gd_t, mx_br_T, mx_br_F, mx_br_t, mx_br_f, mx_br_n, mx_cl_T, mx_cl_t, mx_re_T, mx_re_t, mx_rt_v, mx_rt_0, mx_cu_t, mx_w_id, mx_l_id, mx_b_0, mx_b_1, mx_b_r, mx_nl_0, mx_nl_1, mx_nl_2, mx_nl_n, mx_nl_l, mx_sw_n, mx_sw_h, mx_sw_m, Int.reduceLE, Int.reduceLT, Int.reduceEq, Int.reduceAdd, Int.reduceSub, Int.reduceMul, Int.reduceNeg, Int.reduceToNat, and_self, true_and, and_true, false_and, and_false, true_or, or_true, false_or, or_false, not_true_eq_false, not_false_eq_true, eq_self, rw_X11_init, rw_X11_init_1, p0, sF.e, Option.toList, List.nil_append]
  refine mx_W_rm (n_V2 (a := 17) (by decide) (by simp (disch := omega) only [mx_t_a, mx_t_2]) (by decide)) ?_
  rintro v S2 h2 n2 ⟨rfl, rfl, F2, V, -, -, -, -, -⟩
  have q0 : S2 0 (-2) = 7 ∧ S2 0 0 = 1 ∧ S2 0 2 = 2 ∧ S2 0 3 = 3 := by
    rw [(F2 0 (by decide)).1]
    simp (disch := omega) only [mx_u_a, mx_u_k, mx_u_s, mx_t_a, p0, and_self]
  have q1 : ∀ b, b < 17 → ¬ b = 0 → S2 b = S1 b ∧ h2 b = h1 b := fun b b0 b1 => by
    have a := F2 b (by omega)
    simp (disch := omega) only [mx_u_a, mx_t_a, mx_z_a] at a
    exact a
  have g1 : h2 0 = h1 0 := by
    rw [(F2 0 (by decide)).2]
    simp (disch := omega) only [mx_z_a]
  clear F2
  simp (disch := omega) only [mx_vt_h, mx_vt_m, mx_cmp_0, mx_cmp_1, mx_cmp_2, mx_cmp_3, mx_cmp_4, mx_u_s, mx_u_a, mx_u_k, mx_z_a, mx_z_s, mx_t_a, mx_t_2, mx_t_1, mx_t_0, mx_gd_T, mx_gd_t, mx_br_T, mx_br_F, mx_br_t, mx_br_f, mx_br_n, mx_cl_T, mx_cl_t, mx_re_T, mx_re_t, mx_rt_v, mx_rt_0, mx_cu_t, mx_w_id, mx_l_id, mx_b_0, mx_b_1, mx_b_r, mx_nl_0, mx_nl_1, mx_nl_2, mx_nl_n, mx_nl_l, mx_sw_n, mx_sw_h, mx_sw_m, Int.reduceLE, Int.reduceLT, Int.reduceEq, Int.reduceAdd, Int.reduceSub, Int.reduceMul, Int.reduceNeg, Int.reduceToNat, and_self, true_and, and_true, false_and, and_false, true_or, or_true, false_or, or_false, not_true_eq_false, not_false_eq_true, eq_self, rw_X11_init, rw_X11_init_1, q0, Option.toList, List.nil_append]
  refine mx_W_rm (n_T (by simp (disch := omega) only [mx_t_a, mx_t_2])) ?_
  rintro v S3 h3 n3 ⟨rfl, rfl, F3, V3, t3⟩
  have r0 : S3 0 (-2) = 7 ∧ S3 0 0 = 1 ∧ S3 0 2 = 2 ∧ S3 0 3 = 3 ∧ S3 0 4 = 17 := by
    rw [(F3 0 (by decide)).1]
    simp (disch := omega) only [mx_u_a, mx_u_k, mx_u_s, mx_t_a, q0, and_self]
  have r1 : ∀ b, b < 22 → ¬ b = 0 → S3 b = S2 b ∧ h3 b = h2 b := fun b b0 b1 => by
    have a := F3 b (by omega)
    simp (disch := omega) only [mx_u_a, mx_t_a, mx_z_a] at a
    exact a
  have g2 : h3 0 1 = 0 ∧ h3 0 5 = 0 ∧ h3 0 6 = 1 := by
    rw [(F3 0 (by decide)).2]
    simp (disch := omega) only [mx_u_a, mx_u_k, mx_u_s, mx_z_a, g1, g0, and_self]
  clear F3
  simp (disch := omega) only [mx_vt_h, mx_vt_m, mx_cmp_0, mx_cmp_1, mx_cmp_2, mx_cmp_3, mx_cmp_4, mx_u_s, mx_u_a, mx_u_k, mx_z_a, mx_z_s, mx_t_a, mx_t_2, mx_t_1, mx_t_0, mx_gd_T, mx_gd_t, mx_br_T, mx_br_F, mx_br_t, mx_br_f, mx_br_n, mx_cl_T, mx_cl_t, mx_re_T, mx_re_t, mx_rt_v, mx_rt_0, mx_cu_t, mx_w_id, mx_l_id, mx_b_0, mx_b_1, mx_b_r, mx_nl_0, mx_nl_1, mx_nl_2, mx_nl_n, mx_nl_l, mx_sw_n, mx_sw_h, mx_sw_m, Int.reduceLE, Int.reduceLT, Int.reduceEq, Int.reduceAdd, Int.reduceSub, Int.reduceMul, Int.reduceNeg, Int.reduceToNat, and_self, true_and, and_true, false_and, and_false, true_or, or_true, false_or, or_false, not_true_eq_false, not_false_eq_true, eq_self, rw_X11_init, rw_X11_init_1, r0, Option.toList, List.nil_append]
  refine mx_W_rm (n_P (by simp (disch := omega) only [mx_t_a, mx_t_2])) ?_
  rintro v S4 h4 n4 ⟨rfl, rfl, F4, t4⟩
  have u0 : S4 0 (-2) = 7 ∧ S4 0 0 = 1 ∧ S4 0 2 = 2 ∧ S4 0 3 = 3 ∧ S4 0 4 = 17 ∧ S4 0 8 = 22 ∧ S4 0 9 = 30 ∧ S4 0 11 = 31 ∧ S4 0 12 = 32 ∧ S4 0 13 = 33 ∧ S4 0 14 = 34 ∧ S4 0 15 = 35 := by
    rw [(F4 0 (by decide)).1]
    simp (disch := omega) only [mx_u_a, mx_u_k, mx_u_s, mx_t_a, r0, and_self]
  have u1 : ∀ b, b < 30 → ¬ b = 0 → S4 b = S3 b ∧ h4 b = h3 b := fun b b0 b1 => by
    have a := F4 b (by omega)
    simp (disch := omega) only [mx_u_a, mx_t_a, mx_z_a] at a
    exact a
  have u2 : S4 30 (-2) = 21 ∧ S4 30 (-1) = 18 ∧ S4 31 (-2) = 20 ∧ S4 31 (-1) = 3 ∧ S4 32 (-2) = 23 ∧ S4 32 (-1) = 4 ∧ S4 33 (-2) = 20 ∧ S4 33 (-1) = 4 ∧ S4 34 (-2) = 20 ∧ S4 34 (-1) = 4 ∧ S4 35 (-2) = 23 ∧ S4 35 (-1) = 4 := by
    rw [(F4 30 (by decide)).1, (F4 31 (by decide)).1, (F4 32 (by decide)).1, (F4 33 (by decide)).1, (F4 34 (by decide)).1, (F4 35 (by decide)).1]
    simp (disch := omega) only [mx_u_a, mx_u_k, mx_u_s, mx_t_a, mx_t_2, mx_t_1, and_self]
  have u3 : ∀ k, 0 ≤ k → k ≤ 3 → S4 32 k = -1 ∧ S4 35 k = -1 := fun k k0 k1 => by
    rw [(F4 32 (by decide)).1, (F4 35 (by decide)).1]
    simp (disch := omega) only [mx_u_a, mx_t_a, mx_t_0, and_self]
  have g3 : h4 0 1 = 0 ∧ h4 0 5 = 0 ∧ h4 0 6 = 1 ∧ h4 0 10 = 0 := by
    rw [(F4 0 (by decide)).2]
    simp (disch := omega) only [mx_u_a, mx_u_k, mx_u_s, mx_z_a, g2, and_self]
  clear F4
  simp (disch := omega) only [mx_vt_h, mx_vt_m, mx_cmp_0, mx_cmp_1, mx_cmp_2, mx_cmp_3, mx_cmp_4, mx_u_s, mx_u_a, mx_u_k, mx_z_a, mx_z_s, mx_t_a, mx_t_2, mx_t_1, mx_t_0, mx_gd_T, mx_gd_t, mx_br_T, mx_br_F, mx_br_t, mx_br_f, mx_br_n, mx_cl_T, mx_cl_t, mx_re_T, mx_re_t, mx_rt_v, mx_rt_0, mx_cu_t, mx_w_id, mx_l_id, mx_b_0, mx_b_1, mx_b_r, mx_nl_0, mx_nl_1, mx_nl_2, mx_nl_n, mx_nl_l, mx_sw_n, mx_sw_h, mx_sw_m, Int.reduceLE, Int.reduceLT, Int.reduceEq, Int.reduceAdd, Int.reduceSub, Int.reduceMul, Int.reduceNeg, Int.reduceToNat, and_self, true_and, and_true, false_and, and_false, true_or, or_true, false_or, or_false, not_true_eq_false, not_false_eq_true, eq_self, rw_X11_init, rw_X11_init_1, u0, Option.toList, List.nil_append]
  rw [c_fill (m := 4) (by simp (disch := omega) only [mx_u_a]; exact u2.2.2.2.2.2.2.1) (by simp (disch := omega) only [mx_u_a]; exact u2.2.2.2.2.2.2.2.1) (by decide) (by decide)]
  simp (disch := omega) only [mx_vt_h, mx_vt_m, mx_cmp_0, mx_cmp_1, mx_cmp_2, mx_cmp_3, mx_cmp_4, mx_u_s, mx_u_a, mx_u_k, mx_z_a, mx_z_s, mx_t_a, mx_t_2, mx_t_1, mx_t_0, mx_gd_T, mx_gd_t, mx_br_T, mx_br_F, mx_br_t, mx_br_f, mx_br_n, mx_cl_T, mx_cl_t, mx_re_T, mx_re_t, mx_rt_v, mx_rt_0, mx_cu_t, mx_w_id, mx_l_id, mx_b_0, mx_b_1, mx_b_r, mx_nl_0, mx_nl_1, mx_nl_2, mx_nl_n, mx_nl_l, mx_sw_n, mx_sw_h, mx_sw_m, Int.reduceLE, Int.reduceLT, Int.reduceEq, Int.reduceAdd, Int.reduceSub, Int.reduceMul, Int.reduceNeg, Int.reduceToNat, and_self, true_and, and_true, false_and, and_false, true_or, or_true, false_or, or_false, not_true_eq_false, not_false_eq_true, eq_self, rw_X11_init, rw_X11_init_1, u0, Option.toList, List.nil_append]
  have all : ∀ b, 0 < b → b < 17 → S4 b = S1 b ∧ h4 b = h1 b := fun b b0 b1 => by
    have a := u1 b (by omega) (by omega)
    have e := r1 b (by omega) (by omega)
    have f := q1 b (by omega) (by omega)
    exact ⟨a.1.trans (e.1.trans f.1), a.2.trans (e.2.trans f.2)⟩
  have neg : ∀ b, b < 0 → S4 b = S b ∧ h4 b = h b := fun b b0 => by
    have a := u1 b (by omega) (by omega)
    have e := r1 b (by omega) (by omega)
    have f := q1 b (by omega) (by omega)
    have g := pn b b0
    exact ⟨a.1.trans (e.1.trans (f.1.trans g.1)), a.2.trans (e.2.trans (f.2.trans g.2))⟩
  refine mx_W_s ⟨rfl, rfl, fun b b0 => ⟨?_, ?_⟩, sh_F.mk ?_, sv.mk ?_, sv.mk ?_, sh_X.mk ?_, ?_, ?_, fun e e0 e1 => ?_, fun e e0 e1 => ?_, fun k => ?_, fun k k0 k1 => ?_, ?_, ?_⟩
  · simp (disch := omega) only [mx_u_a]; exact (neg b b0).1
  · simp (disch := omega) only [fil_a]; exact (neg b b0).2
  · have e := sF.e
    have z3 := (pn (-3) (by decide)).1
    have z4 := (pn (-4) (by decide)).1
    rw [z3, z4] at e
    have oS : ∀ b, 0 < b → b < 17 → mx_u S4 0 16 36 b = S1 b := fun b b0 b1 => by rw [mx_u_a (by omega)]; exact (all b b0 b1).1
    rw [mx_u_a (b := -3) (by decide), mx_u_a (b := -4) (by decide), (neg (-3) (by decide)).1, (neg (-4) (by decide)).1]
    simp (disch := omega) only [oS]; exact e
  · have e := V.e
    simp only [Int.reduceAdd] at e ⊢
    have oS : ∀ b, 17 ≤ b → b < 22 → mx_u S4 0 16 36 b = S2 b := fun b b0 b1 => by rw [mx_u_a (by omega)]; exact ((u1 b (by omega) (by omega)).1).trans (r1 b (by omega) (by omega)).1
    simp (disch := omega) only [oS]; exact e
  · have e := V3.e
    simp only [Int.reduceAdd] at e ⊢
    have oS : ∀ b, 22 ≤ b → b < 30 → mx_u S4 0 16 36 b = S3 b := fun b b0 b1 => by rw [mx_u_a (by omega)]; exact (u1 b (by omega) (by omega)).1
    simp (disch := omega) only [oS]; exact e
  · have a1 := (all 1 (by decide) (by decide)).1
    have a22 := (u1 22 (by decide) (by decide)).1
    have a28 := (u1 28 (by decide) (by decide)).1
    simp (disch := omega) only [mx_u_a, mx_u_k, mx_u_s, u0, a1, p1, a22, a28, t3, u2, t4, and_self]
  · simp (disch := omega) only [fil_a]; exact g3
  · simp (disch := omega) only [fil_a]
    rw [(all 2 (by decide) (by decide)).2, (all 3 (by decide) (by decide)).2]; exact f2
  · simp (disch := omega) only [fil_a]
    rw [(all 4 (by decide) (by decide)).2]; exact f4 e e0 e1
  · simp (disch := omega) only [fil_a]
    rw [(all 5 (by decide) (by decide)).2]; exact f5 e e0 e1
  · simp (disch := omega) only [fil_a]
    rw [(all 15 (by decide) (by decide)).2]; exact f15 k
  · have a := u3 k k0 k1
    refine ⟨?_, ?_, ?_⟩
    · rw [mx_u_a (by decide)]; exact a.1
    · rw [mx_u_a (by decide)]; exact a.2
    · rw [fil_i k0 (by omega)]
  · rw [fil_a (by decide)]; exact t4.2.2.2.2.1
  · rw [fil_a (by decide)]; exact t4.2.2.2.2.2
end
