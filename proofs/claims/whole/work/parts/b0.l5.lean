section
variable {L : Nat} {x : Nat → Int32} {S h : mx_H} {n c i : Int} {d : Nat}
theorem w_step (v : Inv L x S h n c) (hc : c ≤ 599) (L2 : (L : Int) ≤ 3072) (i0 : 0 ≤ i ∧ i + 6 ≤ L) : ∃ S2 h2 n2 c2, mx_ex (d + 13) 257 18 [some (2, -2), some (2, 0), some (2, 38), some (0, i)] [] S h n = mx_ex (d + 13) 257 18 [some (2, -2), some (2, 0), some (2, 38), some (0, i + 6)] [] S2 h2 n2 ∧ Inv L x S2 h2 n2 c2 ∧ c2 ≤ c + 1 := by
  have key : ∀ S2 h2 n2, mx_ex (d + 13) 257 18 [some (2, -2), some (2, 0), some (2, 38), some (0, i)] [] S h n = mx_ex (d + 13) 257 18 [some (2, -2), some (2, 0), some (2, 38), some (0, i + 6)] [] S2 h2 n2 ∧ Inv L x S2 h2 n2 (c + 1) → ∃ S2 h2 n2 c2, mx_ex (d + 13) 257 18 [some (2, -2), some (2, 0), some (2, 38), some (0, i)] [] S h n = mx_ex (d + 13) 257 18 [some (2, -2), some (2, 0), some (2, 38), some (0, i + 6)] [] S2 h2 n2 ∧ Inv L x S2 h2 n2 c2 ∧ c2 ≤ c + 1 := fun S2 h2 n2 e => ⟨S2, h2, n2, c + 1, e.1, e.2, Int.le_refl _⟩
  by_cases q0 : mx_and (h (-2) i) 63 = 0
  · obtain ⟨S2, h2, n2, e⟩ := w_s0 (d := d) v hc L2 i0 q0
    exact key S2 h2 n2 e
  by_cases q1 : mx_and (h (-2) i) 63 = 1
  · obtain ⟨S2, h2, n2, e⟩ := w_s1 (d := d) v hc L2 i0 q1
    exact key S2 h2 n2 e
  by_cases q2 : mx_and (h (-2) i) 63 = 2
  · obtain ⟨S2, h2, n2, e⟩ := w_s2 (d := d) v hc L2 i0 q2
    exact key S2 h2 n2 e
  by_cases q3 : mx_and (h (-2) i) 63 = 3
  · obtain ⟨S2, h2, n2, e⟩ := w_s3 (d := d) v hc L2 i0 q3
    exact key S2 h2 n2 e
  by_cases q4 : mx_and (h (-2) i) 63 = 4
  · obtain ⟨S2, h2, n2, e⟩ := w_s4 (d := d) v hc L2 i0 q4
    exact key S2 h2 n2 e
  by_cases q5 : mx_and (h (-2) i) 63 = 5
  · obtain ⟨S2, h2, n2, e⟩ := w_s5 (d := d) v hc L2 i0 q5
    exact key S2 h2 n2 e
  by_cases q6 : mx_and (h (-2) i) 63 = 6
  · obtain ⟨S2, h2, n2, e⟩ := w_s6 (d := d) v hc L2 i0 q6
    exact key S2 h2 n2 e
  by_cases q7 : mx_and (h (-2) i) 63 = 7
  · obtain ⟨S2, h2, n2, e⟩ := w_s7 (d := d) v hc L2 i0 q7
    exact key S2 h2 n2 e
  by_cases q8 : mx_and (h (-2) i) 63 = 8
  · obtain ⟨S2, h2, n2, e⟩ := w_s8 (d := d) v hc L2 i0 q8
    exact key S2 h2 n2 e
  by_cases q9 : mx_and (h (-2) i) 63 = 9
  · obtain ⟨S2, h2, n2, e⟩ := w_s9 (d := d) v hc L2 i0 q9
    exact key S2 h2 n2 e
  by_cases q10 : mx_and (h (-2) i) 63 = 10
  · obtain ⟨S2, h2, n2, e⟩ := w_s10 (d := d) v hc L2 i0 q10
    exact key S2 h2 n2 e
  by_cases q11 : mx_and (h (-2) i) 63 = 11
  · obtain ⟨S2, h2, n2, e⟩ := w_s11 (d := d) v hc L2 i0 q11
    exact key S2 h2 n2 e
  by_cases q12 : mx_and (h (-2) i) 63 = 12
  · obtain ⟨S2, h2, n2, e⟩ := w_s12 (d := d) v hc L2 i0 q12
    exact key S2 h2 n2 e
  by_cases q13 : mx_and (h (-2) i) 63 = 13
  · obtain ⟨S2, h2, n2, e⟩ := w_s13 (d := d) v hc L2 i0 q13
    exact key S2 h2 n2 e
  by_cases q14 : mx_and (h (-2) i) 63 = 14
  · obtain ⟨S2, h2, n2, e⟩ := w_s14 (d := d) v hc L2 i0 q14
    exact key S2 h2 n2 e
  by_cases q15 : mx_and (h (-2) i) 63 = 15
  · obtain ⟨S2, h2, n2, e⟩ := w_s15 (d := d) v hc L2 i0 q15
    exact key S2 h2 n2 e
  by_cases q16 : mx_and (h (-2) i) 63 = 16
  · obtain ⟨S2, h2, n2, e⟩ := w_s16 (d := d) v hc L2 i0 q16
    exact key S2 h2 n2 e
  by_cases q17 : mx_and (h (-2) i) 63 = 17
  · obtain ⟨S2, h2, n2, e⟩ := w_s17 (d := d) v hc L2 i0 q17
    exact key S2 h2 n2 e
  by_cases q18 : mx_and (h (-2) i) 63 = 18
  · obtain ⟨S2, h2, n2, e⟩ := w_s18 (d := d) v hc L2 i0 q18
    exact key S2 h2 n2 e
  by_cases q19 : mx_and (h (-2) i) 63 = 19
  · obtain ⟨S2, h2, n2, e⟩ := w_s19 (d := d) v hc L2 i0 q19
    exact key S2 h2 n2 e
  by_cases q20 : mx_and (h (-2) i) 63 = 20
  · obtain ⟨S2, h2, n2, e⟩ := w_s20 (d := d) v hc L2 i0 q20
    exact key S2 h2 n2 e
  by_cases q21 : mx_and (h (-2) i) 63 = 21
  · obtain ⟨S2, h2, n2, e⟩ := w_s21 (d := d) v hc L2 i0 q21
    exact key S2 h2 n2 e
  by_cases q22 : mx_and (h (-2) i) 63 = 22
  · obtain ⟨S2, h2, n2, e⟩ := w_s22 (d := d) v hc L2 i0 q22
    exact key S2 h2 n2 e
  by_cases q23 : mx_and (h (-2) i) 63 = 23
  · obtain ⟨S2, h2, n2, e⟩ := w_s23 (d := d) v hc L2 i0 q23
    exact key S2 h2 n2 e
  by_cases q24 : mx_and (h (-2) i) 63 = 24
  · obtain ⟨S2, h2, n2, e⟩ := w_s24 (d := d) v hc L2 i0 q24
    exact key S2 h2 n2 e
  by_cases q25 : mx_and (h (-2) i) 63 = 25
  · obtain ⟨S2, h2, n2, e⟩ := w_s25 (d := d) v hc L2 i0 q25
    exact key S2 h2 n2 e
  by_cases q26 : mx_and (h (-2) i) 63 = 26
  · obtain ⟨S2, h2, n2, e⟩ := w_s26 (d := d) v hc L2 i0 q26
    exact key S2 h2 n2 e
  by_cases q27 : mx_and (h (-2) i) 63 = 27
  · obtain ⟨S2, h2, n2, e⟩ := w_s27 (d := d) v hc L2 i0 q27
    exact key S2 h2 n2 e
  by_cases q28 : mx_and (h (-2) i) 63 = 28
  · obtain ⟨S2, h2, n2, e⟩ := w_s28 (d := d) v hc L2 i0 q28
    exact key S2 h2 n2 e
  by_cases q29 : mx_and (h (-2) i) 63 = 29
  · obtain ⟨S2, h2, n2, e⟩ := w_s29 (d := d) v hc L2 i0 q29
    exact key S2 h2 n2 e
  by_cases q30 : mx_and (h (-2) i) 63 = 30
  · obtain ⟨S2, h2, n2, e⟩ := w_s30 (d := d) v hc L2 i0 q30
    exact key S2 h2 n2 e
  by_cases q31 : mx_and (h (-2) i) 63 = 31
  · obtain ⟨S2, h2, n2, e⟩ := w_s31 (d := d) v hc L2 i0 q31
    exact key S2 h2 n2 e
  by_cases q32 : mx_and (h (-2) i) 63 = 32
  · obtain ⟨S2, h2, n2, e⟩ := w_s32 (d := d) v hc L2 i0 q32
    exact key S2 h2 n2 e
  by_cases q33 : mx_and (h (-2) i) 63 = 33
  · obtain ⟨S2, h2, n2, e⟩ := w_s33 (d := d) v hc L2 i0 q33
    exact key S2 h2 n2 e
  by_cases q34 : mx_and (h (-2) i) 63 = 34
  · obtain ⟨S2, h2, n2, e⟩ := w_s34 (d := d) v hc L2 i0 q34
    exact key S2 h2 n2 e
  by_cases q35 : mx_and (h (-2) i) 63 = 35
  · obtain ⟨S2, h2, n2, e⟩ := w_s35 (d := d) v hc L2 i0 q35
    exact key S2 h2 n2 e
  by_cases q36 : mx_and (h (-2) i) 63 = 36
  · obtain ⟨S2, h2, n2, e⟩ := w_s36 (d := d) v hc L2 i0 q36
    exact key S2 h2 n2 e
  by_cases q37 : mx_and (h (-2) i) 63 = 37
  · obtain ⟨S2, h2, n2, e⟩ := w_s37 (d := d) v hc L2 i0 q37
    exact key S2 h2 n2 e
  by_cases q38 : mx_and (h (-2) i) 63 = 38
  · obtain ⟨S2, h2, n2, e⟩ := w_s38 (d := d) v hc L2 i0 q38
    exact key S2 h2 n2 e
  by_cases q39 : mx_and (h (-2) i) 63 = 39
  · obtain ⟨S2, h2, n2, e⟩ := w_s39 (d := d) v hc L2 i0 q39
    exact key S2 h2 n2 e
  by_cases q40 : mx_and (h (-2) i) 63 = 40
  · obtain ⟨S2, h2, n2, e⟩ := w_s40 (d := d) v hc L2 i0 q40
    exact key S2 h2 n2 e
  by_cases q41 : mx_and (h (-2) i) 63 = 41
  · obtain ⟨S2, h2, n2, e⟩ := w_s41 (d := d) v hc L2 i0 q41
    exact key S2 h2 n2 e
  by_cases q42 : mx_and (h (-2) i) 63 = 42
  · obtain ⟨S2, h2, n2, e⟩ := w_s42 (d := d) v hc L2 i0 q42
    exact key S2 h2 n2 e
  exact ⟨S, h, n, c, w_sx v.sl L2 i0 (by omega), v, by omega⟩
end
theorem w_loop {L : Nat} {x : Nat → Int32} {d : Nat} (L2 : (L : Int) ≤ 3072) {S h : mx_H} {n c i : Int} (v : Inv L x S h n c) (i0 : 0 ≤ i ∧ i ≤ L) (ci : 6 * c ≤ i) : mx_W (mx_ex (d + 13) 257 18 [some (2, -2), some (2, 0), some (2, 38), some (0, i)] [] S h n) (fun v _ _ n' => v = some (0, 1) ∧ n' ≤ 24000) := by
  have vn := v.n
  by_cases q : i + 6 ≤ L
  · obtain ⟨S2, h2, n2, c2, e, w, c3⟩ := w_step (d := d) v (by omega) L2 ⟨i0.1, q⟩
    rw [e]
    exact w_loop L2 w (by omega) (by omega)
  · rw [w_en v.sl L2 i0 q]
    exact mx_W_s ⟨rfl, by omega⟩
termination_by ((L : Int) - i).toNat
decreasing_by omega
theorem w_all {L : Nat} {x : Nat → Int32} {d : Nat} (L2 : (L : Int) ≤ 3072) : mx_W (mx_M (d + 13) 257 [(2, -2)] (st_gS L) (st_gh x) 0) (fun v _ _ n' => v = some (0, 1) ∧ n' ≤ 24000) := by
  simp (disch := omega) only [mx_vt_h, mx_vt_m, mx_cmp_0, mx_cmp_1, mx_cmp_2, mx_cmp_3, mx_cmp_4, mx_u_s, mx_u_a, mx_u_k, mx_z_a, mx_z_s, mx_t_a, mx_t_2, mx_t_1, mx_t_0, mx_gd_T, mx_gd_t, mx_br_T, mx_br_F, mx_br_t, mx_br_f, mx_br_n, mx_cl_T, mx_cl_t, mx_re_T, mx_re_t, mx_rt_v, mx_rt_0, mx_cu_t, mx_w_id, mx_l_id, mx_b_0, mx_b_1, mx_b_r, mx_nl_0, mx_nl_1, mx_nl_2, mx_nl_n, mx_nl_l, mx_sw_n, mx_sw_h, mx_sw_m, Int.reduceLE, Int.reduceLT, Int.reduceEq, Int.reduceAdd, Int.reduceSub, Int.reduceMul, Int.reduceNeg, Int.reduceToNat, and_self, true_and, and_true, false_and, and_false, true_or, or_true, false_or, or_false, not_true_eq_false, not_false_eq_true, eq_self, rw_L_law]
  refine mx_W_rm (n_I (d := d + 9)) ?_
  rintro v S1 h1 n1 ⟨rfl, rfl, W⟩
  simp (disch := omega) only [mx_vt_h, mx_vt_m, mx_cmp_0, mx_cmp_1, mx_cmp_2, mx_cmp_3, mx_cmp_4, mx_u_s, mx_u_a, mx_u_k, mx_z_a, mx_z_s, mx_t_a, mx_t_2, mx_t_1, mx_t_0, mx_gd_T, mx_gd_t, mx_br_T, mx_br_F, mx_br_t, mx_br_f, mx_br_n, mx_cl_T, mx_cl_t, mx_re_T, mx_re_t, mx_rt_v, mx_rt_0, mx_cu_t, mx_w_id, mx_l_id, mx_b_0, mx_b_1, mx_b_r, mx_nl_0, mx_nl_1, mx_nl_2, mx_nl_n, mx_nl_l, mx_sw_n, mx_sw_h, mx_sw_m, Int.reduceLE, Int.reduceLT, Int.reduceEq, Int.reduceAdd, Int.reduceSub, Int.reduceMul, Int.reduceNeg, Int.reduceToNat, and_self, true_and, and_true, false_and, and_false, true_or, or_true, false_or, or_false, not_true_eq_false, not_false_eq_true, eq_self, rw_L_law, Option.toList, List.nil_append]
  refine mx_W_rm W ?_
  rintro v S2 h2 n2 ⟨rfl, V⟩
  simp (disch := omega) only [mx_vt_h, mx_vt_m, mx_cmp_0, mx_cmp_1, mx_cmp_2, mx_cmp_3, mx_cmp_4, mx_u_s, mx_u_a, mx_u_k, mx_z_a, mx_z_s, mx_t_a, mx_t_2, mx_t_1, mx_t_0, mx_gd_T, mx_gd_t, mx_br_T, mx_br_F, mx_br_t, mx_br_f, mx_br_n, mx_cl_T, mx_cl_t, mx_re_T, mx_re_t, mx_rt_v, mx_rt_0, mx_cu_t, mx_w_id, mx_l_id, mx_b_0, mx_b_1, mx_b_r, mx_nl_0, mx_nl_1, mx_nl_2, mx_nl_n, mx_nl_l, mx_sw_n, mx_sw_h, mx_sw_m, Int.reduceLE, Int.reduceLT, Int.reduceEq, Int.reduceAdd, Int.reduceSub, Int.reduceMul, Int.reduceNeg, Int.reduceToNat, and_self, true_and, and_true, false_and, and_false, true_or, or_true, false_or, or_false, not_true_eq_false, not_false_eq_true, eq_self, rw_L_law, Option.toList, List.nil_append]
  exact w_loop L2 V (by omega) (by omega)
