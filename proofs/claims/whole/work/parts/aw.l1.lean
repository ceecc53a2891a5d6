/-! What is made at first -/
section
variable {L : Nat} {x : Nat → Int32} {S h : mx_H} {n : Int} {d : Nat}
theorem n_V {a : Int} (a0 : 0 ≤ a) (s : S a (-2) = 8) : mx_W (mx_M (d + 1) 84 [(2, a)] S h (a + 1)) (fun v S' h' n' => v = none ∧ n' = a + 5 ∧ (∀ b, b < a → S' b = S b ∧ h' b = h b) ∧ sv S' a ∧ h' a 3 = 0 ∧ h' a 4 = 0 ∧ h' a 5 = 0 ∧ (∀ e, 0 ≤ e → e ≤ 2 → h' (a + 1) e = 2) ∧ ∀ e, 0 ≤ e → e ≤ 2 → h' (a + 2) e = 16) := by
  simp (disch := omega) only [mx_vt_h, mx_vt_m, mx_cmp_0, mx_cmp_1, mx_cmp_2, mx_cmp_3, mx_cmp_4, mx_u_s, mx_u_a, mx_u_k, mx_z_a, mx_z_s, mx_t_a, mx_t_2, mx_t_1, mx_t_0, mx_gd_T, mx_gd_t, mx_br_T, mx_br_F, mx_br_t, mx_br_f, mx_br_n, mx_cl_T, mx_cl_t, mx_re_T, mx_re_t, mx_rt_v, mx_rt_0, mx_cu_t, mx_w_id, mx_l_id, mx_b_0, mx_b_1, mx_b_r, mx_nl_0, mx_nl_1, mx_nl_2, mx_nl_n, mx_nl_l, mx_sw_n, mx_sw_h, mx_sw_m, Int.reduceLE, Int.reduceLT, Int.reduceEq, Int.reduceAdd, Int.reduceSub, Int.reduceMul, Int.reduceNeg, Int.reduceToNat, and_self, true_and, and_true, false_and, and_false, true_or, or_true, false_or, or_false, not_true_eq_false, not_false_eq_true, eq_self, rw_X10_init, s]
  rw [c_fill (m := 3) (by simp (disch := omega) only [mx_u_a, mx_u_k, mx_u_s, mx_t_a, mx_t_2]) (by simp (disch := omega) only [mx_u_a, mx_u_k, mx_u_s, mx_t_a, mx_t_1]) (by decide) (by decide)]
  simp (disch := omega) only [mx_vt_h, mx_vt_m, mx_cmp_0, mx_cmp_1, mx_cmp_2, mx_cmp_3, mx_cmp_4, mx_u_s, mx_u_a, mx_u_k, mx_z_a, mx_z_s, mx_t_a, mx_t_2, mx_t_1, mx_t_0, mx_gd_T, mx_gd_t, mx_br_T, mx_br_F, mx_br_t, mx_br_f, mx_br_n, mx_cl_T, mx_cl_t, mx_re_T, mx_re_t, mx_rt_v, mx_rt_0, mx_cu_t, mx_w_id, mx_l_id, mx_b_0, mx_b_1, mx_b_r, mx_nl_0, mx_nl_1, mx_nl_2, mx_nl_n, mx_nl_l, mx_sw_n, mx_sw_h, mx_sw_m, Int.reduceLE, Int.reduceLT, Int.reduceEq, Int.reduceAdd, Int.reduceSub, Int.reduceMul, Int.reduceNeg, Int.reduceToNat, and_self, true_and, and_true, false_and, and_false, true_or, or_true, false_or, or_false, not_true_eq_false, not_false_eq_true, eq_self, rw_X10_init, s, Option.toList, List.nil_append]
  rw [c_fill (m := 3) (by simp (disch := omega) only [mx_u_a, mx_u_k, mx_u_s, mx_t_a, mx_t_2]) (by simp (disch := omega) only [mx_u_a, mx_u_k, mx_u_s, mx_t_a, mx_t_1]) (by decide) (by decide)]
  simp (disch := omega) only [mx_vt_h, mx_vt_m, mx_cmp_0, mx_cmp_1, mx_cmp_2, mx_cmp_3, mx_cmp_4, mx_u_s, mx_u_a, mx_u_k, mx_z_a, mx_z_s, mx_t_a, mx_t_2, mx_t_1, mx_t_0, mx_gd_T, mx_gd_t, mx_br_T, mx_br_F, mx_br_t, mx_br_f, mx_br_n, mx_cl_T, mx_cl_t, mx_re_T, mx_re_t, mx_rt_v, mx_rt_0, mx_cu_t, mx_w_id, mx_l_id, mx_b_0, mx_b_1, mx_b_r, mx_nl_0, mx_nl_1, mx_nl_2, mx_nl_n, mx_nl_l, mx_sw_n, mx_sw_h, mx_sw_m, Int.reduceLE, Int.reduceLT, Int.reduceEq, Int.reduceAdd, Int.reduceSub, Int.reduceMul, Int.reduceNeg, Int.reduceToNat, and_self, true_and, and_true, false_and, and_false, true_or, or_true, false_or, or_false, not_true_eq_false, not_false_eq_true, eq_self, rw_X10_init, s, Option.toList, List.nil_append]
  refine mx_W_s ⟨rfl, by omega, fun b b0 => ⟨?_, ?_⟩, sv.mk ?_, ?_, ?_, ?_, fun e e0 e1 => ?_, fun e e0 e1 => ?_⟩
  · simp (disch := omega) only [mx_u_a, mx_t_a]
  · simp (disch := omega) only [mx_u_a, mx_z_a, fil_a]
  · have e2 : a + 2 = a + 1 + 1 := by omega
    have e3 : a + 3 = a + 1 + 1 + 1 := by omega
    have e4 : a + 4 = a + 1 + 1 + 1 + 1 := by omega
    rw [e2, e3, e4]
    simp (disch := omega) only [mx_u_a, mx_u_k, mx_u_s, mx_t_a, mx_t_2, mx_t_1, s, and_self]
  · simp (disch := omega) only [mx_u_a, mx_u_k, mx_u_s, mx_z_a, mx_z_s, fil_a]
  · simp (disch := omega) only [mx_u_a, mx_u_k, mx_u_s, mx_z_a, mx_z_s, fil_a]
  · simp (disch := omega) only [mx_u_a, mx_u_k, mx_u_s, mx_z_a, mx_z_s, fil_a]
  · simp (disch := omega) only [fil_a, fil_i]
  · have e2 : a + 2 = a + 1 + 1 := by omega
    rw [e2]
    simp (disch := omega) only [fil_a, fil_i]
end
