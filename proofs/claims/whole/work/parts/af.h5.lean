/-! Names -/
section
variable {L : Nat} {x : Nat → Int32} {S h : mx_H} {n : Int} {d : Nat} {t : Int → Int} {N p : Int} {A : Int} {k : Nat}
theorem c_in_l (X : CX t N p S h) (w : ws L x S h) (k0 : k < 24) (eA : A = -10 - (k : Int)) (l : tpl t N p - tst t N p = wln k) {i : Int} (i0 : 0 ≤ i ∧ i ≤ wln k) : mx_ex (d + 5) 69 28 [some (2, 22), some (2, A), some (0, i)] [] S h n = some (some (0, mx_b (∀ j, i ≤ j → j < wln k → t (tst t N p + j) = wch k j)), S, h, n) := by
  have se := X.s.e
  have f := w.s k0 eA
  have r := tst_r (t := t) X.p0.2
  have rp := tpl_r (t := t) X.p0.2
  have p0 := X.p0
  have N2 := X.N2
  have cs := X.c.s
  have ht := X.t
  rw [rh_X7_isName_28]
  by_cases q : i < wln k
  · have ch := c_chA (d := d) (n := n) w k0 eA i0.1 q
    by_cases z : t (tst t N p + i) = wch k i
    · have ih := c_in_l X w k0 eA l (i := i + 1) (by omega)
      have e : (∀ j, i + 1 ≤ j → j < wln k → t (tst t N p + j) = wch k j) ↔ (∀ j, i ≤ j → j < wln k → t (tst t N p + j) = wch k j) := by
        constructor
        · intro g j a b
          by_cases u : j = i
          · rw [u]; exact z
          · exact g j (by omega) b
        · intro g j a b; exact g j (by omega) b
      rw [mx_b_i e] at ih
      simp (disch := omega) only [mx_vt_h, mx_vt_m, mx_cmp_0, mx_cmp_1, mx_cmp_2, mx_cmp_3, mx_cmp_4, mx_u_s, mx_u_a, mx_u_k, mx_z_a, mx_z_s, mx_t_a, mx_t_2, mx_t_1, mx_t_0, mx_gd_T, mx_gd_t, mx_br_T, mx_br_F, mx_br_t, mx_br_f, mx_br_n, mx_cl_T, mx_cl_t, mx_re_T, mx_re_t, mx_rt_v, mx_rt_0, mx_cu_t, mx_w_id, mx_l_id, mx_b_0, mx_b_1, mx_b_r, mx_nl_0, mx_nl_1, mx_nl_2, mx_nl_n, mx_nl_l, mx_sw_n, mx_sw_h, mx_sw_m, Int.reduceLE, Int.reduceLT, Int.reduceEq, Int.reduceAdd, Int.reduceSub, Int.reduceMul, Int.reduceNeg, Int.reduceToNat, and_self, true_and, and_true, false_and, and_false, true_or, or_true, false_or, or_false, not_true_eq_false, not_false_eq_true, eq_self, rw_X7_isName, se, f, c_len w k0 eA, cs, ht, ch, z]
      exact ih
    · simp (disch := omega) only [mx_vt_h, mx_vt_m, mx_cmp_0, mx_cmp_1, mx_cmp_2, mx_cmp_3, mx_cmp_4, mx_u_s, mx_u_a, mx_u_k, mx_z_a, mx_z_s, mx_t_a, mx_t_2, mx_t_1, mx_t_0, mx_gd_T, mx_gd_t, mx_br_T, mx_br_F, mx_br_t, mx_br_f, mx_br_n, mx_cl_T, mx_cl_t, mx_re_T, mx_re_t, mx_rt_v, mx_rt_0, mx_cu_t, mx_w_id, mx_l_id, mx_b_0, mx_b_1, mx_b_r, mx_nl_0, mx_nl_1, mx_nl_2, mx_nl_n, mx_nl_l, mx_sw_n, mx_sw_h, mx_sw_m, Int.reduceLE, Int.reduceLT, Int.reduceEq, Int.reduceAdd, Int.reduceSub, Int.reduceMul, Int.reduceNeg, Int.reduceToNat, and_self, true_and, and_true, false_and, and_false, true_or, or_true, false_or, or_false, not_true_eq_false, not_false_eq_true, eq_self, rw_X7_isName, se, f, c_len w k0 eA, cs, ht, ch, z]
      rw [mx_b_f (fun g => z (g i (by omega) q))]
  · simp (disch := omega) only [mx_vt_h, mx_vt_m, mx_cmp_0, mx_cmp_1, mx_cmp_2, mx_cmp_3, mx_cmp_4, mx_u_s, mx_u_a, mx_u_k, mx_z_a, mx_z_s, mx_t_a, mx_t_2, mx_t_1, mx_t_0, mx_gd_T, mx_gd_t, mx_br_T, mx_br_F, mx_br_t, mx_br_f, mx_br_n, mx_cl_T, mx_cl_t, mx_re_T, mx_re_t, mx_rt_v, mx_rt_0, mx_cu_t, mx_w_id, mx_l_id, mx_b_0, mx_b_1, mx_b_r, mx_nl_0, mx_nl_1, mx_nl_2, mx_nl_n, mx_nl_l, mx_sw_n, mx_sw_h, mx_sw_m, Int.reduceLE, Int.reduceLT, Int.reduceEq, Int.reduceAdd, Int.reduceSub, Int.reduceMul, Int.reduceNeg, Int.reduceToNat, and_self, true_and, and_true, false_and, and_false, true_or, or_true, false_or, or_false, not_true_eq_false, not_false_eq_true, eq_self, rw_X7_isName, se, f, c_len w k0 eA]
    rw [mx_b_t (c := ∀ j, i ≤ j → j < wln k → t (tst t N p + j) = wch k j) (fun j a b => absurd b (by omega))]
termination_by (wln k - i).toNat
decreasing_by omega
theorem c_isN (X : CX t N p S h) (w : ws L x S h) (k0 : k < 24) (eA : A = -10 - (k : Int)) : mx_M (d + 5) 69 [(2, 22), (2, A)] S h n = some (some (0, mx_b (nmm t N p k)), S, h, n) := by
  have se := X.s.e
  have f := w.s k0 eA
  have r := tst_r (t := t) X.p0.2
  have rp := tpl_r (t := t) X.p0.2
  have p0 := X.p0
  have N2 := X.N2
  have cs := X.c.s
  have cp := X.c.p
  have ck := X.c.k
  by_cases q0 : tso t N p = 1
  · by_cases q1 : tpl t N p - tst t N p = wln k
    · have ih := c_in_l (d := d) (n := n) X w k0 eA q1 (i := 0) (by unfold wln; omega)
      have e : (∀ j, 0 ≤ j → j < wln k → t (tst t N p + j) = wch k j) ↔ nmm t N p k := ⟨fun g => ⟨q0, q1, g⟩, fun g => g.2.2⟩
      rw [mx_b_i e] at ih
      simp (disch := omega) only [mx_vt_h, mx_vt_m, mx_cmp_0, mx_cmp_1, mx_cmp_2, mx_cmp_3, mx_cmp_4, mx_u_s, mx_u_a, mx_u_k, mx_z_a, mx_z_s, mx_t_a, mx_t_2, mx_t_1, mx_t_0, mx_gd_T, mx_gd_t, mx_br_T, mx_br_F, mx_br_t, mx_br_f, mx_br_n, mx_cl_T, mx_cl_t, mx_re_T, mx_re_t, mx_rt_v, mx_rt_0, mx_cu_t, mx_w_id, mx_l_id, mx_b_0, mx_b_1, mx_b_r, mx_nl_0, mx_nl_1, mx_nl_2, mx_nl_n, mx_nl_l, mx_sw_n, mx_sw_h, mx_sw_m, Int.reduceLE, Int.reduceLT, Int.reduceEq, Int.reduceAdd, Int.reduceSub, Int.reduceMul, Int.reduceNeg, Int.reduceToNat, and_self, true_and, and_true, false_and, and_false, true_or, or_true, false_or, or_false, not_true_eq_false, not_false_eq_true, eq_self, rw_X7_isName, se, f, c_len w k0 eA, cs, cp, ck, q0]
      exact ih
    · rw [mx_b_f (fun g => q1 g.2.1)]
      simp (disch := omega) only [mx_vt_h, mx_vt_m, mx_cmp_0, mx_cmp_1, mx_cmp_2, mx_cmp_3, mx_cmp_4, mx_u_s, mx_u_a, mx_u_k, mx_z_a, mx_z_s, mx_t_a, mx_t_2, mx_t_1, mx_t_0, mx_gd_T, mx_gd_t, mx_br_T, mx_br_F, mx_br_t, mx_br_f, mx_br_n, mx_cl_T, mx_cl_t, mx_re_T, mx_re_t, mx_rt_v, mx_rt_0, mx_cu_t, mx_w_id, mx_l_id, mx_b_0, mx_b_1, mx_b_r, mx_nl_0, mx_nl_1, mx_nl_2, mx_nl_n, mx_nl_l, mx_sw_n, mx_sw_h, mx_sw_m, Int.reduceLE, Int.reduceLT, Int.reduceEq, Int.reduceAdd, Int.reduceSub, Int.reduceMul, Int.reduceNeg, Int.reduceToNat, and_self, true_and, and_true, false_and, and_false, true_or, or_true, false_or, or_false, not_true_eq_false, not_false_eq_true, eq_self, rw_X7_isName, se, f, c_len w k0 eA, cs, cp, ck, q0]
  · rw [mx_b_f (fun g => q0 g.1)]
    simp (disch := omega) only [mx_vt_h, mx_vt_m, mx_cmp_0, mx_cmp_1, mx_cmp_2, mx_cmp_3, mx_cmp_4, mx_u_s, mx_u_a, mx_u_k, mx_z_a, mx_z_s, mx_t_a, mx_t_2, mx_t_1, mx_t_0, mx_gd_T, mx_gd_t, mx_br_T, mx_br_F, mx_br_t, mx_br_f, mx_br_n, mx_cl_T, mx_cl_t, mx_re_T, mx_re_t, mx_rt_v, mx_rt_0, mx_cu_t, mx_w_id, mx_l_id, mx_b_0, mx_b_1, mx_b_r, mx_nl_0, mx_nl_1, mx_nl_2, mx_nl_n, mx_nl_l, mx_sw_n, mx_sw_h, mx_sw_m, Int.reduceLE, Int.reduceLT, Int.reduceEq, Int.reduceAdd, Int.reduceSub, Int.reduceMul, Int.reduceNeg, Int.reduceToNat, and_self, true_and, and_true, false_and, and_false, true_or, or_true, false_or, or_false, not_true_eq_false, not_false_eq_true, eq_self, rw_X7_isName, se, ck, q0]
theorem c_im_0 (X : RX t N p S h) (w : ws L x S h) (k0 : k < 24) (eA : A = -10 - (k : Int)) {i : Int} : mx_ex (d + 5) 166 32 [some (2, 38), some (2, A), some (0, 0), some (0, i)] [] S h n = some (some (0, 0), S, h, n) := by
  have f := w.s k0 eA
  rw [rh_X12_isName_32]
  by_cases q : i < wln k
  · simp (disch := omega) only [mx_vt_h, mx_vt_m, mx_cmp_0, mx_cmp_1, mx_cmp_2, mx_cmp_3, mx_cmp_4, mx_u_s, mx_u_a, mx_u_k, mx_z_a, mx_z_s, mx_t_a, mx_t_2, mx_t_1, mx_t_0, mx_gd_T, mx_gd_t, mx_br_T, mx_br_F, mx_br_t, mx_br_f, mx_br_n, mx_cl_T, mx_cl_t, mx_re_T, mx_re_t, mx_rt_v, mx_rt_0, mx_cu_t, mx_w_id, mx_l_id, mx_b_0, mx_b_1, mx_b_r, mx_nl_0, mx_nl_1, mx_nl_2, mx_nl_n, mx_nl_l, mx_sw_n, mx_sw_h, mx_sw_m, Int.reduceLE, Int.reduceLT, Int.reduceEq, Int.reduceAdd, Int.reduceSub, Int.reduceMul, Int.reduceNeg, Int.reduceToNat, and_self, true_and, and_true, false_and, and_false, true_or, or_true, false_or, or_false, not_true_eq_false, not_false_eq_true, eq_self, rw_X12_isName, f, c_len w k0 eA]
  · simp (disch := omega) only [mx_vt_h, mx_vt_m, mx_cmp_0, mx_cmp_1, mx_cmp_2, mx_cmp_3, mx_cmp_4, mx_u_s, mx_u_a, mx_u_k, mx_z_a, mx_z_s, mx_t_a, mx_t_2, mx_t_1, mx_t_0, mx_gd_T, mx_gd_t, mx_br_T, mx_br_F, mx_br_t, mx_br_f, mx_br_n, mx_cl_T, mx_cl_t, mx_re_T, mx_re_t, mx_rt_v, mx_rt_0, mx_cu_t, mx_w_id, mx_l_id, mx_b_0, mx_b_1, mx_b_r, mx_nl_0, mx_nl_1, mx_nl_2, mx_nl_n, mx_nl_l, mx_sw_n, mx_sw_h, mx_sw_m, Int.reduceLE, Int.reduceLT, Int.reduceEq, Int.reduceAdd, Int.reduceSub, Int.reduceMul, Int.reduceNeg, Int.reduceToNat, and_self, true_and, and_true, false_and, and_false, true_or, or_true, false_or, or_false, not_true_eq_false, not_false_eq_true, eq_self, rw_X12_isName, f, c_len w k0 eA]
theorem c_im_l (X : RX t N p S h) (w : ws L x S h) (k0 : k < 24) (eA : A = -10 - (k : Int)) (l : tpl t N p - tst t N p = wln k) {i : Int} (i0 : 0 ≤ i ∧ i ≤ wln k) : mx_ex (d + 5) 166 32 [some (2, 38), some (2, A), some (0, 1), some (0, i)] [] S h n = some (some (0, mx_b (∀ j, i ≤ j → j < wln k → t (tst t N p + j) = wch k j)), S, h, n) := by
  have hM1 := X.m.e
  have f := w.s k0 eA
  have r := tst_r (t := t) X.p0.2
  have rp := tpl_r (t := t) X.p0.2
  have p0 := X.p0
  have N2 := X.N2
  have cs := X.c.s
  rw [rh_X12_isName_32]
  by_cases q : i < wln k
  · have ch := c_chA (d := d) (n := n) w k0 eA i0.1 q
    have ht := X.t (tst t N p + i) (by omega) (by omega)
    by_cases z : t (tst t N p + i) = wch k i
    · have ih := c_im_l X w k0 eA l (i := i + 1) (by omega)
      have e : (∀ j, i + 1 ≤ j → j < wln k → t (tst t N p + j) = wch k j) ↔ (∀ j, i ≤ j → j < wln k → t (tst t N p + j) = wch k j) := by
        constructor
        · intro g j a b
          by_cases u : j = i
          · rw [u]; exact z
          · exact g j (by omega) b
        · intro g j a b; exact g j (by omega) b
      rw [mx_b_i e] at ih
      simp (disch := omega) only [mx_vt_h, mx_vt_m, mx_cmp_0, mx_cmp_1, mx_cmp_2, mx_cmp_3, mx_cmp_4, mx_u_s, mx_u_a, mx_u_k, mx_z_a, mx_z_s, mx_t_a, mx_t_2, mx_t_1, mx_t_0, mx_gd_T, mx_gd_t, mx_br_T, mx_br_F, mx_br_t, mx_br_f, mx_br_n, mx_cl_T, mx_cl_t, mx_re_T, mx_re_t, mx_rt_v, mx_rt_0, mx_cu_t, mx_w_id, mx_l_id, mx_b_0, mx_b_1, mx_b_r, mx_nl_0, mx_nl_1, mx_nl_2, mx_nl_n, mx_nl_l, mx_sw_n, mx_sw_h, mx_sw_m, Int.reduceLE, Int.reduceLT, Int.reduceEq, Int.reduceAdd, Int.reduceSub, Int.reduceMul, Int.reduceNeg, Int.reduceToNat, and_self, true_and, and_true, false_and, and_false, true_or, or_true, false_or, or_false, not_true_eq_false, not_false_eq_true, eq_self, rw_X12_isName, hM1, f, c_len w k0 eA, cs, ht, ch, z]
      exact ih
    · have c0 := c_im_0 (d := d) (n := n) X w k0 eA (i := i + 1)
      simp (disch := omega) only [mx_vt_h, mx_vt_m, mx_cmp_0, mx_cmp_1, mx_cmp_2, mx_cmp_3, mx_cmp_4, mx_u_s, mx_u_a, mx_u_k, mx_z_a, mx_z_s, mx_t_a, mx_t_2, mx_t_1, mx_t_0, mx_gd_T, mx_gd_t, mx_br_T, mx_br_F, mx_br_t, mx_br_f, mx_br_n, mx_cl_T, mx_cl_t, mx_re_T, mx_re_t, mx_rt_v, mx_rt_0, mx_cu_t, mx_w_id, mx_l_id, mx_b_0, mx_b_1, mx_b_r, mx_nl_0, mx_nl_1, mx_nl_2, mx_nl_n, mx_nl_l, mx_sw_n, mx_sw_h, mx_sw_m, Int.reduceLE, Int.reduceLT, Int.reduceEq, Int.reduceAdd, Int.reduceSub, Int.reduceMul, Int.reduceNeg, Int.reduceToNat, and_self, true_and, and_true, false_and, and_false, true_or, or_true, false_or, or_false, not_true_eq_false, not_false_eq_true, eq_self, rw_X12_isName, hM1, f, c_len w k0 eA, cs, ht, ch, z]
      rw [mx_b_f (fun g => z (g i (by omega) q))]
      exact c0
  · simp (disch := omega) only [mx_vt_h, mx_vt_m, mx_cmp_0, mx_cmp_1, mx_cmp_2, mx_cmp_3, mx_cmp_4, mx_u_s, mx_u_a, mx_u_k, mx_z_a, mx_z_s, mx_t_a, mx_t_2, mx_t_1, mx_t_0, mx_gd_T, mx_gd_t, mx_br_T, mx_br_F, mx_br_t, mx_br_f, mx_br_n, mx_cl_T, mx_cl_t, mx_re_T, mx_re_t, mx_rt_v, mx_rt_0, mx_cu_t, mx_w_id, mx_l_id, mx_b_0, mx_b_1, mx_b_r, mx_nl_0, mx_nl_1, mx_nl_2, mx_nl_n, mx_nl_l, mx_sw_n, mx_sw_h, mx_sw_m, Int.reduceLE, Int.reduceLT, Int.reduceEq, Int.reduceAdd, Int.reduceSub, Int.reduceMul, Int.reduceNeg, Int.reduceToNat, and_self, true_and, and_true, false_and, and_false, true_or, or_true, false_or, or_false, not_true_eq_false, not_false_eq_true, eq_self, rw_X12_isName, hM1, f, c_len w k0 eA]
    rw [mx_b_t (c := ∀ j, i ≤ j → j < wln k → t (tst t N p + j) = wch k j) (fun j a b => absurd b (by omega))]
termination_by (wln k - i).toNat
decreasing_by omega
theorem RX.k1 (X : RX t N p S h) : ttk t N p = 1 ↔ tso t N p = 1 := by
  have r := tst_r (t := t) X.p0.2
  have p0 := X.p0
  unfold ttk
  by_cases q : tso t N p = 3
  · have e0 : ¬ N ≤ tst t N p := fun z => by have := tso_0.mpr z; omega
    have := X.b (tst t N p) (by omega) (by omega)
    rw [if_pos q]; omega
  · rw [if_neg q]
theorem RX.k0 (X : RX t N p S h) : ttk t N p = 0 ↔ tso t N p = 0 := by
  have r := tst_r (t := t) X.p0.2
  have p0 := X.p0
  unfold ttk
  by_cases q : tso t N p = 3
  · have e0 : ¬ N ≤ tst t N p := fun z => by have := tso_0.mpr z; omega
    have := X.b (tst t N p) (by omega) (by omega)
    rw [if_pos q]; omega
  · rw [if_neg q]
theorem c_isM (X : RX t N p S h) (w : ws L x S h) (k0 : k < 24) (eA : A = -10 - (k : Int)) : mx_M (d + 5) 166 [(2, 38), (2, A)] S h n = some (some (0, mx_b (nmm t N p k)), S, h, n) := by
  have hM1 := X.m.e
  have f := w.s k0 eA
  have r := tst_r (t := t) X.p0.2
  have rp := tpl_r (t := t) X.p0.2
  have p0 := X.p0
  have N2 := X.N2
  have cs := X.c.s
  have cp := X.c.p
  have ck := X.c.k
  have c0 := c_im_0 (d := d) (n := n) X w k0 eA (i := 0)
  by_cases q0 : tso t N p = 1
  · rw [X.k1.mpr q0] at ck
    by_cases q1 : tpl t N p - tst t N p = wln k
    · have ih := c_im_l (d := d) (n := n) X w k0 eA q1 (i := 0) (by unfold wln; omega)
      have e : (∀ j, 0 ≤ j → j < wln k → t (tst t N p + j) = wch k j) ↔ nmm t N p k := ⟨fun g => ⟨q0, q1, g⟩, fun g => g.2.2⟩
      rw [mx_b_i e] at ih
      simp (disch := omega) only [mx_vt_h, mx_vt_m, mx_cmp_0, mx_cmp_1, mx_cmp_2, mx_cmp_3, mx_cmp_4, mx_u_s, mx_u_a, mx_u_k, mx_z_a, mx_z_s, mx_t_a, mx_t_2, mx_t_1, mx_t_0, mx_gd_T, mx_gd_t, mx_br_T, mx_br_F, mx_br_t, mx_br_f, mx_br_n, mx_cl_T, mx_cl_t, mx_re_T, mx_re_t, mx_rt_v, mx_rt_0, mx_cu_t, mx_w_id, mx_l_id, mx_b_0, mx_b_1, mx_b_r, mx_nl_0, mx_nl_1, mx_nl_2, mx_nl_n, mx_nl_l, mx_sw_n, mx_sw_h, mx_sw_m, Int.reduceLE, Int.reduceLT, Int.reduceEq, Int.reduceAdd, Int.reduceSub, Int.reduceMul, Int.reduceNeg, Int.reduceToNat, and_self, true_and, and_true, false_and, and_false, true_or, or_true, false_or, or_false, not_true_eq_false, not_false_eq_true, eq_self, rw_X12_isName, hM1, f, c_len w k0 eA, cs, cp, ck]
      exact ih
    · rw [mx_b_f (fun g => q1 g.2.1)]
      simp (disch := omega) only [mx_vt_h, mx_vt_m, mx_cmp_0, mx_cmp_1, mx_cmp_2, mx_cmp_3, mx_cmp_4, mx_u_s, mx_u_a, mx_u_k, mx_z_a, mx_z_s, mx_t_a, mx_t_2, mx_t_1, mx_t_0, mx_gd_T, mx_gd_t, mx_br_T, mx_br_F, mx_br_t, mx_br_f, mx_br_n, mx_cl_T, mx_cl_t, mx_re_T, mx_re_t, mx_rt_v, mx_rt_0, mx_cu_t, mx_w_id, mx_l_id, mx_b_0, mx_b_1, mx_b_r, mx_nl_0, mx_nl_1, mx_nl_2, mx_nl_n, mx_nl_l, mx_sw_n, mx_sw_h, mx_sw_m, Int.reduceLE, Int.reduceLT, Int.reduceEq, Int.reduceAdd, Int.reduceSub, Int.reduceMul, Int.reduceNeg, Int.reduceToNat, and_self, true_and, and_true, false_and, and_false, true_or, or_true, false_or, or_false, not_true_eq_false, not_false_eq_true, eq_self, rw_X12_isName, hM1, f, c_len w k0 eA, cs, cp, ck]
      exact c0
  · rw [mx_b_f (fun g => q0 g.1)]
    have ck1 : ¬ h 38 8 = 1 := by rw [ck]; exact fun z => q0 (X.k1.mp z)
    simp (disch := omega) only [mx_vt_h, mx_vt_m, mx_cmp_0, mx_cmp_1, mx_cmp_2, mx_cmp_3, mx_cmp_4, mx_u_s, mx_u_a, mx_u_k, mx_z_a, mx_z_s, mx_t_a, mx_t_2, mx_t_1, mx_t_0, mx_gd_T, mx_gd_t, mx_br_T, mx_br_F, mx_br_t, mx_br_f, mx_br_n, mx_cl_T, mx_cl_t, mx_re_T, mx_re_t, mx_rt_v, mx_rt_0, mx_cu_t, mx_w_id, mx_l_id, mx_b_0, mx_b_1, mx_b_r, mx_nl_0, mx_nl_1, mx_nl_2, mx_nl_n, mx_nl_l, mx_sw_n, mx_sw_h, mx_sw_m, Int.reduceLE, Int.reduceLT, Int.reduceEq, Int.reduceAdd, Int.reduceSub, Int.reduceMul, Int.reduceNeg, Int.reduceToNat, and_self, true_and, and_true, false_and, and_false, true_or, or_true, false_or, or_false, not_true_eq_false, not_false_eq_true, eq_self, rw_X12_isName, hM1, ck1]
    exact c0
/-- the same word -/
theorem nmm_c {k j : Nat} (e : wds k = wds j) : nmm t N p k ↔ nmm t N p j := by
  unfold nmm wln wch; rw [e]
/-- the kind, the sort that a token names -/
noncomputable def knd (t : Int → Int) (N p : Int) : Int := mx_if (nmm t N p 1) 0 (mx_if (nmm t N p 2) 1 (mx_if (nmm t N p 3) 2 (mx_if (nmm t N p 4) 3 (mx_if (nmm t N p 5) 4 (mx_if (nmm t N p 6) 5 (-1))))))
noncomputable def lsn (t : Int → Int) (N p : Int) : Int := mx_if (nmm t N p 7) 0 (mx_if (nmm t N p 8) 1 (mx_if (nmm t N p 9) 2 (mx_if (nmm t N p 10) 3 (-1))))
theorem c_knC (X : CX t N p S h) (w : ws L x S h) : mx_M (d + 6) 61 [(2, 22)] S h n = some (some (0, knd t N p), S, h, n) := by
  have se := X.s.e
  have c0 := c_isN (d := d) (n := n) (A := -11) X w (k := 1) (by decide) (by decide)
  have c1 := c_isN (d := d) (n := n) (A := -12) X w (k := 2) (by decide) (by decide)
  have c2 := c_isN (d := d) (n := n) (A := -13) X w (k := 3) (by decide) (by decide)
  have c3 := c_isN (d := d) (n := n) (A := -14) X w (k := 4) (by decide) (by decide)
  have c4 := c_isN (d := d) (n := n) (A := -15) X w (k := 5) (by decide) (by decide)
  have c5 := c_isN (d := d) (n := n) (A := -16) X w (k := 6) (by decide) (by decide)
  unfold knd
  by_cases q0 : nmm t N p 1
  · rw [mx_if_t q0]
    simp (disch := omega) only [mx_vt_h, mx_vt_m, mx_cmp_0, mx_cmp_1, mx_cmp_2, mx_cmp_3, mx_cmp_4, mx_u_s, mx_u_a, mx_u_k, mx_z_a, mx_z_s, mx_t_a, mx_t_2, mx_t_1, mx_t_0, mx_gd_T, mx_gd_t, mx_br_T, mx_br_F, mx_br_t, mx_br_f, mx_br_n, mx_cl_T, mx_cl_t, mx_re_T, mx_re_t, mx_rt_v, mx_rt_0, mx_cu_t, mx_w_id, mx_l_id, mx_b_0, mx_b_1, mx_b_r, mx_nl_0, mx_nl_1, mx_nl_2, mx_nl_n, mx_nl_l, mx_sw_n, mx_sw_h, mx_sw_m, Int.reduceLE, Int.reduceLT, Int.reduceEq, Int.reduceAdd, Int.reduceSub, Int.reduceMul, Int.reduceNeg, Int.reduceToNat, and_self, true_and, and_true, false_and, and_false, true_or, or_true, false_or, or_false, not_true_eq_false, not_false_eq_true, eq_self, rw_X7_kindNamed, se, c0, mx_b_t q0]
  · by_cases q1 : nmm t N p 2
    · rw [mx_if_f q0, mx_if_t q1]
      simp (disch := omega) only [mx_vt_h, mx_vt_m, mx_cmp_0, mx_cmp_1, mx_cmp_2, mx_cmp_3, mx_cmp_4, mx_u_s, mx_u_a, mx_u_k, mx_z_a, mx_z_s, mx_t_a, mx_t_2, mx_t_1, mx_t_0, mx_gd_T, mx_gd_t, mx_br_T, mx_br_F, mx_br_t, mx_br_f, mx_br_n, mx_cl_T, mx_cl_t, mx_re_T, mx_re_t, mx_rt_v, mx_rt_0, mx_cu_t, mx_w_id, mx_l_id, mx_b_0, mx_b_1, mx_b_r, mx_nl_0, mx_nl_1, mx_nl_2, mx_nl_n, mx_nl_l, mx_sw_n, mx_sw_h, mx_sw_m, Int.reduceLE, Int.reduceLT, Int.reduceEq, Int.reduceAdd, Int.reduceSub, Int.reduceMul, Int.reduceNeg, Int.reduceToNat, and_self, true_and, and_true, false_and, and_false, true_or, or_true, false_or, or_false, not_true_eq_false, not_false_eq_true, eq_self, rw_X7_kindNamed, se, c0, c1, mx_b_f q0, mx_b_t q1]
    · by_cases q2 : nmm t N p 3
      · rw [mx_if_f q0, mx_if_f q1, mx_if_t q2]
        simp (disch := omega) only [mx_vt_h, mx_vt_m, mx_cmp_0, mx_cmp_1, mx_cmp_2, mx_cmp_3, mx_cmp_4, mx_u_s, mx_u_a, mx_u_k, mx_z_a, mx_z_s, mx_t_a, mx_t_2, mx_t_1, mx_t_0, mx_gd_T, mx_gd_t, mx_br_T, mx_br_F, mx_br_t, mx_br_f, mx_br_n, mx_cl_T, mx_cl_t, mx_re_T, mx_re_t, mx_rt_v, mx_rt_0, mx_cu_t, mx_w_id, mx_l_id, mx_b_0, mx_b_1, mx_b_r, mx_nl_0, mx_nl_1, mx_nl_2, mx_nl_n, mx_nl_l, mx_sw_n, mx_sw_h, mx_sw_m, Int.reduceLE, Int.reduceLT, Int.reduceEq, Int.reduceAdd, Int.reduceSub, Int.reduceMul, Int.reduceNeg, Int.reduceToNat, and_self, true_and, and_true, false_and, and_false, true_or, or_true, false_or, or_false, not_true_eq_false, not_false_eq_true, eq_self, rw_X7_kindNamed, se, c0, c1, c2, mx_b_f q0, mx_b_f q1, mx_b_t q2]
      · by_cases q3 : nmm t N p 4
        · rw [mx_if_f q0, mx_if_f q1, mx_if_f q2, mx_if_t q3]
          simp (disch := omega) only [mx_vt_h, mx_vt_m, mx_cmp_0, mx_cmp_1, mx_cmp_2, mx_cmp_3, mx_cmp_4, mx_u_s, mx_u_a, mx_u_k, mx_z_a, mx_z_s, mx_t_a, mx_t_2, mx_t_1, mx_t_0, mx_gd_T, mx_gd_t, mx_br_T, mx_br_F, mx_br_t, mx_br_f, mx_br_n, mx_cl_T, mx_cl_t, mx_re_T, mx_re_t, mx_rt_v, mx_rt_0, mx_cu_t, mx_w_id, mx_l_id, mx_b_0, mx_b_1, mx_b_r, mx_nl_0, mx_nl_1, mx_nl_2, mx_nl_n, mx_nl_l, mx_sw_n, mx_sw_h, mx_sw_m, Int.reduceLE, Int.reduceLT, Int.reduceEq, Int.reduceAdd, Int.reduceSub, Int.reduceMul, Int.reduceNeg, Int.reduceToNat, and_self, true_and, and_true, false_and, and_false, true_or, or_true, false_or, or_false, not_true_eq_false, not_false_eq_true, eq_self, rw_X7_kindNamed, se, c0, c1, c2, c3, mx_b_f q0, mx_b_f q1, mx_b_f q2, mx_b_t q3]
        · by_cases q4 : nmm t N p 5
          · rw [mx_if_f q0, mx_if_f q1, mx_if_f q2, mx_if_f q3, mx_if_t q4]
            simp (disch := omega) only [mx_vt_h, mx_vt_m, mx_cmp_0, mx_cmp_1, mx_cmp_2, mx_cmp_3, mx_cmp_4, mx_u_s, mx_u_a, mx_u_k, mx_z_a, mx_z_s, mx_t_a, mx_t_2, mx_t_1, mx_t_0, mx_gd_T, mx_gd_t, mx_br_T, mx_br_F, mx_br_t, mx_br_f, mx_br_n, mx_cl_T, mx_cl_t, mx_re_T, mx_re_t, mx_rt_v, mx_rt_0, mx_cu_t, mx_w_id, mx_l_id, mx_b_0, mx_b_1, mx_b_r, mx_nl_0, mx_nl_1, mx_nl_2, mx_nl_n, mx_nl_l, mx_sw_n, mx_sw_h, mx_sw_m, Int.reduceLE, Int.reduceLT, Int.reduceEq, Int.reduceAdd, Int.reduceSub, Int.reduceMul, Int.reduceNeg, Int.reduceToNat, and_self, true_and, and_true, false_and, and_false, true_or, or_true, false_or, or_false, not_true_eq_false, not_false_eq_true, eq_self, rw_X7_kindNamed, se, c0, c1, c2, c3, c4, mx_b_f q0, mx_b_f q1, mx_b_f q2, mx_b_f q3, mx_b_t q4]
          · by_cases q5 : nmm t N p 6
            · rw [mx_if_f q0, mx_if_f q1, mx_if_f q2, mx_if_f q3, mx_if_f q4, mx_if_t q5]
              simp (disch := omega) only [mx_vt_h, mx_vt_m, mx_cmp_0, mx_cmp_1, mx_cmp_2, mx_cmp_3, mx_cmp_4, mx_u_s, mx_u_a, mx_u_k, mx_z_a, mx_z_s, mx_t_a, mx_t_2, mx_t_1, mx_t_0, mx_gd_T, mx_gd_t, mx_br_T, mx_br_F, mx_br_t, mx_br_f, mx_br_n, mx_cl_T, mx_cl_t, mx_re_T, mx_re_t, mx_rt_v, mx_rt_0, mx_cu_t, mx_w_id, mx_l_id, mx_b_0, mx_b_1, mx_b_r, mx_nl_0, mx_nl_1, mx_nl_2, mx_nl_n, mx_nl_l, mx_sw_n, mx_sw_h, mx_sw_m, Int.reduceLE, Int.reduceLT, Int.reduceEq, Int.reduceAdd, Int.reduceSub, Int.reduceMul, Int.reduceNeg, Int.reduceToNat, and_self, true_and, and_true, false_and, and_false, true_or, or_true, false_or, or_false, not_true_eq_false, not_false_eq_true, eq_self, rw_X7_kindNamed, se, c0, c1, c2, c3, c4, c5, mx_b_f q0, mx_b_f q1, mx_b_f q2, mx_b_f q3, mx_b_f q4, mx_b_t q5]
            · rw [mx_if_f q0, mx_if_f q1, mx_if_f q2, mx_if_f q3, mx_if_f q4, mx_if_f q5]
              simp (disch := omega) only [mx_vt_h, mx_vt_m, mx_cmp_0, mx_cmp_1, mx_cmp_2, mx_cmp_3, mx_cmp_4, mx_u_s, mx_u_a, mx_u_k, mx_z_a, mx_z_s, mx_t_a, mx_t_2, mx_t_1, mx_t_0, mx_gd_T, mx_gd_t, mx_br_T, mx_br_F, mx_br_t, mx_br_f, mx_br_n, mx_cl_T, mx_cl_t, mx_re_T, mx_re_t, mx_rt_v, mx_rt_0, mx_cu_t, mx_w_id, mx_l_id, mx_b_0, mx_b_1, mx_b_r, mx_nl_0, mx_nl_1, mx_nl_2, mx_nl_n, mx_nl_l, mx_sw_n, mx_sw_h, mx_sw_m, Int.reduceLE, Int.reduceLT, Int.reduceEq, Int.reduceAdd, Int.reduceSub, Int.reduceMul, Int.reduceNeg, Int.reduceToNat, and_self, true_and, and_true, false_and, and_false, true_or, or_true, false_or, or_false, not_true_eq_false, not_false_eq_true, eq_self, rw_X7_kindNamed, se, c0, c1, c2, c3, c4, c5, mx_b_f q0, mx_b_f q1, mx_b_f q2, mx_b_f q3, mx_b_f q4, mx_b_f q5]
theorem c_knM (X : RX t N p S h) (w : ws L x S h) : mx_M (d + 6) 169 [(2, 38)] S h n = some (some (0, knd t N p), S, h, n) := by
  have se := X.m.e
  have c0 := c_isM (d := d) (n := n) (A := -22) X w (k := 12) (by decide) (by decide)
  rw [mx_b_i (nmm_c (t := t) (N := N) (p := p) (k := 12) (j := 1) (by decide +kernel))] at c0
  have c1 := c_isM (d := d) (n := n) (A := -23) X w (k := 13) (by decide) (by decide)
  rw [mx_b_i (nmm_c (t := t) (N := N) (p := p) (k := 13) (j := 2) (by decide +kernel))] at c1
  have c2 := c_isM (d := d) (n := n) (A := -24) X w (k := 14) (by decide) (by decide)
  rw [mx_b_i (nmm_c (t := t) (N := N) (p := p) (k := 14) (j := 3) (by decide +kernel))] at c2
  have c3 := c_isM (d := d) (n := n) (A := -25) X w (k := 15) (by decide) (by decide)
  rw [mx_b_i (nmm_c (t := t) (N := N) (p := p) (k := 15) (j := 4) (by decide +kernel))] at c3
  have c4 := c_isM (d := d) (n := n) (A := -26) X w (k := 16) (by decide) (by decide)
  rw [mx_b_i (nmm_c (t := t) (N := N) (p := p) (k := 16) (j := 5) (by decide +kernel))] at c4
  have c5 := c_isM (d := d) (n := n) (A := -27) X w (k := 17) (by decide) (by decide)
  rw [mx_b_i (nmm_c (t := t) (N := N) (p := p) (k := 17) (j := 6) (by decide +kernel))] at c5
  unfold knd
  by_cases q0 : nmm t N p 1
  · rw [mx_if_t q0]
    simp (disch := omega) only [mx_vt_h, mx_vt_m, mx_cmp_0, mx_cmp_1, mx_cmp_2, mx_cmp_3, mx_cmp_4, mx_u_s, mx_u_a, mx_u_k, mx_z_a, mx_z_s, mx_t_a, mx_t_2, mx_t_1, mx_t_0, mx_gd_T, mx_gd_t, mx_br_T, mx_br_F, mx_br_t, mx_br_f, mx_br_n, mx_cl_T, mx_cl_t, mx_re_T, mx_re_t, mx_rt_v, mx_rt_0, mx_cu_t, mx_w_id, mx_l_id, mx_b_0, mx_b_1, mx_b_r, mx_nl_0, mx_nl_1, mx_nl_2, mx_nl_n, mx_nl_l, mx_sw_n, mx_sw_h, mx_sw_m, Int.reduceLE, Int.reduceLT, Int.reduceEq, Int.reduceAdd, Int.reduceSub, Int.reduceMul, Int.reduceNeg, Int.reduceToNat, and_self, true_and, and_true, false_and, and_false, true_or, or_true, false_or, or_false, not_true_eq_false, not_false_eq_true, eq_self, rw_X12_kindNamed, se, c0, mx_b_t q0]
  · by_cases q1 : nmm t N p 2
    · rw [mx_if_f q0, mx_if_t q1]
      simp (disch := omega) only [mx_vt_h, mx_vt_m, mx_cmp_0, mx_cmp_1, mx_cmp_2, mx_cmp_3, mx_cmp_4, mx_u_s, mx_u_a, mx_u_k, mx_z_a, mx_z_s, mx_t_a, mx_t_2, mx_t_1, mx_t_0, mx_gd_T, mx_gd_t, mx_br_T, mx_br_F, mx_br_t, mx_br_f, mx_br_n, mx_cl_T, mx_cl_t, mx_re_T, mx_re_t, mx_rt_v, mx_rt_0, mx_cu_t, mx_w_id, mx_l_id, mx_b_0, mx_b_1, mx_b_r, mx_nl_0, mx_nl_1, mx_nl_2, mx_nl_n, mx_nl_l, mx_sw_n, mx_sw_h, mx_sw_m, Int.reduceLE, Int.reduceLT, Int.reduceEq, Int.reduceAdd, Int.reduceSub, Int.reduceMul, Int.reduceNeg, Int.reduceToNat, and_self, true_and, and_true, false_and, and_false, true_or, or_true, false_or, or_false, not_true_eq_false, not_false_eq_true, eq_self, rw_X12_kindNamed, se, c0, c1, mx_b_f q0, mx_b_t q1]
    · by_cases q2 : nmm t N p 3
      · rw [mx_if_f q0, mx_if_f q1, mx_if_t q2]
        simp (disch := omega) only [mx_vt_h, mx_vt_m, mx_cmp_0, mx_cmp_1, mx_cmp_2, mx_cmp_3, mx_cmp_4, mx_u_s, mx_u_a, mx_u_k, mx_z_a, mx_z_s, mx_t_a, mx_t_2, mx_t_1, mx_t_0, mx_gd_T, mx_gd_t, mx_br_T, mx_br_F, mx_br_t, mx_br_f, mx_br_n, mx_cl_T, mx_cl_t, mx_re_T, mx_re_t, mx_rt_v, mx_rt_0, mx_cu_t, mx_w_id, mx_l_id, mx_b_0, mx_b_1, mx_b_r, mx_nl_0, mx_nl_1, mx_nl_2, mx_nl_n, mx_nl_l, mx_sw_n, mx_sw_h, mx_sw_m, Int.reduceLE, Int.reduceLT, Int.reduceEq, Int.reduceAdd, Int.reduceSub, Int.reduceMul, Int.reduceNeg, Int.reduceToNat, and_self, true_and, and_true, false_and, and_false, true_or, or_true, false_or, or_false, not_true_eq_false, not_false_eq_true, eq_self, rw_X12_kindNamed, se, c0, c1, c2, mx_b_f q0, mx_b_f q1, mx_b_t q2]
      · by_cases q3 : nmm t N p 4
        · rw [mx_if_f q0, mx_if_f q1, mx_if_f q2, mx_if_t q3]
          simp (disch := omega) only [mx_vt_h, mx_vt_m, mx_cmp_0, mx_cmp_1, mx_cmp_2, mx_cmp_3, mx_cmp_4, mx_u_s, mx_u_a, mx_u_k, mx_z_a, mx_z_s, mx_t_a, mx_t_2, mx_t_1, mx_t_0, mx_gd_T, mx_gd_t, mx_br_T, mx_br_F, mx_br_t, mx_br_f, mx_br_n, mx_cl_T, mx_cl_t, mx_re_T, mx_re_t, mx_rt_v, mx_rt_0, mx_cu_t, mx_w_id, mx_l_id, mx_b_0, mx_b_1, mx_b_r, mx_nl_0, mx_nl_1, mx_nl_2, mx_nl_n, mx_nl_l, mx_sw_n, mx_sw_h, mx_sw_m, Int.reduceLE, Int.reduceLT, Int.reduceEq, Int.reduceAdd, Int.reduceSub, Int.reduceMul, Int.reduceNeg, Int.reduceToNat, and_self, true_and, and_true, false_and, and_false, true_or, or_true, false_or, or_false, not_true_eq_false, not_false_eq_true, eq_self, rw_X12_kindNamed, se, c0, c1, c2, c3, mx_b_f q0, mx_b_f q1, mx_b_f q2, mx_b_t q3]
        · by_cases q4 : nmm t N p 5
          · rw [mx_if_f q0, mx_if_f q1, mx_if_f q2, mx_if_f q3, mx_if_t q4]
            simp (disch := omega) only [mx_vt_h, mx_vt_m, mx_cmp_0, mx_cmp_1, mx_cmp_2, mx_cmp_3, mx_cmp_4, mx_u_s, mx_u_a, mx_u_k, mx_z_a, mx_z_s, mx_t_a, mx_t_2, mx_t_1, mx_t_0, mx_gd_T, mx_gd_t, mx_br_T, mx_br_F, mx_br_t, mx_br_f, mx_br_n, mx_cl_T, mx_cl_t, mx_re_T, mx_re_t, mx_rt_v, mx_rt_0, mx_cu_t, mx_w_id, mx_l_id, mx_b_0, mx_b_1, mx_b_r, mx_nl_0, mx_nl_1, mx_nl_2, mx_nl_n, mx_nl_l, mx_sw_n, mx_sw_h, mx_sw_m, Int.reduceLE, Int.reduceLT, Int.reduceEq, Int.reduceAdd, Int.reduceSub, Int.reduceMul, Int.reduceNeg, Int.reduceToNat, and_self, true_and, and_true, false_and, and_false, true_or, or_true, false_or, or_false, not_true_eq_false, not_false_eq_true, eq_self, rw_X12_kindNamed, se, c0, c1, c2, c3, c4, mx_b_f q0, mx_b_f q1, mx_b_f q2, mx_b_f q3, mx_b_t q4]
          · by_cases q5 : nmm t N p 6
            · rw [mx_if_f q0, mx_if_f q1, mx_if_f q2, mx_if_f q3, mx_if_f q4, mx_if_t q5]
              simp (disch := omega) only [mx_vt_h, mx_vt_m, mx_cmp_0, mx_cmp_1, mx_cmp_2, mx_cmp_3, mx_cmp_4, mx_u_s, mx_u_a, mx_u_k, mx_z_a, mx_z_s, mx_t_a, mx_t_2, mx_t_1, mx_t_0, mx_gd_T, mx_gd_t, mx_br_T, mx_br_F, mx_br_t, mx_br_f, mx_br_n, mx_cl_T, mx_cl_t, mx_re_T, mx_re_t, mx_rt_v, mx_rt_0, mx_cu_t, mx_w_id, mx_l_id, mx_b_0, mx_b_1, mx_b_r, mx_nl_0, mx_nl_1, mx_nl_2, mx_nl_n, mx_nl_l, mx_sw_n, mx_sw_h, mx_sw_m, Int.reduceLE, Int.reduceLT, Int.reduceEq, Int.reduceAdd, Int.reduceSub, Int.reduceMul, Int.reduceNeg, Int.reduceToNat, and_self, true_and, and_true, false_and, and_false, true_or, or_true, false_or, or_false, not_true_eq_false, not_false_eq_true, eq_self, rw_X12_kindNamed, se, c0, c1, c2, c3, c4, c5, mx_b_f q0, mx_b_f q1, mx_b_f q2, mx_b_f q3, mx_b_f q4, mx_b_t q5]
            · rw [mx_if_f q0, mx_if_f q1, mx_if_f q2, mx_if_f q3, mx_if_f q4, mx_if_f q5]
              simp (disch := omega) only [mx_vt_h, mx_vt_m, mx_cmp_0, mx_cmp_1, mx_cmp_2, mx_cmp_3, mx_cmp_4, mx_u_s, mx_u_a, mx_u_k, mx_z_a, mx_z_s, mx_t_a, mx_t_2, mx_t_1, mx_t_0, mx_gd_T, mx_gd_t, mx_br_T, mx_br_F, mx_br_t, mx_br_f, mx_br_n, mx_cl_T, mx_cl_t, mx_re_T, mx_re_t, mx_rt_v, mx_rt_0, mx_cu_t, mx_w_id, mx_l_id, mx_b_0, mx_b_1, mx_b_r, mx_nl_0, mx_nl_1, mx_nl_2, mx_nl_n, mx_nl_l, mx_sw_n, mx_sw_h, mx_sw_m, Int.reduceLE, Int.reduceLT, Int.reduceEq, Int.reduceAdd, Int.reduceSub, Int.reduceMul, Int.reduceNeg, Int.reduceToNat, and_self, true_and, and_true, false_and, and_false, true_or, or_true, false_or, or_false, not_true_eq_false, not_false_eq_true, eq_self, rw_X12_kindNamed, se, c0, c1, c2, c3, c4, c5, mx_b_f q0, mx_b_f q1, mx_b_f q2, mx_b_f q3, mx_b_f q4, mx_b_f q5]
theorem c_lsC (X : CX t N p S h) (w : ws L x S h) : mx_M (d + 6) 62 [(2, 22)] S h n = some (some (0, lsn t N p), S, h, n) := by
  have se := X.s.e
  have c0 := c_isN (d := d) (n := n) (A := -17) X w (k := 7) (by decide) (by decide)
  have c1 := c_isN (d := d) (n := n) (A := -18) X w (k := 8) (by decide) (by decide)
  have c2 := c_isN (d := d) (n := n) (A := -19) X w (k := 9) (by decide) (by decide)
  have c3 := c_isN (d := d) (n := n) (A := -20) X w (k := 10) (by decide) (by decide)
  unfold lsn
  by_cases q0 : nmm t N p 7
  · rw [mx_if_t q0]
    simp (disch := omega) only [mx_vt_h, mx_vt_m, mx_cmp_0, mx_cmp_1, mx_cmp_2, mx_cmp_3, mx_cmp_4, mx_u_s, mx_u_a, mx_u_k, mx_z_a, mx_z_s, mx_t_a, mx_t_2, mx_t_1, mx_t_0, mx_gd_T, mx_gd_t, mx_br_T, mx_br_F, mx_br_t, mx_br_f, mx_br_n, mx_cl_T, mx_cl_t, mx_re_T, mx_re_t, mx_rt_v, mx_rt_0, mx_cu_t, mx_w_id, mx_l_id, mx_b_0, mx_b_1, mx_b_r, mx_nl_0, mx_nl_1, mx_nl_2, mx_nl_n, mx_nl_l, mx_sw_n, mx_sw_h, mx_sw_m, Int.reduceLE, Int.reduceLT, Int.reduceEq, Int.reduceAdd, Int.reduceSub, Int.reduceMul, Int.reduceNeg, Int.reduceToNat, and_self, true_and, and_true, false_and, and_false, true_or, or_true, false_or, or_false, not_true_eq_false, not_false_eq_true, eq_self, rw_X7_lineSortNamed, se, c0, mx_b_t q0]
  · by_cases q1 : nmm t N p 8
    · rw [mx_if_f q0, mx_if_t q1]
      simp (disch := omega) only [mx_vt_h, mx_vt_m, mx_cmp_0, mx_cmp_1, mx_cmp_2, mx_cmp_3, mx_cmp_4, mx_u_s, mx_u_a, mx_u_k, mx_z_a, mx_z_s, mx_t_a, mx_t_2, mx_t_1, mx_t_0, mx_gd_T, mx_gd_t, mx_br_T, mx_br_F, mx_br_t, mx_br_f, mx_br_n, mx_cl_T, mx_cl_t, mx_re_T, mx_re_t, mx_rt_v, mx_rt_0, mx_cu_t, mx_w_id, mx_l_id, mx_b_0, mx_b_1, mx_b_r, mx_nl_0, mx_nl_1, mx_nl_2, mx_nl_n, mx_nl_l, mx_sw_n, mx_sw_h, mx_sw_m, Int.reduceLE, Int.reduceLT, Int.reduceEq, Int.reduceAdd, Int.reduceSub, Int.reduceMul, Int.reduceNeg, Int.reduceToNat, and_self, true_and, and_true, false_and, and_false, true_or, or_true, false_or, or_false, not_true_eq_false, not_false_eq_true, eq_self, rw_X7_lineSortNamed, se, c0, c1, mx_b_f q0, mx_b_t q1]
    · by_cases q2 : nmm t N p 9
      · rw [mx_if_f q0, mx_if_f q1, mx_if_t q2]
        simp (disch := omega) only [mx_vt_h, mx_vt_m, mx_cmp_0, mx_cmp_1, mx_cmp_2, mx_cmp_3, mx_cmp_4, mx_u_s, mx_u_a, mx_u_k, mx_z_a, mx_z_s, mx_t_a, mx_t_2, mx_t_1, mx_t_0, mx_gd_T, mx_gd_t, mx_br_T, mx_br_F, mx_br_t, mx_br_f, mx_br_n, mx_cl_T, mx_cl_t, mx_re_T, mx_re_t, mx_rt_v, mx_rt_0, mx_cu_t, mx_w_id, mx_l_id, mx_b_0, mx_b_1, mx_b_r, mx_nl_0, mx_nl_1, mx_nl_2, mx_nl_n, mx_nl_l, mx_sw_n, mx_sw_h, mx_sw_m, Int.reduceLE, Int.reduceLT, Int.reduceEq, Int.reduceAdd, Int.reduceSub, Int.reduceMul, Int.reduceNeg, Int.reduceToNat, and_self, true_and, and_true, false_and, and_false, true_or, or_true, false_or, or_false, not_true_eq_false, not_false_eq_true, eq_self, rw_X7_lineSortNamed, se, c0, c1, c2, mx_b_f q0, mx_b_f q1, mx_b_t q2]
      · by_cases q3 : nmm t N p 10
        · rw [mx_if_f q0, mx_if_f q1, mx_if_f q2, mx_if_t q3]
          simp (disch := omega) only [mx_vt_h, mx_vt_m, mx_cmp_0, mx_cmp_1, mx_cmp_2, mx_cmp_3, mx_cmp_4, mx_u_s, mx_u_a, mx_u_k, mx_z_a, mx_z_s, mx_t_a, mx_t_2, mx_t_1, mx_t_0, mx_gd_T, mx_gd_t, mx_br_T, mx_br_F, mx_br_t, mx_br_f, mx_br_n, mx_cl_T, mx_cl_t, mx_re_T, mx_re_t, mx_rt_v, mx_rt_0, mx_cu_t, mx_w_id, mx_l_id, mx_b_0, mx_b_1, mx_b_r, mx_nl_0, mx_nl_1, mx_nl_2, mx_nl_n, mx_nl_l, mx_sw_n, mx_sw_h, mx_sw_m, Int.reduceLE, Int.reduceLT, Int.reduceEq, Int.reduceAdd, Int.reduceSub, Int.reduceMul, Int.reduceNeg, Int.reduceToNat, and_self, true_and, and_true, false_and, and_false, true_or, or_true, false_or, or_false, not_true_eq_false, not_false_eq_true, eq_self, rw_X7_lineSortNamed, se, c0, c1, c2, c3, mx_b_f q0, mx_b_f q1, mx_b_f q2, mx_b_t q3]
        · rw [mx_if_f q0, mx_if_f q1, mx_if_f q2, mx_if_f q3]
          simp (disch := omega) only [mx_vt_h, mx_vt_m, mx_cmp_0, mx_cmp_1, mx_cmp_2, mx_cmp_3, mx_cmp_4, mx_u_s, mx_u_a, mx_u_k, mx_z_a, mx_z_s, mx_t_a, mx_t_2, mx_t_1, mx_t_0, mx_gd_T, mx_gd_t, mx_br_T, mx_br_F, mx_br_t, mx_br_f, mx_br_n, mx_cl_T, mx_cl_t, mx_re_T, mx_re_t, mx_rt_v, mx_rt_0, mx_cu_t, mx_w_id, mx_l_id, mx_b_0, mx_b_1, mx_b_r, mx_nl_0, mx_nl_1, mx_nl_2, mx_nl_n, mx_nl_l, mx_sw_n, mx_sw_h, mx_sw_m, Int.reduceLE, Int.reduceLT, Int.reduceEq, Int.reduceAdd, Int.reduceSub, Int.reduceMul, Int.reduceNeg, Int.reduceToNat, and_self, true_and, and_true, false_and, and_false, true_or, or_true, false_or, or_false, not_true_eq_false, not_false_eq_true, eq_self, rw_X7_lineSortNamed, se, c0, c1, c2, c3, mx_b_f q0, mx_b_f q1, mx_b_f q2, mx_b_f q3]
end
