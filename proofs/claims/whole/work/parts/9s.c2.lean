/-! Acts: the reference -/
def tR (h : mx_H) : List Int → mx_H
  | [] => h
  | b :: bs => tR (mx_u (mx_u h 52 (h 38 22) b) 38 22 (h 38 22 + 1)) bs
theorem tR_a {h : mx_H} {as bs : List Int} : tR h (as ++ bs) = tR (tR h as) bs := by
  induction as generalizing h with
  | nil => rfl
  | cons a as ih => exact ih
theorem tR_o {h : mx_H} {bs : List Int} {b : Int} (q : ¬ b = 38) (r : ¬ b = 52) : tR h bs b = h b := by
  induction bs generalizing h with
  | nil => rfl
  | cons a as ih =>
    have := ih (h := mx_u (mx_u h 52 (h 38 22) a) 38 22 (h 38 22 + 1))
    rw [mx_u_a q, mx_u_a r] at this; exact this
theorem tR_c {h : mx_H} {bs : List Int} : tR h bs 38 22 = h 38 22 + bs.length := by
  induction bs generalizing h with
  | nil => simp [tR]
  | cons a as ih =>
    have := ih (h := mx_u (mx_u h 52 (h 38 22) a) 38 22 (h 38 22 + 1))
    rw [mx_u_s] at this
    simp only [tR, List.length_cons]; rw [this]; omega
theorem tR_k {h : mx_H} {bs : List Int} {k : Int} (q : ¬ k = 22) : tR h bs 38 k = h 38 k := by
  induction bs generalizing h with
  | nil => rfl
  | cons a as ih =>
    have := ih (h := mx_u (mx_u h 52 (h 38 22) a) 38 22 (h 38 22 + 1))
    rw [mx_u_k q, mx_u_a (by decide)] at this
    exact this
def np (S h : mx_H) (κ i A : Int) : Prop := (sh_M S) ∧ (h 38 23 = i) ∧ (it (h 39) i 0 = κ) ∧ (it (h 39) i 2 = A) ∧ (0 ≤ i ∧ i ≤ 5) ∧ (0 ≤ h 38 22)
theorem np.mk {S h : mx_H} {κ i A : Int} (x0 : sh_M S) (x1 : h 38 23 = i) (x2 : it (h 39) i 0 = κ) (x3 : it (h 39) i 2 = A) (x4 : 0 ≤ i ∧ i ≤ 5) (x5 : 0 ≤ h 38 22) : np S h κ i A := (And.intro x0 (And.intro x1 (And.intro x2 (And.intro x3 (And.intro x4 x5)))))
theorem np.m {S h : mx_H} {κ i A : Int} (q : np S h κ i A) : sh_M S := (And.left q)
theorem np.s {S h : mx_H} {κ i A : Int} (q : np S h κ i A) : h 38 23 = i := (And.left (And.right q))
theorem np.k {S h : mx_H} {κ i A : Int} (q : np S h κ i A) : it (h 39) i 0 = κ := (And.left (And.right (And.right q)))
theorem np.a {S h : mx_H} {κ i A : Int} (q : np S h κ i A) : it (h 39) i 2 = A := (And.left (And.right (And.right (And.right q))))
theorem np.i0 {S h : mx_H} {κ i A : Int} (q : np S h κ i A) : 0 ≤ i ∧ i ≤ 5 := (And.left (And.right (And.right (And.right (And.right q)))))
theorem np.c {S h : mx_H} {κ i A : Int} (q : np S h κ i A) : 0 ≤ h 38 22 := (And.right (And.right (And.right (And.right (And.right q)))))
section
variable {S h : mx_H} {n κ i A y : Int} {d : Nat}
theorem np.l {bs : List Int} (o : np S h κ i A) : np S (tR h bs) κ i A := by
  refine np.mk o.m ?_ ?_ ?_ o.i0 ?_
  · rw [tR_k (by decide)]; exact o.s
  · rw [tR_o (by decide) (by decide)]; exact o.k
  · rw [tR_o (by decide) (by decide)]; exact o.a
  · rw [tR_c]; have := o.c; omega
theorem np.e {b : Int} (o : np S h κ i A) : np S (mx_u h 38 24 b) κ i A := by
  refine np.mk o.m ?_ ?_ ?_ o.i0 ?_
  · rw [mx_u_k (by decide)]; exact o.s
  · rw [mx_u_a (by decide)]; exact o.k
  · rw [mx_u_a (by decide)]; exact o.a
  · rw [mx_u_k (by decide)]; exact o.c
theorem c_ran {b : Int} (o : np S h κ i A) (c1 : h 38 22 ≤ 29) : ∃ g, g = tR h [b] ∧ mx_M d 236 [(2, 38), (0, b)] S h n = some (none, S, g, n) := by
  have c0 := o.c
  refine ⟨_, rfl, ?_⟩
  simp (disch := omega) only [mx_vt_h, mx_vt_m, mx_cmp_0, mx_cmp_1, mx_cmp_2, mx_cmp_3, mx_cmp_4, mx_u_s, mx_u_a, mx_u_k, mx_z_a, mx_z_s, mx_t_a, mx_t_2, mx_t_1, mx_t_0, mx_gd_T, mx_gd_t, mx_br_T, mx_br_F, mx_br_t, mx_br_f, mx_br_n, mx_cl_T, mx_cl_t, mx_re_T, mx_re_t, mx_rt_v, mx_rt_0, mx_cu_t, mx_w_id, mx_l_id, mx_b_0, mx_b_1, mx_b_r, mx_nl_0, mx_nl_1, mx_nl_2, mx_nl_n, mx_nl_l, mx_sw_n, mx_sw_h, mx_sw_m, Int.reduceLE, Int.reduceLT, Int.reduceEq, Int.reduceAdd, Int.reduceSub, Int.reduceMul, Int.reduceNeg, Int.reduceToNat, and_self, true_and, and_true, false_and, and_false, true_or, or_true, false_or, or_false, not_true_eq_false, not_false_eq_true, eq_self, rw_X12_ran, o.m.e, tR]
theorem c_above {k : Int} : mx_M d 237 [(0, k)] S h n = some (some (0, if k = 3 then 2 else if k = 5 then 1 else 0), S, h, n) := by
  by_cases q : k = 3
  · rw [if_pos q]; simp (disch := omega) only [mx_vt_h, mx_vt_m, mx_cmp_0, mx_cmp_1, mx_cmp_2, mx_cmp_3, mx_cmp_4, mx_u_s, mx_u_a, mx_u_k, mx_z_a, mx_z_s, mx_t_a, mx_t_2, mx_t_1, mx_t_0, mx_gd_T, mx_gd_t, mx_br_T, mx_br_F, mx_br_t, mx_br_f, mx_br_n, mx_cl_T, mx_cl_t, mx_re_T, mx_re_t, mx_rt_v, mx_rt_0, mx_cu_t, mx_w_id, mx_l_id, mx_b_0, mx_b_1, mx_b_r, mx_nl_0, mx_nl_1, mx_nl_2, mx_nl_n, mx_nl_l, mx_sw_n, mx_sw_h, mx_sw_m, Int.reduceLE, Int.reduceLT, Int.reduceEq, Int.reduceAdd, Int.reduceSub, Int.reduceMul, Int.reduceNeg, Int.reduceToNat, and_self, true_and, and_true, false_and, and_false, true_or, or_true, false_or, or_false, not_true_eq_false, not_false_eq_true, eq_self, rw_X12_above, q]
  · by_cases r : k = 5
    · rw [if_neg q, if_pos r]; simp (disch := omega) only [mx_vt_h, mx_vt_m, mx_cmp_0, mx_cmp_1, mx_cmp_2, mx_cmp_3, mx_cmp_4, mx_u_s, mx_u_a, mx_u_k, mx_z_a, mx_z_s, mx_t_a, mx_t_2, mx_t_1, mx_t_0, mx_gd_T, mx_gd_t, mx_br_T, mx_br_F, mx_br_t, mx_br_f, mx_br_n, mx_cl_T, mx_cl_t, mx_re_T, mx_re_t, mx_rt_v, mx_rt_0, mx_cu_t, mx_w_id, mx_l_id, mx_b_0, mx_b_1, mx_b_r, mx_nl_0, mx_nl_1, mx_nl_2, mx_nl_n, mx_nl_l, mx_sw_n, mx_sw_h, mx_sw_m, Int.reduceLE, Int.reduceLT, Int.reduceEq, Int.reduceAdd, Int.reduceSub, Int.reduceMul, Int.reduceNeg, Int.reduceToNat, and_self, true_and, and_true, false_and, and_false, true_or, or_true, false_or, or_false, not_true_eq_false, not_false_eq_true, eq_self, rw_X12_above, q, r]
    · rw [if_neg q, if_neg r]; simp (disch := omega) only [mx_vt_h, mx_vt_m, mx_cmp_0, mx_cmp_1, mx_cmp_2, mx_cmp_3, mx_cmp_4, mx_u_s, mx_u_a, mx_u_k, mx_z_a, mx_z_s, mx_t_a, mx_t_2, mx_t_1, mx_t_0, mx_gd_T, mx_gd_t, mx_br_T, mx_br_F, mx_br_t, mx_br_f, mx_br_n, mx_cl_T, mx_cl_t, mx_re_T, mx_re_t, mx_rt_v, mx_rt_0, mx_cu_t, mx_w_id, mx_l_id, mx_b_0, mx_b_1, mx_b_r, mx_nl_0, mx_nl_1, mx_nl_2, mx_nl_n, mx_nl_l, mx_sw_n, mx_sw_h, mx_sw_m, Int.reduceLE, Int.reduceLT, Int.reduceEq, Int.reduceAdd, Int.reduceSub, Int.reduceMul, Int.reduceNeg, Int.reduceToNat, and_self, true_and, and_true, false_and, and_false, true_or, or_true, false_or, or_false, not_true_eq_false, not_false_eq_true, eq_self, rw_X12_above, q, r]
theorem c_kindNow (o : np S h κ i A) : mx_M (d + 1) 238 [(2, 38)] S h n = some (some (0, κ), S, h, n) := by
  have i0 := o.i0
  have e := c_its (d := d) (n := n) (h := h) (a := i) (k := 0) o.m (by omega) (by omega) (by decide) (by omega)
  rw [o.k] at e
  simp (disch := omega) only [mx_vt_h, mx_vt_m, mx_cmp_0, mx_cmp_1, mx_cmp_2, mx_cmp_3, mx_cmp_4, mx_u_s, mx_u_a, mx_u_k, mx_z_a, mx_z_s, mx_t_a, mx_t_2, mx_t_1, mx_t_0, mx_gd_T, mx_gd_t, mx_br_T, mx_br_F, mx_br_t, mx_br_f, mx_br_n, mx_cl_T, mx_cl_t, mx_re_T, mx_re_t, mx_rt_v, mx_rt_0, mx_cu_t, mx_w_id, mx_l_id, mx_b_0, mx_b_1, mx_b_r, mx_nl_0, mx_nl_1, mx_nl_2, mx_nl_n, mx_nl_l, mx_sw_n, mx_sw_h, mx_sw_m, Int.reduceLE, Int.reduceLT, Int.reduceEq, Int.reduceAdd, Int.reduceSub, Int.reduceMul, Int.reduceNeg, Int.reduceToNat, and_self, true_and, and_true, false_and, and_false, true_or, or_true, false_or, or_false, not_true_eq_false, not_false_eq_true, eq_self, rw_X12_kindNow, o.m.e, o.s, e]
theorem c_itsA (o : np S h κ i A) : mx_M d 161 [(2, 38), (0, i), (0, 2)] S h n = some (some (0, A), S, h, n) := by
  have i0 := o.i0
  have e := c_its (d := d) (n := n) (h := h) (a := i) (k := 2) o.m (by omega) (by omega) (by decide) (by omega)
  rw [o.a] at e; exact e
theorem ab_0 : (if (0 : Int) = 3 then (2 : Int) else if (0 : Int) = 5 then 1 else 0) = 0 := rfl
theorem ab_1 : (if (1 : Int) = 3 then (2 : Int) else if (1 : Int) = 5 then 1 else 0) = 0 := rfl
theorem ab_2 : (if (2 : Int) = 3 then (2 : Int) else if (2 : Int) = 5 then 1 else 0) = 0 := rfl
theorem ab_3 : (if (3 : Int) = 3 then (2 : Int) else if (3 : Int) = 5 then 1 else 0) = 2 := rfl
theorem ab_4 : (if (4 : Int) = 3 then (2 : Int) else if (4 : Int) = 5 then 1 else 0) = 0 := rfl
theorem ab_5 : (if (5 : Int) = 3 then (2 : Int) else if (5 : Int) = 5 then 1 else 0) = 1 := rfl
theorem c_ab1 : mx_M d 237 [(0, 1)] S h n = some (some (0, 0), S, h, n) := c_above
theorem c_ab2 : mx_M d 237 [(0, 2)] S h n = some (some (0, 0), S, h, n) := c_above
theorem c_ab3 : mx_M d 237 [(0, 3)] S h n = some (some (0, 2), S, h, n) := c_above
theorem c_ab4 : mx_M d 237 [(0, 4)] S h n = some (some (0, 0), S, h, n) := c_above
theorem c_ab5 : mx_M d 237 [(0, 5)] S h n = some (some (0, 1), S, h, n) := c_above
theorem c_R0 (o : np S h κ i A) (c1 : h 38 22 ≤ 25) : ∃ g, g = tR h [10] ∧ mx_M (d + 1) 239 [(2, 38), (0, 0), (0, y)] S h n = some (some (0, mx_w (y + i)), S, g, n) := by
  obtain ⟨g, eg, e⟩ := c_ran (d := d) (n := n) (b := 10) o (by omega)
  have og : np S g κ i A := by rw [eg]; exact o.l
  refine ⟨g, eg, ?_⟩
  simp (disch := omega) only [mx_vt_h, mx_vt_m, mx_cmp_0, mx_cmp_1, mx_cmp_2, mx_cmp_3, mx_cmp_4, mx_u_s, mx_u_a, mx_u_k, mx_z_a, mx_z_s, mx_t_a, mx_t_2, mx_t_1, mx_t_0, mx_gd_T, mx_gd_t, mx_br_T, mx_br_F, mx_br_t, mx_br_f, mx_br_n, mx_cl_T, mx_cl_t, mx_re_T, mx_re_t, mx_rt_v, mx_rt_0, mx_cu_t, mx_w_id, mx_l_id, mx_b_0, mx_b_1, mx_b_r, mx_nl_0, mx_nl_1, mx_nl_2, mx_nl_n, mx_nl_l, mx_sw_n, mx_sw_h, mx_sw_m, Int.reduceLE, Int.reduceLT, Int.reduceEq, Int.reduceAdd, Int.reduceSub, Int.reduceMul, Int.reduceNeg, Int.reduceToNat, and_self, true_and, and_true, false_and, and_false, true_or, or_true, false_or, or_false, not_true_eq_false, not_false_eq_true, eq_self, rw_X12_reads, o.m.e, e, og.s]
theorem c_R2 (o : np S h κ i A) (c1 : h 38 22 ≤ 24) : ∃ g, g = tR h [30, 10] ∧ mx_M (d + 2) 239 [(2, 38), (0, 2), (0, y)] S h n = some (some (0, mx_w (mx_w (y + i) * 3)), S, g, n) := by
  obtain ⟨g, eg, e⟩ := c_ran (d := d + 1) (n := n) (b := 30) o (by omega)
  have og : np S g κ i A := by rw [eg]; exact o.l
  have gc : g 38 22 = h 38 22 + 1 := by rw [eg, tR_c]; rfl
  obtain ⟨g2, eg2, e2⟩ := c_R0 (d := d) (n := n) (y := y) og (by omega)
  refine ⟨g2, by rw [eg2, eg]; rfl, ?_⟩
  simp (disch := omega) only [mx_vt_h, mx_vt_m, mx_cmp_0, mx_cmp_1, mx_cmp_2, mx_cmp_3, mx_cmp_4, mx_u_s, mx_u_a, mx_u_k, mx_z_a, mx_z_s, mx_t_a, mx_t_2, mx_t_1, mx_t_0, mx_gd_T, mx_gd_t, mx_br_T, mx_br_F, mx_br_t, mx_br_f, mx_br_n, mx_cl_T, mx_cl_t, mx_re_T, mx_re_t, mx_rt_v, mx_rt_0, mx_cu_t, mx_w_id, mx_l_id, mx_b_0, mx_b_1, mx_b_r, mx_nl_0, mx_nl_1, mx_nl_2, mx_nl_n, mx_nl_l, mx_sw_n, mx_sw_h, mx_sw_m, Int.reduceLE, Int.reduceLT, Int.reduceEq, Int.reduceAdd, Int.reduceSub, Int.reduceMul, Int.reduceNeg, Int.reduceToNat, and_self, true_and, and_true, false_and, and_false, true_or, or_true, false_or, or_false, not_true_eq_false, not_false_eq_true, eq_self, rw_X12_reads, o.m.e, e, c_ab2, e2]
theorem c_R3 (o : np S h κ i A) (c1 : h 38 22 ≤ 23) : ∃ g, g = tR h [40, 30, 10] ∧ mx_M (d + 3) 239 [(2, 38), (0, 3), (0, y)] S h n = some (some (0, mx_w (0 - mx_w (mx_w (y + i) * 3))), S, g, n) := by
  obtain ⟨g, eg, e⟩ := c_ran (d := d + 2) (n := n) (b := 40) o (by omega)
  have og : np S g κ i A := by rw [eg]; exact o.l
  have gc : g 38 22 = h 38 22 + 1 := by rw [eg, tR_c]; rfl
  obtain ⟨g2, eg2, e2⟩ := c_R2 (d := d) (n := n) (y := y) og (by omega)
  refine ⟨g2, by rw [eg2, eg]; rfl, ?_⟩
  simp (disch := omega) only [mx_vt_h, mx_vt_m, mx_cmp_0, mx_cmp_1, mx_cmp_2, mx_cmp_3, mx_cmp_4, mx_u_s, mx_u_a, mx_u_k, mx_z_a, mx_z_s, mx_t_a, mx_t_2, mx_t_1, mx_t_0, mx_gd_T, mx_gd_t, mx_br_T, mx_br_F, mx_br_t, mx_br_f, mx_br_n, mx_cl_T, mx_cl_t, mx_re_T, mx_re_t, mx_rt_v, mx_rt_0, mx_cu_t, mx_w_id, mx_l_id, mx_b_0, mx_b_1, mx_b_r, mx_nl_0, mx_nl_1, mx_nl_2, mx_nl_n, mx_nl_l, mx_sw_n, mx_sw_h, mx_sw_m, Int.reduceLE, Int.reduceLT, Int.reduceEq, Int.reduceAdd, Int.reduceSub, Int.reduceMul, Int.reduceNeg, Int.reduceToNat, and_self, true_and, and_true, false_and, and_false, true_or, or_true, false_or, or_false, not_true_eq_false, not_false_eq_true, eq_self, rw_X12_reads, o.m.e, e, c_ab3, e2]
theorem c_R1 (o : np S h κ i A) (c1 : h 38 22 ≤ 25) : ∃ g, g = tR h [10] ∧ mx_M (d + 2) 239 [(2, 38), (0, 1), (0, y)] S h n = some (some (0, mx_w (y + i)), S, g, n) := by
  obtain ⟨g, eg, e⟩ := c_R0 (d := d) (n := n) (y := y) o (by omega)
  refine ⟨g, eg, ?_⟩
  simp (disch := omega) only [mx_vt_h, mx_vt_m, mx_cmp_0, mx_cmp_1, mx_cmp_2, mx_cmp_3, mx_cmp_4, mx_u_s, mx_u_a, mx_u_k, mx_z_a, mx_z_s, mx_t_a, mx_t_2, mx_t_1, mx_t_0, mx_gd_T, mx_gd_t, mx_br_T, mx_br_F, mx_br_t, mx_br_f, mx_br_n, mx_cl_T, mx_cl_t, mx_re_T, mx_re_t, mx_rt_v, mx_rt_0, mx_cu_t, mx_w_id, mx_l_id, mx_b_0, mx_b_1, mx_b_r, mx_nl_0, mx_nl_1, mx_nl_2, mx_nl_n, mx_nl_l, mx_sw_n, mx_sw_h, mx_sw_m, Int.reduceLE, Int.reduceLT, Int.reduceEq, Int.reduceAdd, Int.reduceSub, Int.reduceMul, Int.reduceNeg, Int.reduceToNat, and_self, true_and, and_true, false_and, and_false, true_or, or_true, false_or, or_false, not_true_eq_false, not_false_eq_true, eq_self, rw_X12_reads, o.m.e, e, c_ab1]
theorem c_R4 (o : np S h κ i A) (c1 : h 38 22 ≤ 25) : ∃ g, g = tR h [10] ∧ mx_M (d + 2) 239 [(2, 38), (0, 4), (0, y)] S h n = some (some (0, mx_w (y + i)), S, g, n) := by
  obtain ⟨g, eg, e⟩ := c_R0 (d := d) (n := n) (y := y) o (by omega)
  refine ⟨g, eg, ?_⟩
  simp (disch := omega) only [mx_vt_h, mx_vt_m, mx_cmp_0, mx_cmp_1, mx_cmp_2, mx_cmp_3, mx_cmp_4, mx_u_s, mx_u_a, mx_u_k, mx_z_a, mx_z_s, mx_t_a, mx_t_2, mx_t_1, mx_t_0, mx_gd_T, mx_gd_t, mx_br_T, mx_br_F, mx_br_t, mx_br_f, mx_br_n, mx_cl_T, mx_cl_t, mx_re_T, mx_re_t, mx_rt_v, mx_rt_0, mx_cu_t, mx_w_id, mx_l_id, mx_b_0, mx_b_1, mx_b_r, mx_nl_0, mx_nl_1, mx_nl_2, mx_nl_n, mx_nl_l, mx_sw_n, mx_sw_h, mx_sw_m, Int.reduceLE, Int.reduceLT, Int.reduceEq, Int.reduceAdd, Int.reduceSub, Int.reduceMul, Int.reduceNeg, Int.reduceToNat, and_self, true_and, and_true, false_and, and_false, true_or, or_true, false_or, or_false, not_true_eq_false, not_false_eq_true, eq_self, rw_X12_reads, o.m.e, e, c_ab4]
theorem c_R5 (o : np S h κ i A) (c1 : h 38 22 ≤ 24) : ∃ g, g = tR h [51, 10] ∧ mx_M (d + 3) 239 [(2, 38), (0, 5), (0, y)] S h n = some (some (0, mx_w (mx_w (y + i) - i)), S, g, n) := by
  obtain ⟨g, eg, e⟩ := c_ran (d := d + 2) (n := n) (b := 51) o (by omega)
  have og : np S g κ i A := by rw [eg]; exact o.l
  have gc : g 38 22 = h 38 22 + 1 := by rw [eg, tR_c]; rfl
  obtain ⟨g2, eg2, e2⟩ := c_R1 (d := d) (n := n) (y := y) og (by omega)
  have og2 : np S g2 κ i A := by rw [eg2]; exact og.l
  refine ⟨g2, by rw [eg2, eg]; rfl, ?_⟩
  simp (disch := omega) only [mx_vt_h, mx_vt_m, mx_cmp_0, mx_cmp_1, mx_cmp_2, mx_cmp_3, mx_cmp_4, mx_u_s, mx_u_a, mx_u_k, mx_z_a, mx_z_s, mx_t_a, mx_t_2, mx_t_1, mx_t_0, mx_gd_T, mx_gd_t, mx_br_T, mx_br_F, mx_br_t, mx_br_f, mx_br_n, mx_cl_T, mx_cl_t, mx_re_T, mx_re_t, mx_rt_v, mx_rt_0, mx_cu_t, mx_w_id, mx_l_id, mx_b_0, mx_b_1, mx_b_r, mx_nl_0, mx_nl_1, mx_nl_2, mx_nl_n, mx_nl_l, mx_sw_n, mx_sw_h, mx_sw_m, Int.reduceLE, Int.reduceLT, Int.reduceEq, Int.reduceAdd, Int.reduceSub, Int.reduceMul, Int.reduceNeg, Int.reduceToNat, and_self, true_and, and_true, false_and, and_false, true_or, or_true, false_or, or_false, not_true_eq_false, not_false_eq_true, eq_self, rw_X12_reads, o.m.e, e, c_ab5, e2, og2.s]
theorem c_RV (o : np S h κ i A) (k : 0 ≤ κ ∧ κ ≤ 5) (c1 : h 38 22 ≤ 22) : ∃ g, g = tR h (rl κ) ∧ mx_M (d + 3) 239 [(2, 38), (0, κ), (0, y)] S h n = some (some (0, rdv κ i y), S, g, n) := by
  rcases k6 k with q | q | q | q | q | q <;> subst q
  · exact c_R0 (d := d + 2) o (by omega)
  · exact c_R1 (d := d + 1) o (by omega)
  · exact c_R2 (d := d + 1) o (by omega)
  · exact c_R3 o (by omega)
  · exact c_R4 (d := d + 1) o (by omega)
  · exact c_R5 o (by omega)
theorem c_W0 (o : np S h κ i A) (k : 0 ≤ κ ∧ κ ≤ 5) (c1 : h 38 22 ≤ 20) : ∃ g, g = tR h (11 :: rl κ) ∧ mx_M (d + 4) 240 [(2, 38), (0, 0), (0, y)] S h n = some (some (0, mx_w (rdv κ i y * 2)), S, g, n) := by
  obtain ⟨g, eg, e⟩ := c_ran (d := d + 3) (n := n) (b := 11) o (by omega)
  have og : np S g κ i A := by rw [eg]; exact o.l
  have gc : g 38 22 = h 38 22 + 1 := by rw [eg, tR_c]; rfl
  obtain ⟨g2, eg2, e2⟩ := c_RV (d := d) (n := n) (y := y) og k (by omega)
  refine ⟨g2, by rw [eg2, eg]; rfl, ?_⟩
  simp (disch := omega) only [mx_vt_h, mx_vt_m, mx_cmp_0, mx_cmp_1, mx_cmp_2, mx_cmp_3, mx_cmp_4, mx_u_s, mx_u_a, mx_u_k, mx_z_a, mx_z_s, mx_t_a, mx_t_2, mx_t_1, mx_t_0, mx_gd_T, mx_gd_t, mx_br_T, mx_br_F, mx_br_t, mx_br_f, mx_br_n, mx_cl_T, mx_cl_t, mx_re_T, mx_re_t, mx_rt_v, mx_rt_0, mx_cu_t, mx_w_id, mx_l_id, mx_b_0, mx_b_1, mx_b_r, mx_nl_0, mx_nl_1, mx_nl_2, mx_nl_n, mx_nl_l, mx_sw_n, mx_sw_h, mx_sw_m, Int.reduceLE, Int.reduceLT, Int.reduceEq, Int.reduceAdd, Int.reduceSub, Int.reduceMul, Int.reduceNeg, Int.reduceToNat, and_self, true_and, and_true, false_and, and_false, true_or, or_true, false_or, or_false, not_true_eq_false, not_false_eq_true, eq_self, rw_X12_writes, o.m.e, e, c_kindNow og, e2]
theorem c_W1 (o : np S h κ i A) (k : 0 ≤ κ ∧ κ ≤ 5) (c1 : h 38 22 ≤ 19) : ∃ g, g = tR h (20 :: 11 :: rl κ) ∧ mx_M (d + 5) 240 [(2, 38), (0, 1), (0, y)] S h n = some (some (0, mx_w (mx_w (rdv κ i y * 2) - A)), S, g, n) := by
  obtain ⟨g, eg, e⟩ := c_ran (d := d + 4) (n := n) (b := 20) o (by omega)
  have og : np S g κ i A := by rw [eg]; exact o.l
  have gc : g 38 22 = h 38 22 + 1 := by rw [eg, tR_c]; rfl
  obtain ⟨g2, eg2, e2⟩ := c_W0 (d := d) (n := n) (y := y) og k (by omega)
  have og2 : np S g2 κ i A := by rw [eg2]; exact og.l
  refine ⟨g2, by rw [eg2, eg]; rfl, ?_⟩
  simp (disch := omega) only [mx_vt_h, mx_vt_m, mx_cmp_0, mx_cmp_1, mx_cmp_2, mx_cmp_3, mx_cmp_4, mx_u_s, mx_u_a, mx_u_k, mx_z_a, mx_z_s, mx_t_a, mx_t_2, mx_t_1, mx_t_0, mx_gd_T, mx_gd_t, mx_br_T, mx_br_F, mx_br_t, mx_br_f, mx_br_n, mx_cl_T, mx_cl_t, mx_re_T, mx_re_t, mx_rt_v, mx_rt_0, mx_cu_t, mx_w_id, mx_l_id, mx_b_0, mx_b_1, mx_b_r, mx_nl_0, mx_nl_1, mx_nl_2, mx_nl_n, mx_nl_l, mx_sw_n, mx_sw_h, mx_sw_m, Int.reduceLE, Int.reduceLT, Int.reduceEq, Int.reduceAdd, Int.reduceSub, Int.reduceMul, Int.reduceNeg, Int.reduceToNat, and_self, true_and, and_true, false_and, and_false, true_or, or_true, false_or, or_false, not_true_eq_false, not_false_eq_true, eq_self, rw_X12_writes, o.m.e, e, c_ab1, e2, og2.s, c_itsA og2]
theorem c_W2 (o : np S h κ i A) (k : 0 ≤ κ ∧ κ ≤ 5) (c1 : h 38 22 ≤ 20) : ∃ g, g = tR h (11 :: rl κ) ∧ mx_M (d + 5) 240 [(2, 38), (0, 2), (0, y)] S h n = some (some (0, mx_w (rdv κ i y * 2)), S, g, n) := by
  obtain ⟨g, eg, e⟩ := c_W0 (d := d) (n := n) (y := y) o k (by omega)
  refine ⟨g, eg, ?_⟩
  simp (disch := omega) only [mx_vt_h, mx_vt_m, mx_cmp_0, mx_cmp_1, mx_cmp_2, mx_cmp_3, mx_cmp_4, mx_u_s, mx_u_a, mx_u_k, mx_z_a, mx_z_s, mx_t_a, mx_t_2, mx_t_1, mx_t_0, mx_gd_T, mx_gd_t, mx_br_T, mx_br_F, mx_br_t, mx_br_f, mx_br_n, mx_cl_T, mx_cl_t, mx_re_T, mx_re_t, mx_rt_v, mx_rt_0, mx_cu_t, mx_w_id, mx_l_id, mx_b_0, mx_b_1, mx_b_r, mx_nl_0, mx_nl_1, mx_nl_2, mx_nl_n, mx_nl_l, mx_sw_n, mx_sw_h, mx_sw_m, Int.reduceLE, Int.reduceLT, Int.reduceEq, Int.reduceAdd, Int.reduceSub, Int.reduceMul, Int.reduceNeg, Int.reduceToNat, and_self, true_and, and_true, false_and, and_false, true_or, or_true, false_or, or_false, not_true_eq_false, not_false_eq_true, eq_self, rw_X12_writes, o.m.e, e, c_ab2]
theorem c_W4 (o : np S h κ i A) (k : 0 ≤ κ ∧ κ ≤ 5) (c1 : h 38 22 ≤ 20) : ∃ g, g = tR h (11 :: rl κ) ∧ mx_M (d + 5) 240 [(2, 38), (0, 4), (0, y)] S h n = some (some (0, mx_w (rdv κ i y * 2)), S, g, n) := by
  obtain ⟨g, eg, e⟩ := c_W0 (d := d) (n := n) (y := y) o k (by omega)
  refine ⟨g, eg, ?_⟩
  simp (disch := omega) only [mx_vt_h, mx_vt_m, mx_cmp_0, mx_cmp_1, mx_cmp_2, mx_cmp_3, mx_cmp_4, mx_u_s, mx_u_a, mx_u_k, mx_z_a, mx_z_s, mx_t_a, mx_t_2, mx_t_1, mx_t_0, mx_gd_T, mx_gd_t, mx_br_T, mx_br_F, mx_br_t, mx_br_f, mx_br_n, mx_cl_T, mx_cl_t, mx_re_T, mx_re_t, mx_rt_v, mx_rt_0, mx_cu_t, mx_w_id, mx_l_id, mx_b_0, mx_b_1, mx_b_r, mx_nl_0, mx_nl_1, mx_nl_2, mx_nl_n, mx_nl_l, mx_sw_n, mx_sw_h, mx_sw_m, Int.reduceLE, Int.reduceLT, Int.reduceEq, Int.reduceAdd, Int.reduceSub, Int.reduceMul, Int.reduceNeg, Int.reduceToNat, and_self, true_and, and_true, false_and, and_false, true_or, or_true, false_or, or_false, not_true_eq_false, not_false_eq_true, eq_self, rw_X12_writes, o.m.e, e, c_ab4]
theorem c_W5 (o : np S h κ i A) (k : 0 ≤ κ ∧ κ ≤ 5) (c1 : h 38 22 ≤ 19) : ∃ g, g = tR h (20 :: 11 :: rl κ) ∧ mx_M (d + 6) 240 [(2, 38), (0, 5), (0, y)] S h n = some (some (0, mx_w (mx_w (rdv κ i y * 2) - A)), S, g, n) := by
  obtain ⟨g, eg, e⟩ := c_W1 (d := d) (n := n) (y := y) o k (by omega)
  refine ⟨g, eg, ?_⟩
  simp (disch := omega) only [mx_vt_h, mx_vt_m, mx_cmp_0, mx_cmp_1, mx_cmp_2, mx_cmp_3, mx_cmp_4, mx_u_s, mx_u_a, mx_u_k, mx_z_a, mx_z_s, mx_t_a, mx_t_2, mx_t_1, mx_t_0, mx_gd_T, mx_gd_t, mx_br_T, mx_br_F, mx_br_t, mx_br_f, mx_br_n, mx_cl_T, mx_cl_t, mx_re_T, mx_re_t, mx_rt_v, mx_rt_0, mx_cu_t, mx_w_id, mx_l_id, mx_b_0, mx_b_1, mx_b_r, mx_nl_0, mx_nl_1, mx_nl_2, mx_nl_n, mx_nl_l, mx_sw_n, mx_sw_h, mx_sw_m, Int.reduceLE, Int.reduceLT, Int.reduceEq, Int.reduceAdd, Int.reduceSub, Int.reduceMul, Int.reduceNeg, Int.reduceToNat, and_self, true_and, and_true, false_and, and_false, true_or, or_true, false_or, or_false, not_true_eq_false, not_false_eq_true, eq_self, rw_X12_writes, o.m.e, e, c_ab5]
theorem c_W3 (o : np S h 3 i A) (c1 : h 38 22 ≤ 15) : ∃ g, g = tR h [41, 11, 40, 30, 10, 40, 30, 10] ∧ mx_M (d + 6) 240 [(2, 38), (0, 3), (0, y)] S h n = some (some (0, mx_w (mx_w (rdv 3 i y * 2) + rdv 3 i i)), S, g, n) := by
  obtain ⟨g, eg, e⟩ := c_ran (d := d + 5) (n := n) (b := 41) o (by omega)
  have og : np S g 3 i A := by rw [eg]; exact o.l
  have gc : g 38 22 = h 38 22 + 1 := by rw [eg, tR_c]; rfl
  obtain ⟨g2, eg2, e2⟩ := c_W2 (d := d) (n := n) (y := y) og (by decide) (by omega)
  have og2 : np S g2 3 i A := by rw [eg2]; exact og.l
  have gc2 : g2 38 22 = g 38 22 + 4 := by rw [eg2, tR_c]; rfl
  obtain ⟨g3, eg3, e3⟩ := c_RV (d := d + 2) (n := n) (y := i) og2 (by decide) (by omega)
  refine ⟨g3, by rw [eg3, eg2, eg]; rfl, ?_⟩
  simp (disch := omega) only [mx_vt_h, mx_vt_m, mx_cmp_0, mx_cmp_1, mx_cmp_2, mx_cmp_3, mx_cmp_4, mx_u_s, mx_u_a, mx_u_k, mx_z_a, mx_z_s, mx_t_a, mx_t_2, mx_t_1, mx_t_0, mx_gd_T, mx_gd_t, mx_br_T, mx_br_F, mx_br_t, mx_br_f, mx_br_n, mx_cl_T, mx_cl_t, mx_re_T, mx_re_t, mx_rt_v, mx_rt_0, mx_cu_t, mx_w_id, mx_l_id, mx_b_0, mx_b_1, mx_b_r, mx_nl_0, mx_nl_1, mx_nl_2, mx_nl_n, mx_nl_l, mx_sw_n, mx_sw_h, mx_sw_m, Int.reduceLE, Int.reduceLT, Int.reduceEq, Int.reduceAdd, Int.reduceSub, Int.reduceMul, Int.reduceNeg, Int.reduceToNat, and_self, true_and, and_true, false_and, and_false, true_or, or_true, false_or, or_false, not_true_eq_false, not_false_eq_true, eq_self, rw_X12_writes, o.m.e, e, c_ab3, e2, c_kindNow og2, og2.s, e3]
theorem c_WV (o : np S h κ i A) (k : 0 ≤ κ ∧ κ ≤ 5) (c1 : h 38 22 ≤ 15) : ∃ g, g = tR h (wl κ) ∧ mx_M (d + 6) 240 [(2, 38), (0, κ), (0, y)] S h n = some (some (0, wx κ i A y), S, g, n) := by
  rcases k6 k with q | q | q | q | q | q <;> subst q
  · exact c_W0 (d := d + 2) o k (by omega)
  · exact c_W1 (d := d + 1) o k (by omega)
  · exact c_W2 (d := d + 1) o k (by omega)
  · exact c_W3 o (by omega)
  · exact c_W4 (d := d + 1) o k (by omega)
  · exact c_W5 o k (by omega)
/-- whether it was parted by 0 -/
def sR (h : mx_H) (A i : Int) : mx_H := mx_u h 38 24 (if A = i then 1 else 0)
theorem np.s' (o : np S h κ i A) {B j : Int} : np S (sR h B j) κ i A := o.e
theorem sR_c {B j : Int} : sR h B j 38 22 = h 38 22 := by unfold sR; rw [mx_u_k (by decide)]
theorem tdiv_m {y : Int} : Int.tdiv y (-1) = - y := by rw [Int.tdiv_neg, Int.tdiv_one]
theorem c_S0 (o : np S h κ i A) (c1 : h 38 22 ≤ 25) (c2 : h 38 24 = 0) (A0 : 0 ≤ A ∧ A ≤ 6) : ∃ g, g = sR (tR h [12]) A i ∧ mx_M (d + 1) 241 [(2, 38), (0, 0), (0, y)] S h n = some (some (0, sx A i y), S, g, n) := by
  have i0 := o.i0
  obtain ⟨g, eg, e⟩ := c_ran (d := d) (n := n) (b := 12) o (by omega)
  have og : np S g κ i A := by rw [eg]; exact o.l
  have g24 : g 38 24 = 0 := by rw [eg, tR_k (by decide)]; exact c2
  refine ⟨sR g A i, by rw [eg], ?_⟩
  by_cases q : A = i
  · unfold sR sx
    rw [if_pos q, if_pos q]
    simp (disch := omega) only [mx_vt_h, mx_vt_m, mx_cmp_0, mx_cmp_1, mx_cmp_2, mx_cmp_3, mx_cmp_4, mx_u_s, mx_u_a, mx_u_k, mx_z_a, mx_z_s, mx_t_a, mx_t_2, mx_t_1, mx_t_0, mx_gd_T, mx_gd_t, mx_br_T, mx_br_F, mx_br_t, mx_br_f, mx_br_n, mx_cl_T, mx_cl_t, mx_re_T, mx_re_t, mx_rt_v, mx_rt_0, mx_cu_t, mx_w_id, mx_l_id, mx_b_0, mx_b_1, mx_b_r, mx_nl_0, mx_nl_1, mx_nl_2, mx_nl_n, mx_nl_l, mx_sw_n, mx_sw_h, mx_sw_m, Int.reduceLE, Int.reduceLT, Int.reduceEq, Int.reduceAdd, Int.reduceSub, Int.reduceMul, Int.reduceNeg, Int.reduceToNat, and_self, true_and, and_true, false_and, and_false, true_or, or_true, false_or, or_false, not_true_eq_false, not_false_eq_true, eq_self, rw_X12_shares, rw_X12_shares_1, o.m.e, e, og.s, c_itsA og, g24]
  · unfold sR sx
    rw [if_neg q, if_neg q]
    by_cases r : A - i = -1
    · rw [r, tdiv_m]
      simp (disch := omega) only [mx_vt_h, mx_vt_m, mx_cmp_0, mx_cmp_1, mx_cmp_2, mx_cmp_3, mx_cmp_4, mx_u_s, mx_u_a, mx_u_k, mx_z_a, mx_z_s, mx_t_a, mx_t_2, mx_t_1, mx_t_0, mx_gd_T, mx_gd_t, mx_br_T, mx_br_F, mx_br_t, mx_br_f, mx_br_n, mx_cl_T, mx_cl_t, mx_re_T, mx_re_t, mx_rt_v, mx_rt_0, mx_cu_t, mx_w_id, mx_l_id, mx_b_0, mx_b_1, mx_b_r, mx_nl_0, mx_nl_1, mx_nl_2, mx_nl_n, mx_nl_l, mx_sw_n, mx_sw_h, mx_sw_m, Int.reduceLE, Int.reduceLT, Int.reduceEq, Int.reduceAdd, Int.reduceSub, Int.reduceMul, Int.reduceNeg, Int.reduceToNat, and_self, true_and, and_true, false_and, and_false, true_or, or_true, false_or, or_false, not_true_eq_false, not_false_eq_true, eq_self, rw_X12_shares, rw_X12_shares_1, o.m.e, e, og.s, c_itsA og, g24, r]
    · simp (disch := omega) only [mx_vt_h, mx_vt_m, mx_cmp_0, mx_cmp_1, mx_cmp_2, mx_cmp_3, mx_cmp_4, mx_u_s, mx_u_a, mx_u_k, mx_z_a, mx_z_s, mx_t_a, mx_t_2, mx_t_1, mx_t_0, mx_gd_T, mx_gd_t, mx_br_T, mx_br_F, mx_br_t, mx_br_f, mx_br_n, mx_cl_T, mx_cl_t, mx_re_T, mx_re_t, mx_rt_v, mx_rt_0, mx_cu_t, mx_w_id, mx_l_id, mx_b_0, mx_b_1, mx_b_r, mx_nl_0, mx_nl_1, mx_nl_2, mx_nl_n, mx_nl_l, mx_sw_n, mx_sw_h, mx_sw_m, Int.reduceLE, Int.reduceLT, Int.reduceEq, Int.reduceAdd, Int.reduceSub, Int.reduceMul, Int.reduceNeg, Int.reduceToNat, and_self, true_and, and_true, false_and, and_false, true_or, or_true, false_or, or_false, not_true_eq_false, not_false_eq_true, eq_self, rw_X12_shares, rw_X12_shares_1, o.m.e, e, og.s, c_itsA og, g24]
theorem c_S1 (o : np S h κ i A) (c1 : h 38 22 ≤ 25) (c2 : h 38 24 = 0) (A0 : 0 ≤ A ∧ A ≤ 6) : ∃ g, g = sR (tR h [12]) A i ∧ mx_M (d + 2) 241 [(2, 38), (0, 1), (0, y)] S h n = some (some (0, sx A i y), S, g, n) := by
  obtain ⟨g, eg, e⟩ := c_S0 (d := d) (n := n) (y := y) o c1 c2 A0
  refine ⟨g, eg, ?_⟩
  simp (disch := omega) only [mx_vt_h, mx_vt_m, mx_cmp_0, mx_cmp_1, mx_cmp_2, mx_cmp_3, mx_cmp_4, mx_u_s, mx_u_a, mx_u_k, mx_z_a, mx_z_s, mx_t_a, mx_t_2, mx_t_1, mx_t_0, mx_gd_T, mx_gd_t, mx_br_T, mx_br_F, mx_br_t, mx_br_f, mx_br_n, mx_cl_T, mx_cl_t, mx_re_T, mx_re_t, mx_rt_v, mx_rt_0, mx_cu_t, mx_w_id, mx_l_id, mx_b_0, mx_b_1, mx_b_r, mx_nl_0, mx_nl_1, mx_nl_2, mx_nl_n, mx_nl_l, mx_sw_n, mx_sw_h, mx_sw_m, Int.reduceLE, Int.reduceLT, Int.reduceEq, Int.reduceAdd, Int.reduceSub, Int.reduceMul, Int.reduceNeg, Int.reduceToNat, and_self, true_and, and_true, false_and, and_false, true_or, or_true, false_or, or_false, not_true_eq_false, not_false_eq_true, eq_self, rw_X12_shares, rw_X12_shares_1, o.m.e, e, c_ab1]
theorem c_S2 (o : np S h κ i A) (c1 : h 38 22 ≤ 25) (c2 : h 38 24 = 0) (A0 : 0 ≤ A ∧ A ≤ 6) : ∃ g, g = sR (tR h [12]) A i ∧ mx_M (d + 2) 241 [(2, 38), (0, 2), (0, y)] S h n = some (some (0, sx A i y), S, g, n) := by
  obtain ⟨g, eg, e⟩ := c_S0 (d := d) (n := n) (y := y) o c1 c2 A0
  refine ⟨g, eg, ?_⟩
  simp (disch := omega) only [mx_vt_h, mx_vt_m, mx_cmp_0, mx_cmp_1, mx_cmp_2, mx_cmp_3, mx_cmp_4, mx_u_s, mx_u_a, mx_u_k, mx_z_a, mx_z_s, mx_t_a, mx_t_2, mx_t_1, mx_t_0, mx_gd_T, mx_gd_t, mx_br_T, mx_br_F, mx_br_t, mx_br_f, mx_br_n, mx_cl_T, mx_cl_t, mx_re_T, mx_re_t, mx_rt_v, mx_rt_0, mx_cu_t, mx_w_id, mx_l_id, mx_b_0, mx_b_1, mx_b_r, mx_nl_0, mx_nl_1, mx_nl_2, mx_nl_n, mx_nl_l, mx_sw_n, mx_sw_h, mx_sw_m, Int.reduceLE, Int.reduceLT, Int.reduceEq, Int.reduceAdd, Int.reduceSub, Int.reduceMul, Int.reduceNeg, Int.reduceToNat, and_self, true_and, and_true, false_and, and_false, true_or, or_true, false_or, or_false, not_true_eq_false, not_false_eq_true, eq_self, rw_X12_shares, rw_X12_shares_1, o.m.e, e, c_ab2]
theorem c_S3 (o : np S h κ i A) (c1 : h 38 22 ≤ 25) (c2 : h 38 24 = 0) (A0 : 0 ≤ A ∧ A ≤ 6) : ∃ g, g = sR (tR h [12]) A i ∧ mx_M (d + 3) 241 [(2, 38), (0, 3), (0, y)] S h n = some (some (0, sx A i y), S, g, n) := by
  obtain ⟨g, eg, e⟩ := c_S2 (d := d) (n := n) (y := y) o c1 c2 A0
  refine ⟨g, eg, ?_⟩
  simp (disch := omega) only [mx_vt_h, mx_vt_m, mx_cmp_0, mx_cmp_1, mx_cmp_2, mx_cmp_3, mx_cmp_4, mx_u_s, mx_u_a, mx_u_k, mx_z_a, mx_z_s, mx_t_a, mx_t_2, mx_t_1, mx_t_0, mx_gd_T, mx_gd_t, mx_br_T, mx_br_F, mx_br_t, mx_br_f, mx_br_n, mx_cl_T, mx_cl_t, mx_re_T, mx_re_t, mx_rt_v, mx_rt_0, mx_cu_t, mx_w_id, mx_l_id, mx_b_0, mx_b_1, mx_b_r, mx_nl_0, mx_nl_1, mx_nl_2, mx_nl_n, mx_nl_l, mx_sw_n, mx_sw_h, mx_sw_m, Int.reduceLE, Int.reduceLT, Int.reduceEq, Int.reduceAdd, Int.reduceSub, Int.reduceMul, Int.reduceNeg, Int.reduceToNat, and_self, true_and, and_true, false_and, and_false, true_or, or_true, false_or, or_false, not_true_eq_false, not_false_eq_true, eq_self, rw_X12_shares, rw_X12_shares_1, o.m.e, e, c_ab3]
theorem c_S5 (o : np S h κ i A) (c1 : h 38 22 ≤ 24) (c2 : h 38 24 = 0) (A0 : 0 ≤ A ∧ A ≤ 6) : ∃ g, g = sR (tR h [50, 12]) A i ∧ mx_M (d + 3) 241 [(2, 38), (0, 5), (0, y)] S h n = some (some (0, mx_xor (sx A i (mx_w (y + 2))) 1), S, g, n) := by
  obtain ⟨g, eg, e⟩ := c_ran (d := d + 2) (n := n) (b := 50) o (by omega)
  have og : np S g κ i A := by rw [eg]; exact o.l
  have gc : g 38 22 = h 38 22 + 1 := by rw [eg, tR_c]; rfl
  have g24 : g 38 24 = 0 := by rw [eg, tR_k (by decide)]; exact c2
  obtain ⟨g2, eg2, e2⟩ := c_S1 (d := d) (n := n) (y := mx_w (y + 2)) og (by omega) g24 A0
  refine ⟨g2, by rw [eg2, eg]; rfl, ?_⟩
  simp (disch := omega) only [mx_vt_h, mx_vt_m, mx_cmp_0, mx_cmp_1, mx_cmp_2, mx_cmp_3, mx_cmp_4, mx_u_s, mx_u_a, mx_u_k, mx_z_a, mx_z_s, mx_t_a, mx_t_2, mx_t_1, mx_t_0, mx_gd_T, mx_gd_t, mx_br_T, mx_br_F, mx_br_t, mx_br_f, mx_br_n, mx_cl_T, mx_cl_t, mx_re_T, mx_re_t, mx_rt_v, mx_rt_0, mx_cu_t, mx_w_id, mx_l_id, mx_b_0, mx_b_1, mx_b_r, mx_nl_0, mx_nl_1, mx_nl_2, mx_nl_n, mx_nl_l, mx_sw_n, mx_sw_h, mx_sw_m, Int.reduceLE, Int.reduceLT, Int.reduceEq, Int.reduceAdd, Int.reduceSub, Int.reduceMul, Int.reduceNeg, Int.reduceToNat, and_self, true_and, and_true, false_and, and_false, true_or, or_true, false_or, or_false, not_true_eq_false, not_false_eq_true, eq_self, rw_X12_shares, rw_X12_shares_1, o.m.e, e, c_ab5, e2]
theorem c_S4 (o : np S h 4 i A) (c1 : h 38 22 ≤ 20) (c2 : h 38 24 = 0) (A0 : 0 ≤ A ∧ A ≤ 6) : ∃ g, g = (if A = i then sR (tR h [61, 12]) A i else tR (sR (tR h [61, 12]) A i) [10]) ∧ mx_M (d + 4) 241 [(2, 38), (0, 4), (0, y)] S h n = some (some (0, if A = i then 0 else mx_w (sx A i y + mx_w (A + i))), S, g, n) := by
  obtain ⟨g, eg, e⟩ := c_ran (d := d + 3) (n := n) (b := 61) o (by omega)
  have og : np S g 4 i A := by rw [eg]; exact o.l
  have gc : g 38 22 = h 38 22 + 1 := by rw [eg, tR_c]; rfl
  have g24 : g 38 24 = 0 := by rw [eg, tR_k (by decide)]; exact c2
  obtain ⟨g2, eg2, e2⟩ := c_S0 (d := d + 2) (n := n) (y := y) og (by omega) g24 A0
  have og2 : np S g2 4 i A := by rw [eg2]; exact (og.l).s'
  have gc2 : g2 38 22 = g 38 22 + 1 := by rw [eg2, sR_c, tR_c]; rfl
  by_cases q : A = i
  · have g3 : g2 38 24 = 1 := by rw [eg2]; unfold sR; rw [mx_u_s, if_pos q]
    rw [if_pos q, if_pos q]
    refine ⟨g2, by rw [eg2, eg]; rfl, ?_⟩
    simp (disch := omega) only [mx_vt_h, mx_vt_m, mx_cmp_0, mx_cmp_1, mx_cmp_2, mx_cmp_3, mx_cmp_4, mx_u_s, mx_u_a, mx_u_k, mx_z_a, mx_z_s, mx_t_a, mx_t_2, mx_t_1, mx_t_0, mx_gd_T, mx_gd_t, mx_br_T, mx_br_F, mx_br_t, mx_br_f, mx_br_n, mx_cl_T, mx_cl_t, mx_re_T, mx_re_t, mx_rt_v, mx_rt_0, mx_cu_t, mx_w_id, mx_l_id, mx_b_0, mx_b_1, mx_b_r, mx_nl_0, mx_nl_1, mx_nl_2, mx_nl_n, mx_nl_l, mx_sw_n, mx_sw_h, mx_sw_m, Int.reduceLE, Int.reduceLT, Int.reduceEq, Int.reduceAdd, Int.reduceSub, Int.reduceMul, Int.reduceNeg, Int.reduceToNat, and_self, true_and, and_true, false_and, and_false, true_or, or_true, false_or, or_false, not_true_eq_false, not_false_eq_true, eq_self, rw_X12_shares, rw_X12_shares_1, o.m.e, e, c_ab4, e2, g3]
  · have g3 : g2 38 24 = 0 := by rw [eg2]; unfold sR; rw [mx_u_s, if_neg q]
    obtain ⟨g4, eg4, e4⟩ := c_R4 (d := d + 1) (n := n) (y := A) og2 (by omega)
    rw [if_neg q, if_neg q]
    refine ⟨g4, by rw [eg4, eg2, eg]; rfl, ?_⟩
    simp (disch := omega) only [mx_vt_h, mx_vt_m, mx_cmp_0, mx_cmp_1, mx_cmp_2, mx_cmp_3, mx_cmp_4, mx_u_s, mx_u_a, mx_u_k, mx_z_a, mx_z_s, mx_t_a, mx_t_2, mx_t_1, mx_t_0, mx_gd_T, mx_gd_t, mx_br_T, mx_br_F, mx_br_t, mx_br_f, mx_br_n, mx_cl_T, mx_cl_t, mx_re_T, mx_re_t, mx_rt_v, mx_rt_0, mx_cu_t, mx_w_id, mx_l_id, mx_b_0, mx_b_1, mx_b_r, mx_nl_0, mx_nl_1, mx_nl_2, mx_nl_n, mx_nl_l, mx_sw_n, mx_sw_h, mx_sw_m, Int.reduceLE, Int.reduceLT, Int.reduceEq, Int.reduceAdd, Int.reduceSub, Int.reduceMul, Int.reduceNeg, Int.reduceToNat, and_self, true_and, and_true, false_and, and_false, true_or, or_true, false_or, or_false, not_true_eq_false, not_false_eq_true, eq_self, rw_X12_shares, rw_X12_shares_1, o.m.e, e, c_ab4, e2, g3, c_kindNow og2, og2.s, c_itsA og2, e4]
theorem c_T0 (o : np S h κ i A) (k : 0 ≤ κ ∧ κ ≤ 5) (c1 : h 38 22 ≤ 14) : ∃ g, g = tR h (13 :: wl κ) ∧ mx_M (d + 7) 242 [(2, 38), (0, 0), (0, y)] S h n = some (some (0, mx_xor (wx κ i A y) A), S, g, n) := by
  obtain ⟨g, eg, e⟩ := c_ran (d := d + 6) (n := n) (b := 13) o (by omega)
  have og : np S g κ i A := by rw [eg]; exact o.l
  have gc : g 38 22 = h 38 22 + 1 := by rw [eg, tR_c]; rfl
  obtain ⟨g2, eg2, e2⟩ := c_WV (d := d) (n := n) (y := y) og k (by omega)
  have og2 : np S g2 κ i A := by rw [eg2]; exact og.l
  refine ⟨g2, by rw [eg2, eg]; rfl, ?_⟩
  simp (disch := omega) only [mx_vt_h, mx_vt_m, mx_cmp_0, mx_cmp_1, mx_cmp_2, mx_cmp_3, mx_cmp_4, mx_u_s, mx_u_a, mx_u_k, mx_z_a, mx_z_s, mx_t_a, mx_t_2, mx_t_1, mx_t_0, mx_gd_T, mx_gd_t, mx_br_T, mx_br_F, mx_br_t, mx_br_f, mx_br_n, mx_cl_T, mx_cl_t, mx_re_T, mx_re_t, mx_rt_v, mx_rt_0, mx_cu_t, mx_w_id, mx_l_id, mx_b_0, mx_b_1, mx_b_r, mx_nl_0, mx_nl_1, mx_nl_2, mx_nl_n, mx_nl_l, mx_sw_n, mx_sw_h, mx_sw_m, Int.reduceLE, Int.reduceLT, Int.reduceEq, Int.reduceAdd, Int.reduceSub, Int.reduceMul, Int.reduceNeg, Int.reduceToNat, and_self, true_and, and_true, false_and, and_false, true_or, or_true, false_or, or_false, not_true_eq_false, not_false_eq_true, eq_self, rw_X12_tells, o.m.e, e, c_kindNow og, e2, og2.s, c_itsA og2]
theorem c_T1 (o : np S h κ i A) (k : 0 ≤ κ ∧ κ ≤ 5) (c1 : h 38 22 ≤ 14) : ∃ g, g = tR h (13 :: wl κ) ∧ mx_M (d + 8) 242 [(2, 38), (0, 1), (0, y)] S h n = some (some (0, mx_xor (wx κ i A y) A), S, g, n) := by
  obtain ⟨g, eg, e⟩ := c_T0 (d := d) (n := n) (y := y) o k (by omega)
  refine ⟨g, eg, ?_⟩
  simp (disch := omega) only [mx_vt_h, mx_vt_m, mx_cmp_0, mx_cmp_1, mx_cmp_2, mx_cmp_3, mx_cmp_4, mx_u_s, mx_u_a, mx_u_k, mx_z_a, mx_z_s, mx_t_a, mx_t_2, mx_t_1, mx_t_0, mx_gd_T, mx_gd_t, mx_br_T, mx_br_F, mx_br_t, mx_br_f, mx_br_n, mx_cl_T, mx_cl_t, mx_re_T, mx_re_t, mx_rt_v, mx_rt_0, mx_cu_t, mx_w_id, mx_l_id, mx_b_0, mx_b_1, mx_b_r, mx_nl_0, mx_nl_1, mx_nl_2, mx_nl_n, mx_nl_l, mx_sw_n, mx_sw_h, mx_sw_m, Int.reduceLE, Int.reduceLT, Int.reduceEq, Int.reduceAdd, Int.reduceSub, Int.reduceMul, Int.reduceNeg, Int.reduceToNat, and_self, true_and, and_true, false_and, and_false, true_or, or_true, false_or, or_false, not_true_eq_false, not_false_eq_true, eq_self, rw_X12_tells, o.m.e, e, c_ab1]
theorem c_T5 (o : np S h κ i A) (k : 0 ≤ κ ∧ κ ≤ 5) (c1 : h 38 22 ≤ 14) : ∃ g, g = tR h (13 :: wl κ) ∧ mx_M (d + 9) 242 [(2, 38), (0, 5), (0, y)] S h n = some (some (0, mx_xor (wx κ i A y) A), S, g, n) := by
  obtain ⟨g, eg, e⟩ := c_T1 (d := d) (n := n) (y := y) o k (by omega)
  refine ⟨g, eg, ?_⟩
  simp (disch := omega) only [mx_vt_h, mx_vt_m, mx_cmp_0, mx_cmp_1, mx_cmp_2, mx_cmp_3, mx_cmp_4, mx_u_s, mx_u_a, mx_u_k, mx_z_a, mx_z_s, mx_t_a, mx_t_2, mx_t_1, mx_t_0, mx_gd_T, mx_gd_t, mx_br_T, mx_br_F, mx_br_t, mx_br_f, mx_br_n, mx_cl_T, mx_cl_t, mx_re_T, mx_re_t, mx_rt_v, mx_rt_0, mx_cu_t, mx_w_id, mx_l_id, mx_b_0, mx_b_1, mx_b_r, mx_nl_0, mx_nl_1, mx_nl_2, mx_nl_n, mx_nl_l, mx_sw_n, mx_sw_h, mx_sw_m, Int.reduceLE, Int.reduceLT, Int.reduceEq, Int.reduceAdd, Int.reduceSub, Int.reduceMul, Int.reduceNeg, Int.reduceToNat, and_self, true_and, and_true, false_and, and_false, true_or, or_true, false_or, or_false, not_true_eq_false, not_false_eq_true, eq_self, rw_X12_tells, o.m.e, e, c_ab5]
theorem c_T4 (o : np S h 4 i A) (c1 : h 38 22 ≤ 10) : ∃ g, g = tR h (60 :: 13 :: wl 4) ∧ mx_M (d + 8) 242 [(2, 38), (0, 4), (0, y)] S h n = some (some (0, mx_w (mx_xor (wx 4 i A y) A * 2)), S, g, n) := by
  obtain ⟨g, eg, e⟩ := c_ran (d := d + 7) (n := n) (b := 60) o (by omega)
  have og : np S g 4 i A := by rw [eg]; exact o.l
  have gc : g 38 22 = h 38 22 + 1 := by rw [eg, tR_c]; rfl
  obtain ⟨g2, eg2, e2⟩ := c_T0 (d := d) (n := n) (y := y) og (by decide) (by omega)
  refine ⟨g2, by rw [eg2, eg]; rfl, ?_⟩
  simp (disch := omega) only [mx_vt_h, mx_vt_m, mx_cmp_0, mx_cmp_1, mx_cmp_2, mx_cmp_3, mx_cmp_4, mx_u_s, mx_u_a, mx_u_k, mx_z_a, mx_z_s, mx_t_a, mx_t_2, mx_t_1, mx_t_0, mx_gd_T, mx_gd_t, mx_br_T, mx_br_F, mx_br_t, mx_br_f, mx_br_n, mx_cl_T, mx_cl_t, mx_re_T, mx_re_t, mx_rt_v, mx_rt_0, mx_cu_t, mx_w_id, mx_l_id, mx_b_0, mx_b_1, mx_b_r, mx_nl_0, mx_nl_1, mx_nl_2, mx_nl_n, mx_nl_l, mx_sw_n, mx_sw_h, mx_sw_m, Int.reduceLE, Int.reduceLT, Int.reduceEq, Int.reduceAdd, Int.reduceSub, Int.reduceMul, Int.reduceNeg, Int.reduceToNat, and_self, true_and, and_true, false_and, and_false, true_or, or_true, false_or, or_false, not_true_eq_false, not_false_eq_true, eq_self, rw_X12_tells, o.m.e, e, c_ab4, e2]
theorem c_T2 (o : np S h κ i A) (k : κ = 2 ∨ κ = 3) (c1 : h 38 22 ≤ 10) (c2 : h 38 24 = 0) (A0 : 0 ≤ A ∧ A ≤ 6) : ∃ g, g = sR (tR h (31 :: 13 :: wl κ ++ [12])) A i ∧ mx_M (d + 8) 242 [(2, 38), (0, 2), (0, y)] S h n = some (some (0, mx_w (mx_xor (wx κ i A y) A + sx A i i)), S, g, n) := by
  obtain ⟨g, eg, e⟩ := c_ran (d := d + 7) (n := n) (b := 31) o (by omega)
  have og : np S g κ i A := by rw [eg]; exact o.l
  have gc : g 38 22 = h 38 22 + 1 := by rw [eg, tR_c]; rfl
  have g24 : g 38 24 = 0 := by rw [eg, tR_k (by decide)]; exact c2
  obtain ⟨g2, eg2, e2⟩ := c_T0 (d := d) (n := n) (y := y) og (by omega) (by omega)
  have og2 : np S g2 κ i A := by rw [eg2]; exact og.l
  have gc2 : g2 38 22 ≤ g 38 22 + 9 := by
    rw [eg2, tR_c]
    rcases k with q | q <;> subst q
    · have : (13 :: wl 2).length = 4 := rfl
      omega
    · have : (13 :: wl 3).length = 9 := rfl
      omega
  have g24' : g2 38 24 = 0 := by rw [eg2, tR_k (by decide)]; exact g24
  have fin : tR h (31 :: 13 :: wl κ ++ [12]) = tR g2 [12] := by
    rw [show tR h (31 :: 13 :: wl κ ++ [12]) = tR (tR h [31]) (13 :: wl κ ++ [12]) from rfl, tR_a, ← eg, ← eg2]
  rw [fin]
  rcases k with q | q <;> subst q
  · obtain ⟨g3, eg3, e3⟩ := c_S2 (d := d + 5) (n := n) (y := i) og2 (by omega) g24' A0
    refine ⟨g3, eg3, ?_⟩
    simp (disch := omega) only [mx_vt_h, mx_vt_m, mx_cmp_0, mx_cmp_1, mx_cmp_2, mx_cmp_3, mx_cmp_4, mx_u_s, mx_u_a, mx_u_k, mx_z_a, mx_z_s, mx_t_a, mx_t_2, mx_t_1, mx_t_0, mx_gd_T, mx_gd_t, mx_br_T, mx_br_F, mx_br_t, mx_br_f, mx_br_n, mx_cl_T, mx_cl_t, mx_re_T, mx_re_t, mx_rt_v, mx_rt_0, mx_cu_t, mx_w_id, mx_l_id, mx_b_0, mx_b_1, mx_b_r, mx_nl_0, mx_nl_1, mx_nl_2, mx_nl_n, mx_nl_l, mx_sw_n, mx_sw_h, mx_sw_m, Int.reduceLE, Int.reduceLT, Int.reduceEq, Int.reduceAdd, Int.reduceSub, Int.reduceMul, Int.reduceNeg, Int.reduceToNat, and_self, true_and, and_true, false_and, and_false, true_or, or_true, false_or, or_false, not_true_eq_false, not_false_eq_true, eq_self, rw_X12_tells, o.m.e, e, c_ab2, e2, c_kindNow og2, og2.s, e3]
  · obtain ⟨g3, eg3, e3⟩ := c_S3 (d := d + 4) (n := n) (y := i) og2 (by omega) g24' A0
    refine ⟨g3, eg3, ?_⟩
    simp (disch := omega) only [mx_vt_h, mx_vt_m, mx_cmp_0, mx_cmp_1, mx_cmp_2, mx_cmp_3, mx_cmp_4, mx_u_s, mx_u_a, mx_u_k, mx_z_a, mx_z_s, mx_t_a, mx_t_2, mx_t_1, mx_t_0, mx_gd_T, mx_gd_t, mx_br_T, mx_br_F, mx_br_t, mx_br_f, mx_br_n, mx_cl_T, mx_cl_t, mx_re_T, mx_re_t, mx_rt_v, mx_rt_0, mx_cu_t, mx_w_id, mx_l_id, mx_b_0, mx_b_1, mx_b_r, mx_nl_0, mx_nl_1, mx_nl_2, mx_nl_n, mx_nl_l, mx_sw_n, mx_sw_h, mx_sw_m, Int.reduceLE, Int.reduceLT, Int.reduceEq, Int.reduceAdd, Int.reduceSub, Int.reduceMul, Int.reduceNeg, Int.reduceToNat, and_self, true_and, and_true, false_and, and_false, true_or, or_true, false_or, or_false, not_true_eq_false, not_false_eq_true, eq_self, rw_X12_tells, o.m.e, e, c_ab2, e2, c_kindNow og2, og2.s, e3]
theorem c_T3 (o : np S h κ i A) (k : κ = 2 ∨ κ = 3) (c1 : h 38 22 ≤ 10) (c2 : h 38 24 = 0) (A0 : 0 ≤ A ∧ A ≤ 6) : ∃ g, g = sR (tR h (31 :: 13 :: wl κ ++ [12])) A i ∧ mx_M (d + 9) 242 [(2, 38), (0, 3), (0, y)] S h n = some (some (0, mx_w (mx_xor (wx κ i A y) A + sx A i i)), S, g, n) := by
  obtain ⟨g, eg, e⟩ := c_T2 (d := d) (n := n) (y := y) o k c1 c2 A0
  refine ⟨g, eg, ?_⟩
  simp (disch := omega) only [mx_vt_h, mx_vt_m, mx_cmp_0, mx_cmp_1, mx_cmp_2, mx_cmp_3, mx_cmp_4, mx_u_s, mx_u_a, mx_u_k, mx_z_a, mx_z_s, mx_t_a, mx_t_2, mx_t_1, mx_t_0, mx_gd_T, mx_gd_t, mx_br_T, mx_br_F, mx_br_t, mx_br_f, mx_br_n, mx_cl_T, mx_cl_t, mx_re_T, mx_re_t, mx_rt_v, mx_rt_0, mx_cu_t, mx_w_id, mx_l_id, mx_b_0, mx_b_1, mx_b_r, mx_nl_0, mx_nl_1, mx_nl_2, mx_nl_n, mx_nl_l, mx_sw_n, mx_sw_h, mx_sw_m, Int.reduceLE, Int.reduceLT, Int.reduceEq, Int.reduceAdd, Int.reduceSub, Int.reduceMul, Int.reduceNeg, Int.reduceToNat, and_self, true_and, and_true, false_and, and_false, true_or, or_true, false_or, or_false, not_true_eq_false, not_false_eq_true, eq_self, rw_X12_tells, o.m.e, e, c_ab3]
end
