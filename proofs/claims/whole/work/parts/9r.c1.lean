/-! Acts: the program's notes -/
theorem an_31 {k : Int} (k0 : 0 ≤ k) (k1 : k ≤ 31) : mx_and k 31 = k := by
  have key : ∀ j : Fin 32, mx_and (j.val : Int) 31 = (j.val : Int) := by decide +kernel
  have h := key ⟨k.toNat, by omega⟩
  have e : ((k.toNat : Nat) : Int) = k := by omega
  simp only [e] at h; exact h
/-- bodies that ran, noted by the program -/
def tC (h : mx_H) : List Int → mx_H
  | [] => h
  | b :: bs => tC (mx_u (mx_u h 36 1 (h 36 1 + 1)) 37 (h 36 1) b) bs
theorem tC_a {h : mx_H} {as bs : List Int} : tC h (as ++ bs) = tC (tC h as) bs := by
  induction as generalizing h with
  | nil => rfl
  | cons a as ih => exact ih
theorem tC_o {h : mx_H} {bs : List Int} {b : Int} (q : ¬ b = 36) (r : ¬ b = 37) : tC h bs b = h b := by
  induction bs generalizing h with
  | nil => rfl
  | cons a as ih =>
    have := ih (h := mx_u (mx_u h 36 1 (h 36 1 + 1)) 37 (h 36 1) a)
    rw [mx_u_a r, mx_u_a q] at this; exact this
theorem tC_c {h : mx_H} {bs : List Int} : tC h bs 36 1 = h 36 1 + bs.length := by
  induction bs generalizing h with
  | nil => simp [tC]
  | cons a as ih =>
    have := ih (h := mx_u (mx_u h 36 1 (h 36 1 + 1)) 37 (h 36 1) a)
    rw [mx_u_a (by decide), mx_u_s] at this
    simp only [tC, List.length_cons]; rw [this]; omega
theorem tC_k {h : mx_H} {bs : List Int} {k : Int} (q : ¬ k = 1) : tC h bs 36 k = h 36 k := by
  induction bs generalizing h with
  | nil => rfl
  | cons a as ih =>
    have := ih (h := mx_u (mx_u h 36 1 (h 36 1 + 1)) 37 (h 36 1) a)
    rw [mx_u_a (by decide), mx_u_k q] at this
    exact this
/-- a note that acts -/
def no (S h : mx_H) (p κ i A : Int) : Prop := (S p (-2) = κ + 1) ∧ (h p 0 = i) ∧ (h p 1 = A) ∧ (53 ≤ p) ∧ (0 ≤ h 36 1) ∧ (S 36 (-2) = 11 ∧ S 36 0 = 37 ∧ S 37 (-2) = 20 ∧ S 37 (-1) = 32)
theorem no.mk {S h : mx_H} {p κ i A : Int} (x0 : S p (-2) = κ + 1) (x1 : h p 0 = i) (x2 : h p 1 = A) (x3 : 53 ≤ p) (x4 : 0 ≤ h 36 1) (x5 : S 36 (-2) = 11 ∧ S 36 0 = 37 ∧ S 37 (-2) = 20 ∧ S 37 (-1) = 32) : no S h p κ i A := (And.intro x0 (And.intro x1 (And.intro x2 (And.intro x3 (And.intro x4 x5)))))
theorem no.t {S h : mx_H} {p κ i A : Int} (q : no S h p κ i A) : S p (-2) = κ + 1 := (And.left q)
theorem no.n {S h : mx_H} {p κ i A : Int} (q : no S h p κ i A) : h p 0 = i := (And.left (And.right q))
theorem no.a {S h : mx_H} {p κ i A : Int} (q : no S h p κ i A) : h p 1 = A := (And.left (And.right (And.right q)))
theorem no.p0 {S h : mx_H} {p κ i A : Int} (q : no S h p κ i A) : 53 ≤ p := (And.left (And.right (And.right (And.right q))))
theorem no.c {S h : mx_H} {p κ i A : Int} (q : no S h p κ i A) : 0 ≤ h 36 1 := (And.left (And.right (And.right (And.right (And.right q)))))
theorem no.x {S h : mx_H} {p κ i A : Int} (q : no S h p κ i A) : S 36 (-2) = 11 ∧ S 36 0 = 37 ∧ S 37 (-2) = 20 ∧ S 37 (-1) = 32 := (And.right (And.right (And.right (And.right (And.right q)))))
section
variable {S h : mx_H} {n p κ i A y : Int} {d : Nat}
theorem no.u {b : Int} (o : no S h p κ i A) : no S (mx_u (mx_u h 36 1 (h 36 1 + 1)) 37 (h 36 1) b) p κ i A := by
  have p0 := o.p0
  have c0 := o.c
  refine no.mk o.t ?_ ?_ p0 ?_ o.x
  · rw [mx_u_a (by omega), mx_u_a (by omega)]; exact o.n
  · rw [mx_u_a (by omega), mx_u_a (by omega)]; exact o.a
  · rw [mx_u_a (by decide), mx_u_s]; omega
theorem no.e {b : Int} (o : no S h p κ i A) : no S (mx_u h 36 2 b) p κ i A := by
  have p0 := o.p0
  have c0 := o.c
  refine no.mk o.t ?_ ?_ p0 ?_ o.x
  · rw [mx_u_a (by omega)]; exact o.n
  · rw [mx_u_a (by omega)]; exact o.a
  · rw [mx_u_k (by decide)]; omega
theorem no.l {bs : List Int} (o : no S h p κ i A) : no S (tC h bs) p κ i A := by
  have p0 := o.p0
  have c0 := o.c
  refine no.mk o.t ?_ ?_ p0 ?_ o.x
  · rw [tC_o (by omega) (by omega)]; exact o.n
  · rw [tC_o (by omega) (by omega)]; exact o.a
  · rw [tC_c]; omega
theorem u_c {b : Int} : mx_u (mx_u h 36 1 (h 36 1 + 1)) 37 (h 36 1) b 36 1 = h 36 1 + 1 := by rw [mx_u_a (by decide), mx_u_s]
theorem u_2 {b : Int} : mx_u (mx_u h 36 1 (h 36 1 + 1)) 37 (h 36 1) b 36 2 = h 36 2 := by rw [mx_u_a (by decide), mx_u_k (by decide)]
def rdv (κ i y : Int) : Int := if κ = 2 then mx_w (mx_w (y + i) * 3) else if κ = 3 then mx_w (0 - mx_w (mx_w (y + i) * 3)) else if κ = 5 then mx_w (mx_w (y + i) - i) else mx_w (y + i)
def rl (κ : Int) : List Int := if κ = 2 then [30, 10] else if κ = 3 then [40, 30, 10] else if κ = 5 then [51, 10] else [10]
theorem c_r4 (o : no S h p κ i A) (k : 0 ≤ κ ∧ κ ≤ 5) (c1 : h 36 1 ≤ 25) : ∃ g, g = tC h [10] ∧ mx_M d 48 [(2, p), (0, y), (2, 36)] S h n = some (some (0, mx_w (y + i)), S, g, n) := by
  have p0 := o.p0
  have c0 := o.c
  have ox := o.x
  have ot := o.t
  refine ⟨_, rfl, ?_⟩
  simp (disch := omega) only [mx_vt_h, mx_vt_m, mx_cmp_0, mx_cmp_1, mx_cmp_2, mx_cmp_3, mx_cmp_4, mx_u_s, mx_u_a, mx_u_k, mx_z_a, mx_z_s, mx_t_a, mx_t_2, mx_t_1, mx_t_0, mx_gd_T, mx_gd_t, mx_br_T, mx_br_F, mx_br_t, mx_br_f, mx_br_n, mx_cl_T, mx_cl_t, mx_re_T, mx_re_t, mx_rt_v, mx_rt_0, mx_cu_t, mx_w_id, mx_l_id, mx_b_0, mx_b_1, mx_b_r, mx_nl_0, mx_nl_1, mx_nl_2, mx_nl_n, mx_nl_l, mx_sw_n, mx_sw_h, mx_sw_m, Int.reduceLE, Int.reduceLT, Int.reduceEq, Int.reduceAdd, Int.reduceSub, Int.reduceMul, Int.reduceNeg, Int.reduceToNat, and_self, true_and, and_true, false_and, and_false, true_or, or_true, false_or, or_false, not_true_eq_false, not_false_eq_true, eq_self, rw_X4_reads, ox, ot, o.n, an_31]
  rfl
theorem c_r0 (o : no S h p κ i A) (k : 0 ≤ κ ∧ κ ≤ 5) (c1 : h 36 1 ≤ 24) : ∃ g, g = tC h [30, 10] ∧ mx_M (d + 1) 5 [(2, p), (0, y), (2, 36)] S h n = some (some (0, mx_w (mx_w (y + i) * 3)), S, g, n) := by
  have p0 := o.p0
  have c0 := o.c
  have ox := o.x
  have ot := o.t
  obtain ⟨g, eg, e⟩ := c_r4 (d := d) (n := n) (y := y) (o.u (b := 30)) k (by rw [u_c]; omega)
  refine ⟨g, eg, ?_⟩
  simp (disch := omega) only [mx_vt_h, mx_vt_m, mx_cmp_0, mx_cmp_1, mx_cmp_2, mx_cmp_3, mx_cmp_4, mx_u_s, mx_u_a, mx_u_k, mx_z_a, mx_z_s, mx_t_a, mx_t_2, mx_t_1, mx_t_0, mx_gd_T, mx_gd_t, mx_br_T, mx_br_F, mx_br_t, mx_br_f, mx_br_n, mx_cl_T, mx_cl_t, mx_re_T, mx_re_t, mx_rt_v, mx_rt_0, mx_cu_t, mx_w_id, mx_l_id, mx_b_0, mx_b_1, mx_b_r, mx_nl_0, mx_nl_1, mx_nl_2, mx_nl_n, mx_nl_l, mx_sw_n, mx_sw_h, mx_sw_m, Int.reduceLE, Int.reduceLT, Int.reduceEq, Int.reduceAdd, Int.reduceSub, Int.reduceMul, Int.reduceNeg, Int.reduceToNat, and_self, true_and, and_true, false_and, and_false, true_or, or_true, false_or, or_false, not_true_eq_false, not_false_eq_true, eq_self, rw_X0_reads, ox, ot, o.n, an_31, e]
theorem c_r3 (o : no S h p κ i A) (k : 0 ≤ κ ∧ κ ≤ 5) (c1 : h 36 1 ≤ 23) : ∃ g, g = tC h [40, 30, 10] ∧ mx_M (d + 2) 36 [(2, p), (0, y), (2, 36)] S h n = some (some (0, mx_w (0 - mx_w (mx_w (y + i) * 3))), S, g, n) := by
  have p0 := o.p0
  have c0 := o.c
  have ox := o.x
  have ot := o.t
  obtain ⟨g, eg, e⟩ := c_r0 (d := d) (n := n) (y := y) (o.u (b := 40)) k (by rw [u_c]; omega)
  refine ⟨g, eg, ?_⟩
  simp (disch := omega) only [mx_vt_h, mx_vt_m, mx_cmp_0, mx_cmp_1, mx_cmp_2, mx_cmp_3, mx_cmp_4, mx_u_s, mx_u_a, mx_u_k, mx_z_a, mx_z_s, mx_t_a, mx_t_2, mx_t_1, mx_t_0, mx_gd_T, mx_gd_t, mx_br_T, mx_br_F, mx_br_t, mx_br_f, mx_br_n, mx_cl_T, mx_cl_t, mx_re_T, mx_re_t, mx_rt_v, mx_rt_0, mx_cu_t, mx_w_id, mx_l_id, mx_b_0, mx_b_1, mx_b_r, mx_nl_0, mx_nl_1, mx_nl_2, mx_nl_n, mx_nl_l, mx_sw_n, mx_sw_h, mx_sw_m, Int.reduceLE, Int.reduceLT, Int.reduceEq, Int.reduceAdd, Int.reduceSub, Int.reduceMul, Int.reduceNeg, Int.reduceToNat, and_self, true_and, and_true, false_and, and_false, true_or, or_true, false_or, or_false, not_true_eq_false, not_false_eq_true, eq_self, rw_X3_reads, ox, ot, o.n, an_31, e]
theorem c_r1 (o : no S h p κ i A) (k : 0 ≤ κ ∧ κ ≤ 5) (c1 : h 36 1 ≤ 24) : ∃ g, g = tC h [51, 10] ∧ mx_M (d + 1) 11 [(2, p), (0, y), (2, 36)] S h n = some (some (0, mx_w (mx_w (y + i) - i)), S, g, n) := by
  have p0 := o.p0
  have c0 := o.c
  have ox := o.x
  have ot := o.t
  obtain ⟨g, eg, e⟩ := c_r4 (d := d) (n := n) (y := y) (o.u (b := 51)) k (by rw [u_c]; omega)
  have gn : g p 0 = i := by rw [eg]; exact (no.l (o.u (b := 51))).n
  refine ⟨g, eg, ?_⟩
  simp (disch := omega) only [mx_vt_h, mx_vt_m, mx_cmp_0, mx_cmp_1, mx_cmp_2, mx_cmp_3, mx_cmp_4, mx_u_s, mx_u_a, mx_u_k, mx_z_a, mx_z_s, mx_t_a, mx_t_2, mx_t_1, mx_t_0, mx_gd_T, mx_gd_t, mx_br_T, mx_br_F, mx_br_t, mx_br_f, mx_br_n, mx_cl_T, mx_cl_t, mx_re_T, mx_re_t, mx_rt_v, mx_rt_0, mx_cu_t, mx_w_id, mx_l_id, mx_b_0, mx_b_1, mx_b_r, mx_nl_0, mx_nl_1, mx_nl_2, mx_nl_n, mx_nl_l, mx_sw_n, mx_sw_h, mx_sw_m, Int.reduceLE, Int.reduceLT, Int.reduceEq, Int.reduceAdd, Int.reduceSub, Int.reduceMul, Int.reduceNeg, Int.reduceToNat, and_self, true_and, and_true, false_and, and_false, true_or, or_true, false_or, or_false, not_true_eq_false, not_false_eq_true, eq_self, rw_X1_reads, ox, ot, o.n, an_31, e, gn]
theorem k6 (k : 0 ≤ κ ∧ κ ≤ 5) : κ = 0 ∨ κ = 1 ∨ κ = 2 ∨ κ = 3 ∨ κ = 4 ∨ κ = 5 := by omega
def wl (κ : Int) : List Int := if κ = 1 then [20, 11, 10] else if κ = 5 then [20, 11, 51, 10] else if κ = 3 then [41, 11, 40, 30, 10, 40, 30, 10] else 11 :: rl κ
def wx (κ i A y : Int) : Int := if κ = 1 ∨ κ = 5 then mx_w (mx_w (rdv κ i y * 2) - A) else if κ = 3 then mx_w (mx_w (rdv κ i y * 2) + rdv κ i i) else mx_w (rdv κ i y * 2)
theorem c_w4 (o : no S h p κ i A) (k : 0 ≤ κ ∧ κ ≤ 5) (c1 : h 36 1 ≤ 22) : ∃ g, g = tC h (11 :: rl κ) ∧ mx_M (d + 3) 49 [(2, p), (0, y), (2, 36)] S h n = some (some (0, mx_w (rdv κ i y * 2)), S, g, n) := by
  have p0 := o.p0
  have c0 := o.c
  have ox := o.x
  have ot := o.t
  have c2 := u_c (h := h) (b := 11)
  rcases k6 k with q | q | q | q | q | q <;> subst q <;> simp only [Int.reduceAdd] at ot
  · obtain ⟨g, eg, e⟩ := c_r4 (d := d + 2) (n := n) (y := y) (o.u (b := 11)) k (by omega)
    refine ⟨g, eg, ?_⟩
    simp (disch := omega) only [mx_vt_h, mx_vt_m, mx_cmp_0, mx_cmp_1, mx_cmp_2, mx_cmp_3, mx_cmp_4, mx_u_s, mx_u_a, mx_u_k, mx_z_a, mx_z_s, mx_t_a, mx_t_2, mx_t_1, mx_t_0, mx_gd_T, mx_gd_t, mx_br_T, mx_br_F, mx_br_t, mx_br_f, mx_br_n, mx_cl_T, mx_cl_t, mx_re_T, mx_re_t, mx_rt_v, mx_rt_0, mx_cu_t, mx_w_id, mx_l_id, mx_b_0, mx_b_1, mx_b_r, mx_nl_0, mx_nl_1, mx_nl_2, mx_nl_n, mx_nl_l, mx_sw_n, mx_sw_h, mx_sw_m, Int.reduceLE, Int.reduceLT, Int.reduceEq, Int.reduceAdd, Int.reduceSub, Int.reduceMul, Int.reduceNeg, Int.reduceToNat, and_self, true_and, and_true, false_and, and_false, true_or, or_true, false_or, or_false, not_true_eq_false, not_false_eq_true, eq_self, rw_X4_writes, ox, ot, an_31, e]
    rfl
  · obtain ⟨g, eg, e⟩ := c_r4 (d := d + 2) (n := n) (y := y) (o.u (b := 11)) k (by omega)
    refine ⟨g, eg, ?_⟩
    simp (disch := omega) only [mx_vt_h, mx_vt_m, mx_cmp_0, mx_cmp_1, mx_cmp_2, mx_cmp_3, mx_cmp_4, mx_u_s, mx_u_a, mx_u_k, mx_z_a, mx_z_s, mx_t_a, mx_t_2, mx_t_1, mx_t_0, mx_gd_T, mx_gd_t, mx_br_T, mx_br_F, mx_br_t, mx_br_f, mx_br_n, mx_cl_T, mx_cl_t, mx_re_T, mx_re_t, mx_rt_v, mx_rt_0, mx_cu_t, mx_w_id, mx_l_id, mx_b_0, mx_b_1, mx_b_r, mx_nl_0, mx_nl_1, mx_nl_2, mx_nl_n, mx_nl_l, mx_sw_n, mx_sw_h, mx_sw_m, Int.reduceLE, Int.reduceLT, Int.reduceEq, Int.reduceAdd, Int.reduceSub, Int.reduceMul, Int.reduceNeg, Int.reduceToNat, and_self, true_and, and_true, false_and, and_false, true_or, or_true, false_or, or_false, not_true_eq_false, not_false_eq_true, eq_self, rw_X4_writes, ox, ot, an_31, e]
    rfl
  · obtain ⟨g, eg, e⟩ := c_r0 (d := d + 1) (n := n) (y := y) (o.u (b := 11)) k (by omega)
    refine ⟨g, eg, ?_⟩
    simp (disch := omega) only [mx_vt_h, mx_vt_m, mx_cmp_0, mx_cmp_1, mx_cmp_2, mx_cmp_3, mx_cmp_4, mx_u_s, mx_u_a, mx_u_k, mx_z_a, mx_z_s, mx_t_a, mx_t_2, mx_t_1, mx_t_0, mx_gd_T, mx_gd_t, mx_br_T, mx_br_F, mx_br_t, mx_br_f, mx_br_n, mx_cl_T, mx_cl_t, mx_re_T, mx_re_t, mx_rt_v, mx_rt_0, mx_cu_t, mx_w_id, mx_l_id, mx_b_0, mx_b_1, mx_b_r, mx_nl_0, mx_nl_1, mx_nl_2, mx_nl_n, mx_nl_l, mx_sw_n, mx_sw_h, mx_sw_m, Int.reduceLE, Int.reduceLT, Int.reduceEq, Int.reduceAdd, Int.reduceSub, Int.reduceMul, Int.reduceNeg, Int.reduceToNat, and_self, true_and, and_true, false_and, and_false, true_or, or_true, false_or, or_false, not_true_eq_false, not_false_eq_true, eq_self, rw_X4_writes, ox, ot, an_31, e]
    rfl
  · obtain ⟨g, eg, e⟩ := c_r3 (d := d) (n := n) (y := y) (o.u (b := 11)) k (by omega)
    refine ⟨g, eg, ?_⟩
    simp (disch := omega) only [mx_vt_h, mx_vt_m, mx_cmp_0, mx_cmp_1, mx_cmp_2, mx_cmp_3, mx_cmp_4, mx_u_s, mx_u_a, mx_u_k, mx_z_a, mx_z_s, mx_t_a, mx_t_2, mx_t_1, mx_t_0, mx_gd_T, mx_gd_t, mx_br_T, mx_br_F, mx_br_t, mx_br_f, mx_br_n, mx_cl_T, mx_cl_t, mx_re_T, mx_re_t, mx_rt_v, mx_rt_0, mx_cu_t, mx_w_id, mx_l_id, mx_b_0, mx_b_1, mx_b_r, mx_nl_0, mx_nl_1, mx_nl_2, mx_nl_n, mx_nl_l, mx_sw_n, mx_sw_h, mx_sw_m, Int.reduceLE, Int.reduceLT, Int.reduceEq, Int.reduceAdd, Int.reduceSub, Int.reduceMul, Int.reduceNeg, Int.reduceToNat, and_self, true_and, and_true, false_and, and_false, true_or, or_true, false_or, or_false, not_true_eq_false, not_false_eq_true, eq_self, rw_X4_writes, ox, ot, an_31, e]
    rfl
  · obtain ⟨g, eg, e⟩ := c_r4 (d := d + 2) (n := n) (y := y) (o.u (b := 11)) k (by omega)
    refine ⟨g, eg, ?_⟩
    simp (disch := omega) only [mx_vt_h, mx_vt_m, mx_cmp_0, mx_cmp_1, mx_cmp_2, mx_cmp_3, mx_cmp_4, mx_u_s, mx_u_a, mx_u_k, mx_z_a, mx_z_s, mx_t_a, mx_t_2, mx_t_1, mx_t_0, mx_gd_T, mx_gd_t, mx_br_T, mx_br_F, mx_br_t, mx_br_f, mx_br_n, mx_cl_T, mx_cl_t, mx_re_T, mx_re_t, mx_rt_v, mx_rt_0, mx_cu_t, mx_w_id, mx_l_id, mx_b_0, mx_b_1, mx_b_r, mx_nl_0, mx_nl_1, mx_nl_2, mx_nl_n, mx_nl_l, mx_sw_n, mx_sw_h, mx_sw_m, Int.reduceLE, Int.reduceLT, Int.reduceEq, Int.reduceAdd, Int.reduceSub, Int.reduceMul, Int.reduceNeg, Int.reduceToNat, and_self, true_and, and_true, false_and, and_false, true_or, or_true, false_or, or_false, not_true_eq_false, not_false_eq_true, eq_self, rw_X4_writes, ox, ot, an_31, e]
    rfl
  · obtain ⟨g, eg, e⟩ := c_r1 (d := d + 1) (n := n) (y := y) (o.u (b := 11)) k (by omega)
    refine ⟨g, eg, ?_⟩
    simp (disch := omega) only [mx_vt_h, mx_vt_m, mx_cmp_0, mx_cmp_1, mx_cmp_2, mx_cmp_3, mx_cmp_4, mx_u_s, mx_u_a, mx_u_k, mx_z_a, mx_z_s, mx_t_a, mx_t_2, mx_t_1, mx_t_0, mx_gd_T, mx_gd_t, mx_br_T, mx_br_F, mx_br_t, mx_br_f, mx_br_n, mx_cl_T, mx_cl_t, mx_re_T, mx_re_t, mx_rt_v, mx_rt_0, mx_cu_t, mx_w_id, mx_l_id, mx_b_0, mx_b_1, mx_b_r, mx_nl_0, mx_nl_1, mx_nl_2, mx_nl_n, mx_nl_l, mx_sw_n, mx_sw_h, mx_sw_m, Int.reduceLE, Int.reduceLT, Int.reduceEq, Int.reduceAdd, Int.reduceSub, Int.reduceMul, Int.reduceNeg, Int.reduceToNat, and_self, true_and, and_true, false_and, and_false, true_or, or_true, false_or, or_false, not_true_eq_false, not_false_eq_true, eq_self, rw_X4_writes, ox, ot, an_31, e]
    rfl
theorem c_w6 (o : no S h p κ i A) (k : 0 ≤ κ ∧ κ ≤ 5) (c1 : h 36 1 ≤ 21) : ∃ g, g = tC h (20 :: 11 :: rl κ) ∧ mx_M (d + 4) 58 [(2, p), (0, y), (2, 36)] S h n = some (some (0, mx_w (mx_w (rdv κ i y * 2) - A)), S, g, n) := by
  have p0 := o.p0
  have c0 := o.c
  have ox := o.x
  have ot := o.t
  obtain ⟨g, eg, e⟩ := c_w4 (d := d) (n := n) (y := y) (o.u (b := 20)) k (by rw [u_c]; omega)
  have ga : g p 1 = A := by rw [eg]; exact (no.l (o.u (b := 20))).a
  refine ⟨g, eg, ?_⟩
  simp (disch := omega) only [mx_vt_h, mx_vt_m, mx_cmp_0, mx_cmp_1, mx_cmp_2, mx_cmp_3, mx_cmp_4, mx_u_s, mx_u_a, mx_u_k, mx_z_a, mx_z_s, mx_t_a, mx_t_2, mx_t_1, mx_t_0, mx_gd_T, mx_gd_t, mx_br_T, mx_br_F, mx_br_t, mx_br_f, mx_br_n, mx_cl_T, mx_cl_t, mx_re_T, mx_re_t, mx_rt_v, mx_rt_0, mx_cu_t, mx_w_id, mx_l_id, mx_b_0, mx_b_1, mx_b_r, mx_nl_0, mx_nl_1, mx_nl_2, mx_nl_n, mx_nl_l, mx_sw_n, mx_sw_h, mx_sw_m, Int.reduceLE, Int.reduceLT, Int.reduceEq, Int.reduceAdd, Int.reduceSub, Int.reduceMul, Int.reduceNeg, Int.reduceToNat, and_self, true_and, and_true, false_and, and_false, true_or, or_true, false_or, or_false, not_true_eq_false, not_false_eq_true, eq_self, rw_X6_writes, ox, ot, an_31, e, ga]
theorem c_w3 (o : no S h p 3 i A) (c1 : h 36 1 ≤ 16) : ∃ g, g = tC h [41, 11, 40, 30, 10, 40, 30, 10] ∧ mx_M (d + 4) 37 [(2, p), (0, y), (2, 36)] S h n = some (some (0, mx_w (mx_w (rdv 3 i y * 2) + rdv 3 i i)), S, g, n) := by
  have p0 := o.p0
  have c0 := o.c
  have ox := o.x
  have ot := o.t
  simp only [Int.reduceAdd] at ot
  obtain ⟨g, eg, e⟩ := c_w4 (d := d) (n := n) (y := y) (o.u (b := 41)) (by decide) (by rw [u_c]; omega)
  have og : no S g p 3 i A := by rw [eg]; exact no.l o.u
  have gc : g 36 1 = h 36 1 + 1 + 4 := by rw [eg, tC_c, u_c]; rfl
  obtain ⟨g2, eg2, e2⟩ := c_r3 (d := d + 1) (n := n) (y := i) og (by decide) (by omega)
  refine ⟨g2, by rw [eg2, eg]; rfl, ?_⟩
  simp (disch := omega) only [mx_vt_h, mx_vt_m, mx_cmp_0, mx_cmp_1, mx_cmp_2, mx_cmp_3, mx_cmp_4, mx_u_s, mx_u_a, mx_u_k, mx_z_a, mx_z_s, mx_t_a, mx_t_2, mx_t_1, mx_t_0, mx_gd_T, mx_gd_t, mx_br_T, mx_br_F, mx_br_t, mx_br_f, mx_br_n, mx_cl_T, mx_cl_t, mx_re_T, mx_re_t, mx_rt_v, mx_rt_0, mx_cu_t, mx_w_id, mx_l_id, mx_b_0, mx_b_1, mx_b_r, mx_nl_0, mx_nl_1, mx_nl_2, mx_nl_n, mx_nl_l, mx_sw_n, mx_sw_h, mx_sw_m, Int.reduceLE, Int.reduceLT, Int.reduceEq, Int.reduceAdd, Int.reduceSub, Int.reduceMul, Int.reduceNeg, Int.reduceToNat, and_self, true_and, and_true, false_and, and_false, true_or, or_true, false_or, or_false, not_true_eq_false, not_false_eq_true, eq_self, rw_X3_writes, ox, ot, an_31, e, og.n, e2]
  rfl
/-- the writes of a kind -/
theorem c_wV (o : no S h p κ i A) (k : 0 ≤ κ ∧ κ ≤ 5) (c1 : h 36 1 ≤ 16) : ∃ g, g = tC h (wl κ) ∧ mx_M (d + 4) (if κ = 1 ∨ κ = 5 then 58 else if κ = 3 then 37 else 49) [(2, p), (0, y), (2, 36)] S h n = some (some (0, wx κ i A y), S, g, n) := by
  rcases k6 k with q | q | q | q | q | q <;> subst q
  · exact c_w4 (d := d + 1) o k (by omega)
  · exact c_w6 o k (by omega)
  · exact c_w4 (d := d + 1) o k (by omega)
  · exact c_w3 o (by omega)
  · exact c_w4 (d := d + 1) o k (by omega)
  · exact c_w6 o k (by omega)
/-- the act ends where it is parted by 0 -/
def se (h : mx_H) (A i : Int) : mx_H := if A = i then mx_u h 36 2 (h 36 1) else h
def sx (A i y : Int) : Int := if A = i then 0 else mx_w (Int.tdiv y (A - i))
theorem no.s (o : no S h p κ i A) {B j : Int} : no S (se h B j) p κ i A := by
  unfold se; split
  · exact o.e
  · exact o
theorem se_c {B j : Int} : se h B j 36 1 = h 36 1 := by
  unfold se; split
  · rw [mx_u_k (by decide)]
  · rfl
theorem c_s4 (o : no S h p κ i A) (k : 0 ≤ κ ∧ κ ≤ 5) (c1 : h 36 1 ≤ 25) (c2 : h 36 2 = -1) (i0 : 0 ≤ i ∧ i ≤ 5) (A0 : 0 ≤ A ∧ A ≤ 6) : ∃ g, g = se (tC h [12]) A i ∧ mx_M (d + 1) 50 [(2, p), (0, y), (2, 36)] S h n = some (some (0, sx A i y), S, g, n) := by
  have p0 := o.p0
  have c0 := o.c
  have ox := o.x
  have ot := o.t
  refine ⟨_, rfl, ?_⟩
  by_cases q : A = i
  · unfold se sx
    rw [if_pos q, if_pos q]
    have q2 : ¬ ¬ A - i = 0 := by omega
    simp (disch := omega) only [mx_vt_h, mx_vt_m, mx_cmp_0, mx_cmp_1, mx_cmp_2, mx_cmp_3, mx_cmp_4, mx_u_s, mx_u_a, mx_u_k, mx_z_a, mx_z_s, mx_t_a, mx_t_2, mx_t_1, mx_t_0, mx_gd_T, mx_gd_t, mx_br_T, mx_br_F, mx_br_t, mx_br_f, mx_br_n, mx_cl_T, mx_cl_t, mx_re_T, mx_re_t, mx_rt_v, mx_rt_0, mx_cu_t, mx_w_id, mx_l_id, mx_b_0, mx_b_1, mx_b_r, mx_nl_0, mx_nl_1, mx_nl_2, mx_nl_n, mx_nl_l, mx_sw_n, mx_sw_h, mx_sw_m, Int.reduceLE, Int.reduceLT, Int.reduceEq, Int.reduceAdd, Int.reduceSub, Int.reduceMul, Int.reduceNeg, Int.reduceToNat, and_self, true_and, and_true, false_and, and_false, true_or, or_true, false_or, or_false, not_true_eq_false, not_false_eq_true, eq_self, rw_X4_shares, rw_X8_end, ox, ot, o.n, o.a, an_31, c2, tC]
  · unfold se sx
    rw [if_neg q, if_neg q]
    simp (disch := omega) only [mx_vt_h, mx_vt_m, mx_cmp_0, mx_cmp_1, mx_cmp_2, mx_cmp_3, mx_cmp_4, mx_u_s, mx_u_a, mx_u_k, mx_z_a, mx_z_s, mx_t_a, mx_t_2, mx_t_1, mx_t_0, mx_gd_T, mx_gd_t, mx_br_T, mx_br_F, mx_br_t, mx_br_f, mx_br_n, mx_cl_T, mx_cl_t, mx_re_T, mx_re_t, mx_rt_v, mx_rt_0, mx_cu_t, mx_w_id, mx_l_id, mx_b_0, mx_b_1, mx_b_r, mx_nl_0, mx_nl_1, mx_nl_2, mx_nl_n, mx_nl_l, mx_sw_n, mx_sw_h, mx_sw_m, Int.reduceLE, Int.reduceLT, Int.reduceEq, Int.reduceAdd, Int.reduceSub, Int.reduceMul, Int.reduceNeg, Int.reduceToNat, and_self, true_and, and_true, false_and, and_false, true_or, or_true, false_or, or_false, not_true_eq_false, not_false_eq_true, eq_self, rw_X4_shares, ox, ot, o.n, o.a, an_31, tC]
theorem c_s9 (o : no S h p 4 i A) (c1 : h 36 1 ≤ 20) (c2 : h 36 2 = -1) (i0 : 0 ≤ i ∧ i ≤ 5) (A0 : 0 ≤ A ∧ A ≤ 6) : ∃ g, g = tC (se (tC h [61, 12]) A i) [10] ∧ mx_M (d + 2) 83 [(2, p), (0, y), (2, 36)] S h n = some (some (0, mx_w (sx A i y + mx_w (A + i))), S, g, n) := by
  have p0 := o.p0
  have c0 := o.c
  have ox := o.x
  have ot := o.t
  simp only [Int.reduceAdd] at ot
  obtain ⟨g, eg, e⟩ := c_s4 (d := d) (n := n) (y := y) (o.u (b := 61)) (by decide) (by rw [u_c]; omega) (by rw [u_2]; exact c2) i0 A0
  have og : no S g p 4 i A := by rw [eg]; exact no.s (no.l o.u)
  have gc : g 36 1 = h 36 1 + 1 + 1 := by rw [eg, se_c, tC_c, u_c]; rfl
  obtain ⟨g2, eg2, e2⟩ := c_r4 (d := d + 1) (n := n) (y := A) og (by decide) (by omega)
  refine ⟨g2, by rw [eg2, eg]; rfl, ?_⟩
  simp (disch := omega) only [mx_vt_h, mx_vt_m, mx_cmp_0, mx_cmp_1, mx_cmp_2, mx_cmp_3, mx_cmp_4, mx_u_s, mx_u_a, mx_u_k, mx_z_a, mx_z_s, mx_t_a, mx_t_2, mx_t_1, mx_t_0, mx_gd_T, mx_gd_t, mx_br_T, mx_br_F, mx_br_t, mx_br_f, mx_br_n, mx_cl_T, mx_cl_t, mx_re_T, mx_re_t, mx_rt_v, mx_rt_0, mx_cu_t, mx_w_id, mx_l_id, mx_b_0, mx_b_1, mx_b_r, mx_nl_0, mx_nl_1, mx_nl_2, mx_nl_n, mx_nl_l, mx_sw_n, mx_sw_h, mx_sw_m, Int.reduceLE, Int.reduceLT, Int.reduceEq, Int.reduceAdd, Int.reduceSub, Int.reduceMul, Int.reduceNeg, Int.reduceToNat, and_self, true_and, and_true, false_and, and_false, true_or, or_true, false_or, or_false, not_true_eq_false, not_false_eq_true, eq_self, rw_X9_shares, ox, ot, an_31, e, og.a, e2]
theorem c_s1 (o : no S h p 5 i A) (c1 : h 36 1 ≤ 20) (c2 : h 36 2 = -1) (i0 : 0 ≤ i ∧ i ≤ 5) (A0 : 0 ≤ A ∧ A ≤ 6) : ∃ g, g = se (tC h [50, 12]) A i ∧ mx_M (d + 2) 10 [(2, p), (0, y), (2, 36)] S h n = some (some (0, mx_xor (sx A i (mx_w (y + 2))) 1), S, g, n) := by
  have p0 := o.p0
  have c0 := o.c
  have ox := o.x
  have ot := o.t
  simp only [Int.reduceAdd] at ot
  obtain ⟨g, eg, e⟩ := c_s4 (d := d) (n := n) (y := mx_w (y + 2)) (o.u (b := 50)) (by decide) (by rw [u_c]; omega) (by rw [u_2]; exact c2) i0 A0
  refine ⟨g, by rw [eg]; rfl, ?_⟩
  simp (disch := omega) only [mx_vt_h, mx_vt_m, mx_cmp_0, mx_cmp_1, mx_cmp_2, mx_cmp_3, mx_cmp_4, mx_u_s, mx_u_a, mx_u_k, mx_z_a, mx_z_s, mx_t_a, mx_t_2, mx_t_1, mx_t_0, mx_gd_T, mx_gd_t, mx_br_T, mx_br_F, mx_br_t, mx_br_f, mx_br_n, mx_cl_T, mx_cl_t, mx_re_T, mx_re_t, mx_rt_v, mx_rt_0, mx_cu_t, mx_w_id, mx_l_id, mx_b_0, mx_b_1, mx_b_r, mx_nl_0, mx_nl_1, mx_nl_2, mx_nl_n, mx_nl_l, mx_sw_n, mx_sw_h, mx_sw_m, Int.reduceLE, Int.reduceLT, Int.reduceEq, Int.reduceAdd, Int.reduceSub, Int.reduceMul, Int.reduceNeg, Int.reduceToNat, and_self, true_and, and_true, false_and, and_false, true_or, or_true, false_or, or_false, not_true_eq_false, not_false_eq_true, eq_self, rw_X1_shares, ox, ot, an_31, e]
theorem c_t4 (o : no S h p κ i A) (k : 0 ≤ κ ∧ κ ≤ 5) (c1 : h 36 1 ≤ 15) : ∃ g, g = tC h (13 :: wl κ) ∧ mx_M (d + 5) 51 [(2, p), (0, y), (2, 36)] S h n = some (some (0, mx_xor (wx κ i A y) A), S, g, n) := by
  have p0 := o.p0
  have c0 := o.c
  have ox := o.x
  have ot := o.t
  obtain ⟨g, eg, e⟩ := c_wV (d := d) (n := n) (y := y) (o.u (b := 13)) k (by rw [u_c]; omega)
  have ga : g p 1 = A := by rw [eg]; exact (no.l (o.u (b := 13))).a
  refine ⟨g, eg, ?_⟩
  rcases k6 k with q | q | q | q | q | q <;> subst q <;> simp only [Int.reduceAdd] at ot <;> simp (disch := decide) only [if_pos, if_neg] at e <;> simp (disch := omega) only [mx_vt_h, mx_vt_m, mx_cmp_0, mx_cmp_1, mx_cmp_2, mx_cmp_3, mx_cmp_4, mx_u_s, mx_u_a, mx_u_k, mx_z_a, mx_z_s, mx_t_a, mx_t_2, mx_t_1, mx_t_0, mx_gd_T, mx_gd_t, mx_br_T, mx_br_F, mx_br_t, mx_br_f, mx_br_n, mx_cl_T, mx_cl_t, mx_re_T, mx_re_t, mx_rt_v, mx_rt_0, mx_cu_t, mx_w_id, mx_l_id, mx_b_0, mx_b_1, mx_b_r, mx_nl_0, mx_nl_1, mx_nl_2, mx_nl_n, mx_nl_l, mx_sw_n, mx_sw_h, mx_sw_m, Int.reduceLE, Int.reduceLT, Int.reduceEq, Int.reduceAdd, Int.reduceSub, Int.reduceMul, Int.reduceNeg, Int.reduceToNat, and_self, true_and, and_true, false_and, and_false, true_or, or_true, false_or, or_false, not_true_eq_false, not_false_eq_true, eq_self, rw_X4_tells, ox, ot, an_31, e, ga]
theorem c_t0 (o : no S h p κ i A) (k : κ = 2 ∨ κ = 3) (c1 : h 36 1 ≤ 10) (c2 : h 36 2 = -1) (i0 : 0 ≤ i ∧ i ≤ 5) (A0 : 0 ≤ A ∧ A ≤ 6) : ∃ g, g = se (tC h (31 :: 13 :: wl κ ++ [12])) A i ∧ mx_M (d + 6) 6 [(2, p), (0, y), (2, 36)] S h n = some (some (0, mx_w (mx_xor (wx κ i A y) A + sx A i i)), S, g, n) := by
  have p0 := o.p0
  have c0 := o.c
  have ox := o.x
  have ot := o.t
  obtain ⟨g, eg, e⟩ := c_t4 (d := d) (n := n) (y := y) (o.u (b := 31)) (by omega) (by rw [u_c]; omega)
  have og : no S g p κ i A := by rw [eg]; exact no.l o.u
  have gc : g 36 1 ≤ h 36 1 + 10 := by
    rw [eg, tC_c, u_c]
    rcases k with q | q <;> subst q
    · have : (13 :: wl 2).length = 4 := rfl
      omega
    · have : (13 :: wl 3).length = 9 := rfl
      omega
  have g2 : g 36 2 = -1 := by rw [eg, tC_k (by decide), u_2]; exact c2
  obtain ⟨g3, eg3, e3⟩ := c_s4 (d := d + 4) (n := n) (y := i) og (by omega) (by omega) g2 i0 A0
  refine ⟨g3, ?_, ?_⟩
  · rw [eg3, eg]
    have : tC h (31 :: 13 :: wl κ ++ [12]) = tC (tC (mx_u (mx_u h 36 1 (h 36 1 + 1)) 37 (h 36 1) 31) (13 :: wl κ)) [12] := by
      rw [show tC h (31 :: 13 :: wl κ ++ [12]) = tC (mx_u (mx_u h 36 1 (h 36 1 + 1)) 37 (h 36 1) 31) (13 :: wl κ ++ [12]) from rfl, tC_a]
    rw [this]
  · have vt : mx_vt (κ + 1) [(3, 50), (4, 50)] = some 50 := by rcases k with q | q <;> subst q <;> rfl
    simp (disch := omega) only [mx_vt_h, mx_vt_m, mx_cmp_0, mx_cmp_1, mx_cmp_2, mx_cmp_3, mx_cmp_4, mx_u_s, mx_u_a, mx_u_k, mx_z_a, mx_z_s, mx_t_a, mx_t_2, mx_t_1, mx_t_0, mx_gd_T, mx_gd_t, mx_br_T, mx_br_F, mx_br_t, mx_br_f, mx_br_n, mx_cl_T, mx_cl_t, mx_re_T, mx_re_t, mx_rt_v, mx_rt_0, mx_cu_t, mx_w_id, mx_l_id, mx_b_0, mx_b_1, mx_b_r, mx_nl_0, mx_nl_1, mx_nl_2, mx_nl_n, mx_nl_l, mx_sw_n, mx_sw_h, mx_sw_m, Int.reduceLE, Int.reduceLT, Int.reduceEq, Int.reduceAdd, Int.reduceSub, Int.reduceMul, Int.reduceNeg, Int.reduceToNat, and_self, true_and, and_true, false_and, and_false, true_or, or_true, false_or, or_false, not_true_eq_false, not_false_eq_true, eq_self, rw_X0_tells, ox, ot, an_31, e, og.n, vt, e3]
theorem c_t9 (o : no S h p 4 i A) (c1 : h 36 1 ≤ 10) : ∃ g, g = tC h (60 :: 13 :: wl 4) ∧ mx_M (d + 6) 82 [(2, p), (0, y), (2, 36)] S h n = some (some (0, mx_w (mx_xor (wx 4 i A y) A * 2)), S, g, n) := by
  have p0 := o.p0
  have c0 := o.c
  have ox := o.x
  have ot := o.t
  simp only [Int.reduceAdd] at ot
  obtain ⟨g, eg, e⟩ := c_t4 (d := d) (n := n) (y := y) (o.u (b := 60)) (by decide) (by rw [u_c]; omega)
  refine ⟨g, eg, ?_⟩
  simp (disch := omega) only [mx_vt_h, mx_vt_m, mx_cmp_0, mx_cmp_1, mx_cmp_2, mx_cmp_3, mx_cmp_4, mx_u_s, mx_u_a, mx_u_k, mx_z_a, mx_z_s, mx_t_a, mx_t_2, mx_t_1, mx_t_0, mx_gd_T, mx_gd_t, mx_br_T, mx_br_F, mx_br_t, mx_br_f, mx_br_n, mx_cl_T, mx_cl_t, mx_re_T, mx_re_t, mx_rt_v, mx_rt_0, mx_cu_t, mx_w_id, mx_l_id, mx_b_0, mx_b_1, mx_b_r, mx_nl_0, mx_nl_1, mx_nl_2, mx_nl_n, mx_nl_l, mx_sw_n, mx_sw_h, mx_sw_m, Int.reduceLE, Int.reduceLT, Int.reduceEq, Int.reduceAdd, Int.reduceSub, Int.reduceMul, Int.reduceNeg, Int.reduceToNat, and_self, true_and, and_true, false_and, and_false, true_or, or_true, false_or, or_false, not_true_eq_false, not_false_eq_true, eq_self, rw_X9_tells, ox, ot, an_31, e]
end
