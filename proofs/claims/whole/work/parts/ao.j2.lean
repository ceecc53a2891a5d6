/-! The whole text -/
def JC (L : Nat) (x : Nat → Int32) (t : Int → Int) (N : Int) (S0 h0 : mx_H) (n0 p : Int) (σ : Int → Int) (C : mx_R) (d : Nat) : Prop :=
  (∃ p' S1 h1 n1, C = some (some (0, 0), S1, h1, n1) ∧ CX t N p' S1 h1 ∧ DF S0 h0 n0 S1 h1 n1 ∧ ∀ S' h' n', RX t N p S' h' → h' 39 = σ → ws L x S' h' → ∀ l1 l2 l3 : Option mx_V, ∃ g', mx_ex (d + 9) 173 9 [some (2, 38), l1, l2, l3] [] S' h' n' = some (some (0, 0), S', g', n') ∧ fR h' g' ∧ RX t N p' S' g') ∨
  (∃ p' σ' S1 h1 n1, C = some (some (0, 1), S1, h1, n1) ∧ CX t N p' S1 h1 ∧ DS S0 h0 n0 σ' S1 h1 n1 ∧ σ' 2 = σ 2 ∧ ∀ S' h' n', RX t N p S' h' → h' 39 = σ → ws L x S' h' → ∀ l1 l2 l3 : Option mx_V, ∃ g', mx_ex (d + 9) 173 9 [some (2, 38), l1, l2, l3] [] S' h' n' = some (some (0, 1), S', g', n') ∧ fR h' g' ∧ RX t N p' S' g' ∧ g' 39 = σ')
theorem ws.d {L : Nat} {x : Nat → Int32} {S0 h0 S h : mx_H} {n0 n : Int} (w : ws L x S0 h0) (D : DF S0 h0 n0 S h n) (n5 : 53 ≤ n0) : ws L x S h := ws.mk (fun a q => by rw [D.S0 a (by omega) (by omega)]; exact w.sS a q) (fun a q => by rw [D.g0 a (by omega) (by omega)]; exact w.hh a q)
theorem ws.R {L : Nat} {x : Nat → Int32} {S h g : mx_H} (w : ws L x S h) (f : fR h g) : ws L x S g := w.f (fun a z => f.1 a (by omega) (by omega))
theorem R_en {t : Int → Int} {N p : Int} {S h : mx_H} {n : Int} {d : Nat} (Y : RX t N p S h) (q : ¬ tso t N p = 1) {l1 l2 l3 : Option mx_V} : mx_ex (d + 9) 173 9 [some (2, 38), l1, l2, l3] [] S h n = some (some (0, mx_b (tso t N p = 0)), S, h, n) := by
  have hM := Y.m.e
  have c1 : ¬ h 38 8 = 1 := by rw [Y.c.k]; exact fun z => q (Y.k1.mp z)
  rw [rh_X12_takesAll_9]
  by_cases z : tso t N p = 0
  · have c0 : h 38 8 = 0 := by rw [Y.c.k]; exact Y.k0.mpr z
    rw [mx_b_t z]
    simp (disch := omega) only [mx_vt_h, mx_vt_m, mx_cmp_0, mx_cmp_1, mx_cmp_2, mx_cmp_3, mx_cmp_4, mx_u_s, mx_u_a, mx_u_k, mx_z_a, mx_z_s, mx_t_a, mx_t_2, mx_t_1, mx_t_0, mx_gd_T, mx_gd_t, mx_br_T, mx_br_F, mx_br_t, mx_br_f, mx_br_n, mx_cl_T, mx_cl_t, mx_re_T, mx_re_t, mx_rt_v, mx_rt_0, mx_cu_t, mx_w_id, mx_l_id, mx_b_0, mx_b_1, mx_b_r, mx_nl_0, mx_nl_1, mx_nl_2, mx_nl_n, mx_nl_l, mx_sw_n, mx_sw_h, mx_sw_m, Int.reduceLE, Int.reduceLT, Int.reduceEq, Int.reduceAdd, Int.reduceSub, Int.reduceMul, Int.reduceNeg, Int.reduceToNat, and_self, true_and, and_true, false_and, and_false, true_or, or_true, false_or, or_false, not_true_eq_false, not_false_eq_true, eq_self, rw_X12_takesAll, rw_X12_takesAll_1, hM, c0]
  · have c0 : ¬ h 38 8 = 0 := by rw [Y.c.k]; exact fun y => z (Y.k0.mp y)
    rw [mx_b_f z]
    simp (disch := omega) only [mx_vt_h, mx_vt_m, mx_cmp_0, mx_cmp_1, mx_cmp_2, mx_cmp_3, mx_cmp_4, mx_u_s, mx_u_a, mx_u_k, mx_z_a, mx_z_s, mx_t_a, mx_t_2, mx_t_1, mx_t_0, mx_gd_T, mx_gd_t, mx_br_T, mx_br_F, mx_br_t, mx_br_f, mx_br_n, mx_cl_T, mx_cl_t, mx_re_T, mx_re_t, mx_rt_v, mx_rt_0, mx_cu_t, mx_w_id, mx_l_id, mx_b_0, mx_b_1, mx_b_r, mx_nl_0, mx_nl_1, mx_nl_2, mx_nl_n, mx_nl_l, mx_sw_n, mx_sw_h, mx_sw_m, Int.reduceLE, Int.reduceLT, Int.reduceEq, Int.reduceAdd, Int.reduceSub, Int.reduceMul, Int.reduceNeg, Int.reduceToNat, and_self, true_and, and_true, false_and, and_false, true_or, or_true, false_or, or_false, not_true_eq_false, not_false_eq_true, eq_self, rw_X12_takesAll, rw_X12_takesAll_1, hM, c1, c0]
theorem C_no {t : Int → Int} {N p : Int} {S h : mx_H} {n : Int} {d : Nat} (X : CX t N p S h) {i a1 M : Int} {l5 l6 : Option mx_V} : mx_ex (d + 10) 60 36 [some (2, 22), some (2, a1), some (0, M), some (0, 0), some (0, i), l5, l6] [] S h n = some (some (0, 0), S, h, n) := by
  have cN := X.c.N
  rw [rh_X7_told_36]
  by_cases u : N < i
  · simp (disch := omega) only [mx_vt_h, mx_vt_m, mx_cmp_0, mx_cmp_1, mx_cmp_2, mx_cmp_3, mx_cmp_4, mx_u_s, mx_u_a, mx_u_k, mx_z_a, mx_z_s, mx_t_a, mx_t_2, mx_t_1, mx_t_0, mx_gd_T, mx_gd_t, mx_br_T, mx_br_F, mx_br_t, mx_br_f, mx_br_n, mx_cl_T, mx_cl_t, mx_re_T, mx_re_t, mx_rt_v, mx_rt_0, mx_cu_t, mx_w_id, mx_l_id, mx_b_0, mx_b_1, mx_b_r, mx_nl_0, mx_nl_1, mx_nl_2, mx_nl_n, mx_nl_l, mx_sw_n, mx_sw_h, mx_sw_m, Int.reduceLE, Int.reduceLT, Int.reduceEq, Int.reduceAdd, Int.reduceSub, Int.reduceMul, Int.reduceNeg, Int.reduceToNat, and_self, true_and, and_true, false_and, and_false, true_or, or_true, false_or, or_false, not_true_eq_false, not_false_eq_true, eq_self, rw_X7_told, rw_X7_told_1, X.s.e, cN]
  · simp (disch := omega) only [mx_vt_h, mx_vt_m, mx_cmp_0, mx_cmp_1, mx_cmp_2, mx_cmp_3, mx_cmp_4, mx_u_s, mx_u_a, mx_u_k, mx_z_a, mx_z_s, mx_t_a, mx_t_2, mx_t_1, mx_t_0, mx_gd_T, mx_gd_t, mx_br_T, mx_br_F, mx_br_t, mx_br_f, mx_br_n, mx_cl_T, mx_cl_t, mx_re_T, mx_re_t, mx_rt_v, mx_rt_0, mx_cu_t, mx_w_id, mx_l_id, mx_b_0, mx_b_1, mx_b_r, mx_nl_0, mx_nl_1, mx_nl_2, mx_nl_n, mx_nl_l, mx_sw_n, mx_sw_h, mx_sw_m, Int.reduceLE, Int.reduceLT, Int.reduceEq, Int.reduceAdd, Int.reduceSub, Int.reduceMul, Int.reduceNeg, Int.reduceToNat, and_self, true_and, and_true, false_and, and_false, true_or, or_true, false_or, or_false, not_true_eq_false, not_false_eq_true, eq_self, rw_X7_told, rw_X7_told_1, X.s.e, cN]
theorem C_s0 {L : Nat} {x : Nat → Int32} {t : Int → Int} {N p : Int} {S h : mx_H} {n : Int} {d : Nat} (X : CX t N p S h) (w0 : ws L x S h) (z : ¬ tso t N p = 0) (q : ¬ tso t N p = 1) {i a1 M : Int} (i0 : 0 ≤ i ∧ i ≤ N) {l5 l6 : Option mx_V} : mx_ex (d + 10) 60 36 [some (2, 22), some (2, a1), some (0, M), some (0, 1), some (0, i), l5, l6] [] S h n = some (some (0, 0), S, h, n) := by
  have N2 := X.N2
  have c6 := X.c.k
  have cN := X.c.N
  have ck := c_knC (d := d + 3) (n := n) X w0
  have ci := c_isN (d := d + 4) (n := n) (A := -10) X w0 (k := 0) (by decide) (by decide)
  have cl := c_lsC (d := d + 3) (n := n) X w0
  rw [knd_n q] at ck
  rw [lsn_n q] at cl
  rw [mx_b_f (fun z => q z.1)] at ci
  have eq : mx_ex (d + 10) 60 36 [some (2, 22), some (2, a1), some (0, M), some (0, 1), some (0, i), l5, l6] [] S h n = mx_ex (d + 10) 60 36 [some (2, 22), some (2, a1), some (0, M), some (0, 0), some (0, i + 1), some (0, -1), some (0, -1)] [] S h n := by
    rw [rh_X7_told_36]
    simp (disch := omega) only [mx_vt_h, mx_vt_m, mx_cmp_0, mx_cmp_1, mx_cmp_2, mx_cmp_3, mx_cmp_4, mx_u_s, mx_u_a, mx_u_k, mx_z_a, mx_z_s, mx_t_a, mx_t_2, mx_t_1, mx_t_0, mx_gd_T, mx_gd_t, mx_br_T, mx_br_F, mx_br_t, mx_br_f, mx_br_n, mx_cl_T, mx_cl_t, mx_re_T, mx_re_t, mx_rt_v, mx_rt_0, mx_cu_t, mx_w_id, mx_l_id, mx_b_0, mx_b_1, mx_b_r, mx_nl_0, mx_nl_1, mx_nl_2, mx_nl_n, mx_nl_l, mx_sw_n, mx_sw_h, mx_sw_m, Int.reduceLE, Int.reduceLT, Int.reduceEq, Int.reduceAdd, Int.reduceSub, Int.reduceMul, Int.reduceNeg, Int.reduceToNat, and_self, true_and, and_true, false_and, and_false, true_or, or_true, false_or, or_false, not_true_eq_false, not_false_eq_true, eq_self, rw_X7_told, rw_X7_told_1, X.s.e, c6, cN, z, ck, cl, ci]
  exact eq.trans (C_no X)
theorem J_tl {L : Nat} {x : Nat → Int32} {S0 h0 : mx_H} {n0 : Int} {d dR : Nat} {t : Int → Int} {N M a1 : Int} (s0 : sv S0 23) (n5 : 53 ≤ n0) (W : ws L x S0 h0) {p : Int} {S h : mx_H} {n : Int} {σ : Int → Int} (X : CX t N p S h) (D : DS S0 h0 n0 σ S h n) {i : Int} (i0 : 0 ≤ i ∧ i ≤ p) {l5 l6 : Option mx_V} : JC L x t N S0 h0 n0 p σ (mx_ex (d + 10) 60 36 [some (2, 22), some (2, a1), some (0, M), some (0, 1), some (0, i), l5, l6] [] S h n) dR := by
  have w := W.d D.f n5
  have p0 := X.p0
  have N2 := X.N2
  have ck := X.c.k
  have cN := X.c.N
  have r := tst_r (t := t) X.p0.2
  have rp := tpl_r (t := t) X.p0.2
  by_cases z : tso t N p = 0
  · refine Or.inr ⟨p, σ, S, h, n, ?_, X, D, rfl, fun S' h' n' Y y w' l1 l2 l3 => ⟨h', ?_, fR_0, Y, y⟩⟩
    · rw [rh_X7_told_36]
      simp (disch := omega) only [mx_vt_h, mx_vt_m, mx_cmp_0, mx_cmp_1, mx_cmp_2, mx_cmp_3, mx_cmp_4, mx_u_s, mx_u_a, mx_u_k, mx_z_a, mx_z_s, mx_t_a, mx_t_2, mx_t_1, mx_t_0, mx_gd_T, mx_gd_t, mx_br_T, mx_br_F, mx_br_t, mx_br_f, mx_br_n, mx_cl_T, mx_cl_t, mx_re_T, mx_re_t, mx_rt_v, mx_rt_0, mx_cu_t, mx_w_id, mx_l_id, mx_b_0, mx_b_1, mx_b_r, mx_nl_0, mx_nl_1, mx_nl_2, mx_nl_n, mx_nl_l, mx_sw_n, mx_sw_h, mx_sw_m, Int.reduceLE, Int.reduceLT, Int.reduceEq, Int.reduceAdd, Int.reduceSub, Int.reduceMul, Int.reduceNeg, Int.reduceToNat, and_self, true_and, and_true, false_and, and_false, true_or, or_true, false_or, or_false, not_true_eq_false, not_false_eq_true, eq_self, rw_X7_told, rw_X7_told_1, X.s.e, ck, cN, z]
    · rw [R_en Y (by omega), mx_b_t z]
  by_cases q : tso t N p = 1
  rotate_left 1
  · refine Or.inl ⟨p, S, h, n, ?_, X, D.f, fun S' h' n' Y y w' l1 l2 l3 => ⟨h', ?_, fR_0, Y⟩⟩
    · exact C_s0 X w z q (by omega)
    · rw [R_en Y q, mx_b_f z]
  have e0 : ¬ N ≤ tst t N p := fun y => z (tso_0.mpr y)
  have e1 := rp.2.2 (by omega)
  rcases J_st (L := L) (x := x) (d := d) (dR := dR) s0 n5 w X D with ⟨p', S1, h1, n1, eC, X1, D1, R⟩ | ⟨p', σ', S1, h1, n1, eC, X1, D1, z1, z2, R⟩
  · refine Or.inl ⟨p', S1, h1, n1, ?_, X1, D1, fun S' h' n' Y y w' l1 l2 l3 => ?_⟩
    · exact (C_it0 X w q eC (by omega)).trans (C_no X1)
    · obtain ⟨g, a, f, Y1⟩ := R S' h' n' Y y w'
      exact ⟨g, R_it0 Y w' q a, f, Y1⟩
  · have p1 := X1.p0
    have ih := J_tl (L := L) (x := x) (d := d) (dR := dR) (M := M) (a1 := a1) s0 n5 W X1 D1 (i := i + 1) (by omega) (l5 := some (0, knd t N p)) (l6 := some (0, lsn t N p))
    have eq := C_it1 (a1 := a1) (M := M) (i := i) (l5 := l5) (l6 := l6) X w q eC (by omega)
    rcases ih with ⟨p2, S2, h2, n2, eC2, X2, D2, R2⟩ | ⟨p2, σ2, S2, h2, n2, eC2, X2, D2, z3, R2⟩
    · refine Or.inl ⟨p2, S2, h2, n2, eq.trans eC2, X2, D2, fun S' h' n' Y y w' l1 l2 l3 => ?_⟩
      obtain ⟨g, a, f, Y1, y1⟩ := R S' h' n' Y y w'
      obtain ⟨g2, a2, f2, Y2⟩ := R2 S' g n' Y1 y1 (w'.R f) (some (0, knd t N p)) (some (0, lsn t N p)) (some (0, 1))
      exact ⟨g2, (R_it1 Y w' q a).trans a2, f.t f2, Y2⟩
    · refine Or.inr ⟨p2, σ2, S2, h2, n2, eq.trans eC2, X2, D2, z3.trans z2, fun S' h' n' Y y w' l1 l2 l3 => ?_⟩
      obtain ⟨g, a, f, Y1, y1⟩ := R S' h' n' Y y w'
      obtain ⟨g2, a2, f2, Y2, y2⟩ := R2 S' g n' Y1 y1 (w'.R f) (some (0, knd t N p)) (some (0, lsn t N p)) (some (0, 1))
      exact ⟨g2, (R_it1 Y w' q a).trans a2, f.t f2, Y2, y2⟩
termination_by (N - p).toNat
decreasing_by omega
