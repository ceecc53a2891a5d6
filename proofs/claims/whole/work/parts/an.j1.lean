/-! A statement -/
section
variable {L : Nat} {x : Nat → Int32} {S0 h0 : mx_H} {n0 : Int} {S h : mx_H} {n : Int} {d dR : Nat} {t : Int → Int} {N p : Int} {σ : Int → Int}
theorem if_r {c : Prop} {a b lo hi : Int} (p : lo ≤ a ∧ a ≤ hi) (q : lo ≤ b ∧ b ≤ hi) : lo ≤ mx_if c a b ∧ mx_if c a b ≤ hi := by
  by_cases z : c
  · rw [mx_if_t z]; exact p
  · rw [mx_if_f z]; exact q
theorem knd_r : -1 ≤ knd t N p ∧ knd t N p ≤ 5 := by
  unfold knd
  exact if_r (by decide) (if_r (by decide) (if_r (by decide) (if_r (by decide) (if_r (by decide) (if_r (by decide) (by decide))))))
theorem lsn_r : -1 ≤ lsn t N p ∧ lsn t N p ≤ 3 := by
  unfold lsn
  exact if_r (by decide) (if_r (by decide) (if_r (by decide) (if_r (by decide) (by decide))))
theorem knd_n (q : ¬ tso t N p = 1) : knd t N p = -1 := by
  unfold knd
  rw [mx_if_f (fun z => q z.1), mx_if_f (fun z => q z.1), mx_if_f (fun z => q z.1), mx_if_f (fun z => q z.1), mx_if_f (fun z => q z.1), mx_if_f (fun z => q z.1)]
theorem lsn_n (q : ¬ tso t N p = 1) : lsn t N p = -1 := by
  unfold lsn
  rw [mx_if_f (fun z => q z.1), mx_if_f (fun z => q z.1), mx_if_f (fun z => q z.1), mx_if_f (fun z => q z.1)]
theorem wl_d {i j : Nat} (q : nmm t N p i) (e : ¬ wln i = wln j) : ¬ nmm t N p j := fun z => e (q.2.1.symm.trans z.2.1)
theorem lsn_e (q : nmm t N p 0) : lsn t N p = -1 := by
  unfold lsn
  rw [mx_if_f (wl_d q (by decide +kernel)), mx_if_f (wl_d q (by decide +kernel)), mx_if_f (wl_d q (by decide +kernel)), mx_if_f (wl_d q (by decide +kernel))]
/-- what the second program does at a name -/
noncomputable def rS (t : Int → Int) (N p : Int) (d : Nat) (S h : mx_H) (n : Int) : mx_R :=
  mx_if (0 ≤ knd t N p) (mx_M (d + 8) 170 [(2, 38), (0, knd t N p)] S h n) (mx_if (0 ≤ lsn t N p) (mx_M (d + 8) 172 [(2, 38), (0, lsn t N p)] S h n) (mx_if (nmm t N p 0) (mx_M (d + 8) 171 [(2, 38)] S h n) (some (some (0, 0), S, h, n))))
theorem rS_1 (k : 0 ≤ knd t N p) : rS t N p d S h n = mx_M (d + 8) 170 [(2, 38), (0, knd t N p)] S h n := by unfold rS; rw [mx_if_t k]
theorem rS_2 (k : ¬ 0 ≤ knd t N p) (l : 0 ≤ lsn t N p) : rS t N p d S h n = mx_M (d + 8) 172 [(2, 38), (0, lsn t N p)] S h n := by unfold rS; rw [mx_if_f k, mx_if_t l]
theorem rS_3 (k : ¬ 0 ≤ knd t N p) (l : ¬ 0 ≤ lsn t N p) (e : nmm t N p 0) : rS t N p d S h n = mx_M (d + 8) 171 [(2, 38)] S h n := by unfold rS; rw [mx_if_f k, mx_if_f l, mx_if_t e]
theorem rS_4 (k : ¬ 0 ≤ knd t N p) (l : ¬ 0 ≤ lsn t N p) (e : ¬ nmm t N p 0) : rS t N p d S h n = some (some (0, 0), S, h, n) := by unfold rS; rw [mx_if_f k, mx_if_f l, mx_if_f e]
theorem J_ln (s0 : sv S0 23) (n5 : 53 ≤ n0) (X : CX t N p S h) (D : DS S0 h0 n0 σ S h n) {s : Int} (z : 0 ≤ s ∧ s ≤ 3) : JB L x t N S0 h0 n0 p σ (mx_M (d + 5) 66 [(2, 22), (0, s)] S h n) (fun S' h' n' => mx_M (dR + 5) 172 [(2, 38), (0, s)] S' h' n') := by
  have : s = 0 ∨ s = 1 ∨ s = 2 ∨ s = 3 := by omega
  rcases this with e | e | e | e <;> subst e
  · exact J_l0 s0 n5 X D
  · exact J_l1 s0 n5 X D
  · exact J_l2 s0 n5 X D
  · exact J_l3 s0 n5 X D
/-- what the class does at a name -/
noncomputable def rC (t : Int → Int) (N p : Int) (d : Nat) (S h : mx_H) (n : Int) : mx_R :=
  mx_if (0 ≤ knd t N p) (mx_M (d + 9) 63 [(2, 22), (0, knd t N p)] S h n) (mx_if (0 ≤ lsn t N p) (mx_M (d + 9) 66 [(2, 22), (0, lsn t N p)] S h n) (mx_if (nmm t N p 0) (mx_M (d + 9) 65 [(2, 22)] S h n) (some (some (0, 0), S, h, n))))
theorem rC_1 (k : 0 ≤ knd t N p) : rC t N p d S h n = mx_M (d + 9) 63 [(2, 22), (0, knd t N p)] S h n := by unfold rC; rw [mx_if_t k]
theorem rC_2 (k : ¬ 0 ≤ knd t N p) (l : 0 ≤ lsn t N p) : rC t N p d S h n = mx_M (d + 9) 66 [(2, 22), (0, lsn t N p)] S h n := by unfold rC; rw [mx_if_f k, mx_if_t l]
theorem rC_3 (k : ¬ 0 ≤ knd t N p) (l : ¬ 0 ≤ lsn t N p) (e : nmm t N p 0) : rC t N p d S h n = mx_M (d + 9) 65 [(2, 22)] S h n := by unfold rC; rw [mx_if_f k, mx_if_f l, mx_if_t e]
theorem rC_4 (k : ¬ 0 ≤ knd t N p) (l : ¬ 0 ≤ lsn t N p) (e : ¬ nmm t N p 0) : rC t N p d S h n = some (some (0, 0), S, h, n) := by unfold rC; rw [mx_if_f k, mx_if_f l, mx_if_f e]
theorem J_st (s0 : sv S0 23) (n5 : 53 ≤ n0) (w0 : ws L x S h) (X : CX t N p S h) (D : DS S0 h0 n0 σ S h n) : JB L x t N S0 h0 n0 p σ (rC t N p d S h n) (fun S' h' n' => rS t N p dR S' h' n') := by
  have kr := knd_r (t := t) (N := N) (p := p)
  have lr := lsn_r (t := t) (N := N) (p := p)
  by_cases k : 0 ≤ knd t N p
  ·
    rcases J_nt (L := L) (x := x) (d := d + 1) (dR := dR) s0 n5 w0 X D (κ := knd t N p) ⟨k, kr.2⟩ with ⟨p', S1, h1, n1, eC, X1, D1, R⟩ | ⟨p', σ', S1, h1, n1, eC, X1, D1, z1, z2, R⟩
    · refine Or.inl ⟨p', S1, h1, n1, (rC_1 k).trans eC, X1, D1, fun S' h' n' Y y w => ?_⟩
      obtain ⟨g, a, r⟩ := R S' h' n' Y y w; exact ⟨g, (rS_1 k).trans a, r⟩
    · refine Or.inr ⟨p', σ', S1, h1, n1, (rC_1 k).trans eC, X1, D1, z1, z2, fun S' h' n' Y y w => ?_⟩
      obtain ⟨g, a, r⟩ := R S' h' n' Y y w; exact ⟨g, (rS_1 k).trans a, r⟩
  by_cases l : 0 ≤ lsn t N p
  ·
    rcases J_ln (L := L) (x := x) (d := d + 4) (dR := dR + 3) s0 n5 X D (s := lsn t N p) ⟨l, lr.2⟩ with ⟨p', S1, h1, n1, eC, X1, D1, R⟩ | ⟨p', σ', S1, h1, n1, eC, X1, D1, z1, z2, R⟩
    · refine Or.inl ⟨p', S1, h1, n1, (rC_2 k l).trans eC, X1, D1, fun S' h' n' Y y w => ?_⟩
      obtain ⟨g, a, r⟩ := R S' h' n' Y y w; exact ⟨g, (rS_2 k l).trans a, r⟩
    · refine Or.inr ⟨p', σ', S1, h1, n1, (rC_2 k l).trans eC, X1, D1, z1, z2, fun S' h' n' Y y w => ?_⟩
      obtain ⟨g, a, r⟩ := R S' h' n' Y y w; exact ⟨g, (rS_2 k l).trans a, r⟩
  by_cases e : nmm t N p 0
  ·
    rcases J_ev (L := L) (x := x) (d := d + 4) (dR := dR + 3) s0 n5 X D with ⟨p', S1, h1, n1, eC, X1, D1, R⟩ | ⟨p', σ', S1, h1, n1, eC, X1, D1, z1, z2, R⟩
    · refine Or.inl ⟨p', S1, h1, n1, (rC_3 k l e).trans eC, X1, D1, fun S' h' n' Y y w => ?_⟩
      obtain ⟨g, a, r⟩ := R S' h' n' Y y w; exact ⟨g, (rS_3 k l e).trans a, r⟩
    · refine Or.inr ⟨p', σ', S1, h1, n1, (rC_3 k l e).trans eC, X1, D1, z1, z2, fun S' h' n' Y y w => ?_⟩
      obtain ⟨g, a, r⟩ := R S' h' n' Y y w; exact ⟨g, (rS_3 k l e).trans a, r⟩
  exact Or.inl ⟨p, S, h, n, rC_4 k l e, X, D.f, fun S' h' n' Y y w => ⟨h', rS_4 k l e, fR_0, Y⟩⟩
theorem C_it0 (X : CX t N p S h) (w0 : ws L x S h) (q : tso t N p = 1) {S1 h1 : mx_H} {n1 : Int} (e : rC t N p d S h n = some (some (0, 0), S1, h1, n1)) {i a1 M : Int} (i0 : 0 ≤ i ∧ i ≤ N) {l5 l6 : Option mx_V} : mx_ex (d + 10) 60 36 [some (2, 22), some (2, a1), some (0, M), some (0, 1), some (0, i), l5, l6] [] S h n = mx_ex (d + 10) 60 36 [some (2, 22), some (2, a1), some (0, M), some (0, 0), some (0, i + 1), some (0, knd t N p), some (0, lsn t N p)] [] S1 h1 n1 := by
  have N2 := X.N2
  have c6 := X.c.k
  have cN := X.c.N
  rw [q] at c6
  have ck := c_knC (d := d + 3) (n := n) X w0
  have ci := c_isN (d := d + 4) (n := n) (A := -10) X w0 (k := 0) (by decide) (by decide)
  have cl := c_lsC (d := d + 3) (n := n) X w0
  rw [rh_X7_told_36]
  by_cases k : 0 ≤ knd t N p
  · rw [rC_1 k] at e
    simp (disch := omega) only [mx_vt_h, mx_vt_m, mx_cmp_0, mx_cmp_1, mx_cmp_2, mx_cmp_3, mx_cmp_4, mx_u_s, mx_u_a, mx_u_k, mx_z_a, mx_z_s, mx_t_a, mx_t_2, mx_t_1, mx_t_0, mx_gd_T, mx_gd_t, mx_br_T, mx_br_F, mx_br_t, mx_br_f, mx_br_n, mx_cl_T, mx_cl_t, mx_re_T, mx_re_t, mx_rt_v, mx_rt_0, mx_cu_t, mx_w_id, mx_l_id, mx_b_0, mx_b_1, mx_b_r, mx_nl_0, mx_nl_1, mx_nl_2, mx_nl_n, mx_nl_l, mx_sw_n, mx_sw_h, mx_sw_m, Int.reduceLE, Int.reduceLT, Int.reduceEq, Int.reduceAdd, Int.reduceSub, Int.reduceMul, Int.reduceNeg, Int.reduceToNat, and_self, true_and, and_true, false_and, and_false, true_or, or_true, false_or, or_false, not_true_eq_false, not_false_eq_true, eq_self, rw_X7_told, rw_X7_told_1, X.s.e, c6, cN, ck, cl, e]
  by_cases l : 0 ≤ lsn t N p
  · rw [rC_2 k l] at e
    simp (disch := omega) only [mx_vt_h, mx_vt_m, mx_cmp_0, mx_cmp_1, mx_cmp_2, mx_cmp_3, mx_cmp_4, mx_u_s, mx_u_a, mx_u_k, mx_z_a, mx_z_s, mx_t_a, mx_t_2, mx_t_1, mx_t_0, mx_gd_T, mx_gd_t, mx_br_T, mx_br_F, mx_br_t, mx_br_f, mx_br_n, mx_cl_T, mx_cl_t, mx_re_T, mx_re_t, mx_rt_v, mx_rt_0, mx_cu_t, mx_w_id, mx_l_id, mx_b_0, mx_b_1, mx_b_r, mx_nl_0, mx_nl_1, mx_nl_2, mx_nl_n, mx_nl_l, mx_sw_n, mx_sw_h, mx_sw_m, Int.reduceLE, Int.reduceLT, Int.reduceEq, Int.reduceAdd, Int.reduceSub, Int.reduceMul, Int.reduceNeg, Int.reduceToNat, and_self, true_and, and_true, false_and, and_false, true_or, or_true, false_or, or_false, not_true_eq_false, not_false_eq_true, eq_self, rw_X7_told, rw_X7_told_1, X.s.e, c6, cN, ck, cl, e]
  by_cases v : nmm t N p 0
  · rw [rC_3 k l v] at e
    rw [mx_b_t v] at ci
    simp (disch := omega) only [mx_vt_h, mx_vt_m, mx_cmp_0, mx_cmp_1, mx_cmp_2, mx_cmp_3, mx_cmp_4, mx_u_s, mx_u_a, mx_u_k, mx_z_a, mx_z_s, mx_t_a, mx_t_2, mx_t_1, mx_t_0, mx_gd_T, mx_gd_t, mx_br_T, mx_br_F, mx_br_t, mx_br_f, mx_br_n, mx_cl_T, mx_cl_t, mx_re_T, mx_re_t, mx_rt_v, mx_rt_0, mx_cu_t, mx_w_id, mx_l_id, mx_b_0, mx_b_1, mx_b_r, mx_nl_0, mx_nl_1, mx_nl_2, mx_nl_n, mx_nl_l, mx_sw_n, mx_sw_h, mx_sw_m, Int.reduceLE, Int.reduceLT, Int.reduceEq, Int.reduceAdd, Int.reduceSub, Int.reduceMul, Int.reduceNeg, Int.reduceToNat, and_self, true_and, and_true, false_and, and_false, true_or, or_true, false_or, or_false, not_true_eq_false, not_false_eq_true, eq_self, rw_X7_told, rw_X7_told_1, X.s.e, c6, cN, ck, cl, ci, e]
  rw [rC_4 k l v] at e
  rw [mx_b_f v] at ci
  simp only [Option.some.injEq, Prod.mk.injEq, eq_self, and_self, true_and] at e
  obtain ⟨e1, e2, e3⟩ := e
  subst e1 e2 e3
  simp (disch := omega) only [mx_vt_h, mx_vt_m, mx_cmp_0, mx_cmp_1, mx_cmp_2, mx_cmp_3, mx_cmp_4, mx_u_s, mx_u_a, mx_u_k, mx_z_a, mx_z_s, mx_t_a, mx_t_2, mx_t_1, mx_t_0, mx_gd_T, mx_gd_t, mx_br_T, mx_br_F, mx_br_t, mx_br_f, mx_br_n, mx_cl_T, mx_cl_t, mx_re_T, mx_re_t, mx_rt_v, mx_rt_0, mx_cu_t, mx_w_id, mx_l_id, mx_b_0, mx_b_1, mx_b_r, mx_nl_0, mx_nl_1, mx_nl_2, mx_nl_n, mx_nl_l, mx_sw_n, mx_sw_h, mx_sw_m, Int.reduceLE, Int.reduceLT, Int.reduceEq, Int.reduceAdd, Int.reduceSub, Int.reduceMul, Int.reduceNeg, Int.reduceToNat, and_self, true_and, and_true, false_and, and_false, true_or, or_true, false_or, or_false, not_true_eq_false, not_false_eq_true, eq_self, rw_X7_told, rw_X7_told_1, X.s.e, c6, cN, ck, cl, ci]
theorem C_it1 (X : CX t N p S h) (w0 : ws L x S h) (q : tso t N p = 1) {S1 h1 : mx_H} {n1 : Int} (e : rC t N p d S h n = some (some (0, 1), S1, h1, n1)) {i a1 M : Int} (i0 : 0 ≤ i ∧ i ≤ N) {l5 l6 : Option mx_V} : mx_ex (d + 10) 60 36 [some (2, 22), some (2, a1), some (0, M), some (0, 1), some (0, i), l5, l6] [] S h n = mx_ex (d + 10) 60 36 [some (2, 22), some (2, a1), some (0, M), some (0, 1), some (0, i + 1), some (0, knd t N p), some (0, lsn t N p)] [] S1 h1 n1 := by
  have N2 := X.N2
  have c6 := X.c.k
  have cN := X.c.N
  rw [q] at c6
  have ck := c_knC (d := d + 3) (n := n) X w0
  have ci := c_isN (d := d + 4) (n := n) (A := -10) X w0 (k := 0) (by decide) (by decide)
  have cl := c_lsC (d := d + 3) (n := n) X w0
  rw [rh_X7_told_36]
  by_cases k : 0 ≤ knd t N p
  · rw [rC_1 k] at e
    simp (disch := omega) only [mx_vt_h, mx_vt_m, mx_cmp_0, mx_cmp_1, mx_cmp_2, mx_cmp_3, mx_cmp_4, mx_u_s, mx_u_a, mx_u_k, mx_z_a, mx_z_s, mx_t_a, mx_t_2, mx_t_1, mx_t_0, mx_gd_T, mx_gd_t, mx_br_T, mx_br_F, mx_br_t, mx_br_f, mx_br_n, mx_cl_T, mx_cl_t, mx_re_T, mx_re_t, mx_rt_v, mx_rt_0, mx_cu_t, mx_w_id, mx_l_id, mx_b_0, mx_b_1, mx_b_r, mx_nl_0, mx_nl_1, mx_nl_2, mx_nl_n, mx_nl_l, mx_sw_n, mx_sw_h, mx_sw_m, Int.reduceLE, Int.reduceLT, Int.reduceEq, Int.reduceAdd, Int.reduceSub, Int.reduceMul, Int.reduceNeg, Int.reduceToNat, and_self, true_and, and_true, false_and, and_false, true_or, or_true, false_or, or_false, not_true_eq_false, not_false_eq_true, eq_self, rw_X7_told, rw_X7_told_1, X.s.e, c6, cN, ck, cl, e]
  by_cases l : 0 ≤ lsn t N p
  · rw [rC_2 k l] at e
    simp (disch := omega) only [mx_vt_h, mx_vt_m, mx_cmp_0, mx_cmp_1, mx_cmp_2, mx_cmp_3, mx_cmp_4, mx_u_s, mx_u_a, mx_u_k, mx_z_a, mx_z_s, mx_t_a, mx_t_2, mx_t_1, mx_t_0, mx_gd_T, mx_gd_t, mx_br_T, mx_br_F, mx_br_t, mx_br_f, mx_br_n, mx_cl_T, mx_cl_t, mx_re_T, mx_re_t, mx_rt_v, mx_rt_0, mx_cu_t, mx_w_id, mx_l_id, mx_b_0, mx_b_1, mx_b_r, mx_nl_0, mx_nl_1, mx_nl_2, mx_nl_n, mx_nl_l, mx_sw_n, mx_sw_h, mx_sw_m, Int.reduceLE, Int.reduceLT, Int.reduceEq, Int.reduceAdd, Int.reduceSub, Int.reduceMul, Int.reduceNeg, Int.reduceToNat, and_self, true_and, and_true, false_and, and_false, true_or, or_true, false_or, or_false, not_true_eq_false, not_false_eq_true, eq_self, rw_X7_told, rw_X7_told_1, X.s.e, c6, cN, ck, cl, e]
  by_cases v : nmm t N p 0
  · rw [rC_3 k l v] at e
    rw [mx_b_t v] at ci
    simp (disch := omega) only [mx_vt_h, mx_vt_m, mx_cmp_0, mx_cmp_1, mx_cmp_2, mx_cmp_3, mx_cmp_4, mx_u_s, mx_u_a, mx_u_k, mx_z_a, mx_z_s, mx_t_a, mx_t_2, mx_t_1, mx_t_0, mx_gd_T, mx_gd_t, mx_br_T, mx_br_F, mx_br_t, mx_br_f, mx_br_n, mx_cl_T, mx_cl_t, mx_re_T, mx_re_t, mx_rt_v, mx_rt_0, mx_cu_t, mx_w_id, mx_l_id, mx_b_0, mx_b_1, mx_b_r, mx_nl_0, mx_nl_1, mx_nl_2, mx_nl_n, mx_nl_l, mx_sw_n, mx_sw_h, mx_sw_m, Int.reduceLE, Int.reduceLT, Int.reduceEq, Int.reduceAdd, Int.reduceSub, Int.reduceMul, Int.reduceNeg, Int.reduceToNat, and_self, true_and, and_true, false_and, and_false, true_or, or_true, false_or, or_false, not_true_eq_false, not_false_eq_true, eq_self, rw_X7_told, rw_X7_told_1, X.s.e, c6, cN, ck, cl, ci, e]
  rw [rC_4 k l v] at e
  rw [mx_b_f v] at ci
  simp at e
theorem R_it0 (Y : RX t N p S h) (w : ws L x S h) (q : tso t N p = 1) {g : mx_H} (e : rS t N p d S h n = some (some (0, 0), S, g, n)) {l1 l2 l3 : Option mx_V} : mx_ex (d + 9) 173 9 [some (2, 38), l1, l2, l3] [] S h n = some (some (0, 0), S, g, n) := by
  have hM := Y.m.e
  have kr := knd_r (t := t) (N := N) (p := p)
  have ck : h 38 8 = 1 := by rw [Y.c.k]; exact Y.k1.mpr q
  have kn := c_knM (d := d + 2) (n := n) Y w
  have c0 := c_isM (d := d + 3) (n := n) (A := -29) Y w (k := 19) (by decide) (by decide)
  rw [mx_b_i (nmm_c (t := t) (N := N) (p := p) (k := 19) (j := 7) (by decide +kernel))] at c0
  have c1 := c_isM (d := d + 3) (n := n) (A := -30) Y w (k := 20) (by decide) (by decide)
  rw [mx_b_i (nmm_c (t := t) (N := N) (p := p) (k := 20) (j := 8) (by decide +kernel))] at c1
  have c2 := c_isM (d := d + 3) (n := n) (A := -31) Y w (k := 21) (by decide) (by decide)
  rw [mx_b_i (nmm_c (t := t) (N := N) (p := p) (k := 21) (j := 9) (by decide +kernel))] at c2
  have c3 := c_isM (d := d + 3) (n := n) (A := -32) Y w (k := 22) (by decide) (by decide)
  rw [mx_b_i (nmm_c (t := t) (N := N) (p := p) (k := 22) (j := 10) (by decide +kernel))] at c3
  have c4 := c_isM (d := d + 3) (n := n) (A := -33) Y w (k := 23) (by decide) (by decide)
  rw [mx_b_i (nmm_c (t := t) (N := N) (p := p) (k := 23) (j := 0) (by decide +kernel))] at c4
  rw [rh_X12_takesAll_9]
  by_cases q0 : nmm t N p 7
  · have ls : lsn t N p = 0 := by unfold lsn; rw [mx_if_t q0]
    rw [mx_b_t q0] at c0
    unfold rS at e
    rw [ls] at e
    by_cases k : 0 ≤ knd t N p
    · rw [mx_if_t k] at e
      simp (disch := omega) only [mx_vt_h, mx_vt_m, mx_cmp_0, mx_cmp_1, mx_cmp_2, mx_cmp_3, mx_cmp_4, mx_u_s, mx_u_a, mx_u_k, mx_z_a, mx_z_s, mx_t_a, mx_t_2, mx_t_1, mx_t_0, mx_gd_T, mx_gd_t, mx_br_T, mx_br_F, mx_br_t, mx_br_f, mx_br_n, mx_cl_T, mx_cl_t, mx_re_T, mx_re_t, mx_rt_v, mx_rt_0, mx_cu_t, mx_w_id, mx_l_id, mx_b_0, mx_b_1, mx_b_r, mx_nl_0, mx_nl_1, mx_nl_2, mx_nl_n, mx_nl_l, mx_sw_n, mx_sw_h, mx_sw_m, Int.reduceLE, Int.reduceLT, Int.reduceEq, Int.reduceAdd, Int.reduceSub, Int.reduceMul, Int.reduceNeg, Int.reduceToNat, and_self, true_and, and_true, false_and, and_false, true_or, or_true, false_or, or_false, not_true_eq_false, not_false_eq_true, eq_self, rw_X12_takesAll, rw_X12_takesAll_1, hM, ck, kn, c0, e]
    · rw [mx_if_f k, mx_if_t (by decide)] at e
      simp (disch := omega) only [mx_vt_h, mx_vt_m, mx_cmp_0, mx_cmp_1, mx_cmp_2, mx_cmp_3, mx_cmp_4, mx_u_s, mx_u_a, mx_u_k, mx_z_a, mx_z_s, mx_t_a, mx_t_2, mx_t_1, mx_t_0, mx_gd_T, mx_gd_t, mx_br_T, mx_br_F, mx_br_t, mx_br_f, mx_br_n, mx_cl_T, mx_cl_t, mx_re_T, mx_re_t, mx_rt_v, mx_rt_0, mx_cu_t, mx_w_id, mx_l_id, mx_b_0, mx_b_1, mx_b_r, mx_nl_0, mx_nl_1, mx_nl_2, mx_nl_n, mx_nl_l, mx_sw_n, mx_sw_h, mx_sw_m, Int.reduceLE, Int.reduceLT, Int.reduceEq, Int.reduceAdd, Int.reduceSub, Int.reduceMul, Int.reduceNeg, Int.reduceToNat, and_self, true_and, and_true, false_and, and_false, true_or, or_true, false_or, or_false, not_true_eq_false, not_false_eq_true, eq_self, rw_X12_takesAll, rw_X12_takesAll_1, hM, ck, kn, c0, e]
  by_cases q1 : nmm t N p 8
  · have ls : lsn t N p = 1 := by unfold lsn; rw [mx_if_f q0, mx_if_t q1]
    rw [mx_b_f q0] at c0
    rw [mx_b_t q1] at c1
    unfold rS at e
    rw [ls] at e
    by_cases k : 0 ≤ knd t N p
    · rw [mx_if_t k] at e
      simp (disch := omega) only [mx_vt_h, mx_vt_m, mx_cmp_0, mx_cmp_1, mx_cmp_2, mx_cmp_3, mx_cmp_4, mx_u_s, mx_u_a, mx_u_k, mx_z_a, mx_z_s, mx_t_a, mx_t_2, mx_t_1, mx_t_0, mx_gd_T, mx_gd_t, mx_br_T, mx_br_F, mx_br_t, mx_br_f, mx_br_n, mx_cl_T, mx_cl_t, mx_re_T, mx_re_t, mx_rt_v, mx_rt_0, mx_cu_t, mx_w_id, mx_l_id, mx_b_0, mx_b_1, mx_b_r, mx_nl_0, mx_nl_1, mx_nl_2, mx_nl_n, mx_nl_l, mx_sw_n, mx_sw_h, mx_sw_m, Int.reduceLE, Int.reduceLT, Int.reduceEq, Int.reduceAdd, Int.reduceSub, Int.reduceMul, Int.reduceNeg, Int.reduceToNat, and_self, true_and, and_true, false_and, and_false, true_or, or_true, false_or, or_false, not_true_eq_false, not_false_eq_true, eq_self, rw_X12_takesAll, rw_X12_takesAll_1, hM, ck, kn, c0, c1, e]
    · rw [mx_if_f k, mx_if_t (by decide)] at e
      simp (disch := omega) only [mx_vt_h, mx_vt_m, mx_cmp_0, mx_cmp_1, mx_cmp_2, mx_cmp_3, mx_cmp_4, mx_u_s, mx_u_a, mx_u_k, mx_z_a, mx_z_s, mx_t_a, mx_t_2, mx_t_1, mx_t_0, mx_gd_T, mx_gd_t, mx_br_T, mx_br_F, mx_br_t, mx_br_f, mx_br_n, mx_cl_T, mx_cl_t, mx_re_T, mx_re_t, mx_rt_v, mx_rt_0, mx_cu_t, mx_w_id, mx_l_id, mx_b_0, mx_b_1, mx_b_r, mx_nl_0, mx_nl_1, mx_nl_2, mx_nl_n, mx_nl_l, mx_sw_n, mx_sw_h, mx_sw_m, Int.reduceLE, Int.reduceLT, Int.reduceEq, Int.reduceAdd, Int.reduceSub, Int.reduceMul, Int.reduceNeg, Int.reduceToNat, and_self, true_and, and_true, false_and, and_false, true_or, or_true, false_or, or_false, not_true_eq_false, not_false_eq_true, eq_self, rw_X12_takesAll, rw_X12_takesAll_1, hM, ck, kn, c0, c1, e]
  by_cases q2 : nmm t N p 9
  · have ls : lsn t N p = 2 := by unfold lsn; rw [mx_if_f q0, mx_if_f q1, mx_if_t q2]
    rw [mx_b_f q0] at c0
    rw [mx_b_f q1] at c1
    rw [mx_b_t q2] at c2
    unfold rS at e
    rw [ls] at e
    by_cases k : 0 ≤ knd t N p
    · rw [mx_if_t k] at e
      simp (disch := omega) only [mx_vt_h, mx_vt_m, mx_cmp_0, mx_cmp_1, mx_cmp_2, mx_cmp_3, mx_cmp_4, mx_u_s, mx_u_a, mx_u_k, mx_z_a, mx_z_s, mx_t_a, mx_t_2, mx_t_1, mx_t_0, mx_gd_T, mx_gd_t, mx_br_T, mx_br_F, mx_br_t, mx_br_f, mx_br_n, mx_cl_T, mx_cl_t, mx_re_T, mx_re_t, mx_rt_v, mx_rt_0, mx_cu_t, mx_w_id, mx_l_id, mx_b_0, mx_b_1, mx_b_r, mx_nl_0, mx_nl_1, mx_nl_2, mx_nl_n, mx_nl_l, mx_sw_n, mx_sw_h, mx_sw_m, Int.reduceLE, Int.reduceLT, Int.reduceEq, Int.reduceAdd, Int.reduceSub, Int.reduceMul, Int.reduceNeg, Int.reduceToNat, and_self, true_and, and_true, false_and, and_false, true_or, or_true, false_or, or_false, not_true_eq_false, not_false_eq_true, eq_self, rw_X12_takesAll, rw_X12_takesAll_1, hM, ck, kn, c0, c1, c2, e]
    · rw [mx_if_f k, mx_if_t (by decide)] at e
      simp (disch := omega) only [mx_vt_h, mx_vt_m, mx_cmp_0, mx_cmp_1, mx_cmp_2, mx_cmp_3, mx_cmp_4, mx_u_s, mx_u_a, mx_u_k, mx_z_a, mx_z_s, mx_t_a, mx_t_2, mx_t_1, mx_t_0, mx_gd_T, mx_gd_t, mx_br_T, mx_br_F, mx_br_t, mx_br_f, mx_br_n, mx_cl_T, mx_cl_t, mx_re_T, mx_re_t, mx_rt_v, mx_rt_0, mx_cu_t, mx_w_id, mx_l_id, mx_b_0, mx_b_1, mx_b_r, mx_nl_0, mx_nl_1, mx_nl_2, mx_nl_n, mx_nl_l, mx_sw_n, mx_sw_h, mx_sw_m, Int.reduceLE, Int.reduceLT, Int.reduceEq, Int.reduceAdd, Int.reduceSub, Int.reduceMul, Int.reduceNeg, Int.reduceToNat, and_self, true_and, and_true, false_and, and_false, true_or, or_true, false_or, or_false, not_true_eq_false, not_false_eq_true, eq_self, rw_X12_takesAll, rw_X12_takesAll_1, hM, ck, kn, c0, c1, c2, e]
  by_cases q3 : nmm t N p 10
  · have ls : lsn t N p = 3 := by unfold lsn; rw [mx_if_f q0, mx_if_f q1, mx_if_f q2, mx_if_t q3]
    rw [mx_b_f q0] at c0
    rw [mx_b_f q1] at c1
    rw [mx_b_f q2] at c2
    rw [mx_b_t q3] at c3
    unfold rS at e
    rw [ls] at e
    by_cases k : 0 ≤ knd t N p
    · rw [mx_if_t k] at e
      simp (disch := omega) only [mx_vt_h, mx_vt_m, mx_cmp_0, mx_cmp_1, mx_cmp_2, mx_cmp_3, mx_cmp_4, mx_u_s, mx_u_a, mx_u_k, mx_z_a, mx_z_s, mx_t_a, mx_t_2, mx_t_1, mx_t_0, mx_gd_T, mx_gd_t, mx_br_T, mx_br_F, mx_br_t, mx_br_f, mx_br_n, mx_cl_T, mx_cl_t, mx_re_T, mx_re_t, mx_rt_v, mx_rt_0, mx_cu_t, mx_w_id, mx_l_id, mx_b_0, mx_b_1, mx_b_r, mx_nl_0, mx_nl_1, mx_nl_2, mx_nl_n, mx_nl_l, mx_sw_n, mx_sw_h, mx_sw_m, Int.reduceLE, Int.reduceLT, Int.reduceEq, Int.reduceAdd, Int.reduceSub, Int.reduceMul, Int.reduceNeg, Int.reduceToNat, and_self, true_and, and_true, false_and, and_false, true_or, or_true, false_or, or_false, not_true_eq_false, not_false_eq_true, eq_self, rw_X12_takesAll, rw_X12_takesAll_1, hM, ck, kn, c0, c1, c2, c3, e]
    · rw [mx_if_f k, mx_if_t (by decide)] at e
      simp (disch := omega) only [mx_vt_h, mx_vt_m, mx_cmp_0, mx_cmp_1, mx_cmp_2, mx_cmp_3, mx_cmp_4, mx_u_s, mx_u_a, mx_u_k, mx_z_a, mx_z_s, mx_t_a, mx_t_2, mx_t_1, mx_t_0, mx_gd_T, mx_gd_t, mx_br_T, mx_br_F, mx_br_t, mx_br_f, mx_br_n, mx_cl_T, mx_cl_t, mx_re_T, mx_re_t, mx_rt_v, mx_rt_0, mx_cu_t, mx_w_id, mx_l_id, mx_b_0, mx_b_1, mx_b_r, mx_nl_0, mx_nl_1, mx_nl_2, mx_nl_n, mx_nl_l, mx_sw_n, mx_sw_h, mx_sw_m, Int.reduceLE, Int.reduceLT, Int.reduceEq, Int.reduceAdd, Int.reduceSub, Int.reduceMul, Int.reduceNeg, Int.reduceToNat, and_self, true_and, and_true, false_and, and_false, true_or, or_true, false_or, or_false, not_true_eq_false, not_false_eq_true, eq_self, rw_X12_takesAll, rw_X12_takesAll_1, hM, ck, kn, c0, c1, c2, c3, e]
  rw [mx_b_f q0] at c0
  rw [mx_b_f q1] at c1
  rw [mx_b_f q2] at c2
  rw [mx_b_f q3] at c3
  have ls : lsn t N p = -1 := by unfold lsn; rw [mx_if_f q0, mx_if_f q1, mx_if_f q2, mx_if_f q3]
  unfold rS at e
  rw [ls] at e
  by_cases k : 0 ≤ knd t N p
  · rw [mx_if_t k] at e
    simp (disch := omega) only [mx_vt_h, mx_vt_m, mx_cmp_0, mx_cmp_1, mx_cmp_2, mx_cmp_3, mx_cmp_4, mx_u_s, mx_u_a, mx_u_k, mx_z_a, mx_z_s, mx_t_a, mx_t_2, mx_t_1, mx_t_0, mx_gd_T, mx_gd_t, mx_br_T, mx_br_F, mx_br_t, mx_br_f, mx_br_n, mx_cl_T, mx_cl_t, mx_re_T, mx_re_t, mx_rt_v, mx_rt_0, mx_cu_t, mx_w_id, mx_l_id, mx_b_0, mx_b_1, mx_b_r, mx_nl_0, mx_nl_1, mx_nl_2, mx_nl_n, mx_nl_l, mx_sw_n, mx_sw_h, mx_sw_m, Int.reduceLE, Int.reduceLT, Int.reduceEq, Int.reduceAdd, Int.reduceSub, Int.reduceMul, Int.reduceNeg, Int.reduceToNat, and_self, true_and, and_true, false_and, and_false, true_or, or_true, false_or, or_false, not_true_eq_false, not_false_eq_true, eq_self, rw_X12_takesAll, rw_X12_takesAll_1, hM, ck, kn, c0, c1, c2, c3, e]
  rw [mx_if_f k, mx_if_f (by decide)] at e
  by_cases v : nmm t N p 0
  · rw [mx_if_t v] at e
    rw [mx_b_t v] at c4
    simp (disch := omega) only [mx_vt_h, mx_vt_m, mx_cmp_0, mx_cmp_1, mx_cmp_2, mx_cmp_3, mx_cmp_4, mx_u_s, mx_u_a, mx_u_k, mx_z_a, mx_z_s, mx_t_a, mx_t_2, mx_t_1, mx_t_0, mx_gd_T, mx_gd_t, mx_br_T, mx_br_F, mx_br_t, mx_br_f, mx_br_n, mx_cl_T, mx_cl_t, mx_re_T, mx_re_t, mx_rt_v, mx_rt_0, mx_cu_t, mx_w_id, mx_l_id, mx_b_0, mx_b_1, mx_b_r, mx_nl_0, mx_nl_1, mx_nl_2, mx_nl_n, mx_nl_l, mx_sw_n, mx_sw_h, mx_sw_m, Int.reduceLE, Int.reduceLT, Int.reduceEq, Int.reduceAdd, Int.reduceSub, Int.reduceMul, Int.reduceNeg, Int.reduceToNat, and_self, true_and, and_true, false_and, and_false, true_or, or_true, false_or, or_false, not_true_eq_false, not_false_eq_true, eq_self, rw_X12_takesAll, rw_X12_takesAll_1, hM, ck, kn, c0, c1, c2, c3, c4, e]
  rw [mx_if_f v] at e
  rw [mx_b_f v] at c4
  simp (disch := omega) only [mx_vt_h, mx_vt_m, mx_cmp_0, mx_cmp_1, mx_cmp_2, mx_cmp_3, mx_cmp_4, mx_u_s, mx_u_a, mx_u_k, mx_z_a, mx_z_s, mx_t_a, mx_t_2, mx_t_1, mx_t_0, mx_gd_T, mx_gd_t, mx_br_T, mx_br_F, mx_br_t, mx_br_f, mx_br_n, mx_cl_T, mx_cl_t, mx_re_T, mx_re_t, mx_rt_v, mx_rt_0, mx_cu_t, mx_w_id, mx_l_id, mx_b_0, mx_b_1, mx_b_r, mx_nl_0, mx_nl_1, mx_nl_2, mx_nl_n, mx_nl_l, mx_sw_n, mx_sw_h, mx_sw_m, Int.reduceLE, Int.reduceLT, Int.reduceEq, Int.reduceAdd, Int.reduceSub, Int.reduceMul, Int.reduceNeg, Int.reduceToNat, and_self, true_and, and_true, false_and, and_false, true_or, or_true, false_or, or_false, not_true_eq_false, not_false_eq_true, eq_self, rw_X12_takesAll, rw_X12_takesAll_1, hM, ck, kn, c0, c1, c2, c3, c4]
  exact e
theorem R_it1 (Y : RX t N p S h) (w : ws L x S h) (q : tso t N p = 1) {g : mx_H} (e : rS t N p d S h n = some (some (0, 1), S, g, n)) {l1 l2 l3 : Option mx_V} : mx_ex (d + 9) 173 9 [some (2, 38), l1, l2, l3] [] S h n = mx_ex (d + 9) 173 9 [some (2, 38), some (0, knd t N p), some (0, lsn t N p), some (0, 1)] [] S g n := by
  have hM := Y.m.e
  have kr := knd_r (t := t) (N := N) (p := p)
  have ck : h 38 8 = 1 := by rw [Y.c.k]; exact Y.k1.mpr q
  have kn := c_knM (d := d + 2) (n := n) Y w
  have c0 := c_isM (d := d + 3) (n := n) (A := -29) Y w (k := 19) (by decide) (by decide)
  rw [mx_b_i (nmm_c (t := t) (N := N) (p := p) (k := 19) (j := 7) (by decide +kernel))] at c0
  have c1 := c_isM (d := d + 3) (n := n) (A := -30) Y w (k := 20) (by decide) (by decide)
  rw [mx_b_i (nmm_c (t := t) (N := N) (p := p) (k := 20) (j := 8) (by decide +kernel))] at c1
  have c2 := c_isM (d := d + 3) (n := n) (A := -31) Y w (k := 21) (by decide) (by decide)
  rw [mx_b_i (nmm_c (t := t) (N := N) (p := p) (k := 21) (j := 9) (by decide +kernel))] at c2
  have c3 := c_isM (d := d + 3) (n := n) (A := -32) Y w (k := 22) (by decide) (by decide)
  rw [mx_b_i (nmm_c (t := t) (N := N) (p := p) (k := 22) (j := 10) (by decide +kernel))] at c3
  have c4 := c_isM (d := d + 3) (n := n) (A := -33) Y w (k := 23) (by decide) (by decide)
  rw [mx_b_i (nmm_c (t := t) (N := N) (p := p) (k := 23) (j := 0) (by decide +kernel))] at c4
  rw [rh_X12_takesAll_9]
  by_cases q0 : nmm t N p 7
  · have ls : lsn t N p = 0 := by unfold lsn; rw [mx_if_t q0]
    rw [mx_b_t q0] at c0
    unfold rS at e
    rw [ls] at e ⊢
    by_cases k : 0 ≤ knd t N p
    · rw [mx_if_t k] at e
      simp (disch := omega) only [mx_vt_h, mx_vt_m, mx_cmp_0, mx_cmp_1, mx_cmp_2, mx_cmp_3, mx_cmp_4, mx_u_s, mx_u_a, mx_u_k, mx_z_a, mx_z_s, mx_t_a, mx_t_2, mx_t_1, mx_t_0, mx_gd_T, mx_gd_t, mx_br_T, mx_br_F, mx_br_t, mx_br_f, mx_br_n, mx_cl_T, mx_cl_t, mx_re_T, mx_re_t, mx_rt_v, mx_rt_0, mx_cu_t, mx_w_id, mx_l_id, mx_b_0, mx_b_1, mx_b_r, mx_nl_0, mx_nl_1, mx_nl_2, mx_nl_n, mx_nl_l, mx_sw_n, mx_sw_h, mx_sw_m, Int.reduceLE, Int.reduceLT, Int.reduceEq, Int.reduceAdd, Int.reduceSub, Int.reduceMul, Int.reduceNeg, Int.reduceToNat, and_self, true_and, and_true, false_and, and_false, true_or, or_true, false_or, or_false, not_true_eq_false, not_false_eq_true, eq_self, rw_X12_takesAll, rw_X12_takesAll_1, hM, ck, kn, c0, e]
    · rw [mx_if_f k, mx_if_t (by decide)] at e
      simp (disch := omega) only [mx_vt_h, mx_vt_m, mx_cmp_0, mx_cmp_1, mx_cmp_2, mx_cmp_3, mx_cmp_4, mx_u_s, mx_u_a, mx_u_k, mx_z_a, mx_z_s, mx_t_a, mx_t_2, mx_t_1, mx_t_0, mx_gd_T, mx_gd_t, mx_br_T, mx_br_F, mx_br_t, mx_br_f, mx_br_n, mx_cl_T, mx_cl_t, mx_re_T, mx_re_t, mx_rt_v, mx_rt_0, mx_cu_t, mx_w_id, mx_l_id, mx_b_0, mx_b_1, mx_b_r, mx_nl_0, mx_nl_1, mx_nl_2, mx_nl_n, mx_nl_l, mx_sw_n, mx_sw_h, mx_sw_m, Int.reduceLE, Int.reduceLT, Int.reduceEq, Int.reduceAdd, Int.reduceSub, Int.reduceMul, Int.reduceNeg, Int.reduceToNat, and_self, true_and, and_true, false_and, and_false, true_or, or_true, false_or, or_false, not_true_eq_false, not_false_eq_true, eq_self, rw_X12_takesAll, rw_X12_takesAll_1, hM, ck, kn, c0, e]
  by_cases q1 : nmm t N p 8
  · have ls : lsn t N p = 1 := by unfold lsn; rw [mx_if_f q0, mx_if_t q1]
    rw [mx_b_f q0] at c0
    rw [mx_b_t q1] at c1
    unfold rS at e
    rw [ls] at e ⊢
    by_cases k : 0 ≤ knd t N p
    · rw [mx_if_t k] at e
      simp (disch := omega) only [mx_vt_h, mx_vt_m, mx_cmp_0, mx_cmp_1, mx_cmp_2, mx_cmp_3, mx_cmp_4, mx_u_s, mx_u_a, mx_u_k, mx_z_a, mx_z_s, mx_t_a, mx_t_2, mx_t_1, mx_t_0, mx_gd_T, mx_gd_t, mx_br_T, mx_br_F, mx_br_t, mx_br_f, mx_br_n, mx_cl_T, mx_cl_t, mx_re_T, mx_re_t, mx_rt_v, mx_rt_0, mx_cu_t, mx_w_id, mx_l_id, mx_b_0, mx_b_1, mx_b_r, mx_nl_0, mx_nl_1, mx_nl_2, mx_nl_n, mx_nl_l, mx_sw_n, mx_sw_h, mx_sw_m, Int.reduceLE, Int.reduceLT, Int.reduceEq, Int.reduceAdd, Int.reduceSub, Int.reduceMul, Int.reduceNeg, Int.reduceToNat, and_self, true_and, and_true, false_and, and_false, true_or, or_true, false_or, or_false, not_true_eq_false, not_false_eq_true, eq_self, rw_X12_takesAll, rw_X12_takesAll_1, hM, ck, kn, c0, c1, e]
    · rw [mx_if_f k, mx_if_t (by decide)] at e
      simp (disch := omega) only [mx_vt_h, mx_vt_m, mx_cmp_0, mx_cmp_1, mx_cmp_2, mx_cmp_3, mx_cmp_4, mx_u_s, mx_u_a, mx_u_k, mx_z_a, mx_z_s, mx_t_a, mx_t_2, mx_t_1, mx_t_0, mx_gd_T, mx_gd_t, mx_br_T, mx_br_F, mx_br_t, mx_br_f, mx_br_n, mx_cl_T, mx_cl_t, mx_re_T, mx_re_t, mx_rt_v, mx_rt_0, mx_cu_t, mx_w_id, mx_l_id, mx_b_0, mx_b_1, mx_b_r, mx_nl_0, mx_nl_1, mx_nl_2, mx_nl_n, mx_nl_l, mx_sw_n, mx_sw_h, mx_sw_m, Int.reduceLE, Int.reduceLT, Int.reduceEq, Int.reduceAdd, Int.reduceSub, Int.reduceMul, Int.reduceNeg, Int.reduceToNat, and_self, true_and, and_true, false_and, and_false, true_or, or_true, false_or, or_false, not_true_eq_false, not_false_eq_true, eq_self, rw_X12_takesAll, rw_X12_takesAll_1, hM, ck, kn, c0, c1, e]
  by_cases q2 : nmm t N p 9
  · have ls : lsn t N p = 2 := by unfold lsn; rw [mx_if_f q0, mx_if_f q1, mx_if_t q2]
    rw [mx_b_f q0] at c0
    rw [mx_b_f q1] at c1
    rw [mx_b_t q2] at c2
    unfold rS at e
    rw [ls] at e ⊢
    by_cases k : 0 ≤ knd t N p
    · rw [mx_if_t k] at e
      simp (disch := omega) only [mx_vt_h, mx_vt_m, mx_cmp_0, mx_cmp_1, mx_cmp_2, mx_cmp_3, mx_cmp_4, mx_u_s, mx_u_a, mx_u_k, mx_z_a, mx_z_s, mx_t_a, mx_t_2, mx_t_1, mx_t_0, mx_gd_T, mx_gd_t, mx_br_T, mx_br_F, mx_br_t, mx_br_f, mx_br_n, mx_cl_T, mx_cl_t, mx_re_T, mx_re_t, mx_rt_v, mx_rt_0, mx_cu_t, mx_w_id, mx_l_id, mx_b_0, mx_b_1, mx_b_r, mx_nl_0, mx_nl_1, mx_nl_2, mx_nl_n, mx_nl_l, mx_sw_n, mx_sw_h, mx_sw_m, Int.reduceLE, Int.reduceLT, Int.reduceEq, Int.reduceAdd, Int.reduceSub, Int.reduceMul, Int.reduceNeg, Int.reduceToNat, and_self, true_and, and_true, false_and, and_false, true_or, or_true, false_or, or_false, not_true_eq_false, not_false_eq_true, eq_self, rw_X12_takesAll, rw_X12_takesAll_1, hM, ck, kn, c0, c1, c2, e]
    · rw [mx_if_f k, mx_if_t (by decide)] at e
      simp (disch := omega) only [mx_vt_h, mx_vt_m, mx_cmp_0, mx_cmp_1, mx_cmp_2, mx_cmp_3, mx_cmp_4, mx_u_s, mx_u_a, mx_u_k, mx_z_a, mx_z_s, mx_t_a, mx_t_2, mx_t_1, mx_t_0, mx_gd_T, mx_gd_t, mx_br_T, mx_br_F, mx_br_t, mx_br_f, mx_br_n, mx_cl_T, mx_cl_t, mx_re_T, mx_re_t, mx_rt_v, mx_rt_0, mx_cu_t, mx_w_id, mx_l_id, mx_b_0, mx_b_1, mx_b_r, mx_nl_0, mx_nl_1, mx_nl_2, mx_nl_n, mx_nl_l, mx_sw_n, mx_sw_h, mx_sw_m, Int.reduceLE, Int.reduceLT, Int.reduceEq, Int.reduceAdd, Int.reduceSub, Int.reduceMul, Int.reduceNeg, Int.reduceToNat, and_self, true_and, and_true, false_and, and_false, true_or, or_true, false_or, or_false, not_true_eq_false, not_false_eq_true, eq_self, rw_X12_takesAll, rw_X12_takesAll_1, hM, ck, kn, c0, c1, c2, e]
  by_cases q3 : nmm t N p 10
  · have ls : lsn t N p = 3 := by unfold lsn; rw [mx_if_f q0, mx_if_f q1, mx_if_f q2, mx_if_t q3]
    rw [mx_b_f q0] at c0
    rw [mx_b_f q1] at c1
    rw [mx_b_f q2] at c2
    rw [mx_b_t q3] at c3
    unfold rS at e
    rw [ls] at e ⊢
    by_cases k : 0 ≤ knd t N p
    · rw [mx_if_t k] at e
      simp (disch := omega) only [mx_vt_h, mx_vt_m, mx_cmp_0, mx_cmp_1, mx_cmp_2, mx_cmp_3, mx_cmp_4, mx_u_s, mx_u_a, mx_u_k, mx_z_a, mx_z_s, mx_t_a, mx_t_2, mx_t_1, mx_t_0, mx_gd_T, mx_gd_t, mx_br_T, mx_br_F, mx_br_t, mx_br_f, mx_br_n, mx_cl_T, mx_cl_t, mx_re_T, mx_re_t, mx_rt_v, mx_rt_0, mx_cu_t, mx_w_id, mx_l_id, mx_b_0, mx_b_1, mx_b_r, mx_nl_0, mx_nl_1, mx_nl_2, mx_nl_n, mx_nl_l, mx_sw_n, mx_sw_h, mx_sw_m, Int.reduceLE, Int.reduceLT, Int.reduceEq, Int.reduceAdd, Int.reduceSub, Int.reduceMul, Int.reduceNeg, Int.reduceToNat, and_self, true_and, and_true, false_and, and_false, true_or, or_true, false_or, or_false, not_true_eq_false, not_false_eq_true, eq_self, rw_X12_takesAll, rw_X12_takesAll_1, hM, ck, kn, c0, c1, c2, c3, e]
    · rw [mx_if_f k, mx_if_t (by decide)] at e
      simp (disch := omega) only [mx_vt_h, mx_vt_m, mx_cmp_0, mx_cmp_1, mx_cmp_2, mx_cmp_3, mx_cmp_4, mx_u_s, mx_u_a, mx_u_k, mx_z_a, mx_z_s, mx_t_a, mx_t_2, mx_t_1, mx_t_0, mx_gd_T, mx_gd_t, mx_br_T, mx_br_F, mx_br_t, mx_br_f, mx_br_n, mx_cl_T, mx_cl_t, mx_re_T, mx_re_t, mx_rt_v, mx_rt_0, mx_cu_t, mx_w_id, mx_l_id, mx_b_0, mx_b_1, mx_b_r, mx_nl_0, mx_nl_1, mx_nl_2, mx_nl_n, mx_nl_l, mx_sw_n, mx_sw_h, mx_sw_m, Int.reduceLE, Int.reduceLT, Int.reduceEq, Int.reduceAdd, Int.reduceSub, Int.reduceMul, Int.reduceNeg, Int.reduceToNat, and_self, true_and, and_true, false_and, and_false, true_or, or_true, false_or, or_false, not_true_eq_false, not_false_eq_true, eq_self, rw_X12_takesAll, rw_X12_takesAll_1, hM, ck, kn, c0, c1, c2, c3, e]
  rw [mx_b_f q0] at c0
  rw [mx_b_f q1] at c1
  rw [mx_b_f q2] at c2
  rw [mx_b_f q3] at c3
  have ls : lsn t N p = -1 := by unfold lsn; rw [mx_if_f q0, mx_if_f q1, mx_if_f q2, mx_if_f q3]
  unfold rS at e
  rw [ls] at e ⊢
  by_cases k : 0 ≤ knd t N p
  · rw [mx_if_t k] at e
    simp (disch := omega) only [mx_vt_h, mx_vt_m, mx_cmp_0, mx_cmp_1, mx_cmp_2, mx_cmp_3, mx_cmp_4, mx_u_s, mx_u_a, mx_u_k, mx_z_a, mx_z_s, mx_t_a, mx_t_2, mx_t_1, mx_t_0, mx_gd_T, mx_gd_t, mx_br_T, mx_br_F, mx_br_t, mx_br_f, mx_br_n, mx_cl_T, mx_cl_t, mx_re_T, mx_re_t, mx_rt_v, mx_rt_0, mx_cu_t, mx_w_id, mx_l_id, mx_b_0, mx_b_1, mx_b_r, mx_nl_0, mx_nl_1, mx_nl_2, mx_nl_n, mx_nl_l, mx_sw_n, mx_sw_h, mx_sw_m, Int.reduceLE, Int.reduceLT, Int.reduceEq, Int.reduceAdd, Int.reduceSub, Int.reduceMul, Int.reduceNeg, Int.reduceToNat, and_self, true_and, and_true, false_and, and_false, true_or, or_true, false_or, or_false, not_true_eq_false, not_false_eq_true, eq_self, rw_X12_takesAll, rw_X12_takesAll_1, hM, ck, kn, c0, c1, c2, c3, e]
  rw [mx_if_f k, mx_if_f (by decide)] at e
  by_cases v : nmm t N p 0
  · rw [mx_if_t v] at e
    rw [mx_b_t v] at c4
    simp (disch := omega) only [mx_vt_h, mx_vt_m, mx_cmp_0, mx_cmp_1, mx_cmp_2, mx_cmp_3, mx_cmp_4, mx_u_s, mx_u_a, mx_u_k, mx_z_a, mx_z_s, mx_t_a, mx_t_2, mx_t_1, mx_t_0, mx_gd_T, mx_gd_t, mx_br_T, mx_br_F, mx_br_t, mx_br_f, mx_br_n, mx_cl_T, mx_cl_t, mx_re_T, mx_re_t, mx_rt_v, mx_rt_0, mx_cu_t, mx_w_id, mx_l_id, mx_b_0, mx_b_1, mx_b_r, mx_nl_0, mx_nl_1, mx_nl_2, mx_nl_n, mx_nl_l, mx_sw_n, mx_sw_h, mx_sw_m, Int.reduceLE, Int.reduceLT, Int.reduceEq, Int.reduceAdd, Int.reduceSub, Int.reduceMul, Int.reduceNeg, Int.reduceToNat, and_self, true_and, and_true, false_and, and_false, true_or, or_true, false_or, or_false, not_true_eq_false, not_false_eq_true, eq_self, rw_X12_takesAll, rw_X12_takesAll_1, hM, ck, kn, c0, c1, c2, c3, c4, e]
  rw [mx_if_f v] at e
  simp at e
end
