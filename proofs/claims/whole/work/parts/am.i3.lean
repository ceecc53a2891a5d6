section
variable {L : Nat} {x : Nat → Int32} {S0 h0 : mx_H} {n0 : Int} {S h : mx_H} {n : Int} {d dR : Nat} {t : Int → Int} {N p : Int} {σ : Int → Int} {κ : Int}
theorem JB.d2 {C : mx_R} {R : mx_H → mx_H → Int → mx_R} (h : JB L x t N S0 h0 n0 p σ C R) : JB L x t N S0 h0 n0 p σ C R := h
theorem qn_r {q : Int} (h : q ≤ N) : ∀ m : Nat, q ≤ qn t N q m ∧ qn t N q m ≤ N := by
  intro m
  induction m with
  | zero => exact ⟨Int.le_refl _, h⟩
  | succ m ih =>
    have a := tpl_m (t := t) ih.2
    have b := tpl_m (t := t) a.2
    simp only [qn]; omega
theorem J_nA (s0 : sv S0 23) (n5 : 53 ≤ n0) (w0 : ws L x S h) (X : CX t N p S h) (D : DS S0 h0 n0 σ S h n) (wN : 0 ≤ σ 0 ∧ σ 0 ≤ 5) (k0 : 0 ≤ κ ∧ κ ≤ 5) (q1 : tnu t N 0 2 (tpl t N p)) (nm : ¬ nmm t N (tpl t N (tpl t N p)) 11) (q2 : tby t N 58 (tpl t N (tpl t N p))) : JB L x t N S0 h0 n0 p σ (mx_M (d + 8) 63 [(2, 22), (0, κ)] S h n) (fun S' h' n' => mx_M (dR + 8) 170 [(2, 38), (0, κ)] S' h' n') := by
  have c3 : h 23 3 = σ 0 := D.r.c
  obtain ⟨g0, e0, f0, X0⟩ := X.nx (d := d + 5) (n := n)
  have D0 := D.go f0
  obtain ⟨g1, e1, f1, X1⟩ := X0.u (d := d + 4) (n := n) q1
  have D1 := D0.go f1
  have h1 := q1.2
  have wc : ws L x S g1 := w0.f (fun a z => by rw [f1 a (by omega), f0 a (by omega)])
  have ci := c_isN (d := d + 2) (n := n) (A := -21) X1 wc (k := 11) (by decide) (by decide)
  rw [mx_b_f nm] at ci
  obtain ⟨g2, e2, f2, X2⟩ := X1.b (d := d + 4) (n := n) q2
  have D2 := D1.go f2
  rcases m_d (t := t) (N := N) (q := (tpl t N (tpl t N (tpl t N p)))) with ⟨m, A⟩ | ⟨m, B⟩
  · have m5 := A.1
    obtain ⟨g5, e5, f5, X5, k5⟩ := c_mC_a (d := d + 3) (n := n) A m (i := 0) (by omega) X2 (fun k hk => absurd hk (by omega))
    have e5 : mx_M (d + 7) 64 [(2, 22)] S g2 n = some (some (0, (m : Int) + 1), S, g5, n) := by
      have z0 : ((0 : Nat) : Int) = 0 := rfl
      rw [z0] at e5
      simp (disch := omega) only [mx_vt_h, mx_vt_m, mx_cmp_0, mx_cmp_1, mx_cmp_2, mx_cmp_3, mx_cmp_4, mx_u_s, mx_u_a, mx_u_k, mx_z_a, mx_z_s, mx_t_a, mx_t_2, mx_t_1, mx_t_0, mx_gd_T, mx_gd_t, mx_br_T, mx_br_F, mx_br_t, mx_br_f, mx_br_n, mx_cl_T, mx_cl_t, mx_re_T, mx_re_t, mx_rt_v, mx_rt_0, mx_cu_t, mx_w_id, mx_l_id, mx_b_0, mx_b_1, mx_b_r, mx_nl_0, mx_nl_1, mx_nl_2, mx_nl_n, mx_nl_l, mx_sw_n, mx_sw_h, mx_sw_m, Int.reduceLE, Int.reduceLT, Int.reduceEq, Int.reduceAdd, Int.reduceSub, Int.reduceMul, Int.reduceNeg, Int.reduceToNat, and_self, true_and, and_true, false_and, and_false, true_or, or_true, false_or, or_false, not_true_eq_false, not_false_eq_true, eq_self, rw_X7_marksTold]
      exact e5
    have D5f : DF S0 h0 n0 S g5 n := DF.mk D2.f.S0 D2.f.S4 (fun b z y => by rw [f5 b (by omega) (by omega)]; exact D2.f.g0 b z y) D2.f.m
    have D5 : DS S0 h0 n0 σ S g5 n := DS.mk D5f (D2.r.gg (by rw [f5 23 (by decide) (by decide)]) (by rw [f5 23 (by decide) (by decide)]) (f5 24 (by decide) (by decide)) (f5 25 (by decide) (by decide)) (f5 26 (by decide) (by decide)) rfl (fun _ _ _ => rfl) (fun b a _ => f5 b (by omega) (by omega)) (Int.le_refl _)) D.w D.m
    by_cases c : tby t N 59 (tpl t N (qn t N (tpl t N (tpl t N (tpl t N p))) m))
    · obtain ⟨g6, e6, f6, X6⟩ := X5.b (d := d + 4) (n := n) c
      have D6 := D5.go f6
      obtain ⟨T2, g7, w, e7, X7, D7⟩ := N_add (d := d + 2) (κ := κ) (e := tva t N (tpl t N p)) (a := 0) s0 n5 A D6 X6 wN k0 h1 (by omega) (fun k hk => by rw [f6 28 (by decide)]; exact k5 k hk)
      have Df := D.f.m
      refine Or.inr ⟨tpl t N (tpl t N (qn t N (tpl t N (tpl t N (tpl t N p))) m)), ntS t N (tpl t N (tpl t N (tpl t N p))) σ κ (tva t N (tpl t N p)) (0) m, T2, g7, n + 1 + 1, ?_, X7, D7, ?_, ?_, fun S' h' n' Y y39 wr => ?_⟩
      · simp (disch := omega) only [mx_vt_h, mx_vt_m, mx_cmp_0, mx_cmp_1, mx_cmp_2, mx_cmp_3, mx_cmp_4, mx_u_s, mx_u_a, mx_u_k, mx_z_a, mx_z_s, mx_t_a, mx_t_2, mx_t_1, mx_t_0, mx_gd_T, mx_gd_t, mx_br_T, mx_br_F, mx_br_t, mx_br_f, mx_br_n, mx_cl_T, mx_cl_t, mx_re_T, mx_re_t, mx_rt_v, mx_rt_0, mx_cu_t, mx_w_id, mx_l_id, mx_b_0, mx_b_1, mx_b_r, mx_nl_0, mx_nl_1, mx_nl_2, mx_nl_n, mx_nl_l, mx_sw_n, mx_sw_h, mx_sw_m, Int.reduceLE, Int.reduceLT, Int.reduceEq, Int.reduceAdd, Int.reduceSub, Int.reduceMul, Int.reduceNeg, Int.reduceToNat, and_self, true_and, and_true, false_and, and_false, true_or, or_true, false_or, or_false, not_true_eq_false, not_false_eq_true, eq_self, rw_X7_noteTold, rw_X7_noteTold_1, X.s.e, D.f.sd s0 n5, c3, e0, e1, ci, e2, e5, e6, mx_y_a, e7]
      · have r0 := tpl_m (t := t) (N := N) (p := p) X.p0.2
        have r1 := tpl_m (t := t) (N := N) (p := (tpl t N p)) r0.2
        have r4 := tpl_m (t := t) (N := N) (p := (tpl t N (tpl t N p))) r1.2
        have rm := qn_r (t := t) (N := N) (q := (tpl t N (tpl t N (tpl t N p)))) r4.2 m
        have r5 := tpl_m (t := t) (N := N) (p := qn t N (tpl t N (tpl t N (tpl t N p))) m) rm.2
        have r6 := tpl_m (t := t) (N := N) (p := tpl t N (qn t N (tpl t N (tpl t N (tpl t N p))) m)) r5.2
        omega
      · exact (ntS_i (t := t) (N := N) (q := (tpl t N (tpl t N (tpl t N p)))) (m := m) (κ := κ) (e := tva t N (tpl t N p)) (a := 0) wN k0 h1 (by omega) m5 (fun j hj => by
          by_cases z : j = m
          · rw [z]; exact A.2.2.1.2
          · exact (A.2.1 j (by omega)).1.2)).2.2.2.2.2.2
      · obtain ⟨k, ek, fk, Yk, rk⟩ := N_hA (d := dR) (κ := κ) (n' := n') Y y39 wr wN q1 nm q2
        obtain ⟨g', eg, fg, rg, Z1, Z2⟩ := N_la (d := dR) (n' := n') A wN Yk rk
        rw [mx_b_t c] at eg
        exact ⟨g', ek.trans eg, fk.t fg, Z1 c, rg⟩
    · have e6 := X5.b0 (d := d + 4) (n := n) c
      refine Or.inl ⟨tpl t N (qn t N (tpl t N (tpl t N (tpl t N p))) m), S, g5, n, ?_, X5, D5f, fun S' h' n' Y y39 wr => ?_⟩
      · simp (disch := omega) only [mx_vt_h, mx_vt_m, mx_cmp_0, mx_cmp_1, mx_cmp_2, mx_cmp_3, mx_cmp_4, mx_u_s, mx_u_a, mx_u_k, mx_z_a, mx_z_s, mx_t_a, mx_t_2, mx_t_1, mx_t_0, mx_gd_T, mx_gd_t, mx_br_T, mx_br_F, mx_br_t, mx_br_f, mx_br_n, mx_cl_T, mx_cl_t, mx_re_T, mx_re_t, mx_rt_v, mx_rt_0, mx_cu_t, mx_w_id, mx_l_id, mx_b_0, mx_b_1, mx_b_r, mx_nl_0, mx_nl_1, mx_nl_2, mx_nl_n, mx_nl_l, mx_sw_n, mx_sw_h, mx_sw_m, Int.reduceLE, Int.reduceLT, Int.reduceEq, Int.reduceAdd, Int.reduceSub, Int.reduceMul, Int.reduceNeg, Int.reduceToNat, and_self, true_and, and_true, false_and, and_false, true_or, or_true, false_or, or_false, not_true_eq_false, not_false_eq_true, eq_self, rw_X7_noteTold, rw_X7_noteTold_1, X.s.e, D.f.sd s0 n5, c3, e0, e1, ci, e2, e5, e6]
      · obtain ⟨k, ek, fk, Yk, rk⟩ := N_hA (d := dR) (κ := κ) (n' := n') Y y39 wr wN q1 nm q2
        obtain ⟨g', eg, fg, rg, Z1, Z2⟩ := N_la (d := dR) (n' := n') A wN Yk rk
        rw [mx_b_f c] at eg
        exact ⟨g', ek.trans eg, fk.t fg, Z2 c⟩
  · obtain ⟨g5, e5, f5, X5⟩ := c_mC_b (d := d + 3) (n := n) B m (i := 0) (by omega) X2
    have e5 : mx_M (d + 7) 64 [(2, 22)] S g2 n = some (some (0, 0), S, g5, n) := by
      have z0 : ((0 : Nat) : Int) = 0 := rfl
      rw [z0] at e5
      simp (disch := omega) only [mx_vt_h, mx_vt_m, mx_cmp_0, mx_cmp_1, mx_cmp_2, mx_cmp_3, mx_cmp_4, mx_u_s, mx_u_a, mx_u_k, mx_z_a, mx_z_s, mx_t_a, mx_t_2, mx_t_1, mx_t_0, mx_gd_T, mx_gd_t, mx_br_T, mx_br_F, mx_br_t, mx_br_f, mx_br_n, mx_cl_T, mx_cl_t, mx_re_T, mx_re_t, mx_rt_v, mx_rt_0, mx_cu_t, mx_w_id, mx_l_id, mx_b_0, mx_b_1, mx_b_r, mx_nl_0, mx_nl_1, mx_nl_2, mx_nl_n, mx_nl_l, mx_sw_n, mx_sw_h, mx_sw_m, Int.reduceLE, Int.reduceLT, Int.reduceEq, Int.reduceAdd, Int.reduceSub, Int.reduceMul, Int.reduceNeg, Int.reduceToNat, and_self, true_and, and_true, false_and, and_false, true_or, or_true, false_or, or_false, not_true_eq_false, not_false_eq_true, eq_self, rw_X7_marksTold]
      exact e5
    refine Or.inl ⟨qn t N (tpl t N (tpl t N (tpl t N p))) m, S, g5, n, ?_, X5, DF.mk D2.f.S0 D2.f.S4 (fun b z y => by rw [f5 b (by omega) (by omega)]; exact D2.f.g0 b z y) D2.f.m, fun S' h' n' Y y39 wr => ?_⟩
    · simp (disch := omega) only [mx_vt_h, mx_vt_m, mx_cmp_0, mx_cmp_1, mx_cmp_2, mx_cmp_3, mx_cmp_4, mx_u_s, mx_u_a, mx_u_k, mx_z_a, mx_z_s, mx_t_a, mx_t_2, mx_t_1, mx_t_0, mx_gd_T, mx_gd_t, mx_br_T, mx_br_F, mx_br_t, mx_br_f, mx_br_n, mx_cl_T, mx_cl_t, mx_re_T, mx_re_t, mx_rt_v, mx_rt_0, mx_cu_t, mx_w_id, mx_l_id, mx_b_0, mx_b_1, mx_b_r, mx_nl_0, mx_nl_1, mx_nl_2, mx_nl_n, mx_nl_l, mx_sw_n, mx_sw_h, mx_sw_m, Int.reduceLE, Int.reduceLT, Int.reduceEq, Int.reduceAdd, Int.reduceSub, Int.reduceMul, Int.reduceNeg, Int.reduceToNat, and_self, true_and, and_true, false_and, and_false, true_or, or_true, false_or, or_false, not_true_eq_false, not_false_eq_true, eq_self, rw_X7_noteTold, rw_X7_noteTold_1, X.s.e, D.f.sd s0 n5, c3, e0, e1, ci, e2, e5]
    · obtain ⟨k, ek, fk, Yk, rk⟩ := N_hA (d := dR) (κ := κ) (n' := n') Y y39 wr wN q1 nm q2
      obtain ⟨g', eg, fg, Z⟩ := N_lb (d := dR) (κ := κ) (n' := n') B wN Yk
      exact ⟨g', ek.trans eg, fk.t fg, Z⟩
theorem J_nB (s0 : sv S0 23) (n5 : 53 ≤ n0) (w0 : ws L x S h) (X : CX t N p S h) (D : DS S0 h0 n0 σ S h n) (wN : 0 ≤ σ 0 ∧ σ 0 ≤ 5) (k0 : 0 ≤ κ ∧ κ ≤ 5) (q1 : tnu t N 0 2 (tpl t N p)) (nm : nmm t N (tpl t N (tpl t N p)) 11) (q3 : tnu t N 0 6 (tpl t N (tpl t N (tpl t N p)))) (q4 : tby t N 58 (tpl t N (tpl t N (tpl t N (tpl t N p))))) : JB L x t N S0 h0 n0 p σ (mx_M (d + 8) 63 [(2, 22), (0, κ)] S h n) (fun S' h' n' => mx_M (dR + 8) 170 [(2, 38), (0, κ)] S' h' n') := by
  have c3 : h 23 3 = σ 0 := D.r.c
  obtain ⟨g0, e0, f0, X0⟩ := X.nx (d := d + 5) (n := n)
  have D0 := D.go f0
  obtain ⟨g1, e1, f1, X1⟩ := X0.u (d := d + 4) (n := n) q1
  have D1 := D0.go f1
  have h1 := q1.2
  have wc : ws L x S g1 := w0.f (fun a z => by rw [f1 a (by omega), f0 a (by omega)])
  have ci := c_isN (d := d + 2) (n := n) (A := -21) X1 wc (k := 11) (by decide) (by decide)
  rw [mx_b_t nm] at ci
  obtain ⟨g2, e2, f2, X2⟩ := X1.nx (d := d + 5) (n := n)
  have D2 := D1.go f2
  obtain ⟨g3, e3, f3, X3⟩ := X2.u (d := d + 4) (n := n) q3
  have D3 := D2.go f3
  have h3 := q3.2
  obtain ⟨g4, e4, f4, X4⟩ := X3.b (d := d + 4) (n := n) q4
  have D4 := D3.go f4
  rcases m_d (t := t) (N := N) (q := (tpl t N (tpl t N (tpl t N (tpl t N (tpl t N p)))))) with ⟨m, A⟩ | ⟨m, B⟩
  · have m5 := A.1
    obtain ⟨g5, e5, f5, X5, k5⟩ := c_mC_a (d := d + 3) (n := n) A m (i := 0) (by omega) X4 (fun k hk => absurd hk (by omega))
    have e5 : mx_M (d + 7) 64 [(2, 22)] S g4 n = some (some (0, (m : Int) + 1), S, g5, n) := by
      have z0 : ((0 : Nat) : Int) = 0 := rfl
      rw [z0] at e5
      simp (disch := omega) only [mx_vt_h, mx_vt_m, mx_cmp_0, mx_cmp_1, mx_cmp_2, mx_cmp_3, mx_cmp_4, mx_u_s, mx_u_a, mx_u_k, mx_z_a, mx_z_s, mx_t_a, mx_t_2, mx_t_1, mx_t_0, mx_gd_T, mx_gd_t, mx_br_T, mx_br_F, mx_br_t, mx_br_f, mx_br_n, mx_cl_T, mx_cl_t, mx_re_T, mx_re_t, mx_rt_v, mx_rt_0, mx_cu_t, mx_w_id, mx_l_id, mx_b_0, mx_b_1, mx_b_r, mx_nl_0, mx_nl_1, mx_nl_2, mx_nl_n, mx_nl_l, mx_sw_n, mx_sw_h, mx_sw_m, Int.reduceLE, Int.reduceLT, Int.reduceEq, Int.reduceAdd, Int.reduceSub, Int.reduceMul, Int.reduceNeg, Int.reduceToNat, and_self, true_and, and_true, false_and, and_false, true_or, or_true, false_or, or_false, not_true_eq_false, not_false_eq_true, eq_self, rw_X7_marksTold]
      exact e5
    have D5f : DF S0 h0 n0 S g5 n := DF.mk D4.f.S0 D4.f.S4 (fun b z y => by rw [f5 b (by omega) (by omega)]; exact D4.f.g0 b z y) D4.f.m
    have D5 : DS S0 h0 n0 σ S g5 n := DS.mk D5f (D4.r.gg (by rw [f5 23 (by decide) (by decide)]) (by rw [f5 23 (by decide) (by decide)]) (f5 24 (by decide) (by decide)) (f5 25 (by decide) (by decide)) (f5 26 (by decide) (by decide)) rfl (fun _ _ _ => rfl) (fun b a _ => f5 b (by omega) (by omega)) (Int.le_refl _)) D.w D.m
    by_cases c : tby t N 59 (tpl t N (qn t N (tpl t N (tpl t N (tpl t N (tpl t N (tpl t N p))))) m))
    · obtain ⟨g6, e6, f6, X6⟩ := X5.b (d := d + 4) (n := n) c
      have D6 := D5.go f6
      obtain ⟨T2, g7, w, e7, X7, D7⟩ := N_add (d := d + 2) (κ := κ) (e := tva t N (tpl t N p)) (a := tva t N (tpl t N (tpl t N (tpl t N p)))) s0 n5 A D6 X6 wN k0 h1 (by omega) (fun k hk => by rw [f6 28 (by decide)]; exact k5 k hk)
      have Df := D.f.m
      refine Or.inr ⟨tpl t N (tpl t N (qn t N (tpl t N (tpl t N (tpl t N (tpl t N (tpl t N p))))) m)), ntS t N (tpl t N (tpl t N (tpl t N (tpl t N (tpl t N p))))) σ κ (tva t N (tpl t N p)) (tva t N (tpl t N (tpl t N (tpl t N p)))) m, T2, g7, n + 1 + 1, ?_, X7, D7, ?_, ?_, fun S' h' n' Y y39 wr => ?_⟩
      · simp (disch := omega) only [mx_vt_h, mx_vt_m, mx_cmp_0, mx_cmp_1, mx_cmp_2, mx_cmp_3, mx_cmp_4, mx_u_s, mx_u_a, mx_u_k, mx_z_a, mx_z_s, mx_t_a, mx_t_2, mx_t_1, mx_t_0, mx_gd_T, mx_gd_t, mx_br_T, mx_br_F, mx_br_t, mx_br_f, mx_br_n, mx_cl_T, mx_cl_t, mx_re_T, mx_re_t, mx_rt_v, mx_rt_0, mx_cu_t, mx_w_id, mx_l_id, mx_b_0, mx_b_1, mx_b_r, mx_nl_0, mx_nl_1, mx_nl_2, mx_nl_n, mx_nl_l, mx_sw_n, mx_sw_h, mx_sw_m, Int.reduceLE, Int.reduceLT, Int.reduceEq, Int.reduceAdd, Int.reduceSub, Int.reduceMul, Int.reduceNeg, Int.reduceToNat, and_self, true_and, and_true, false_and, and_false, true_or, or_true, false_or, or_false, not_true_eq_false, not_false_eq_true, eq_self, rw_X7_noteTold, rw_X7_noteTold_1, X.s.e, D.f.sd s0 n5, c3, e0, e1, ci, e2, e3, e4, e5, e6, mx_y_a, e7]
      · have r0 := tpl_m (t := t) (N := N) (p := p) X.p0.2
        have r1 := tpl_m (t := t) (N := N) (p := (tpl t N p)) r0.2
        have r2 := tpl_m (t := t) (N := N) (p := (tpl t N (tpl t N p))) r1.2
        have r3 := tpl_m (t := t) (N := N) (p := (tpl t N (tpl t N (tpl t N p)))) r2.2
        have r4 := tpl_m (t := t) (N := N) (p := (tpl t N (tpl t N (tpl t N (tpl t N p))))) r3.2
        have rm := qn_r (t := t) (N := N) (q := (tpl t N (tpl t N (tpl t N (tpl t N (tpl t N p)))))) r4.2 m
        have r5 := tpl_m (t := t) (N := N) (p := qn t N (tpl t N (tpl t N (tpl t N (tpl t N (tpl t N p))))) m) rm.2
        have r6 := tpl_m (t := t) (N := N) (p := tpl t N (qn t N (tpl t N (tpl t N (tpl t N (tpl t N (tpl t N p))))) m)) r5.2
        omega
      · exact (ntS_i (t := t) (N := N) (q := (tpl t N (tpl t N (tpl t N (tpl t N (tpl t N p)))))) (m := m) (κ := κ) (e := tva t N (tpl t N p)) (a := tva t N (tpl t N (tpl t N (tpl t N p)))) wN k0 h1 (by omega) m5 (fun j hj => by
          by_cases z : j = m
          · rw [z]; exact A.2.2.1.2
          · exact (A.2.1 j (by omega)).1.2)).2.2.2.2.2.2
      · obtain ⟨k, ek, fk, Yk, rk⟩ := N_hB (d := dR) (κ := κ) (n' := n') Y y39 wr wN q1 nm q3 q4
        obtain ⟨g', eg, fg, rg, Z1, Z2⟩ := N_la (d := dR) (n' := n') A wN Yk rk
        rw [mx_b_t c] at eg
        exact ⟨g', ek.trans eg, fk.t fg, Z1 c, rg⟩
    · have e6 := X5.b0 (d := d + 4) (n := n) c
      refine Or.inl ⟨tpl t N (qn t N (tpl t N (tpl t N (tpl t N (tpl t N (tpl t N p))))) m), S, g5, n, ?_, X5, D5f, fun S' h' n' Y y39 wr => ?_⟩
      · simp (disch := omega) only [mx_vt_h, mx_vt_m, mx_cmp_0, mx_cmp_1, mx_cmp_2, mx_cmp_3, mx_cmp_4, mx_u_s, mx_u_a, mx_u_k, mx_z_a, mx_z_s, mx_t_a, mx_t_2, mx_t_1, mx_t_0, mx_gd_T, mx_gd_t, mx_br_T, mx_br_F, mx_br_t, mx_br_f, mx_br_n, mx_cl_T, mx_cl_t, mx_re_T, mx_re_t, mx_rt_v, mx_rt_0, mx_cu_t, mx_w_id, mx_l_id, mx_b_0, mx_b_1, mx_b_r, mx_nl_0, mx_nl_1, mx_nl_2, mx_nl_n, mx_nl_l, mx_sw_n, mx_sw_h, mx_sw_m, Int.reduceLE, Int.reduceLT, Int.reduceEq, Int.reduceAdd, Int.reduceSub, Int.reduceMul, Int.reduceNeg, Int.reduceToNat, and_self, true_and, and_true, false_and, and_false, true_or, or_true, false_or, or_false, not_true_eq_false, not_false_eq_true, eq_self, rw_X7_noteTold, rw_X7_noteTold_1, X.s.e, D.f.sd s0 n5, c3, e0, e1, ci, e2, e3, e4, e5, e6]
      · obtain ⟨k, ek, fk, Yk, rk⟩ := N_hB (d := dR) (κ := κ) (n' := n') Y y39 wr wN q1 nm q3 q4
        obtain ⟨g', eg, fg, rg, Z1, Z2⟩ := N_la (d := dR) (n' := n') A wN Yk rk
        rw [mx_b_f c] at eg
        exact ⟨g', ek.trans eg, fk.t fg, Z2 c⟩
  · obtain ⟨g5, e5, f5, X5⟩ := c_mC_b (d := d + 3) (n := n) B m (i := 0) (by omega) X4
    have e5 : mx_M (d + 7) 64 [(2, 22)] S g4 n = some (some (0, 0), S, g5, n) := by
      have z0 : ((0 : Nat) : Int) = 0 := rfl
      rw [z0] at e5
      simp (disch := omega) only [mx_vt_h, mx_vt_m, mx_cmp_0, mx_cmp_1, mx_cmp_2, mx_cmp_3, mx_cmp_4, mx_u_s, mx_u_a, mx_u_k, mx_z_a, mx_z_s, mx_t_a, mx_t_2, mx_t_1, mx_t_0, mx_gd_T, mx_gd_t, mx_br_T, mx_br_F, mx_br_t, mx_br_f, mx_br_n, mx_cl_T, mx_cl_t, mx_re_T, mx_re_t, mx_rt_v, mx_rt_0, mx_cu_t, mx_w_id, mx_l_id, mx_b_0, mx_b_1, mx_b_r, mx_nl_0, mx_nl_1, mx_nl_2, mx_nl_n, mx_nl_l, mx_sw_n, mx_sw_h, mx_sw_m, Int.reduceLE, Int.reduceLT, Int.reduceEq, Int.reduceAdd, Int.reduceSub, Int.reduceMul, Int.reduceNeg, Int.reduceToNat, and_self, true_and, and_true, false_and, and_false, true_or, or_true, false_or, or_false, not_true_eq_false, not_false_eq_true, eq_self, rw_X7_marksTold]
      exact e5
    refine Or.inl ⟨qn t N (tpl t N (tpl t N (tpl t N (tpl t N (tpl t N p))))) m, S, g5, n, ?_, X5, DF.mk D4.f.S0 D4.f.S4 (fun b z y => by rw [f5 b (by omega) (by omega)]; exact D4.f.g0 b z y) D4.f.m, fun S' h' n' Y y39 wr => ?_⟩
    · simp (disch := omega) only [mx_vt_h, mx_vt_m, mx_cmp_0, mx_cmp_1, mx_cmp_2, mx_cmp_3, mx_cmp_4, mx_u_s, mx_u_a, mx_u_k, mx_z_a, mx_z_s, mx_t_a, mx_t_2, mx_t_1, mx_t_0, mx_gd_T, mx_gd_t, mx_br_T, mx_br_F, mx_br_t, mx_br_f, mx_br_n, mx_cl_T, mx_cl_t, mx_re_T, mx_re_t, mx_rt_v, mx_rt_0, mx_cu_t, mx_w_id, mx_l_id, mx_b_0, mx_b_1, mx_b_r, mx_nl_0, mx_nl_1, mx_nl_2, mx_nl_n, mx_nl_l, mx_sw_n, mx_sw_h, mx_sw_m, Int.reduceLE, Int.reduceLT, Int.reduceEq, Int.reduceAdd, Int.reduceSub, Int.reduceMul, Int.reduceNeg, Int.reduceToNat, and_self, true_and, and_true, false_and, and_false, true_or, or_true, false_or, or_false, not_true_eq_false, not_false_eq_true, eq_self, rw_X7_noteTold, rw_X7_noteTold_1, X.s.e, D.f.sd s0 n5, c3, e0, e1, ci, e2, e3, e4, e5]
    · obtain ⟨k, ek, fk, Yk, rk⟩ := N_hB (d := dR) (κ := κ) (n' := n') Y y39 wr wN q1 nm q3 q4
      obtain ⟨g', eg, fg, Z⟩ := N_lb (d := dR) (κ := κ) (n' := n') B wN Yk
      exact ⟨g', ek.trans eg, fk.t fg, Z⟩
theorem J_nt (s0 : sv S0 23) (n5 : 53 ≤ n0) (w0 : ws L x S h) (X : CX t N p S h) (D : DS S0 h0 n0 σ S h n) (k0 : 0 ≤ κ ∧ κ ≤ 5) : JB L x t N S0 h0 n0 p σ (mx_M (d + 8) 63 [(2, 22), (0, κ)] S h n) (fun S' h' n' => mx_M (dR + 8) 170 [(2, 38), (0, κ)] S' h' n') := by
  have wN := D.w.N
  have c3 : h 23 3 = σ 0 := D.r.c
  by_cases q6 : σ 0 = 6
  · refine Or.inl ⟨p, S, h, n, ?_, X, D.f, fun S' h' n' Y y39 wr => ⟨h', ?_, fR_0, Y⟩⟩
    · simp (disch := omega) only [mx_vt_h, mx_vt_m, mx_cmp_0, mx_cmp_1, mx_cmp_2, mx_cmp_3, mx_cmp_4, mx_u_s, mx_u_a, mx_u_k, mx_z_a, mx_z_s, mx_t_a, mx_t_2, mx_t_1, mx_t_0, mx_gd_T, mx_gd_t, mx_br_T, mx_br_F, mx_br_t, mx_br_f, mx_br_n, mx_cl_T, mx_cl_t, mx_re_T, mx_re_t, mx_rt_v, mx_rt_0, mx_cu_t, mx_w_id, mx_l_id, mx_b_0, mx_b_1, mx_b_r, mx_nl_0, mx_nl_1, mx_nl_2, mx_nl_n, mx_nl_l, mx_sw_n, mx_sw_h, mx_sw_m, Int.reduceLE, Int.reduceLT, Int.reduceEq, Int.reduceAdd, Int.reduceSub, Int.reduceMul, Int.reduceNeg, Int.reduceToNat, and_self, true_and, and_true, false_and, and_false, true_or, or_true, false_or, or_false, not_true_eq_false, not_false_eq_true, eq_self, rw_X7_noteTold, rw_X7_noteTold_1, X.s.e, D.f.sd s0 n5, c3]
    · simp (disch := omega) only [mx_vt_h, mx_vt_m, mx_cmp_0, mx_cmp_1, mx_cmp_2, mx_cmp_3, mx_cmp_4, mx_u_s, mx_u_a, mx_u_k, mx_z_a, mx_z_s, mx_t_a, mx_t_2, mx_t_1, mx_t_0, mx_gd_T, mx_gd_t, mx_br_T, mx_br_F, mx_br_t, mx_br_f, mx_br_n, mx_cl_T, mx_cl_t, mx_re_T, mx_re_t, mx_rt_v, mx_rt_0, mx_cu_t, mx_w_id, mx_l_id, mx_b_0, mx_b_1, mx_b_r, mx_nl_0, mx_nl_1, mx_nl_2, mx_nl_n, mx_nl_l, mx_sw_n, mx_sw_h, mx_sw_m, Int.reduceLE, Int.reduceLT, Int.reduceEq, Int.reduceAdd, Int.reduceSub, Int.reduceMul, Int.reduceNeg, Int.reduceToNat, and_self, true_and, and_true, false_and, and_false, true_or, or_true, false_or, or_false, not_true_eq_false, not_false_eq_true, eq_self, rw_X12_takesNote, rw_X12_takesNote_1, Y.m.e, y39, q6]
  have wN : 0 ≤ σ 0 ∧ σ 0 ≤ 5 := by omega
  obtain ⟨g0, e0, f0, X0⟩ := X.nx (d := d + 5) (n := n)
  have D0 := D.go f0
  by_cases q1 : tnu t N 0 2 (tpl t N p)
  rotate_left 1
  · refine Or.inl ⟨(tpl t N p), S, g0, n, ?_, X0, D0.f, fun S' h' n' Y y39 wr => N_r1 (d := dR) Y y39 wr wN q1⟩
    have zz := X0.u0 (d := d + 4) (n := n) q1
    simp (disch := omega) only [mx_vt_h, mx_vt_m, mx_cmp_0, mx_cmp_1, mx_cmp_2, mx_cmp_3, mx_cmp_4, mx_u_s, mx_u_a, mx_u_k, mx_z_a, mx_z_s, mx_t_a, mx_t_2, mx_t_1, mx_t_0, mx_gd_T, mx_gd_t, mx_br_T, mx_br_F, mx_br_t, mx_br_f, mx_br_n, mx_cl_T, mx_cl_t, mx_re_T, mx_re_t, mx_rt_v, mx_rt_0, mx_cu_t, mx_w_id, mx_l_id, mx_b_0, mx_b_1, mx_b_r, mx_nl_0, mx_nl_1, mx_nl_2, mx_nl_n, mx_nl_l, mx_sw_n, mx_sw_h, mx_sw_m, Int.reduceLE, Int.reduceLT, Int.reduceEq, Int.reduceAdd, Int.reduceSub, Int.reduceMul, Int.reduceNeg, Int.reduceToNat, and_self, true_and, and_true, false_and, and_false, true_or, or_true, false_or, or_false, not_true_eq_false, not_false_eq_true, eq_self, rw_X7_noteTold, rw_X7_noteTold_1, X.s.e, D.f.sd s0 n5, c3, e0, zz]
  obtain ⟨g1, e1, f1, X1⟩ := X0.u (d := d + 4) (n := n) q1
  have D1 := D0.go f1
  have h1 := q1.2
  have wc : ws L x S g1 := w0.f (fun a z => by rw [f1 a (by omega), f0 a (by omega)])
  have ci := c_isN (d := d + 2) (n := n) (A := -21) X1 wc (k := 11) (by decide) (by decide)
  by_cases nm : nmm t N (tpl t N (tpl t N p)) 11
  · rw [mx_b_t nm] at ci
    obtain ⟨g2, e2, f2, X2⟩ := X1.nx (d := d + 5) (n := n)
    have D2 := D1.go f2
    by_cases q3 : tnu t N 0 6 (tpl t N (tpl t N (tpl t N p)))
    · obtain ⟨g3, e3, f3, X3⟩ := X2.u (d := d + 4) (n := n) q3
      have D3 := D2.go f3
      have h3 := q3.2
      by_cases q4 : tby t N 58 (tpl t N (tpl t N (tpl t N (tpl t N p))))
      · exact J_nB s0 n5 w0 X D wN k0 q1 nm q3 q4
      · refine Or.inl ⟨(tpl t N (tpl t N (tpl t N (tpl t N p)))), S, g3, n, ?_, X3, D3.f, fun S' h' n' Y y39 wr => N_rB (d := dR) Y y39 wr wN q1 nm q3 q4⟩
        have zz := X3.b0 (d := d + 4) (n := n) q4
        simp (disch := omega) only [mx_vt_h, mx_vt_m, mx_cmp_0, mx_cmp_1, mx_cmp_2, mx_cmp_3, mx_cmp_4, mx_u_s, mx_u_a, mx_u_k, mx_z_a, mx_z_s, mx_t_a, mx_t_2, mx_t_1, mx_t_0, mx_gd_T, mx_gd_t, mx_br_T, mx_br_F, mx_br_t, mx_br_f, mx_br_n, mx_cl_T, mx_cl_t, mx_re_T, mx_re_t, mx_rt_v, mx_rt_0, mx_cu_t, mx_w_id, mx_l_id, mx_b_0, mx_b_1, mx_b_r, mx_nl_0, mx_nl_1, mx_nl_2, mx_nl_n, mx_nl_l, mx_sw_n, mx_sw_h, mx_sw_m, Int.reduceLE, Int.reduceLT, Int.reduceEq, Int.reduceAdd, Int.reduceSub, Int.reduceMul, Int.reduceNeg, Int.reduceToNat, and_self, true_and, and_true, false_and, and_false, true_or, or_true, false_or, or_false, not_true_eq_false, not_false_eq_true, eq_self, rw_X7_noteTold, rw_X7_noteTold_1, X.s.e, D.f.sd s0 n5, c3, e0, e1, ci, e2, e3, zz]
    · refine Or.inl ⟨(tpl t N (tpl t N (tpl t N p))), S, g2, n, ?_, X2, D2.f, fun S' h' n' Y y39 wr => N_r3 (d := dR) Y y39 wr wN q1 nm q3⟩
      have zz := X2.u0 (d := d + 4) (n := n) q3
      simp (disch := omega) only [mx_vt_h, mx_vt_m, mx_cmp_0, mx_cmp_1, mx_cmp_2, mx_cmp_3, mx_cmp_4, mx_u_s, mx_u_a, mx_u_k, mx_z_a, mx_z_s, mx_t_a, mx_t_2, mx_t_1, mx_t_0, mx_gd_T, mx_gd_t, mx_br_T, mx_br_F, mx_br_t, mx_br_f, mx_br_n, mx_cl_T, mx_cl_t, mx_re_T, mx_re_t, mx_rt_v, mx_rt_0, mx_cu_t, mx_w_id, mx_l_id, mx_b_0, mx_b_1, mx_b_r, mx_nl_0, mx_nl_1, mx_nl_2, mx_nl_n, mx_nl_l, mx_sw_n, mx_sw_h, mx_sw_m, Int.reduceLE, Int.reduceLT, Int.reduceEq, Int.reduceAdd, Int.reduceSub, Int.reduceMul, Int.reduceNeg, Int.reduceToNat, and_self, true_and, and_true, false_and, and_false, true_or, or_true, false_or, or_false, not_true_eq_false, not_false_eq_true, eq_self, rw_X7_noteTold, rw_X7_noteTold_1, X.s.e, D.f.sd s0 n5, c3, e0, e1, ci, e2, zz]
  · rw [mx_b_f nm] at ci
    by_cases q2 : tby t N 58 (tpl t N (tpl t N p))
    · exact J_nA s0 n5 w0 X D wN k0 q1 nm q2
    · refine Or.inl ⟨(tpl t N (tpl t N p)), S, g1, n, ?_, X1, D1.f, fun S' h' n' Y y39 wr => N_rA (d := dR) Y y39 wr wN q1 nm q2⟩
      have zz := X1.b0 (d := d + 4) (n := n) q2
      simp (disch := omega) only [mx_vt_h, mx_vt_m, mx_cmp_0, mx_cmp_1, mx_cmp_2, mx_cmp_3, mx_cmp_4, mx_u_s, mx_u_a, mx_u_k, mx_z_a, mx_z_s, mx_t_a, mx_t_2, mx_t_1, mx_t_0, mx_gd_T, mx_gd_t, mx_br_T, mx_br_F, mx_br_t, mx_br_f, mx_br_n, mx_cl_T, mx_cl_t, mx_re_T, mx_re_t, mx_rt_v, mx_rt_0, mx_cu_t, mx_w_id, mx_l_id, mx_b_0, mx_b_1, mx_b_r, mx_nl_0, mx_nl_1, mx_nl_2, mx_nl_n, mx_nl_l, mx_sw_n, mx_sw_h, mx_sw_m, Int.reduceLE, Int.reduceLT, Int.reduceEq, Int.reduceAdd, Int.reduceSub, Int.reduceMul, Int.reduceNeg, Int.reduceToNat, and_self, true_and, and_true, false_and, and_false, true_or, or_true, false_or, or_false, not_true_eq_false, not_false_eq_true, eq_self, rw_X7_noteTold, rw_X7_noteTold_1, X.s.e, D.f.sd s0 n5, c3, e0, e1, ci, zz]
end
