/-! Calls about worlds -/
section
variable {L : Nat} {x : Nat → Int32} {S h g : mx_H} {n c : Int} {d : Nat}
/-- the luck alone has changed -/
theorem Inv.q (v : Inv L x S h n c) (q : qv (h 39) (g 39)) (f : ∀ a, ¬ a = 39 → ¬ a = 0 → g a = h a) (f0 : ∀ k, ¬ k = 6 → g 0 k = h 0 k) (u : g 0 6 = g 39 2) : Inv L x S g n c := by
  have h0 : g 39 0 = h 39 0 := q 0 (by decide) (by decide) (by decide)
  have e38 := f 38 (by decide) (by decide)
  have w := v.t.w
  refine Inv.mk v.s (fun a z => by rw [f a (by omega) (by omega)]; exact v.g a z) v.n v.c ?_ ?_ ?_ ?_ ?_ ?_ ?_ ?_
  · refine stt.mk (vw_q w q) ?_ ?_ u
    · have r := v.t.r.gg (g := g) (T := S) (M := n) (by rw [f 3 (by decide) (by decide)]) (by rw [f 3 (by decide) (by decide)]) (f 4 (by decide) (by decide)) (f 5 (by decide) (by decide)) (f 6 (by decide) (by decide)) rfl (fun _ _ _ => rfl) (fun a y _ => f a (by omega) (by omega)) (Int.le_refl _)
      exact rr_q w q r
    · rw [h0]; exact v.t.d
  · refine kpt.mk (by rw [f0 5 (by decide), e38]; exact v.k.b) (by rw [e38]; exact v.k.c) ?_ ?_ ?_ ?_
    · intro y; rw [e38] at y; rw [f 40 (by decide) (by decide)]; exact v.k.w y
    · intro y; rw [e38] at y; rw [f 40 (by decide) (by decide)]
      exact (v.k.r y).gg (by rw [f 17 (by decide) (by decide)]) (by rw [f 17 (by decide) (by decide)]) (f 18 (by decide) (by decide)) (f 19 (by decide) (by decide)) (f 20 (by decide) (by decide)) rfl (fun _ _ _ => rfl) (fun a y _ => f a (by omega) (by omega)) (Int.le_refl _)
    · intro y; rw [e38] at y; rw [f 40 (by decide) (by decide), f0 7 (by decide)]; exact v.k.u y
    · intro y; rw [e38] at y; unfold ap; rw [h0, f 40 (by decide) (by decide)]; exact v.k.d y
  · exact v.p.gg (f0 1 (by decide)) (by rw [e38]) (f 1 (by decide) (by decide)) (f 42 (by decide) (by decide))
  · exact v.r.gg (f0 10 (by decide)) (by rw [e38]) (f 30 (by decide) (by decide)) (f 46 (by decide) (by decide))
  · exact v.b.gg (f 47 (by decide) (by decide)) (f 48 (by decide) (by decide)) (f 49 (by decide) (by decide)) rfl (fun _ _ _ => rfl) (fun a _ _ _ => f a (by omega) (by omega)) (Int.le_refl _)
  · exact v.l.gg (f 33 (by decide) (by decide)) (f 34 (by decide) (by decide)) (f 50 (by decide) (by decide)) (f 51 (by decide) (by decide)) rfl (fun _ _ _ => rfl) (fun a _ _ _ => f a (by omega) (by omega)) (Int.le_refl _)
  · exact v.i.gg (f 36 (by decide) (by decide)) (by rw [e38]) (f 37 (by decide) (by decide)) (f 52 (by decide) (by decide))
  · have e2 := f 2 (by decide) (by decide)
    have e3 := f 3 (by decide) (by decide)
    refine fnd.mk (fun k a b y => by rw [f 15 (by decide) (by decide)]; exact v.f.z k a b y) (fun y => ?_) (fun y => ?_) (by rw [e3]; exact v.f.v) (by rw [e2, e3]; exact v.f.a) (by rw [e2, e3]; exact v.f.b)
    · rw [e2, e3] at y
      exact fc_q w q ((v.f.f y).gg (by rw [e2]) (f 15 (by decide) (by decide)) (f 16 (by decide) (by decide)))
    · rw [e2, e3] at y
      exact mf_q w q ((v.f.m y).gg (by rw [e2]) (by rw [e2]) (by rw [e2]))
theorem cT_lt {σ : Int → Int} {y u : Int} (u0 : 0 ≤ u) (u1 : u < 4913) (w : wi σ y u) : cT σ y u < cT σ y 4913 := by
  have e1 := cT_S (σ := σ) (x := y) u0
  rw [mx_b_t w] at e1
  have e2 := (cT_m (σ := σ) (x := y) (t := u + 1) (u := 4913) (by omega) (by omega)).1
  generalize cT σ y 4913 = A at *
  generalize cT σ y (u + 1) = B at *
  generalize cT σ y u = C at *
  omega
theorem qv_2 {e : Int} : qv (h 39) (mx_u h 39 2 e 39) := fun k _ _ q => by rw [mx_u_k q]
theorem a_seed {a : Int} (hc : c ≤ 599) : ag L x 125 217 [(0, a)] 0 c := by
  intro d S h n v
  have hX := v.s.x.e
  have hM := v.s.m.e
  have u := v.t.u
  simp (disch := omega) only [mx_vt_h, mx_vt_m, mx_cmp_0, mx_cmp_1, mx_cmp_2, mx_cmp_3, mx_cmp_4, mx_u_s, mx_u_a, mx_u_k, mx_z_a, mx_z_s, mx_t_a, mx_t_2, mx_t_1, mx_t_0, mx_gd_T, mx_gd_t, mx_br_T, mx_br_F, mx_br_t, mx_br_f, mx_br_n, mx_cl_T, mx_cl_t, mx_re_T, mx_re_t, mx_rt_v, mx_rt_0, mx_cu_t, mx_w_id, mx_l_id, mx_b_0, mx_b_1, mx_b_r, mx_nl_0, mx_nl_1, mx_nl_2, mx_nl_n, mx_nl_l, mx_sw_n, mx_sw_h, mx_sw_m, Int.reduceLE, Int.reduceLT, Int.reduceEq, Int.reduceAdd, Int.reduceSub, Int.reduceMul, Int.reduceNeg, Int.reduceToNat, and_self, true_and, and_true, false_and, and_false, true_or, or_true, false_or, or_false, not_true_eq_false, not_false_eq_true, eq_self, rw_X11_seed, hX, u]
  refine mx_W_s ?_
  simp (disch := omega) only [mx_vt_h, mx_vt_m, mx_cmp_0, mx_cmp_1, mx_cmp_2, mx_cmp_3, mx_cmp_4, mx_u_s, mx_u_a, mx_u_k, mx_z_a, mx_z_s, mx_t_a, mx_t_2, mx_t_1, mx_t_0, mx_gd_T, mx_gd_t, mx_br_T, mx_br_F, mx_br_t, mx_br_f, mx_br_n, mx_cl_T, mx_cl_t, mx_re_T, mx_re_t, mx_rt_v, mx_rt_0, mx_cu_t, mx_w_id, mx_l_id, mx_b_0, mx_b_1, mx_b_r, mx_nl_0, mx_nl_1, mx_nl_2, mx_nl_n, mx_nl_l, mx_sw_n, mx_sw_h, mx_sw_m, Int.reduceLE, Int.reduceLT, Int.reduceEq, Int.reduceAdd, Int.reduceSub, Int.reduceMul, Int.reduceNeg, Int.reduceToNat, and_self, true_and, and_true, false_and, and_false, true_or, or_true, false_or, or_false, not_true_eq_false, not_false_eq_true, eq_self, rw_X12_seed, hM]
  refine mx_W_s ⟨⟨_, rfl, rfl⟩, Inv.w (v.q ?_ ?_ ?_ ?_) hc⟩
  · intro k k0 k1 k2; rw [mx_u_k k2, mx_u_a (by decide)]
  · intro b y z; rw [mx_u_a y, mx_u_a z]
  · intro k y; rw [mx_u_a (by decide), mx_u_k y]
  · rw [mx_u_a (by decide), mx_u_s, mx_u_s]
theorem a_worlds (hc : c ≤ 599) : ag L x 112 196 [] 0 c := by
  intro d S h n v
  have hX := v.s.x.e
  have hF := v.s.f.e
  have hM := v.s.m
  simp (disch := omega) only [mx_vt_h, mx_vt_m, mx_cmp_0, mx_cmp_1, mx_cmp_2, mx_cmp_3, mx_cmp_4, mx_u_s, mx_u_a, mx_u_k, mx_z_a, mx_z_s, mx_t_a, mx_t_2, mx_t_1, mx_t_0, mx_gd_T, mx_gd_t, mx_br_T, mx_br_F, mx_br_t, mx_br_f, mx_br_n, mx_cl_T, mx_cl_t, mx_re_T, mx_re_t, mx_rt_v, mx_rt_0, mx_cu_t, mx_w_id, mx_l_id, mx_b_0, mx_b_1, mx_b_r, mx_nl_0, mx_nl_1, mx_nl_2, mx_nl_n, mx_nl_l, mx_sw_n, mx_sw_h, mx_sw_m, Int.reduceLE, Int.reduceLT, Int.reduceEq, Int.reduceAdd, Int.reduceSub, Int.reduceMul, Int.reduceNeg, Int.reduceToNat, and_self, true_and, and_true, false_and, and_false, true_or, or_true, false_or, or_false, not_true_eq_false, not_false_eq_true, eq_self, rw_X11_worlds, hX, hF]
  refine mx_W_r (c_howMany v.s.f v.t.w v.t.r v.o v.f.z v.f.f ?_)
  intro g f c1 q
  have v1 := v.r' f c1 q
  have e39 := f.f 39 (by decide) (by decide)
  show mx_W (mx_ex _ _ _ _ [_] _ _ _) _
  simp (disch := omega) only [mx_vt_h, mx_vt_m, mx_cmp_0, mx_cmp_1, mx_cmp_2, mx_cmp_3, mx_cmp_4, mx_u_s, mx_u_a, mx_u_k, mx_z_a, mx_z_s, mx_t_a, mx_t_2, mx_t_1, mx_t_0, mx_gd_T, mx_gd_t, mx_br_T, mx_br_F, mx_br_t, mx_br_f, mx_br_n, mx_cl_T, mx_cl_t, mx_re_T, mx_re_t, mx_rt_v, mx_rt_0, mx_cu_t, mx_w_id, mx_l_id, mx_b_0, mx_b_1, mx_b_r, mx_nl_0, mx_nl_1, mx_nl_2, mx_nl_n, mx_nl_l, mx_sw_n, mx_sw_h, mx_sw_m, Int.reduceLE, Int.reduceLT, Int.reduceEq, Int.reduceAdd, Int.reduceSub, Int.reduceMul, Int.reduceNeg, Int.reduceToNat, and_self, true_and, and_true, false_and, and_false, true_or, or_true, false_or, or_false, not_true_eq_false, not_false_eq_true, eq_self, rw_X11_worlds]
  refine mx_W_s ?_
  simp (disch := omega) only [mx_vt_h, mx_vt_m, mx_cmp_0, mx_cmp_1, mx_cmp_2, mx_cmp_3, mx_cmp_4, mx_u_s, mx_u_a, mx_u_k, mx_z_a, mx_z_s, mx_t_a, mx_t_2, mx_t_1, mx_t_0, mx_gd_T, mx_gd_t, mx_br_T, mx_br_F, mx_br_t, mx_br_f, mx_br_n, mx_cl_T, mx_cl_t, mx_re_T, mx_re_t, mx_rt_v, mx_rt_0, mx_cu_t, mx_w_id, mx_l_id, mx_b_0, mx_b_1, mx_b_r, mx_nl_0, mx_nl_1, mx_nl_2, mx_nl_n, mx_nl_l, mx_sw_n, mx_sw_h, mx_sw_m, Int.reduceLE, Int.reduceLT, Int.reduceEq, Int.reduceAdd, Int.reduceSub, Int.reduceMul, Int.reduceNeg, Int.reduceToNat, and_self, true_and, and_true, false_and, and_false, true_or, or_true, false_or, or_false, not_true_eq_false, not_false_eq_true, eq_self, rw_X12_worlds, hM.e]
  refine mx_W_r (c_fwA hM v1.t.w ?_)
  intro g2 f2
  rw [e39]
  show mx_W (mx_ex _ _ _ _ [_] _ _ _) _
  simp (disch := omega) only [mx_vt_h, mx_vt_m, mx_cmp_0, mx_cmp_1, mx_cmp_2, mx_cmp_3, mx_cmp_4, mx_u_s, mx_u_a, mx_u_k, mx_z_a, mx_z_s, mx_t_a, mx_t_2, mx_t_1, mx_t_0, mx_gd_T, mx_gd_t, mx_br_T, mx_br_F, mx_br_t, mx_br_f, mx_br_n, mx_cl_T, mx_cl_t, mx_re_T, mx_re_t, mx_rt_v, mx_rt_0, mx_cu_t, mx_w_id, mx_l_id, mx_b_0, mx_b_1, mx_b_r, mx_nl_0, mx_nl_1, mx_nl_2, mx_nl_n, mx_nl_l, mx_sw_n, mx_sw_h, mx_sw_m, Int.reduceLE, Int.reduceLT, Int.reduceEq, Int.reduceAdd, Int.reduceSub, Int.reduceMul, Int.reduceNeg, Int.reduceToNat, and_self, true_and, and_true, false_and, and_false, true_or, or_true, false_or, or_false, not_true_eq_false, not_false_eq_true, eq_self, rw_X12_worlds]
  exact mx_W_s ⟨⟨_, rfl, rfl⟩, (v1.m f2.f).w hc⟩
theorem a_world {k e : Int} (hc : c ≤ 599) (k0 : -2147483648 ≤ k) (k1 : k ≤ 2147483647) : ag L x 113 199 [(0, k), (0, e)] 0 c := by
  intro d S h n v
  have hX := v.s.x.e
  have hF := v.s.f.e
  have hM := v.s.m
  by_cases q : 0 ≤ e ∧ e ≤ 2
  · simp (disch := omega) only [mx_vt_h, mx_vt_m, mx_cmp_0, mx_cmp_1, mx_cmp_2, mx_cmp_3, mx_cmp_4, mx_u_s, mx_u_a, mx_u_k, mx_z_a, mx_z_s, mx_t_a, mx_t_2, mx_t_1, mx_t_0, mx_gd_T, mx_gd_t, mx_br_T, mx_br_F, mx_br_t, mx_br_f, mx_br_n, mx_cl_T, mx_cl_t, mx_re_T, mx_re_t, mx_rt_v, mx_rt_0, mx_cu_t, mx_w_id, mx_l_id, mx_b_0, mx_b_1, mx_b_r, mx_nl_0, mx_nl_1, mx_nl_2, mx_nl_n, mx_nl_l, mx_sw_n, mx_sw_h, mx_sw_m, Int.reduceLE, Int.reduceLT, Int.reduceEq, Int.reduceAdd, Int.reduceSub, Int.reduceMul, Int.reduceNeg, Int.reduceToNat, and_self, true_and, and_true, false_and, and_false, true_or, or_true, false_or, or_false, not_true_eq_false, not_false_eq_true, eq_self, rw_X11_world, hX, hF, c_xEv, mx_b_t q]
    refine mx_W_r (c_goTo v.s.f v.t.w v.t.r v.o v.f.z v.f.f ?_ ?_)
    · intro g f c1 q1 nk
      have v1 := v.r' f c1 q1
      have e39 := f.f 39 (by decide) (by decide)
      show mx_W (mx_ex _ _ _ _ [_] _ _ _) _
      simp (disch := omega) only [mx_vt_h, mx_vt_m, mx_cmp_0, mx_cmp_1, mx_cmp_2, mx_cmp_3, mx_cmp_4, mx_u_s, mx_u_a, mx_u_k, mx_z_a, mx_z_s, mx_t_a, mx_t_2, mx_t_1, mx_t_0, mx_gd_T, mx_gd_t, mx_br_T, mx_br_F, mx_br_t, mx_br_f, mx_br_n, mx_cl_T, mx_cl_t, mx_re_T, mx_re_t, mx_rt_v, mx_rt_0, mx_cu_t, mx_w_id, mx_l_id, mx_b_0, mx_b_1, mx_b_r, mx_nl_0, mx_nl_1, mx_nl_2, mx_nl_n, mx_nl_l, mx_sw_n, mx_sw_h, mx_sw_m, Int.reduceLE, Int.reduceLT, Int.reduceEq, Int.reduceAdd, Int.reduceSub, Int.reduceMul, Int.reduceNeg, Int.reduceToNat, and_self, true_and, and_true, false_and, and_false, true_or, or_true, false_or, or_false, not_true_eq_false, not_false_eq_true, eq_self, rw_X11_world]
      refine mx_W_s ?_
      simp (disch := omega) only [mx_vt_h, mx_vt_m, mx_cmp_0, mx_cmp_1, mx_cmp_2, mx_cmp_3, mx_cmp_4, mx_u_s, mx_u_a, mx_u_k, mx_z_a, mx_z_s, mx_t_a, mx_t_2, mx_t_1, mx_t_0, mx_gd_T, mx_gd_t, mx_br_T, mx_br_F, mx_br_t, mx_br_f, mx_br_n, mx_cl_T, mx_cl_t, mx_re_T, mx_re_t, mx_rt_v, mx_rt_0, mx_cu_t, mx_w_id, mx_l_id, mx_b_0, mx_b_1, mx_b_r, mx_nl_0, mx_nl_1, mx_nl_2, mx_nl_n, mx_nl_l, mx_sw_n, mx_sw_h, mx_sw_m, Int.reduceLE, Int.reduceLT, Int.reduceEq, Int.reduceAdd, Int.reduceSub, Int.reduceMul, Int.reduceNeg, Int.reduceToNat, and_self, true_and, and_true, false_and, and_false, true_or, or_true, false_or, or_false, not_true_eq_false, not_false_eq_true, eq_self, rw_X12_world, hM.e, c_isEvening, mx_b_t q]
      refine mx_W_r (c_findW hM v1.t.w k0 k1 ?_ ?_)
      · intro g2 f2 _
        show mx_W (mx_ex _ _ _ _ [_] _ _ _) _
        simp (disch := omega) only [mx_vt_h, mx_vt_m, mx_cmp_0, mx_cmp_1, mx_cmp_2, mx_cmp_3, mx_cmp_4, mx_u_s, mx_u_a, mx_u_k, mx_z_a, mx_z_s, mx_t_a, mx_t_2, mx_t_1, mx_t_0, mx_gd_T, mx_gd_t, mx_br_T, mx_br_F, mx_br_t, mx_br_f, mx_br_n, mx_cl_T, mx_cl_t, mx_re_T, mx_re_t, mx_rt_v, mx_rt_0, mx_cu_t, mx_w_id, mx_l_id, mx_b_0, mx_b_1, mx_b_r, mx_nl_0, mx_nl_1, mx_nl_2, mx_nl_n, mx_nl_l, mx_sw_n, mx_sw_h, mx_sw_m, Int.reduceLE, Int.reduceLT, Int.reduceEq, Int.reduceAdd, Int.reduceSub, Int.reduceMul, Int.reduceNeg, Int.reduceToNat, and_self, true_and, and_true, false_and, and_false, true_or, or_true, false_or, or_false, not_true_eq_false, not_false_eq_true, eq_self, rw_X12_world]
        exact mx_W_s ⟨⟨_, rfl, rfl⟩, (v1.m f2).w hc⟩
      · intro g2 u f2 u0 u1 wu ce
        rw [e39] at ce wu
        have lt := cT_lt u0 u1 wu
        have ge := (cT_r (σ := h 39) (x := 63) u0).1
        rw [ce] at lt ge
        rcases nk with nk | nk
        · exact absurd ge (Int.not_le.mpr nk)
        · exact absurd nk (Int.not_le.mpr lt)
    · intro g u f c1 q1 u0 u1 wu ce b0 b1 b2
      have v1 := v.r' f c1 q1
      have e39 := f.f 39 (by decide) (by decide)
      show mx_W (mx_ex _ _ _ _ [_] _ _ _) _
      simp (disch := omega) only [mx_vt_h, mx_vt_m, mx_cmp_0, mx_cmp_1, mx_cmp_2, mx_cmp_3, mx_cmp_4, mx_u_s, mx_u_a, mx_u_k, mx_z_a, mx_z_s, mx_t_a, mx_t_2, mx_t_1, mx_t_0, mx_gd_T, mx_gd_t, mx_br_T, mx_br_F, mx_br_t, mx_br_f, mx_br_n, mx_cl_T, mx_cl_t, mx_re_T, mx_re_t, mx_rt_v, mx_rt_0, mx_cu_t, mx_w_id, mx_l_id, mx_b_0, mx_b_1, mx_b_r, mx_nl_0, mx_nl_1, mx_nl_2, mx_nl_n, mx_nl_l, mx_sw_n, mx_sw_h, mx_sw_m, Int.reduceLE, Int.reduceLT, Int.reduceEq, Int.reduceAdd, Int.reduceSub, Int.reduceMul, Int.reduceNeg, Int.reduceToNat, and_self, true_and, and_true, false_and, and_false, true_or, or_true, false_or, or_false, not_true_eq_false, not_false_eq_true, eq_self, rw_X11_world, hX, hF]
      refine mx_W_s ?_
      simp (disch := omega) only [mx_vt_h, mx_vt_m, mx_cmp_0, mx_cmp_1, mx_cmp_2, mx_cmp_3, mx_cmp_4, mx_u_s, mx_u_a, mx_u_k, mx_z_a, mx_z_s, mx_t_a, mx_t_2, mx_t_1, mx_t_0, mx_gd_T, mx_gd_t, mx_br_T, mx_br_F, mx_br_t, mx_br_f, mx_br_n, mx_cl_T, mx_cl_t, mx_re_T, mx_re_t, mx_rt_v, mx_rt_0, mx_cu_t, mx_w_id, mx_l_id, mx_b_0, mx_b_1, mx_b_r, mx_nl_0, mx_nl_1, mx_nl_2, mx_nl_n, mx_nl_l, mx_sw_n, mx_sw_h, mx_sw_m, Int.reduceLE, Int.reduceLT, Int.reduceEq, Int.reduceAdd, Int.reduceSub, Int.reduceMul, Int.reduceNeg, Int.reduceToNat, and_self, true_and, and_true, false_and, and_false, true_or, or_true, false_or, or_false, not_true_eq_false, not_false_eq_true, eq_self, rw_X12_world, hM.e, c_isEvening, mx_b_t q]
      refine mx_W_r (c_findW hM v1.t.w k0 k1 ?_ ?_)
      · intro g2 f2 nk
        rw [e39] at nk
        have lt := cT_lt u0 u1 wu
        have ge := (cT_r (σ := h 39) (x := 63) u0).1
        rw [ce] at lt ge
        rcases nk with nk | nk
        · exact absurd ge (Int.not_le.mpr nk)
        · exact absurd nk (Int.not_le.mpr lt)
      · intro g2 u2 f2 u20 u21 wu2 ce2 b20 b21 b22
        rw [e39] at ce2 wu2
        have eu := wi_u u20 u0 wu2 wu (by omega)
        subst eu
        have eb : g2 43 e = g 8 e := by
          have : e = 0 ∨ e = 1 ∨ e = 2 := by omega
          rcases this with z | z | z <;> subst z
          · rw [b20, b0]
          · rw [b21, b1]
          · rw [b22, b2]
        show mx_W (mx_ex _ _ _ _ [_] _ _ _) _
        simp (disch := omega) only [mx_vt_h, mx_vt_m, mx_cmp_0, mx_cmp_1, mx_cmp_2, mx_cmp_3, mx_cmp_4, mx_u_s, mx_u_a, mx_u_k, mx_z_a, mx_z_s, mx_t_a, mx_t_2, mx_t_1, mx_t_0, mx_gd_T, mx_gd_t, mx_br_T, mx_br_F, mx_br_t, mx_br_f, mx_br_n, mx_cl_T, mx_cl_t, mx_re_T, mx_re_t, mx_rt_v, mx_rt_0, mx_cu_t, mx_w_id, mx_l_id, mx_b_0, mx_b_1, mx_b_r, mx_nl_0, mx_nl_1, mx_nl_2, mx_nl_n, mx_nl_l, mx_sw_n, mx_sw_h, mx_sw_m, Int.reduceLE, Int.reduceLT, Int.reduceEq, Int.reduceAdd, Int.reduceSub, Int.reduceMul, Int.reduceNeg, Int.reduceToNat, and_self, true_and, and_true, false_and, and_false, true_or, or_true, false_or, or_false, not_true_eq_false, not_false_eq_true, eq_self, rw_X12_world, hM.e, eb]
        exact mx_W_s ⟨⟨_, rfl, rfl⟩, (v1.m f2).w hc⟩
  · refine ag_p v hc (y := -1) ?_ ?_
    · simp (disch := omega) only [mx_vt_h, mx_vt_m, mx_cmp_0, mx_cmp_1, mx_cmp_2, mx_cmp_3, mx_cmp_4, mx_u_s, mx_u_a, mx_u_k, mx_z_a, mx_z_s, mx_t_a, mx_t_2, mx_t_1, mx_t_0, mx_gd_T, mx_gd_t, mx_br_T, mx_br_F, mx_br_t, mx_br_f, mx_br_n, mx_cl_T, mx_cl_t, mx_re_T, mx_re_t, mx_rt_v, mx_rt_0, mx_cu_t, mx_w_id, mx_l_id, mx_b_0, mx_b_1, mx_b_r, mx_nl_0, mx_nl_1, mx_nl_2, mx_nl_n, mx_nl_l, mx_sw_n, mx_sw_h, mx_sw_m, Int.reduceLE, Int.reduceLT, Int.reduceEq, Int.reduceAdd, Int.reduceSub, Int.reduceMul, Int.reduceNeg, Int.reduceToNat, and_self, true_and, and_true, false_and, and_false, true_or, or_true, false_or, or_false, not_true_eq_false, not_false_eq_true, eq_self, rw_X11_world, c_xEv, mx_b_f q]
    · simp (disch := omega) only [mx_vt_h, mx_vt_m, mx_cmp_0, mx_cmp_1, mx_cmp_2, mx_cmp_3, mx_cmp_4, mx_u_s, mx_u_a, mx_u_k, mx_z_a, mx_z_s, mx_t_a, mx_t_2, mx_t_1, mx_t_0, mx_gd_T, mx_gd_t, mx_br_T, mx_br_F, mx_br_t, mx_br_f, mx_br_n, mx_cl_T, mx_cl_t, mx_re_T, mx_re_t, mx_rt_v, mx_rt_0, mx_cu_t, mx_w_id, mx_l_id, mx_b_0, mx_b_1, mx_b_r, mx_nl_0, mx_nl_1, mx_nl_2, mx_nl_n, mx_nl_l, mx_sw_n, mx_sw_h, mx_sw_m, Int.reduceLE, Int.reduceLT, Int.reduceEq, Int.reduceAdd, Int.reduceSub, Int.reduceMul, Int.reduceNeg, Int.reduceToNat, and_self, true_and, and_true, false_and, and_false, true_or, or_true, false_or, or_false, not_true_eq_false, not_false_eq_true, eq_self, rw_X12_world, c_isEvening, mx_b_f q]
/-- the bases met, on both sides -/
theorem seen_met (c1 : fc g (h 39)) {g2 k : mx_H} (f : fi (h 39) 63 k g2 4913) {e : Int} (q : 0 ≤ e ∧ e ≤ 2) : g2 45 e = g 16 e := by
  have : e = 0 ∨ e = 1 ∨ e = 2 := by omega
  rcases this with z | z | z <;> subst z
  · rw [f.s0, c1.s0]
  · rw [f.s1, c1.s1]
  · rw [f.s2, c1.s2]
theorem a_may {e : Int} (hc : c ≤ 599) : ag L x 114 200 [(0, e)] 0 c := by
  intro d S h n v
  have hX := v.s.x.e
  have hF := v.s.f.e
  have hM := v.s.m
  by_cases q : 0 ≤ e ∧ e ≤ 2
  · simp (disch := omega) only [mx_vt_h, mx_vt_m, mx_cmp_0, mx_cmp_1, mx_cmp_2, mx_cmp_3, mx_cmp_4, mx_u_s, mx_u_a, mx_u_k, mx_z_a, mx_z_s, mx_t_a, mx_t_2, mx_t_1, mx_t_0, mx_gd_T, mx_gd_t, mx_br_T, mx_br_F, mx_br_t, mx_br_f, mx_br_n, mx_cl_T, mx_cl_t, mx_re_T, mx_re_t, mx_rt_v, mx_rt_0, mx_cu_t, mx_w_id, mx_l_id, mx_b_0, mx_b_1, mx_b_r, mx_nl_0, mx_nl_1, mx_nl_2, mx_nl_n, mx_nl_l, mx_sw_n, mx_sw_h, mx_sw_m, Int.reduceLE, Int.reduceLT, Int.reduceEq, Int.reduceAdd, Int.reduceSub, Int.reduceMul, Int.reduceNeg, Int.reduceToNat, and_self, true_and, and_true, false_and, and_false, true_or, or_true, false_or, or_false, not_true_eq_false, not_false_eq_true, eq_self, rw_X11_may, hX, hF, c_xEv, mx_b_t q]
    refine mx_W_r (c_seen v.s.f v.t.w v.t.r v.o v.f.z v.f.f q.1 q.2 ?_)
    intro g f c1 q1
    have v1 := v.r' f c1 q1
    have e39 := f.f 39 (by decide) (by decide)
    show mx_W (mx_ex _ _ _ _ [_] _ _ _) _
    simp (disch := omega) only [mx_vt_h, mx_vt_m, mx_cmp_0, mx_cmp_1, mx_cmp_2, mx_cmp_3, mx_cmp_4, mx_u_s, mx_u_a, mx_u_k, mx_z_a, mx_z_s, mx_t_a, mx_t_2, mx_t_1, mx_t_0, mx_gd_T, mx_gd_t, mx_br_T, mx_br_F, mx_br_t, mx_br_f, mx_br_n, mx_cl_T, mx_cl_t, mx_re_T, mx_re_t, mx_rt_v, mx_rt_0, mx_cu_t, mx_w_id, mx_l_id, mx_b_0, mx_b_1, mx_b_r, mx_nl_0, mx_nl_1, mx_nl_2, mx_nl_n, mx_nl_l, mx_sw_n, mx_sw_h, mx_sw_m, Int.reduceLE, Int.reduceLT, Int.reduceEq, Int.reduceAdd, Int.reduceSub, Int.reduceMul, Int.reduceNeg, Int.reduceToNat, and_self, true_and, and_true, false_and, and_false, true_or, or_true, false_or, or_false, not_true_eq_false, not_false_eq_true, eq_self, rw_X11_may]
    refine mx_W_s ?_
    simp (disch := omega) only [mx_vt_h, mx_vt_m, mx_cmp_0, mx_cmp_1, mx_cmp_2, mx_cmp_3, mx_cmp_4, mx_u_s, mx_u_a, mx_u_k, mx_z_a, mx_z_s, mx_t_a, mx_t_2, mx_t_1, mx_t_0, mx_gd_T, mx_gd_t, mx_br_T, mx_br_F, mx_br_t, mx_br_f, mx_br_n, mx_cl_T, mx_cl_t, mx_re_T, mx_re_t, mx_rt_v, mx_rt_0, mx_cu_t, mx_w_id, mx_l_id, mx_b_0, mx_b_1, mx_b_r, mx_nl_0, mx_nl_1, mx_nl_2, mx_nl_n, mx_nl_l, mx_sw_n, mx_sw_h, mx_sw_m, Int.reduceLE, Int.reduceLT, Int.reduceEq, Int.reduceAdd, Int.reduceSub, Int.reduceMul, Int.reduceNeg, Int.reduceToNat, and_self, true_and, and_true, false_and, and_false, true_or, or_true, false_or, or_false, not_true_eq_false, not_false_eq_true, eq_self, rw_X12_may, hM.e, c_isEvening, mx_b_t q]
    refine mx_W_r (c_fwA hM v1.t.w ?_)
    intro g2 f2
    have es : g2 45 e = g 16 e := seen_met (h := g) (by rw [e39]; exact c1) f2 q
    show mx_W (mx_ex _ _ _ _ [_] _ _ _) _
    simp (disch := omega) only [mx_vt_h, mx_vt_m, mx_cmp_0, mx_cmp_1, mx_cmp_2, mx_cmp_3, mx_cmp_4, mx_u_s, mx_u_a, mx_u_k, mx_z_a, mx_z_s, mx_t_a, mx_t_2, mx_t_1, mx_t_0, mx_gd_T, mx_gd_t, mx_br_T, mx_br_F, mx_br_t, mx_br_f, mx_br_n, mx_cl_T, mx_cl_t, mx_re_T, mx_re_t, mx_rt_v, mx_rt_0, mx_cu_t, mx_w_id, mx_l_id, mx_b_0, mx_b_1, mx_b_r, mx_nl_0, mx_nl_1, mx_nl_2, mx_nl_n, mx_nl_l, mx_sw_n, mx_sw_h, mx_sw_m, Int.reduceLE, Int.reduceLT, Int.reduceEq, Int.reduceAdd, Int.reduceSub, Int.reduceMul, Int.reduceNeg, Int.reduceToNat, and_self, true_and, and_true, false_and, and_false, true_or, or_true, false_or, or_false, not_true_eq_false, not_false_eq_true, eq_self, rw_X12_may, hM.e, es]
    exact mx_W_s ⟨⟨_, rfl, rfl⟩, (v1.m f2.f).w hc⟩
  · refine ag_p v hc (y := -1) ?_ ?_
    · simp (disch := omega) only [mx_vt_h, mx_vt_m, mx_cmp_0, mx_cmp_1, mx_cmp_2, mx_cmp_3, mx_cmp_4, mx_u_s, mx_u_a, mx_u_k, mx_z_a, mx_z_s, mx_t_a, mx_t_2, mx_t_1, mx_t_0, mx_gd_T, mx_gd_t, mx_br_T, mx_br_F, mx_br_t, mx_br_f, mx_br_n, mx_cl_T, mx_cl_t, mx_re_T, mx_re_t, mx_rt_v, mx_rt_0, mx_cu_t, mx_w_id, mx_l_id, mx_b_0, mx_b_1, mx_b_r, mx_nl_0, mx_nl_1, mx_nl_2, mx_nl_n, mx_nl_l, mx_sw_n, mx_sw_h, mx_sw_m, Int.reduceLE, Int.reduceLT, Int.reduceEq, Int.reduceAdd, Int.reduceSub, Int.reduceMul, Int.reduceNeg, Int.reduceToNat, and_self, true_and, and_true, false_and, and_false, true_or, or_true, false_or, or_false, not_true_eq_false, not_false_eq_true, eq_self, rw_X11_may, c_xEv, mx_b_f q]
    · simp (disch := omega) only [mx_vt_h, mx_vt_m, mx_cmp_0, mx_cmp_1, mx_cmp_2, mx_cmp_3, mx_cmp_4, mx_u_s, mx_u_a, mx_u_k, mx_z_a, mx_z_s, mx_t_a, mx_t_2, mx_t_1, mx_t_0, mx_gd_T, mx_gd_t, mx_br_T, mx_br_F, mx_br_t, mx_br_f, mx_br_n, mx_cl_T, mx_cl_t, mx_re_T, mx_re_t, mx_rt_v, mx_rt_0, mx_cu_t, mx_w_id, mx_l_id, mx_b_0, mx_b_1, mx_b_r, mx_nl_0, mx_nl_1, mx_nl_2, mx_nl_n, mx_nl_l, mx_sw_n, mx_sw_h, mx_sw_m, Int.reduceLE, Int.reduceLT, Int.reduceEq, Int.reduceAdd, Int.reduceSub, Int.reduceMul, Int.reduceNeg, Int.reduceToNat, and_self, true_and, and_true, false_and, and_false, true_or, or_true, false_or, or_false, not_true_eq_false, not_false_eq_true, eq_self, rw_X12_may, c_isEvening, mx_b_f q]
theorem kc_u {P : Int → Prop} {b : Int} (b0 : 2 ≤ b) (u : ∀ k, 2 ≤ k → k ≤ 16 → (P k ↔ k = b)) : ∀ j : Nat, j ≤ 15 → kc P j = if b - 2 < j then 1 else 0 := by
  intro j
  induction j with
  | zero => intro _; rw [if_neg (by omega)]; rfl
  | succ j ih =>
    intro hj
    simp only [kc]; rw [ih (by omega)]
    have e := u (j + 2) (by omega) (by omega)
    by_cases c : (j : Int) + 2 = b
    · rw [mx_b_t (e.mpr c), if_neg (by omega), if_pos (by omega)]; rfl
    · rw [mx_b_f (fun z => c (e.mp z))]
      by_cases c2 : b - 2 < j
      · rw [if_pos c2, if_pos (by omega)]; rfl
      · rw [if_neg c2, if_neg (by omega)]; rfl
theorem kc_1 {P : Int → Prop} {a b : Int} (h1 : kc P 15 = 1) (a0 : 2 ≤ a) (b1 : b ≤ 16) (pa : P a) (pb : P b) : ¬ a < b := by
  intro lt
  have s1 := kc_0 (P := P) a0
  rw [mx_b_t pa] at s1
  have s2 := kc_0 (P := P) (b := b) (by omega)
  rw [mx_b_t pb] at s2
  have r := kc_r (P := P) (a - 2).toNat
  have m1 := kc_m (P := P) (k := (a + 1 - 2).toNat) (b - 2 - (a + 1 - 2)).toNat
  have e1 : (a + 1 - 2).toNat + (b - 2 - (a + 1 - 2)).toNat = (b - 2).toNat := by omega
  rw [e1] at m1
  have m2 := kc_m (P := P) (k := (b + 1 - 2).toNat) (15 - (b + 1 - 2).toNat)
  have e2 : (b + 1 - 2).toNat + (15 - (b + 1 - 2).toNat) = 15 := by omega
  rw [e2] at m2
  omega
theorem bz_1 {P : Int → Prop} {b : Int} (b0 : 2 ≤ b) (b1 : b ≤ 16) : bz 2 17 P = mx_shl 1 b ↔ ∀ k, 2 ≤ k → k ≤ 16 → (P k ↔ k = b) := by
  have e : mx_shl 1 b = bz 2 17 (fun k => k = b) := by
    have := bz_o (P := fun _ => False) (b := b) b0 (by omega)
    have z : bz 2 17 (fun _ => False) = 0 := by rw [bz_e0]; intro _ _ _ f; exact f
    have z2 : mx_or 0 (mx_shl 1 b) = mx_shl 1 b := by
      have key : ∀ k : Fin 17, mx_or 0 (mx_shl 1 (k.val : Int)) = mx_shl 1 (k.val : Int) := by decide
      have := key ⟨b.toNat, by omega⟩
      simp only at this
      have e : ((b.toNat : Nat) : Int) = b := by omega
      rw [e] at this; exact this
    rw [z, z2] at this
    rw [this]; exact bz_c (fun k _ _ => ⟨fun q => q.elim False.elim id, Or.inr⟩)
  rw [e]
  constructor
  · intro q k k0 k1
    have h1 := bz_tst (P := P) (b := k) k0 (by omega)
    have h2 := bz_tst (P := fun j => j = b) (b := k) k0 (by omega)
    rw [q, h2] at h1
    have := congrArg (fun y => y = 1) h1
    simp only [mx_b_1] at this
    exact ⟨fun p => by rw [this]; exact p, fun p => by rw [← this]; exact p⟩
  · intro q; exact bz_c (fun k k0 k1 => q k k0 (by omega))
theorem c_sure_l (hS : sh_M S) {P : Int → Prop} {e b : Int} {l2 : Option mx_V} (q : 0 ≤ e ∧ e ≤ 2) (b0 : 2 ≤ b) (b1 : b ≤ 17) (hP : h 45 e = bz 2 17 P) (no : ∀ k, 2 ≤ k → k < b → ¬ bz 2 17 P = mx_shl 1 k) :
    (∃ k, 2 ≤ k ∧ k ≤ 16 ∧ bz 2 17 P = mx_shl 1 k ∧ mx_ex d 201 21 [some (2, 38), some (0, e), l2, some (0, b)] [] S h n = some (some (0, k), S, h, n)) ∨ ((∀ k, 2 ≤ k → k ≤ 16 → ¬ bz 2 17 P = mx_shl 1 k) ∧ mx_ex d 201 21 [some (2, 38), some (0, e), l2, some (0, b)] [] S h n = some (some (0, -3), S, h, n)) := by
  by_cases c : b ≤ 16
  · by_cases z : bz 2 17 P = mx_shl 1 b
    · left
      refine ⟨b, b0, c, z, ?_⟩
      rw [rh_X12_sure_21]
      simp (disch := omega) only [mx_vt_h, mx_vt_m, mx_cmp_0, mx_cmp_1, mx_cmp_2, mx_cmp_3, mx_cmp_4, mx_u_s, mx_u_a, mx_u_k, mx_z_a, mx_z_s, mx_t_a, mx_t_2, mx_t_1, mx_t_0, mx_gd_T, mx_gd_t, mx_br_T, mx_br_F, mx_br_t, mx_br_f, mx_br_n, mx_cl_T, mx_cl_t, mx_re_T, mx_re_t, mx_rt_v, mx_rt_0, mx_cu_t, mx_w_id, mx_l_id, mx_b_0, mx_b_1, mx_b_r, mx_nl_0, mx_nl_1, mx_nl_2, mx_nl_n, mx_nl_l, mx_sw_n, mx_sw_h, mx_sw_m, Int.reduceLE, Int.reduceLT, Int.reduceEq, Int.reduceAdd, Int.reduceSub, Int.reduceMul, Int.reduceNeg, Int.reduceToNat, and_self, true_and, and_true, false_and, and_false, true_or, or_true, false_or, or_false, not_true_eq_false, not_false_eq_true, eq_self, rw_X12_sure, hS.e, hP, z]
    · have ih := c_sure_l hS (l2 := mx_nl l2) q (b := b + 1) (by omega) (by omega) hP (fun k k0 k1 => by
        by_cases e : k = b
        · rw [e]; exact z
        · exact no k k0 (by omega))
      rw [rh_X12_sure_21]
      rcases ih with ⟨k, k0, k1, k2, k3⟩ | ⟨k1, k2⟩
      · left; refine ⟨k, k0, k1, k2, ?_⟩
        simp (disch := omega) only [mx_vt_h, mx_vt_m, mx_cmp_0, mx_cmp_1, mx_cmp_2, mx_cmp_3, mx_cmp_4, mx_u_s, mx_u_a, mx_u_k, mx_z_a, mx_z_s, mx_t_a, mx_t_2, mx_t_1, mx_t_0, mx_gd_T, mx_gd_t, mx_br_T, mx_br_F, mx_br_t, mx_br_f, mx_br_n, mx_cl_T, mx_cl_t, mx_re_T, mx_re_t, mx_rt_v, mx_rt_0, mx_cu_t, mx_w_id, mx_l_id, mx_b_0, mx_b_1, mx_b_r, mx_nl_0, mx_nl_1, mx_nl_2, mx_nl_n, mx_nl_l, mx_sw_n, mx_sw_h, mx_sw_m, Int.reduceLE, Int.reduceLT, Int.reduceEq, Int.reduceAdd, Int.reduceSub, Int.reduceMul, Int.reduceNeg, Int.reduceToNat, and_self, true_and, and_true, false_and, and_false, true_or, or_true, false_or, or_false, not_true_eq_false, not_false_eq_true, eq_self, rw_X12_sure, hS.e, hP, z]
        exact k3
      · right; refine ⟨k1, ?_⟩
        simp (disch := omega) only [mx_vt_h, mx_vt_m, mx_cmp_0, mx_cmp_1, mx_cmp_2, mx_cmp_3, mx_cmp_4, mx_u_s, mx_u_a, mx_u_k, mx_z_a, mx_z_s, mx_t_a, mx_t_2, mx_t_1, mx_t_0, mx_gd_T, mx_gd_t, mx_br_T, mx_br_F, mx_br_t, mx_br_f, mx_br_n, mx_cl_T, mx_cl_t, mx_re_T, mx_re_t, mx_rt_v, mx_rt_0, mx_cu_t, mx_w_id, mx_l_id, mx_b_0, mx_b_1, mx_b_r, mx_nl_0, mx_nl_1, mx_nl_2, mx_nl_n, mx_nl_l, mx_sw_n, mx_sw_h, mx_sw_m, Int.reduceLE, Int.reduceLT, Int.reduceEq, Int.reduceAdd, Int.reduceSub, Int.reduceMul, Int.reduceNeg, Int.reduceToNat, and_self, true_and, and_true, false_and, and_false, true_or, or_true, false_or, or_false, not_true_eq_false, not_false_eq_true, eq_self, rw_X12_sure, hS.e, hP, z]
        exact k2
  · right
    have e17 : b = 17 := by omega
    subst e17
    refine ⟨fun k k0 k1 => no k k0 (by omega), ?_⟩
    rw [rh_X12_sure_21]
    simp (disch := omega) only [mx_vt_h, mx_vt_m, mx_cmp_0, mx_cmp_1, mx_cmp_2, mx_cmp_3, mx_cmp_4, mx_u_s, mx_u_a, mx_u_k, mx_z_a, mx_z_s, mx_t_a, mx_t_2, mx_t_1, mx_t_0, mx_gd_T, mx_gd_t, mx_br_T, mx_br_F, mx_br_t, mx_br_f, mx_br_n, mx_cl_T, mx_cl_t, mx_re_T, mx_re_t, mx_rt_v, mx_rt_0, mx_cu_t, mx_w_id, mx_l_id, mx_b_0, mx_b_1, mx_b_r, mx_nl_0, mx_nl_1, mx_nl_2, mx_nl_n, mx_nl_l, mx_sw_n, mx_sw_h, mx_sw_m, Int.reduceLE, Int.reduceLT, Int.reduceEq, Int.reduceAdd, Int.reduceSub, Int.reduceMul, Int.reduceNeg, Int.reduceToNat, and_self, true_and, and_true, false_and, and_false, true_or, or_true, false_or, or_false, not_true_eq_false, not_false_eq_true, eq_self, rw_X12_sure]
termination_by (17 - b).toNat
decreasing_by omega
theorem a_sure {e : Int} (hc : c ≤ 599) : ag L x 115 201 [(0, e)] 0 c := by
  intro d S h n v
  have hX := v.s.x.e
  have hF := v.s.f.e
  have hM := v.s.m
  by_cases q : 0 ≤ e ∧ e ≤ 2
  · simp (disch := omega) only [mx_vt_h, mx_vt_m, mx_cmp_0, mx_cmp_1, mx_cmp_2, mx_cmp_3, mx_cmp_4, mx_u_s, mx_u_a, mx_u_k, mx_z_a, mx_z_s, mx_t_a, mx_t_2, mx_t_1, mx_t_0, mx_gd_T, mx_gd_t, mx_br_T, mx_br_F, mx_br_t, mx_br_f, mx_br_n, mx_cl_T, mx_cl_t, mx_re_T, mx_re_t, mx_rt_v, mx_rt_0, mx_cu_t, mx_w_id, mx_l_id, mx_b_0, mx_b_1, mx_b_r, mx_nl_0, mx_nl_1, mx_nl_2, mx_nl_n, mx_nl_l, mx_sw_n, mx_sw_h, mx_sw_m, Int.reduceLE, Int.reduceLT, Int.reduceEq, Int.reduceAdd, Int.reduceSub, Int.reduceMul, Int.reduceNeg, Int.reduceToNat, and_self, true_and, and_true, false_and, and_false, true_or, or_true, false_or, or_false, not_true_eq_false, not_false_eq_true, eq_self, rw_X11_sure, hX, hF, c_xEv, mx_b_t q]
    refine mx_W_r (c_seen v.s.f v.t.w v.t.r v.o v.f.z v.f.f q.1 q.2 ?_)
    intro g f c1 q1
    have v1 := v.r' f c1 q1
    have e39 := f.f 39 (by decide) (by decide)
    obtain ⟨P, eP⟩ : ∃ P, g 16 e = bz 2 17 P := by
      have : e = 0 ∨ e = 1 ∨ e = 2 := by omega
      rcases this with z | z | z <;> subst z
      · exact ⟨_, c1.s0⟩
      · exact ⟨_, c1.s1⟩
      · exact ⟨_, c1.s2⟩
    have fin : ∀ y, (∀ g2, g2 45 e = bz 2 17 P → ∀ l2, mx_ex (d + 12) 201 21 [some (2, 38), some (0, e), l2, some (0, 2)] [] S g2 n = some (some (0, y), S, g2, n)) → mx_W (mx_M (d + 12) 201 [(2, 38), (0, e)] S g n) (fun v2 S2 h2 n2 => (∃ z, some (0, y) = some (0, z) ∧ v2 = some (0, z)) ∧ Inv L x S2 h2 n2 (c + 1)) := by
      intro y hy
      simp (disch := omega) only [mx_vt_h, mx_vt_m, mx_cmp_0, mx_cmp_1, mx_cmp_2, mx_cmp_3, mx_cmp_4, mx_u_s, mx_u_a, mx_u_k, mx_z_a, mx_z_s, mx_t_a, mx_t_2, mx_t_1, mx_t_0, mx_gd_T, mx_gd_t, mx_br_T, mx_br_F, mx_br_t, mx_br_f, mx_br_n, mx_cl_T, mx_cl_t, mx_re_T, mx_re_t, mx_rt_v, mx_rt_0, mx_cu_t, mx_w_id, mx_l_id, mx_b_0, mx_b_1, mx_b_r, mx_nl_0, mx_nl_1, mx_nl_2, mx_nl_n, mx_nl_l, mx_sw_n, mx_sw_h, mx_sw_m, Int.reduceLE, Int.reduceLT, Int.reduceEq, Int.reduceAdd, Int.reduceSub, Int.reduceMul, Int.reduceNeg, Int.reduceToNat, and_self, true_and, and_true, false_and, and_false, true_or, or_true, false_or, or_false, not_true_eq_false, not_false_eq_true, eq_self, rw_X12_sure, hM.e, c_isEvening, mx_b_t q]
      refine mx_W_r (c_fwA hM v1.t.w ?_)
      intro g2 f2
      have es : g2 45 e = g 16 e := seen_met (h := g) (by rw [e39]; exact c1) f2 q
      have hy := fun l2 => hy g2 (by rw [es, eP]) l2
      show mx_W (mx_ex _ _ _ _ [_] _ _ _) _
      simp (disch := omega) only [mx_vt_h, mx_vt_m, mx_cmp_0, mx_cmp_1, mx_cmp_2, mx_cmp_3, mx_cmp_4, mx_u_s, mx_u_a, mx_u_k, mx_z_a, mx_z_s, mx_t_a, mx_t_2, mx_t_1, mx_t_0, mx_gd_T, mx_gd_t, mx_br_T, mx_br_F, mx_br_t, mx_br_f, mx_br_n, mx_cl_T, mx_cl_t, mx_re_T, mx_re_t, mx_rt_v, mx_rt_0, mx_cu_t, mx_w_id, mx_l_id, mx_b_0, mx_b_1, mx_b_r, mx_nl_0, mx_nl_1, mx_nl_2, mx_nl_n, mx_nl_l, mx_sw_n, mx_sw_h, mx_sw_m, Int.reduceLE, Int.reduceLT, Int.reduceEq, Int.reduceAdd, Int.reduceSub, Int.reduceMul, Int.reduceNeg, Int.reduceToNat, and_self, true_and, and_true, false_and, and_false, true_or, or_true, false_or, or_false, not_true_eq_false, not_false_eq_true, eq_self, rw_X12_sure, hy]
      exact mx_W_s ⟨⟨_, rfl, rfl⟩, (v1.m f2.f).w hc⟩
    rw [eP]
    show mx_W (mx_ex _ _ _ _ [_] _ _ _) _
    by_cases k1 : kc P 15 = 1
    · obtain ⟨b, b0, b1, b2, b3, b4⟩ := c_bat (d := d + 11) (S := S) (h := g) (n := n) (P := P) (k := 0) (by decide) (by omega)
      have uq : bz 2 17 P = mx_shl 1 b := (bz_1 b0 b1).mpr (fun k k0 k2 => ⟨fun p => by
        have h1 := kc_1 k1 k0 b1 p b2
        have h2 := kc_1 k1 b0 k2 b2 p
        omega, fun z => by rw [z]; exact b2⟩)
      simp (disch := omega) only [mx_vt_h, mx_vt_m, mx_cmp_0, mx_cmp_1, mx_cmp_2, mx_cmp_3, mx_cmp_4, mx_u_s, mx_u_a, mx_u_k, mx_z_a, mx_z_s, mx_t_a, mx_t_2, mx_t_1, mx_t_0, mx_gd_T, mx_gd_t, mx_br_T, mx_br_F, mx_br_t, mx_br_f, mx_br_n, mx_cl_T, mx_cl_t, mx_re_T, mx_re_t, mx_rt_v, mx_rt_0, mx_cu_t, mx_w_id, mx_l_id, mx_b_0, mx_b_1, mx_b_r, mx_nl_0, mx_nl_1, mx_nl_2, mx_nl_n, mx_nl_l, mx_sw_n, mx_sw_h, mx_sw_m, Int.reduceLE, Int.reduceLT, Int.reduceEq, Int.reduceAdd, Int.reduceSub, Int.reduceMul, Int.reduceNeg, Int.reduceToNat, and_self, true_and, and_true, false_and, and_false, true_or, or_true, false_or, or_false, not_true_eq_false, not_false_eq_true, eq_self, rw_X11_sure, c_bc, k1, b4]
      refine mx_W_s (fin b (fun g2 hP l2 => ?_))
      rcases c_sure_l (d := d + 12) (n := n) (l2 := l2) (b := 2) hM q (by decide) (by decide) hP (fun k a b => by omega) with ⟨k, k0, k1', k2, k3⟩ | ⟨k1', k2⟩
      · have : k = b := by
          have := ((bz_1 k0 k1').mp k2 b b0 b1).mp b2
          omega
        rw [k3, this]
      · exact absurd uq (k1' b b0 b1)
    · simp (disch := omega) only [mx_vt_h, mx_vt_m, mx_cmp_0, mx_cmp_1, mx_cmp_2, mx_cmp_3, mx_cmp_4, mx_u_s, mx_u_a, mx_u_k, mx_z_a, mx_z_s, mx_t_a, mx_t_2, mx_t_1, mx_t_0, mx_gd_T, mx_gd_t, mx_br_T, mx_br_F, mx_br_t, mx_br_f, mx_br_n, mx_cl_T, mx_cl_t, mx_re_T, mx_re_t, mx_rt_v, mx_rt_0, mx_cu_t, mx_w_id, mx_l_id, mx_b_0, mx_b_1, mx_b_r, mx_nl_0, mx_nl_1, mx_nl_2, mx_nl_n, mx_nl_l, mx_sw_n, mx_sw_h, mx_sw_m, Int.reduceLE, Int.reduceLT, Int.reduceEq, Int.reduceAdd, Int.reduceSub, Int.reduceMul, Int.reduceNeg, Int.reduceToNat, and_self, true_and, and_true, false_and, and_false, true_or, or_true, false_or, or_false, not_true_eq_false, not_false_eq_true, eq_self, rw_X11_sure, c_bc, k1]
      refine mx_W_s (fin (-3) (fun g2 hP l2 => ?_))
      rcases c_sure_l (d := d + 12) (n := n) (l2 := l2) (b := 2) hM q (by decide) (by decide) hP (fun k a b => by omega) with ⟨k, k0, k1', k2, k3⟩ | ⟨k1', k2⟩
      · have := kc_u k0 ((bz_1 k0 k1').mp k2) 15 (by decide)
        rw [if_pos (by omega)] at this
        exact absurd this k1
      · exact k2
  · refine ag_p v hc (y := -1) ?_ ?_
    · simp (disch := omega) only [mx_vt_h, mx_vt_m, mx_cmp_0, mx_cmp_1, mx_cmp_2, mx_cmp_3, mx_cmp_4, mx_u_s, mx_u_a, mx_u_k, mx_z_a, mx_z_s, mx_t_a, mx_t_2, mx_t_1, mx_t_0, mx_gd_T, mx_gd_t, mx_br_T, mx_br_F, mx_br_t, mx_br_f, mx_br_n, mx_cl_T, mx_cl_t, mx_re_T, mx_re_t, mx_rt_v, mx_rt_0, mx_cu_t, mx_w_id, mx_l_id, mx_b_0, mx_b_1, mx_b_r, mx_nl_0, mx_nl_1, mx_nl_2, mx_nl_n, mx_nl_l, mx_sw_n, mx_sw_h, mx_sw_m, Int.reduceLE, Int.reduceLT, Int.reduceEq, Int.reduceAdd, Int.reduceSub, Int.reduceMul, Int.reduceNeg, Int.reduceToNat, and_self, true_and, and_true, false_and, and_false, true_or, or_true, false_or, or_false, not_true_eq_false, not_false_eq_true, eq_self, rw_X11_sure, c_xEv, mx_b_f q]
    · simp (disch := omega) only [mx_vt_h, mx_vt_m, mx_cmp_0, mx_cmp_1, mx_cmp_2, mx_cmp_3, mx_cmp_4, mx_u_s, mx_u_a, mx_u_k, mx_z_a, mx_z_s, mx_t_a, mx_t_2, mx_t_1, mx_t_0, mx_gd_T, mx_gd_t, mx_br_T, mx_br_F, mx_br_t, mx_br_f, mx_br_n, mx_cl_T, mx_cl_t, mx_re_T, mx_re_t, mx_rt_v, mx_rt_0, mx_cu_t, mx_w_id, mx_l_id, mx_b_0, mx_b_1, mx_b_r, mx_nl_0, mx_nl_1, mx_nl_2, mx_nl_n, mx_nl_l, mx_sw_n, mx_sw_h, mx_sw_m, Int.reduceLE, Int.reduceLT, Int.reduceEq, Int.reduceAdd, Int.reduceSub, Int.reduceMul, Int.reduceNeg, Int.reduceToNat, and_self, true_and, and_true, false_and, and_false, true_or, or_true, false_or, or_false, not_true_eq_false, not_false_eq_true, eq_self, rw_X12_sure, c_isEvening, mx_b_f q]
theorem a_proof (hc : c ≤ 599) : ag L x 117 204 [] 0 c := by
  intro d S h n v
  have hX := v.s.x.e
  have hF := v.s.f.e
  have hM := v.s.m
  have w := v.t.w
  simp (disch := omega) only [mx_vt_h, mx_vt_m, mx_cmp_0, mx_cmp_1, mx_cmp_2, mx_cmp_3, mx_cmp_4, mx_u_s, mx_u_a, mx_u_k, mx_z_a, mx_z_s, mx_t_a, mx_t_2, mx_t_1, mx_t_0, mx_gd_T, mx_gd_t, mx_br_T, mx_br_F, mx_br_t, mx_br_f, mx_br_n, mx_cl_T, mx_cl_t, mx_re_T, mx_re_t, mx_rt_v, mx_rt_0, mx_cu_t, mx_w_id, mx_l_id, mx_b_0, mx_b_1, mx_b_r, mx_nl_0, mx_nl_1, mx_nl_2, mx_nl_n, mx_nl_l, mx_sw_n, mx_sw_h, mx_sw_m, Int.reduceLE, Int.reduceLT, Int.reduceEq, Int.reduceAdd, Int.reduceSub, Int.reduceMul, Int.reduceNeg, Int.reduceToNat, and_self, true_and, and_true, false_and, and_false, true_or, or_true, false_or, or_false, not_true_eq_false, not_false_eq_true, eq_self, rw_X11_proof, hX, hF]
  refine mx_W_r (c_howMany v.s.f v.t.w v.t.r v.o v.f.z v.f.f ?_)
  intro g f c1 q
  have v1 := v.r' f c1 q
  have e39 := f.f 39 (by decide) (by decide)
  show mx_W (mx_ex _ _ _ _ [_] _ _ _) _
  by_cases e : ew (h 39) 63
  · have e0 := (ew_c w).mp e
    simp (disch := omega) only [mx_vt_h, mx_vt_m, mx_cmp_0, mx_cmp_1, mx_cmp_2, mx_cmp_3, mx_cmp_4, mx_u_s, mx_u_a, mx_u_k, mx_z_a, mx_z_s, mx_t_a, mx_t_2, mx_t_1, mx_t_0, mx_gd_T, mx_gd_t, mx_br_T, mx_br_F, mx_br_t, mx_br_f, mx_br_n, mx_cl_T, mx_cl_t, mx_re_T, mx_re_t, mx_rt_v, mx_rt_0, mx_cu_t, mx_w_id, mx_l_id, mx_b_0, mx_b_1, mx_b_r, mx_nl_0, mx_nl_1, mx_nl_2, mx_nl_n, mx_nl_l, mx_sw_n, mx_sw_h, mx_sw_m, Int.reduceLE, Int.reduceLT, Int.reduceEq, Int.reduceAdd, Int.reduceSub, Int.reduceMul, Int.reduceNeg, Int.reduceToNat, and_self, true_and, and_true, false_and, and_false, true_or, or_true, false_or, or_false, not_true_eq_false, not_false_eq_true, eq_self, rw_X11_proof]
    refine mx_W_s ?_
    refine c_proofM hM v1.t.w (fun g2 s _ ne _ => absurd e (by rw [e39] at ne; exact ne)) (fun g2 f2 _ => ?_)
    exact ⟨⟨_, rfl, rfl⟩, (v1.m f2).w hc⟩
  · have e0 : ¬ 0 < cT (h 39) 63 4913 := fun z => e ((ew_c w).mpr z)
    simp (disch := omega) only [mx_vt_h, mx_vt_m, mx_cmp_0, mx_cmp_1, mx_cmp_2, mx_cmp_3, mx_cmp_4, mx_u_s, mx_u_a, mx_u_k, mx_z_a, mx_z_s, mx_t_a, mx_t_2, mx_t_1, mx_t_0, mx_gd_T, mx_gd_t, mx_br_T, mx_br_F, mx_br_t, mx_br_f, mx_br_n, mx_cl_T, mx_cl_t, mx_re_T, mx_re_t, mx_rt_v, mx_rt_0, mx_cu_t, mx_w_id, mx_l_id, mx_b_0, mx_b_1, mx_b_r, mx_nl_0, mx_nl_1, mx_nl_2, mx_nl_n, mx_nl_l, mx_sw_n, mx_sw_h, mx_sw_m, Int.reduceLE, Int.reduceLT, Int.reduceEq, Int.reduceAdd, Int.reduceSub, Int.reduceMul, Int.reduceNeg, Int.reduceToNat, and_self, true_and, and_true, false_and, and_false, true_or, or_true, false_or, or_false, not_true_eq_false, not_false_eq_true, eq_self, rw_X11_proof, hX, hF]
    refine mx_W_r (c_few v.s.f v1.t.w v1.t.r v1.o (by rw [e39]; exact e) ?_)
    intro g2 s f2 b
    have f2' : ∀ a, a < 8 ∨ 14 < a → g2 a = g a := f2.f
    have v2 := v1.d (fun a y z => f2' a (by omega)) (v1.f.gg (f2' 2 (by decide)) (f2' 15 (by decide)) (f2' 16 (by decide)) (by rw [f2' 3 (by decide)]) (f2' 39 (by decide)))
    show mx_W (mx_ex _ _ _ _ [_] _ _ _) _
    simp (disch := omega) only [mx_vt_h, mx_vt_m, mx_cmp_0, mx_cmp_1, mx_cmp_2, mx_cmp_3, mx_cmp_4, mx_u_s, mx_u_a, mx_u_k, mx_z_a, mx_z_s, mx_t_a, mx_t_2, mx_t_1, mx_t_0, mx_gd_T, mx_gd_t, mx_br_T, mx_br_F, mx_br_t, mx_br_f, mx_br_n, mx_cl_T, mx_cl_t, mx_re_T, mx_re_t, mx_rt_v, mx_rt_0, mx_cu_t, mx_w_id, mx_l_id, mx_b_0, mx_b_1, mx_b_r, mx_nl_0, mx_nl_1, mx_nl_2, mx_nl_n, mx_nl_l, mx_sw_n, mx_sw_h, mx_sw_m, Int.reduceLE, Int.reduceLT, Int.reduceEq, Int.reduceAdd, Int.reduceSub, Int.reduceMul, Int.reduceNeg, Int.reduceToNat, and_self, true_and, and_true, false_and, and_false, true_or, or_true, false_or, or_false, not_true_eq_false, not_false_eq_true, eq_self, rw_X11_proof]
    refine mx_W_s ?_
    have e39' := f2' 39 (by decide)
    refine c_proofM hM v2.t.w (fun g3 t f3 _ b3 => ?_) (fun g3 _ ee => absurd ee (by rw [e39', e39]; exact e))
    rw [e39'] at b3
    have := fb_u b b3
    exact ⟨⟨_, rfl, by rw [this]⟩, (v2.m f3).w hc⟩
theorem a_which {a : Int} (hc : c ≤ 599) : ag L x 119 206 [(0, a)] 0 c := by
  intro d S h n v
  have hX := v.s.x.e
  have hF := v.s.f.e
  have hM := v.s.m
  by_cases q : 0 ≤ a ∧ a < h 39 0
  · have r := v.nr q
    have hp := r.p0
    simp (disch := omega) only [mx_vt_h, mx_vt_m, mx_cmp_0, mx_cmp_1, mx_cmp_2, mx_cmp_3, mx_cmp_4, mx_u_s, mx_u_a, mx_u_k, mx_z_a, mx_z_s, mx_t_a, mx_t_2, mx_t_1, mx_t_0, mx_gd_T, mx_gd_t, mx_br_T, mx_br_F, mx_br_t, mx_br_f, mx_br_n, mx_cl_T, mx_cl_t, mx_re_T, mx_re_t, mx_rt_v, mx_rt_0, mx_cu_t, mx_w_id, mx_l_id, mx_b_0, mx_b_1, mx_b_r, mx_nl_0, mx_nl_1, mx_nl_2, mx_nl_n, mx_nl_l, mx_sw_n, mx_sw_h, mx_sw_m, Int.reduceLE, Int.reduceLT, Int.reduceEq, Int.reduceAdd, Int.reduceSub, Int.reduceMul, Int.reduceNeg, Int.reduceToNat, and_self, true_and, and_true, false_and, and_false, true_or, or_true, false_or, or_false, not_true_eq_false, not_false_eq_true, eq_self, rw_X11_which, hX, hF, v.na1 q]
    refine mx_W_r (c_evs v.s.f v.t.w v.t.r v.o q.1 q.2 ?_)
    intro g f
    have f' : ∀ a, a < 8 ∨ 14 < a → g a = h a := f.f
    have v1 := v.d (fun a y z => f' a (by omega)) (v.f.gg (f' 2 (by decide)) (f' 15 (by decide)) (f' 16 (by decide)) (by rw [f' 3 (by decide)]) (f' 39 (by decide)))
    show mx_W (mx_ex _ _ _ _ [_] _ _ _) _
    simp (disch := omega) only [mx_vt_h, mx_vt_m, mx_cmp_0, mx_cmp_1, mx_cmp_2, mx_cmp_3, mx_cmp_4, mx_u_s, mx_u_a, mx_u_k, mx_z_a, mx_z_s, mx_t_a, mx_t_2, mx_t_1, mx_t_0, mx_gd_T, mx_gd_t, mx_br_T, mx_br_F, mx_br_t, mx_br_f, mx_br_n, mx_cl_T, mx_cl_t, mx_re_T, mx_re_t, mx_rt_v, mx_rt_0, mx_cu_t, mx_w_id, mx_l_id, mx_b_0, mx_b_1, mx_b_r, mx_nl_0, mx_nl_1, mx_nl_2, mx_nl_n, mx_nl_l, mx_sw_n, mx_sw_h, mx_sw_m, Int.reduceLE, Int.reduceLT, Int.reduceEq, Int.reduceAdd, Int.reduceSub, Int.reduceMul, Int.reduceNeg, Int.reduceToNat, and_self, true_and, and_true, false_and, and_false, true_or, or_true, false_or, or_false, not_true_eq_false, not_false_eq_true, eq_self, rw_X11_which]
    refine mx_W_s ?_
    have e39 := f' 39 (by decide)
    refine c_whichM hM v1.t.w q.1 (by rw [e39]; exact q.2) ?_
    intro g2 f2
    exact ⟨⟨_, rfl, by rw [e39]⟩, (v1.m f2).w hc⟩
  · refine ag_p v hc (y := -1) ?_ ?_
    · simp (disch := omega) only [mx_vt_h, mx_vt_m, mx_cmp_0, mx_cmp_1, mx_cmp_2, mx_cmp_3, mx_cmp_4, mx_u_s, mx_u_a, mx_u_k, mx_z_a, mx_z_s, mx_t_a, mx_t_2, mx_t_1, mx_t_0, mx_gd_T, mx_gd_t, mx_br_T, mx_br_F, mx_br_t, mx_br_f, mx_br_n, mx_cl_T, mx_cl_t, mx_re_T, mx_re_t, mx_rt_v, mx_rt_0, mx_cu_t, mx_w_id, mx_l_id, mx_b_0, mx_b_1, mx_b_r, mx_nl_0, mx_nl_1, mx_nl_2, mx_nl_n, mx_nl_l, mx_sw_n, mx_sw_h, mx_sw_m, Int.reduceLE, Int.reduceLT, Int.reduceEq, Int.reduceAdd, Int.reduceSub, Int.reduceMul, Int.reduceNeg, Int.reduceToNat, and_self, true_and, and_true, false_and, and_false, true_or, or_true, false_or, or_false, not_true_eq_false, not_false_eq_true, eq_self, rw_X11_which, hX, hF, v.na0 q]
    · simp (disch := omega) only [mx_vt_h, mx_vt_m, mx_cmp_0, mx_cmp_1, mx_cmp_2, mx_cmp_3, mx_cmp_4, mx_u_s, mx_u_a, mx_u_k, mx_z_a, mx_z_s, mx_t_a, mx_t_2, mx_t_1, mx_t_0, mx_gd_T, mx_gd_t, mx_br_T, mx_br_F, mx_br_t, mx_br_f, mx_br_n, mx_cl_T, mx_cl_t, mx_re_T, mx_re_t, mx_rt_v, mx_rt_0, mx_cu_t, mx_w_id, mx_l_id, mx_b_0, mx_b_1, mx_b_r, mx_nl_0, mx_nl_1, mx_nl_2, mx_nl_n, mx_nl_l, mx_sw_n, mx_sw_h, mx_sw_m, Int.reduceLE, Int.reduceLT, Int.reduceEq, Int.reduceAdd, Int.reduceSub, Int.reduceMul, Int.reduceNeg, Int.reduceToNat, and_self, true_and, and_true, false_and, and_false, true_or, or_true, false_or, or_false, not_true_eq_false, not_false_eq_true, eq_self, rw_X12_which, hM.e, c_isNote hM v.t.w, mx_b_f q]
theorem a_guess (hc : c ≤ 599) : ag L x 126 218 [] 0 c := by
  intro d S h n v
  have hX := v.s.x.e
  have hF := v.s.f.e
  have hM := v.s.m
  have w := v.t.w
  simp (disch := omega) only [mx_vt_h, mx_vt_m, mx_cmp_0, mx_cmp_1, mx_cmp_2, mx_cmp_3, mx_cmp_4, mx_u_s, mx_u_a, mx_u_k, mx_z_a, mx_z_s, mx_t_a, mx_t_2, mx_t_1, mx_t_0, mx_gd_T, mx_gd_t, mx_br_T, mx_br_F, mx_br_t, mx_br_f, mx_br_n, mx_cl_T, mx_cl_t, mx_re_T, mx_re_t, mx_rt_v, mx_rt_0, mx_cu_t, mx_w_id, mx_l_id, mx_b_0, mx_b_1, mx_b_r, mx_nl_0, mx_nl_1, mx_nl_2, mx_nl_n, mx_nl_l, mx_sw_n, mx_sw_h, mx_sw_m, Int.reduceLE, Int.reduceLT, Int.reduceEq, Int.reduceAdd, Int.reduceSub, Int.reduceMul, Int.reduceNeg, Int.reduceToNat, and_self, true_and, and_true, false_and, and_false, true_or, or_true, false_or, or_false, not_true_eq_false, not_false_eq_true, eq_self, rw_X11_guess, hX, hF]
  refine mx_W_r (c_howMany v.s.f v.t.w v.t.r v.o v.f.z v.f.f ?_)
  intro g f c1 q
  have v1 := v.r' f c1 q
  have e39 := f.f 39 (by decide) (by decide)
  have r := cT_r (σ := h 39) (x := 63) (t := 4913) (by decide)
  have u : g 0 6 = g 39 2 := v1.t.u
  show mx_W (mx_ex _ _ _ _ [_] _ _ _) _
  obtain ⟨A, eA⟩ : ∃ A, id (cT (h 39) 63 4913 = A) := ⟨_, rfl⟩
  rw [show cT (h 39) 63 4913 = A from eA] at r ⊢
  by_cases e0 : A = 0
  · simp (disch := omega) only [mx_vt_h, mx_vt_m, mx_cmp_0, mx_cmp_1, mx_cmp_2, mx_cmp_3, mx_cmp_4, mx_u_s, mx_u_a, mx_u_k, mx_z_a, mx_z_s, mx_t_a, mx_t_2, mx_t_1, mx_t_0, mx_gd_T, mx_gd_t, mx_br_T, mx_br_F, mx_br_t, mx_br_f, mx_br_n, mx_cl_T, mx_cl_t, mx_re_T, mx_re_t, mx_rt_v, mx_rt_0, mx_cu_t, mx_w_id, mx_l_id, mx_b_0, mx_b_1, mx_b_r, mx_nl_0, mx_nl_1, mx_nl_2, mx_nl_n, mx_nl_l, mx_sw_n, mx_sw_h, mx_sw_m, Int.reduceLE, Int.reduceLT, Int.reduceEq, Int.reduceAdd, Int.reduceSub, Int.reduceMul, Int.reduceNeg, Int.reduceToNat, and_self, true_and, and_true, false_and, and_false, true_or, or_true, false_or, or_false, not_true_eq_false, not_false_eq_true, eq_self, rw_X11_guess]
    refine mx_W_s ?_
    simp (disch := omega) only [mx_vt_h, mx_vt_m, mx_cmp_0, mx_cmp_1, mx_cmp_2, mx_cmp_3, mx_cmp_4, mx_u_s, mx_u_a, mx_u_k, mx_z_a, mx_z_s, mx_t_a, mx_t_2, mx_t_1, mx_t_0, mx_gd_T, mx_gd_t, mx_br_T, mx_br_F, mx_br_t, mx_br_f, mx_br_n, mx_cl_T, mx_cl_t, mx_re_T, mx_re_t, mx_rt_v, mx_rt_0, mx_cu_t, mx_w_id, mx_l_id, mx_b_0, mx_b_1, mx_b_r, mx_nl_0, mx_nl_1, mx_nl_2, mx_nl_n, mx_nl_l, mx_sw_n, mx_sw_h, mx_sw_m, Int.reduceLE, Int.reduceLT, Int.reduceEq, Int.reduceAdd, Int.reduceSub, Int.reduceMul, Int.reduceNeg, Int.reduceToNat, and_self, true_and, and_true, false_and, and_false, true_or, or_true, false_or, or_false, not_true_eq_false, not_false_eq_true, eq_self, rw_X12_guess, hM.e]
    refine mx_W_r (c_fwA hM v1.t.w ?_)
    intro g2 f2
    rw [e39, show cT (h 39) 63 4913 = A from eA, e0]
    show mx_W (mx_ex _ _ _ _ [_] _ _ _) _
    simp (disch := omega) only [mx_vt_h, mx_vt_m, mx_cmp_0, mx_cmp_1, mx_cmp_2, mx_cmp_3, mx_cmp_4, mx_u_s, mx_u_a, mx_u_k, mx_z_a, mx_z_s, mx_t_a, mx_t_2, mx_t_1, mx_t_0, mx_gd_T, mx_gd_t, mx_br_T, mx_br_F, mx_br_t, mx_br_f, mx_br_n, mx_cl_T, mx_cl_t, mx_re_T, mx_re_t, mx_rt_v, mx_rt_0, mx_cu_t, mx_w_id, mx_l_id, mx_b_0, mx_b_1, mx_b_r, mx_nl_0, mx_nl_1, mx_nl_2, mx_nl_n, mx_nl_l, mx_sw_n, mx_sw_h, mx_sw_m, Int.reduceLE, Int.reduceLT, Int.reduceEq, Int.reduceAdd, Int.reduceSub, Int.reduceMul, Int.reduceNeg, Int.reduceToNat, and_self, true_and, and_true, false_and, and_false, true_or, or_true, false_or, or_false, not_true_eq_false, not_false_eq_true, eq_self, rw_X12_guess]
    exact mx_W_s ⟨⟨_, rfl, rfl⟩, (v1.m f2.f).w hc⟩
  · simp (disch := omega) only [mx_vt_h, mx_vt_m, mx_cmp_0, mx_cmp_1, mx_cmp_2, mx_cmp_3, mx_cmp_4, mx_u_s, mx_u_a, mx_u_k, mx_z_a, mx_z_s, mx_t_a, mx_t_2, mx_t_1, mx_t_0, mx_gd_T, mx_gd_t, mx_br_T, mx_br_F, mx_br_t, mx_br_f, mx_br_n, mx_cl_T, mx_cl_t, mx_re_T, mx_re_t, mx_rt_v, mx_rt_0, mx_cu_t, mx_w_id, mx_l_id, mx_b_0, mx_b_1, mx_b_r, mx_nl_0, mx_nl_1, mx_nl_2, mx_nl_n, mx_nl_l, mx_sw_n, mx_sw_h, mx_sw_m, Int.reduceLE, Int.reduceLT, Int.reduceEq, Int.reduceAdd, Int.reduceSub, Int.reduceMul, Int.reduceNeg, Int.reduceToNat, and_self, true_and, and_true, false_and, and_false, true_or, or_true, false_or, or_false, not_true_eq_false, not_false_eq_true, eq_self, rw_X11_guess, hX, u]
    refine mx_W_s ?_
    have w2 : vw ((mx_u g 0 6 (mx_w (mx_w (g 39 2 * 1103515245) + 12345))) 39) := by rw [mx_u_a (by decide)]; exact v1.t.w
    simp (disch := omega) only [mx_vt_h, mx_vt_m, mx_cmp_0, mx_cmp_1, mx_cmp_2, mx_cmp_3, mx_cmp_4, mx_u_s, mx_u_a, mx_u_k, mx_z_a, mx_z_s, mx_t_a, mx_t_2, mx_t_1, mx_t_0, mx_gd_T, mx_gd_t, mx_br_T, mx_br_F, mx_br_t, mx_br_f, mx_br_n, mx_cl_T, mx_cl_t, mx_re_T, mx_re_t, mx_rt_v, mx_rt_0, mx_cu_t, mx_w_id, mx_l_id, mx_b_0, mx_b_1, mx_b_r, mx_nl_0, mx_nl_1, mx_nl_2, mx_nl_n, mx_nl_l, mx_sw_n, mx_sw_h, mx_sw_m, Int.reduceLE, Int.reduceLT, Int.reduceEq, Int.reduceAdd, Int.reduceSub, Int.reduceMul, Int.reduceNeg, Int.reduceToNat, and_self, true_and, and_true, false_and, and_false, true_or, or_true, false_or, or_false, not_true_eq_false, not_false_eq_true, eq_self, rw_X12_guess, hM.e]
    refine mx_W_r (c_fwA hM w2 ?_)
    intro g2 f2
    have E39 : mx_u g 0 6 (mx_w (mx_w (g 39 2 * 1103515245) + 12345)) 39 = h 39 := by rw [mx_u_a (by decide), e39]
    rw [E39, show cT (h 39) 63 4913 = A from eA]
    have z2 : g2 39 2 = g 39 2 := by rw [f2.f 39 (by decide), mx_u_a (by decide)]
    show mx_W (mx_ex _ _ _ _ [_] _ _ _) _
    simp (disch := omega) only [mx_vt_h, mx_vt_m, mx_cmp_0, mx_cmp_1, mx_cmp_2, mx_cmp_3, mx_cmp_4, mx_u_s, mx_u_a, mx_u_k, mx_z_a, mx_z_s, mx_t_a, mx_t_2, mx_t_1, mx_t_0, mx_gd_T, mx_gd_t, mx_br_T, mx_br_F, mx_br_t, mx_br_f, mx_br_n, mx_cl_T, mx_cl_t, mx_re_T, mx_re_t, mx_rt_v, mx_rt_0, mx_cu_t, mx_w_id, mx_l_id, mx_b_0, mx_b_1, mx_b_r, mx_nl_0, mx_nl_1, mx_nl_2, mx_nl_n, mx_nl_l, mx_sw_n, mx_sw_h, mx_sw_m, Int.reduceLE, Int.reduceLT, Int.reduceEq, Int.reduceAdd, Int.reduceSub, Int.reduceMul, Int.reduceNeg, Int.reduceToNat, and_self, true_and, and_true, false_and, and_false, true_or, or_true, false_or, or_false, not_true_eq_false, not_false_eq_true, eq_self, rw_X12_guess, hM.e, z2]
    refine mx_W_s ⟨⟨_, rfl, rfl⟩, Inv.w ?_ hc⟩
    have v2 : Inv L x S (fun a => if a < 43 ∨ 45 < a then g a else g2 a) n c := v1.m (fun a y => if_pos y)
    refine v2.q ?_ ?_ ?_ ?_
    · intro k k0 k1 k2
      show _ = (if (39 : Int) < 43 ∨ 45 < (39 : Int) then g 39 else g2 39) k
      rw [if_pos (by decide), mx_u_k k2, f2.f 39 (by decide), mx_u_a (by decide)]
    · intro a y z
      show _ = if a < 43 ∨ 45 < a then g a else g2 a
      rw [mx_u_a y]
      by_cases c : a < 43 ∨ 45 < a
      · rw [if_pos c, f2.f a c, mx_u_a z]
      · rw [if_neg c]
    · intro k y
      show _ = (if (0 : Int) < 43 ∨ 45 < (0 : Int) then g 0 else g2 0) k
      rw [if_pos (by decide), mx_u_a (by decide), f2.f 0 (by decide), mx_u_k y]
    · rw [mx_u_a (by decide), f2.f 0 (by decide), mx_u_s, mx_u_s]
end
