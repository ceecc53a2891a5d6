/-! Calls that change a note, lines -/
section
variable {L : Nat} {x : Nat → Int32} {S h g : mx_H} {n c : Int} {d : Nat}
/-- one note has changed -/
theorem Inv.V1 (v : Inv L x S h n c) (hc : c ≤ 599) {a : Int} (qa : 0 ≤ a ∧ a < h 39 0) {σ : Int → Int} (w : vw σ) (h39 : g 39 = σ) (so : ∀ k, k < 9 ∨ 69 ≤ k → σ k = h 39 k) (si : ∀ j k, ¬ j = a → 0 ≤ j → 0 ≤ k → k ≤ 9 → it σ j k = it (h 39) j k) (na : CRoomNumbersLaw_law_r7303_6997d3.nr S g n (S 7 a) σ a)
    (f : ∀ b, b < 53 → ¬ b = 39 → ¬ b = 3 → g b = h b) (f3 : ∀ k, ¬ k = 5 → g 3 k = h 3 k) (hh : ∀ b, 53 ≤ b → ¬ b = S 7 a → ¬ b = S (S 7 a) 2 → g b = h b) (ver : g 3 5 = h 3 5 + 1) : Inv L x S g n (c + 1) := by
  have h0 : σ 0 = h 39 0 := so 0 (by decide)
  have h1 : σ 1 = h 39 1 := so 1 (by decide)
  have ra := v.nr qa
  have wa := v.nw qa
  have ka := wa.k
  have ta := ra.t
  have ua := ra.q
  -- another note's cells stay
  have oth : ∀ (τ : Int → Int) p j, CRoomNumbersLaw_law_r7303_6997d3.nr S h n p τ j → 0 ≤ it τ j 0 → it τ j 0 ≤ 5 → ¬ p = S 7 a → ¬ S p 2 = S (S 7 a) 2 → CRoomNumbersLaw_law_r7303_6997d3.nr S g n p τ j := by
    intro τ p j r k0 k1 n1 n2
    have rt := r.t
    have rq := r.q
    have e1 : g p = h p := hh p r.p0 n1 (fun e => by rw [← e] at ua; omega)
    have e2 : g (S p 2) = h (S p 2) := hh _ r.q0 (fun e => by rw [e] at rq; omega) n2
    exact nr.mk r.t (by rw [e1]; exact r.n) (by rw [e1]; exact r.a) (by rw [e1]; exact r.e) r.q r.l (fun k a b => by rw [e2]; exact r.s k a b) r.p0 r.p1 r.q0 r.q1
  refine v.V hc ?_ ?_ (fun _ _ _ => rfl) (fun _ _ => rfl) rfl rfl (fun _ _ _ => rfl) (fun b y z u => f b y z (by omega)) (fun b y _ u => hh b y (fun e => by rw [e] at u; omega) (fun e => by rw [e] at u; omega)) ver (Int.le_refl _) (by omega)
  · have rr0 : rr S g n 3 σ := by
      refine rr.mk (by rw [f3 3 (by decide), h0]; exact v.t.r.c) (by rw [f3 4 (by decide), h1]; exact v.t.r.L) ?_ ?_ ?_ ?_
      · intro e e0 e1; rw [f _ (by decide) (by decide) (by decide), so _ (by omega)]; exact v.t.r.lo e e0 e1
      · intro e e0 e1; rw [f _ (by decide) (by decide) (by decide), so _ (by omega)]; exact v.t.r.hi e e0 e1
      · intro l k l0 l1 k0 k1
        rw [h1] at l1
        rw [f _ (by decide) (by decide) (by decide)]
        have : ln σ l k = ln (h 39) l k := so _ (by omega)
        rw [this]; exact v.t.r.l l k l0 l1 k0 k1
      · intro j j0 j1
        rw [h0] at j1
        by_cases e : j = a
        · rw [e]; exact na
        · have r := v.nr ⟨j0, j1⟩
          have wj := v.nw ⟨j0, j1⟩
          have hn := wj.n
          have dd := v.t.d j a j0 j1 qa.1 qa.2 e
          have r2 := oth (h 39) _ j r wj.k.1 wj.k.2 dd.1 dd.2
          have ee := fun k k0 k1 => si j k e j0 k0 k1
          refine nr.mk (by rw [ee 0 (by decide) (by decide)]; exact r2.t) r2.n (by rw [ee 2 (by decide) (by decide)]; exact r2.a) (by rw [ee 1 (by decide) (by decide)]; exact r2.e) r2.q (by rw [ee 3 (by decide) (by decide)]; exact r2.l) (fun k k0 k1 => ?_) r2.p0 r2.p1 r2.q0 r2.q1
          rw [ee 3 (by decide) (by decide)] at k1
          rw [ee (4 + k) (by omega) (by omega)]; exact r2.s k k0 k1
    exact stt.mk (by rw [h39]; exact w) (by rw [h39]; exact rr0) (by rw [h39, h0]; exact v.t.d) (by rw [f 0 (by decide) (by decide) (by decide), h39, so 2 (by decide)]; exact v.t.u)
  · have e40 := f 40 (by decide) (by decide) (by decide)
    refine v.k.g2 e40 (by rw [f 0 (by decide) (by decide) (by decide)]) (by rw [f 0 (by decide) (by decide) (by decide)]) (by rw [f 38 (by decide) (by decide) (by decide)]) (fun q => ?_) (fun q => ?_)
    · have r := v.k.r q
      refine rr.mk (by rw [f 17 (by decide) (by decide) (by decide)]; exact r.c) (by rw [f 17 (by decide) (by decide) (by decide)]; exact r.L) (fun e a b => by rw [f _ (by decide) (by decide) (by decide)]; exact r.lo e a b) (fun e a b => by rw [f _ (by decide) (by decide) (by decide)]; exact r.hi e a b) (fun l k a b x y => by rw [f _ (by decide) (by decide) (by decide)]; exact r.l l k a b x y) (fun j j0 j1 => ?_)
      have dd := v.k.d q a j qa.1 qa.2 j0 j1
      have wj := (v.k.w q).n j j0 j1
      exact oth (h 40) _ j (r.n j j0 j1) wj.k.1 wj.k.2 (fun e => dd.1 e.symm) (fun e => dd.2 e.symm)
    · have := v.k.d q
      unfold ap at this ⊢
      rw [h39, h0, e40]; exact this
theorem a_alter {a p s : Int} (hc : c ≤ 599) : ag L x 105 180 [(0, a), (0, p), (0, s)] 0 c := by
  intro d S h n v
  have hX := v.s.x.e
  have hF := v.s.f.e
  have hM := v.s.m
  have w := v.t.w
  have hN := w.N
  by_cases q : 0 ≤ a ∧ a < h 39 0
  · have r := v.nr q
    have na := v.nw q
    have hp := r.p0
    have hq := r.q0
    have hk := na.k
    have hn := na.n
    have hc2 := c_hasPlace (d := d + 11) (h := h) (n := n) (k := p) r na
    by_cases p0 : 0 ≤ p ∧ p < it (h 39) a 3
    · by_cases s0 : 0 ≤ s ∧ s ≤ 15
      · have rs := r.s p p0.1 p0.2
        simp (disch := omega) only [mx_vt_h, mx_vt_m, mx_cmp_0, mx_cmp_1, mx_cmp_2, mx_cmp_3, mx_cmp_4, mx_u_s, mx_u_a, mx_u_k, mx_z_a, mx_z_s, mx_t_a, mx_t_2, mx_t_1, mx_t_0, mx_gd_T, mx_gd_t, mx_br_T, mx_br_F, mx_br_t, mx_br_f, mx_br_n, mx_cl_T, mx_cl_t, mx_re_T, mx_re_t, mx_rt_v, mx_rt_0, mx_cu_t, mx_w_id, mx_l_id, mx_b_0, mx_b_1, mx_b_r, mx_nl_0, mx_nl_1, mx_nl_2, mx_nl_n, mx_nl_l, mx_sw_n, mx_sw_h, mx_sw_m, Int.reduceLE, Int.reduceLT, Int.reduceEq, Int.reduceAdd, Int.reduceSub, Int.reduceMul, Int.reduceNeg, Int.reduceToNat, and_self, true_and, and_true, false_and, and_false, true_or, or_true, false_or, or_false, not_true_eq_false, not_false_eq_true, eq_self, rw_X11_alter, hX, hF, v.na1 q, r.t, r.q, r.l, hc2, mx_b_t p0, c_within, mx_b_t s0, rs, v.ver]
        refine mx_W_s ?_
        let g1 := mx_u (mx_u h (S (S 7 a) 2) p s) 3 5 (h 3 5 + 1)
        have e39 : g1 39 = h 39 := by simp only [g1]; rw [mx_u_a (by decide), mx_u_a (by omega)]
        have ca := c_alter (d := d + 10) (S := S) (h := g1) (n := n) hM (by rw [e39]; exact w) q.1 (by rw [e39]; exact q.2) p0.1 (by rw [e39]; exact p0.2) s0.1 s0.2
        rw [e39] at ca
        simp only [g1] at ca
        rw [ca]
        refine mx_W_s ⟨⟨_, rfl, rfl⟩, ?_⟩
        refine v.V1 hc q (al_w w q.1 q.2 p0.1 p0.2 s0.1 s0.2) ?_ (fun k hk => al_o (by omega)) (fun j k e j0 k0 k1 => al_n p0.1 (by omega) k0 k1 e) ?_ ?_ ?_ ?_ ?_
        · rw [u_al]; simp only [g1] at e39; rw [e39]
        · refine nr_al na r p0.1 (by omega) ?_ ?_ ?_
          · intro b b0 b1; simp (disch := omega) only [mx_u_a]
          · intro k hk; simp (disch := omega) only [mx_u_a, mx_u_k]
          · simp (disch := omega) only [mx_u_a, mx_u_s]
        · intro b b0 b1 b2; simp (disch := omega) only [mx_u_a]
        · intro k hk; simp (disch := omega) only [mx_u_a, mx_u_k]
        · intro b b0 b1 b2; simp (disch := omega) only [mx_u_a]
        · simp (disch := omega) only [mx_u_a, mx_u_s]
      · refine ag_p v hc (y := -1) ?_ ?_
        · simp (disch := omega) only [mx_vt_h, mx_vt_m, mx_cmp_0, mx_cmp_1, mx_cmp_2, mx_cmp_3, mx_cmp_4, mx_u_s, mx_u_a, mx_u_k, mx_z_a, mx_z_s, mx_t_a, mx_t_2, mx_t_1, mx_t_0, mx_gd_T, mx_gd_t, mx_br_T, mx_br_F, mx_br_t, mx_br_f, mx_br_n, mx_cl_T, mx_cl_t, mx_re_T, mx_re_t, mx_rt_v, mx_rt_0, mx_cu_t, mx_w_id, mx_l_id, mx_b_0, mx_b_1, mx_b_r, mx_nl_0, mx_nl_1, mx_nl_2, mx_nl_n, mx_nl_l, mx_sw_n, mx_sw_h, mx_sw_m, Int.reduceLE, Int.reduceLT, Int.reduceEq, Int.reduceAdd, Int.reduceSub, Int.reduceMul, Int.reduceNeg, Int.reduceToNat, and_self, true_and, and_true, false_and, and_false, true_or, or_true, false_or, or_false, not_true_eq_false, not_false_eq_true, eq_self, rw_X11_alter, hX, hF, v.na1 q, r.t, hc2, mx_b_t p0, c_within, mx_b_f s0]
        · simp (disch := omega) only [mx_vt_h, mx_vt_m, mx_cmp_0, mx_cmp_1, mx_cmp_2, mx_cmp_3, mx_cmp_4, mx_u_s, mx_u_a, mx_u_k, mx_z_a, mx_z_s, mx_t_a, mx_t_2, mx_t_1, mx_t_0, mx_gd_T, mx_gd_t, mx_br_T, mx_br_F, mx_br_t, mx_br_f, mx_br_n, mx_cl_T, mx_cl_t, mx_re_T, mx_re_t, mx_rt_v, mx_rt_0, mx_cu_t, mx_w_id, mx_l_id, mx_b_0, mx_b_1, mx_b_r, mx_nl_0, mx_nl_1, mx_nl_2, mx_nl_n, mx_nl_l, mx_sw_n, mx_sw_h, mx_sw_m, Int.reduceLE, Int.reduceLT, Int.reduceEq, Int.reduceAdd, Int.reduceSub, Int.reduceMul, Int.reduceNeg, Int.reduceToNat, and_self, true_and, and_true, false_and, and_false, true_or, or_true, false_or, or_false, not_true_eq_false, not_false_eq_true, eq_self, rw_X12_alter, hM.e, c_isNote hM w, mx_b_t q, c_isPlace hM q.1 (by omega) na, mx_b_t p0, c_in, mx_b_f s0]
    · refine ag_p v hc (y := -1) ?_ ?_
      · simp (disch := omega) only [mx_vt_h, mx_vt_m, mx_cmp_0, mx_cmp_1, mx_cmp_2, mx_cmp_3, mx_cmp_4, mx_u_s, mx_u_a, mx_u_k, mx_z_a, mx_z_s, mx_t_a, mx_t_2, mx_t_1, mx_t_0, mx_gd_T, mx_gd_t, mx_br_T, mx_br_F, mx_br_t, mx_br_f, mx_br_n, mx_cl_T, mx_cl_t, mx_re_T, mx_re_t, mx_rt_v, mx_rt_0, mx_cu_t, mx_w_id, mx_l_id, mx_b_0, mx_b_1, mx_b_r, mx_nl_0, mx_nl_1, mx_nl_2, mx_nl_n, mx_nl_l, mx_sw_n, mx_sw_h, mx_sw_m, Int.reduceLE, Int.reduceLT, Int.reduceEq, Int.reduceAdd, Int.reduceSub, Int.reduceMul, Int.reduceNeg, Int.reduceToNat, and_self, true_and, and_true, false_and, and_false, true_or, or_true, false_or, or_false, not_true_eq_false, not_false_eq_true, eq_self, rw_X11_alter, hX, hF, v.na1 q, r.t, hc2, mx_b_f p0]
      · simp (disch := omega) only [mx_vt_h, mx_vt_m, mx_cmp_0, mx_cmp_1, mx_cmp_2, mx_cmp_3, mx_cmp_4, mx_u_s, mx_u_a, mx_u_k, mx_z_a, mx_z_s, mx_t_a, mx_t_2, mx_t_1, mx_t_0, mx_gd_T, mx_gd_t, mx_br_T, mx_br_F, mx_br_t, mx_br_f, mx_br_n, mx_cl_T, mx_cl_t, mx_re_T, mx_re_t, mx_rt_v, mx_rt_0, mx_cu_t, mx_w_id, mx_l_id, mx_b_0, mx_b_1, mx_b_r, mx_nl_0, mx_nl_1, mx_nl_2, mx_nl_n, mx_nl_l, mx_sw_n, mx_sw_h, mx_sw_m, Int.reduceLE, Int.reduceLT, Int.reduceEq, Int.reduceAdd, Int.reduceSub, Int.reduceMul, Int.reduceNeg, Int.reduceToNat, and_self, true_and, and_true, false_and, and_false, true_or, or_true, false_or, or_false, not_true_eq_false, not_false_eq_true, eq_self, rw_X12_alter, hM.e, c_isNote hM w, mx_b_t q, c_isPlace hM q.1 (by omega) na, mx_b_f p0]
  · refine ag_p v hc (y := -1) ?_ ?_
    · simp (disch := omega) only [mx_vt_h, mx_vt_m, mx_cmp_0, mx_cmp_1, mx_cmp_2, mx_cmp_3, mx_cmp_4, mx_u_s, mx_u_a, mx_u_k, mx_z_a, mx_z_s, mx_t_a, mx_t_2, mx_t_1, mx_t_0, mx_gd_T, mx_gd_t, mx_br_T, mx_br_F, mx_br_t, mx_br_f, mx_br_n, mx_cl_T, mx_cl_t, mx_re_T, mx_re_t, mx_rt_v, mx_rt_0, mx_cu_t, mx_w_id, mx_l_id, mx_b_0, mx_b_1, mx_b_r, mx_nl_0, mx_nl_1, mx_nl_2, mx_nl_n, mx_nl_l, mx_sw_n, mx_sw_h, mx_sw_m, Int.reduceLE, Int.reduceLT, Int.reduceEq, Int.reduceAdd, Int.reduceSub, Int.reduceMul, Int.reduceNeg, Int.reduceToNat, and_self, true_and, and_true, false_and, and_false, true_or, or_true, false_or, or_false, not_true_eq_false, not_false_eq_true, eq_self, rw_X11_alter, hX, hF, v.na0 q]
    · simp (disch := omega) only [mx_vt_h, mx_vt_m, mx_cmp_0, mx_cmp_1, mx_cmp_2, mx_cmp_3, mx_cmp_4, mx_u_s, mx_u_a, mx_u_k, mx_z_a, mx_z_s, mx_t_a, mx_t_2, mx_t_1, mx_t_0, mx_gd_T, mx_gd_t, mx_br_T, mx_br_F, mx_br_t, mx_br_f, mx_br_n, mx_cl_T, mx_cl_t, mx_re_T, mx_re_t, mx_rt_v, mx_rt_0, mx_cu_t, mx_w_id, mx_l_id, mx_b_0, mx_b_1, mx_b_r, mx_nl_0, mx_nl_1, mx_nl_2, mx_nl_n, mx_nl_l, mx_sw_n, mx_sw_h, mx_sw_m, Int.reduceLE, Int.reduceLT, Int.reduceEq, Int.reduceAdd, Int.reduceSub, Int.reduceMul, Int.reduceNeg, Int.reduceToNat, and_self, true_and, and_true, false_and, and_false, true_or, or_true, false_or, or_false, not_true_eq_false, not_false_eq_true, eq_self, rw_X12_alter, hM.e, c_isNote hM w, mx_b_f q]
theorem a_move {a e : Int} (hc : c ≤ 599) : ag L x 106 181 [(0, a), (0, e)] 0 c := by
  intro d S h n v
  have hX := v.s.x.e
  have hF := v.s.f.e
  have hM := v.s.m
  have w := v.t.w
  have hN := w.N
  by_cases q : 0 ≤ a ∧ a < h 39 0
  · have r := v.nr q
    have na := v.nw q
    have hp := r.p0
    have hq := r.q0
    have hk := na.k
    have hn := na.n
    by_cases e0 : 0 ≤ e ∧ e ≤ 2
    · simp (disch := omega) only [mx_vt_h, mx_vt_m, mx_cmp_0, mx_cmp_1, mx_cmp_2, mx_cmp_3, mx_cmp_4, mx_u_s, mx_u_a, mx_u_k, mx_z_a, mx_z_s, mx_t_a, mx_t_2, mx_t_1, mx_t_0, mx_gd_T, mx_gd_t, mx_br_T, mx_br_F, mx_br_t, mx_br_f, mx_br_n, mx_cl_T, mx_cl_t, mx_re_T, mx_re_t, mx_rt_v, mx_rt_0, mx_cu_t, mx_w_id, mx_l_id, mx_b_0, mx_b_1, mx_b_r, mx_nl_0, mx_nl_1, mx_nl_2, mx_nl_n, mx_nl_l, mx_sw_n, mx_sw_h, mx_sw_m, Int.reduceLE, Int.reduceLT, Int.reduceEq, Int.reduceAdd, Int.reduceSub, Int.reduceMul, Int.reduceNeg, Int.reduceToNat, and_self, true_and, and_true, false_and, and_false, true_or, or_true, false_or, or_false, not_true_eq_false, not_false_eq_true, eq_self, rw_X11_move, hX, hF, v.na1 q, r.t, r.e, c_xEv, mx_b_t e0, v.ver]
      refine mx_W_s ?_
      let g1 := mx_u (mx_u h (S 7 a) 3 e) 3 5 (h 3 5 + 1)
      have e39 : g1 39 = h 39 := by simp only [g1]; rw [mx_u_a (by decide), mx_u_a (by omega)]
      have ca := c_move (d := d + 10) (S := S) (h := g1) (n := n) hM (by rw [e39]; exact w) q.1 (by rw [e39]; exact q.2) e0.1 e0.2
      rw [e39] at ca
      simp only [g1] at ca
      rw [ca]
      refine mx_W_s ⟨⟨_, rfl, rfl⟩, ?_⟩
      have np : ¬ S (S 7 a) 2 = S 7 a := fun z => by
        have h1 := r.q
        have h2 := r.t
        rw [z] at h1; omega
      refine v.V1 hc q (mv_w w q.1 (by omega) e0.1 e0.2) ?_ (fun k hk => mv_o (by omega)) (fun j k e j0 k0 k1 => mv_n k0 k1 e) ?_ ?_ ?_ ?_ ?_
      · rw [u_mv]; simp only [g1] at e39; rw [e39]
      · have ee : ∀ k, 0 ≤ k → k ≤ 9 → ¬ k = 1 → it (mv (h 39) a e) a k = it (h 39) a k := fun k k0 k1 k2 => mv_i k0 k1 k2
        refine nr.mk (by rw [ee 0 (by decide) (by decide) (by decide)]; exact r.t) ?_ ?_ ?_ r.q (by rw [ee 3 (by decide) (by decide) (by decide)]; exact r.l) ?_ r.p0 r.p1 r.q0 r.q1
        · simp (disch := omega) only [mx_u_a, mx_u_k]; exact r.n
        · simp (disch := omega) only [mx_u_a, mx_u_k]; rw [ee 2 (by decide) (by decide) (by decide)]; exact r.a
        · simp (disch := omega) only [mx_u_a, mx_u_s]; rw [mv_1]
        · intro k k0 k1
          rw [ee 3 (by decide) (by decide) (by decide)] at k1
          simp (disch := omega) only [mx_u_a]
          rw [ee (4 + k) (by omega) (by omega) (by omega)]; exact r.s k k0 k1
      · intro b b0 b1 b2; simp (disch := omega) only [mx_u_a]
      · intro k hk; simp (disch := omega) only [mx_u_a, mx_u_k]
      · intro b b0 b1 b2; simp (disch := omega) only [mx_u_a]
      · simp (disch := omega) only [mx_u_a, mx_u_s]
    · refine ag_p v hc (y := -1) ?_ ?_
      · simp (disch := omega) only [mx_vt_h, mx_vt_m, mx_cmp_0, mx_cmp_1, mx_cmp_2, mx_cmp_3, mx_cmp_4, mx_u_s, mx_u_a, mx_u_k, mx_z_a, mx_z_s, mx_t_a, mx_t_2, mx_t_1, mx_t_0, mx_gd_T, mx_gd_t, mx_br_T, mx_br_F, mx_br_t, mx_br_f, mx_br_n, mx_cl_T, mx_cl_t, mx_re_T, mx_re_t, mx_rt_v, mx_rt_0, mx_cu_t, mx_w_id, mx_l_id, mx_b_0, mx_b_1, mx_b_r, mx_nl_0, mx_nl_1, mx_nl_2, mx_nl_n, mx_nl_l, mx_sw_n, mx_sw_h, mx_sw_m, Int.reduceLE, Int.reduceLT, Int.reduceEq, Int.reduceAdd, Int.reduceSub, Int.reduceMul, Int.reduceNeg, Int.reduceToNat, and_self, true_and, and_true, false_and, and_false, true_or, or_true, false_or, or_false, not_true_eq_false, not_false_eq_true, eq_self, rw_X11_move, hX, hF, v.na1 q, c_xEv, mx_b_f e0]
      · simp (disch := omega) only [mx_vt_h, mx_vt_m, mx_cmp_0, mx_cmp_1, mx_cmp_2, mx_cmp_3, mx_cmp_4, mx_u_s, mx_u_a, mx_u_k, mx_z_a, mx_z_s, mx_t_a, mx_t_2, mx_t_1, mx_t_0, mx_gd_T, mx_gd_t, mx_br_T, mx_br_F, mx_br_t, mx_br_f, mx_br_n, mx_cl_T, mx_cl_t, mx_re_T, mx_re_t, mx_rt_v, mx_rt_0, mx_cu_t, mx_w_id, mx_l_id, mx_b_0, mx_b_1, mx_b_r, mx_nl_0, mx_nl_1, mx_nl_2, mx_nl_n, mx_nl_l, mx_sw_n, mx_sw_h, mx_sw_m, Int.reduceLE, Int.reduceLT, Int.reduceEq, Int.reduceAdd, Int.reduceSub, Int.reduceMul, Int.reduceNeg, Int.reduceToNat, and_self, true_and, and_true, false_and, and_false, true_or, or_true, false_or, or_false, not_true_eq_false, not_false_eq_true, eq_self, rw_X12_move, hM.e, c_isNote hM w, mx_b_t q, c_isEvening, mx_b_f e0]
  · refine ag_p v hc (y := -1) ?_ ?_
    · simp (disch := omega) only [mx_vt_h, mx_vt_m, mx_cmp_0, mx_cmp_1, mx_cmp_2, mx_cmp_3, mx_cmp_4, mx_u_s, mx_u_a, mx_u_k, mx_z_a, mx_z_s, mx_t_a, mx_t_2, mx_t_1, mx_t_0, mx_gd_T, mx_gd_t, mx_br_T, mx_br_F, mx_br_t, mx_br_f, mx_br_n, mx_cl_T, mx_cl_t, mx_re_T, mx_re_t, mx_rt_v, mx_rt_0, mx_cu_t, mx_w_id, mx_l_id, mx_b_0, mx_b_1, mx_b_r, mx_nl_0, mx_nl_1, mx_nl_2, mx_nl_n, mx_nl_l, mx_sw_n, mx_sw_h, mx_sw_m, Int.reduceLE, Int.reduceLT, Int.reduceEq, Int.reduceAdd, Int.reduceSub, Int.reduceMul, Int.reduceNeg, Int.reduceToNat, and_self, true_and, and_true, false_and, and_false, true_or, or_true, false_or, or_false, not_true_eq_false, not_false_eq_true, eq_self, rw_X11_move, hX, hF, v.na0 q]
    · simp (disch := omega) only [mx_vt_h, mx_vt_m, mx_cmp_0, mx_cmp_1, mx_cmp_2, mx_cmp_3, mx_cmp_4, mx_u_s, mx_u_a, mx_u_k, mx_z_a, mx_z_s, mx_t_a, mx_t_2, mx_t_1, mx_t_0, mx_gd_T, mx_gd_t, mx_br_T, mx_br_F, mx_br_t, mx_br_f, mx_br_n, mx_cl_T, mx_cl_t, mx_re_T, mx_re_t, mx_rt_v, mx_rt_0, mx_cu_t, mx_w_id, mx_l_id, mx_b_0, mx_b_1, mx_b_r, mx_nl_0, mx_nl_1, mx_nl_2, mx_nl_n, mx_nl_l, mx_sw_n, mx_sw_h, mx_sw_m, Int.reduceLE, Int.reduceLT, Int.reduceEq, Int.reduceAdd, Int.reduceSub, Int.reduceMul, Int.reduceNeg, Int.reduceToNat, and_self, true_and, and_true, false_and, and_false, true_or, or_true, false_or, or_false, not_true_eq_false, not_false_eq_true, eq_self, rw_X12_move, hM.e, c_isNote hM w, mx_b_f q]
/-- a line more -/
def ladd (σ : Int → Int) (s a b e : Int) : Int → Int := fun k => if k = 1 then σ 1 + 1 else if k = 69 + 4 * σ 1 then s else if k = 69 + 4 * σ 1 + 1 then a else if k = 69 + 4 * σ 1 + 2 then b else if k = 69 + 4 * σ 1 + 3 then e else σ k
theorem ladd_o {σ : Int → Int} {s a b e k : Int} (q : ¬ k = 1) (z : k < 69 + 4 * σ 1 ∨ 69 + 4 * σ 1 + 3 < k) : ladd σ s a b e k = σ k := by
  unfold ladd; rw [if_neg q, if_neg (by omega), if_neg (by omega), if_neg (by omega), if_neg (by omega)]
theorem ladd_w {σ : Int → Int} {s a b e : Int} (w : vw σ) (l5 : σ 1 ≤ 5) (s0 : 0 ≤ s ∧ s ≤ 3) (a0 : 0 ≤ a ∧ a < σ 0) (b0 : 0 ≤ b ∧ b < σ 0) (e0 : 0 ≤ e ∧ e ≤ 99) (e2 : s = 2 → e < σ 0) (e3 : s = 3 → 1 ≤ e) : vw (ladd σ s a b e) := by
  have hL := w.L
  have hN := w.N
  have n0 : ladd σ s a b e 0 = σ 0 := ladd_o (by decide) (by omega)
  have n1 : ladd σ s a b e 1 = σ 1 + 1 := by unfold ladd; rw [if_pos rfl]
  refine vw.mk (by rw [n0]; exact w.N) (by rw [n1]; omega) ?_ ?_ ?_
  · intro k k0 k1; rw [ladd_o (by omega) (by omega), ladd_o (by omega) (by omega)]; exact w.e k k0 k1
  · intro i i0 i1
    rw [n0] at i1
    have ii : ∀ k, 0 ≤ k → k ≤ 9 → it (ladd σ s a b e) i k = it σ i k := fun k k0 k1 => ladd_o (by omega) (by omega)
    refine nw_c (w.n i i0 i1) (fun k k0 k1 _ => ii k k0 k1) ?_
    rw [ii 1 (by decide) (by decide)]; exact (w.n i i0 i1).e
  · intro l l0 l1
    rw [n1] at l1
    rw [n0]
    by_cases c : l = σ 1
    · subst c
      have f0 : ln (ladd σ s a b e) (σ 1) 0 = s := by unfold ln ladd; rw [if_neg (by omega), if_pos (by omega)]
      have f1 : ln (ladd σ s a b e) (σ 1) 1 = a := by unfold ln ladd; rw [if_neg (by omega), if_neg (by omega), if_pos (by omega)]
      have f2 : ln (ladd σ s a b e) (σ 1) 2 = b := by unfold ln ladd; rw [if_neg (by omega), if_neg (by omega), if_neg (by omega), if_pos (by omega)]
      have f3 : ln (ladd σ s a b e) (σ 1) 3 = e := by unfold ln ladd; rw [if_neg (by omega), if_neg (by omega), if_neg (by omega), if_neg (by omega), if_pos (by omega)]
      exact lw.mk (by rw [f0]; exact s0) (by rw [f1]; exact a0) (by rw [f2]; exact b0) (by rw [f3]; exact e0) (by rw [f0, f3]; exact e2) (by rw [f0, f3]; exact e3)
    · exact lw_c (w.l l l0 (by omega)) (fun k k0 k1 => ladd_o (by omega) (by omega))
theorem Inv.lad (v : Inv L x S h n c) (hc : c ≤ 599) {s a b e : Int} (l5 : h 39 1 ≤ 5) (w2 : vw (ladd (h 39) s a b e)) {i0' i1' i2' i3' : Int} (j0 : i0' = h 39 1 * 4) (j1 : i1' = h 39 1 * 4 + 1) (j2 : i2' = h 39 1 * 4 + 2) (j3 : i3' = h 39 1 * 4 + 3)
    (g39 : g 39 = ladd (h 39) s a b e) (gf : ∀ y, ¬ y = 39 → g y = mx_u (mx_u (mx_u (mx_u (mx_u (mx_u h 6 i0' s) 6 i1' a) 6 i2' b) 6 i3' e) 3 4 (h 39 1 + 1)) 3 5 (h 3 5 + 1) y) : Inv L x S g n (c + 1) := by
  have hL := v.t.w.L
  subst j0 j1 j2 j3
  have n1 : ladd (h 39) s a b e 1 = h 39 1 + 1 := by unfold ladd; rw [if_pos rfl]
  refine v.V0 hc w2 g39 (ladd_o (by decide) (by omega)) (ladd_o (by decide) (by omega)) (fun i k i0 i1 k0 k1 => ladd_o (by omega) (by have := v.t.w.N; omega)) ?_ ?_ ?_ ?_ ?_ ?_ ?_
  · rw [gf _ (by decide), ladd_o (by decide) (by omega)]; simp (disch := omega) only [mx_u_a, mx_u_k]; exact v.t.r.c
  · rw [gf _ (by decide), n1]; simp (disch := omega) only [mx_u_k, mx_u_s]
  · intro k k0 k1; rw [gf _ (by decide), ladd_o (by omega) (by omega)]; simp (disch := omega) only [mx_u_a]; exact v.t.r.lo k k0 k1
  · intro k k0 k1; rw [gf _ (by decide), ladd_o (by omega) (by omega)]; simp (disch := omega) only [mx_u_a]; exact v.t.r.hi k k0 k1
  · intro l k l0 l1 k0 k1
    rw [n1] at l1
    rw [gf _ (by decide)]
    by_cases c : l = h 39 1
    · have kk : k = 0 ∨ k = 1 ∨ k = 2 ∨ k = 3 := by omega
      unfold ln
      rw [c]
      rcases kk with z | z | z | z <;> subst z
      · have : ladd (h 39) s a b e (69 + 4 * h 39 1 + 0) = s := by unfold ladd; rw [if_neg (by omega), if_pos (by omega)]
        rw [this]; simp (disch := omega) only [mx_u_a, mx_u_k, Int.add_zero, mx_u_s]
      · have : ladd (h 39) s a b e (69 + 4 * h 39 1 + 1) = a := by unfold ladd; rw [if_neg (by omega), if_neg (by omega), if_pos (by omega)]
        rw [this]; simp (disch := omega) only [mx_u_a, mx_u_k, mx_u_s]
      · have : ladd (h 39) s a b e (69 + 4 * h 39 1 + 2) = b := by unfold ladd; rw [if_neg (by omega), if_neg (by omega), if_neg (by omega), if_pos (by omega)]
        rw [this]; simp (disch := omega) only [mx_u_a, mx_u_k, mx_u_s]
      · have : ladd (h 39) s a b e (69 + 4 * h 39 1 + 3) = e := by unfold ladd; rw [if_neg (by omega), if_neg (by omega), if_neg (by omega), if_neg (by omega), if_pos (by omega)]
        rw [this]; simp (disch := omega) only [mx_u_a, mx_u_k, mx_u_s]
    · have e1 : ln (ladd (h 39) s a b e) l k = ln (h 39) l k := ladd_o (by omega) (by omega)
      rw [e1]; simp (disch := omega) only [mx_u_a, mx_u_k]; exact v.t.r.l l k l0 (by omega) k0 k1
  · intro y y0 y1; rw [gf y y0]; simp (disch := omega) only [mx_u_a]
  · rw [gf _ (by decide)]; rw [mx_u_s]
theorem u_ladd {s a b e : Int} (l0 : 0 ≤ h 39 1) : mx_u (mx_u (mx_u (mx_u (mx_u h 39 (69 + 4 * h 39 1) s) 39 (69 + 4 * h 39 1 + 1) a) 39 (69 + 4 * h 39 1 + 2) b) 39 (69 + 4 * h 39 1 + 3) e) 39 1 (h 39 1 + 1) 39 = ladd (h 39) s a b e := by
  funext k; unfold ladd
  by_cases c1 : k = 1
  · subst c1; rw [mx_u_s, if_pos rfl]
  · rw [if_neg c1, mx_u_k c1]
    by_cases c2 : k = 69 + 4 * h 39 1
    · subst c2; rw [if_pos rfl]; simp (disch := omega) only [mx_u_k, mx_u_s]
    · rw [if_neg c2]
      by_cases c3 : k = 69 + 4 * h 39 1 + 1
      · subst c3; rw [if_pos rfl]; simp (disch := omega) only [mx_u_k, mx_u_s]
      · rw [if_neg c3]
        by_cases c4 : k = 69 + 4 * h 39 1 + 2
        · subst c4; rw [if_pos rfl]; simp (disch := omega) only [mx_u_k, mx_u_s]
        · rw [if_neg c4]
          by_cases c5 : k = 69 + 4 * h 39 1 + 3
          · subst c5; rw [if_pos rfl]; simp (disch := omega) only [mx_u_s]
          · rw [if_neg c5]; simp (disch := omega) only [mx_u_k]
end
