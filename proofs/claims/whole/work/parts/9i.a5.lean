/-! Calls that change the valley, but make no note -/
section
variable {L : Nat} {x : Nat → Int32} {S T h g : mx_H} {n m c : Int} {d : Nat}
theorem Inv.V (v : Inv L x S h n c) (hc : c ≤ 599) (t : stt T g m) (kp : kpt T g m) (sf : ∀ a k, ok a k → T a k = S a k) (sn : ∀ a, a < 0 → T a = S a) (s32 : T 32 = S 32) (s35 : T 35 = S 35) (sS : ∀ a, 53 ≤ a → a < n → T a = S a)
    (f : ∀ a, a < 53 → ¬ a = 39 → ¬ (3 ≤ a ∧ a ≤ 6) → g a = h a) (hh : ∀ a, 53 ≤ a → a < n → S a (-2) = 12 ∨ S a (-2) = 21 → g a = h a) (ver : g 3 5 = h 3 5 + 1) (le : n ≤ m) (lm : m ≤ n + 24) : Inv L x T g m (c + 1) := by
  have e0 := f 0 (by decide) (by decide) (by decide)
  have e38 := f 38 (by decide) (by decide) (by decide)
  refine Inv.mk (v.s.gg sf sn) (fun a z => by rw [f a (by omega) (by omega) (by omega)]; exact v.g a z) (by have := v.n; omega) (by have := v.c; omega) t kp ?_ ?_ ?_ ?_ ?_ ?_
  · exact v.p.gg (by rw [e0]) (by rw [e38]) (f 1 (by decide) (by decide) (by decide)) (f 42 (by decide) (by decide) (by decide))
  · exact v.r.gg (by rw [e0]) (by rw [e38]) (f 30 (by decide) (by decide) (by decide)) (f 46 (by decide) (by decide) (by decide))
  · exact v.b.gg (f 47 (by decide) (by decide) (by decide)) (f 48 (by decide) (by decide) (by decide)) (f 49 (by decide) (by decide) (by decide)) s32 sS hh le
  · exact v.l.gg (f 33 (by decide) (by decide) (by decide)) (f 34 (by decide) (by decide) (by decide)) (f 50 (by decide) (by decide) (by decide)) (f 51 (by decide) (by decide) (by decide)) s35 sS (fun a y z w => hh a y z (Or.inl w)) le
  · exact v.i.gg (f 36 (by decide) (by decide) (by decide)) (by rw [e38]) (f 37 (by decide) (by decide) (by decide)) (f 52 (by decide) (by decide) (by decide))
  · exact v.f.nn (f 2 (by decide) (by decide) (by decide)) (f 15 (by decide) (by decide) (by decide)) ver (by decide) (by decide)
/-- what was kept stays, where its own rows stay -/
theorem kpt.g2 (t : kpt S h n) (h40 : g 40 = h 40) (h5 : g 0 5 = h 0 5) (h7 : g 0 7 = h 0 7) (h38 : g 38 3 = h 38 3) (r : h 38 3 = 1 → rr T g m 17 (h 40)) (d : h 38 3 = 1 → ap T g) : kpt T g m :=
  kpt.mk (by rw [h5, h38]; exact t.b) (by rw [h38]; exact t.c) (fun q => by rw [h40]; rw [h38] at q; exact t.w q) (fun q => by rw [h40]; rw [h38] at q; exact r q) (fun q => by rw [h7, h40]; rw [h38] at q; exact t.u q) (fun q => by rw [h38] at q; exact d q)
/-- the valley's numbers have changed, its notes not -/
theorem Inv.V0 (v : Inv L x S h n c) (hc : c ≤ 599) {σ : Int → Int} (w : vw σ) (h39 : g 39 = σ) (s0 : σ 0 = h 39 0) (s2 : σ 2 = h 39 2) (si : ∀ i k, 0 ≤ i → i < h 39 0 → 0 ≤ k → k ≤ 9 → it σ i k = it (h 39) i k)
    (c3 : g 3 3 = σ 0) (c4 : g 3 4 = σ 1) (lo : ∀ e, 0 ≤ e → e ≤ 2 → g 4 e = σ (3 + 2 * e)) (hi : ∀ e, 0 ≤ e → e ≤ 2 → g 5 e = σ (3 + 2 * e + 1)) (ll : ∀ l k, 0 ≤ l → l < σ 1 → 0 ≤ k → k ≤ 3 → g 6 (l * 4 + k) = ln σ l k)
    (f : ∀ a, ¬ a = 39 → ¬ (3 ≤ a ∧ a ≤ 6) → g a = h a) (ver : g 3 5 = h 3 5 + 1) : Inv L x S g n (c + 1) := by
  refine v.V hc ?_ ?_ (fun _ _ _ => rfl) (fun _ _ => rfl) rfl rfl (fun _ _ _ => rfl) (fun a _ y z => f a y z) (fun a y _ _ => f a (by omega) (by omega)) ver (Int.le_refl _) (by omega)
  · have rr0 : rr S g n 3 σ := by
      refine rr.mk c3 c4 lo hi ll (fun i i0 i1 => ?_)
      rw [s0] at i1
      have r := (v.t.r.n i i0 i1).gg (T := S) (g := g) (fun _ _ _ => rfl) (fun a y _ => f a (by omega) (by omega)) (Int.le_refl _)
      have hn := (v.t.w.n i i0 i1).n
      have e := fun k k0 k1 => si i k i0 i1 k0 k1
      refine nr.mk (by rw [e 0 (by decide) (by decide)]; exact r.t) r.n (by rw [e 2 (by decide) (by decide)]; exact r.a) (by rw [e 1 (by decide) (by decide)]; exact r.e) r.q (by rw [e 3 (by decide) (by decide)]; exact r.l) (fun k k0 k1 => ?_) r.p0 r.p1 r.q0 r.q1
      rw [e 3 (by decide) (by decide)] at k1
      rw [e (4 + k) (by omega) (by omega)]; exact r.s k k0 k1
    exact stt.mk (by rw [h39]; exact w) (by rw [h39]; exact rr0) (by rw [h39, s0]; exact v.t.d) (by rw [f 0 (by decide) (by decide), h39, s2]; exact v.t.u)
  · refine v.k.g2 (f 40 (by decide) (by decide)) (by rw [f 0 (by decide) (by decide)]) (by rw [f 0 (by decide) (by decide)]) (by rw [f 38 (by decide) (by decide)]) (fun q => ?_) (fun q => ?_)
    · exact (v.k.r q).gg (by rw [f 17 (by decide) (by decide)]) (by rw [f 17 (by decide) (by decide)]) (f 18 (by decide) (by decide)) (f 19 (by decide) (by decide)) (f 20 (by decide) (by decide)) rfl (fun _ _ _ => rfl) (fun a y _ => f a (by omega) (by omega)) (Int.le_refl _)
    · have := v.k.d q
      unfold ap at this ⊢
      rw [h39, s0, f 40 (by decide) (by decide)]; exact this
theorem Inv.ver (v : Inv L x S h n c) : mx_w (h 3 5 + 1) = h 3 5 + 1 := by
  have := v.f.v
  have := v.c
  exact mx_w_id (by omega) (by omega)
def eset (σ : Int → Int) (e a b : Int) : Int → Int := fun k => if k = 3 + 2 * e + 1 then b else if k = 3 + 2 * e then a else σ k
theorem a_evening {e a b : Int} (hc : c ≤ 599) : ag L x 101 175 [(0, e), (0, a), (0, b)] 0 c := by
  intro d S h n v
  have hX := v.s.x.e
  have hF := v.s.f.e
  have hM := v.s.m
  have w := v.t.w
  by_cases q : 0 ≤ e ∧ e ≤ 2
  · by_cases a0 : 2 ≤ a ∧ a ≤ 16
    · by_cases b0 : 2 ≤ b ∧ b ≤ 16
      · by_cases ab : b < a
        · refine ag_p v hc (y := -1) ?_ ?_
          · simp (disch := omega) only [mx_vt_h, mx_vt_m, mx_cmp_0, mx_cmp_1, mx_cmp_2, mx_cmp_3, mx_cmp_4, mx_u_s, mx_u_a, mx_u_k, mx_z_a, mx_z_s, mx_t_a, mx_t_2, mx_t_1, mx_t_0, mx_gd_T, mx_gd_t, mx_br_T, mx_br_F, mx_br_t, mx_br_f, mx_br_n, mx_cl_T, mx_cl_t, mx_re_T, mx_re_t, mx_rt_v, mx_rt_0, mx_cu_t, mx_w_id, mx_l_id, mx_b_0, mx_b_1, mx_b_r, mx_nl_0, mx_nl_1, mx_nl_2, mx_nl_n, mx_nl_l, mx_sw_n, mx_sw_h, mx_sw_m, Int.reduceLE, Int.reduceLT, Int.reduceEq, Int.reduceAdd, Int.reduceSub, Int.reduceMul, Int.reduceNeg, Int.reduceToNat, and_self, true_and, and_true, false_and, and_false, true_or, or_true, false_or, or_false, not_true_eq_false, not_false_eq_true, eq_self, rw_X11_evening, c_xEv, mx_b_t q, c_xBs, mx_b_t a0, mx_b_t b0, ab]
          · simp (disch := omega) only [mx_vt_h, mx_vt_m, mx_cmp_0, mx_cmp_1, mx_cmp_2, mx_cmp_3, mx_cmp_4, mx_u_s, mx_u_a, mx_u_k, mx_z_a, mx_z_s, mx_t_a, mx_t_2, mx_t_1, mx_t_0, mx_gd_T, mx_gd_t, mx_br_T, mx_br_F, mx_br_t, mx_br_f, mx_br_n, mx_cl_T, mx_cl_t, mx_re_T, mx_re_t, mx_rt_v, mx_rt_0, mx_cu_t, mx_w_id, mx_l_id, mx_b_0, mx_b_1, mx_b_r, mx_nl_0, mx_nl_1, mx_nl_2, mx_nl_n, mx_nl_l, mx_sw_n, mx_sw_h, mx_sw_m, Int.reduceLE, Int.reduceLT, Int.reduceEq, Int.reduceAdd, Int.reduceSub, Int.reduceMul, Int.reduceNeg, Int.reduceToNat, and_self, true_and, and_true, false_and, and_false, true_or, or_true, false_or, or_false, not_true_eq_false, not_false_eq_true, eq_self, rw_X12_evening, c_isEvening, mx_b_t q, c_isBase, mx_b_t a0, mx_b_t b0, ab]
        · simp (disch := omega) only [mx_vt_h, mx_vt_m, mx_cmp_0, mx_cmp_1, mx_cmp_2, mx_cmp_3, mx_cmp_4, mx_u_s, mx_u_a, mx_u_k, mx_z_a, mx_z_s, mx_t_a, mx_t_2, mx_t_1, mx_t_0, mx_gd_T, mx_gd_t, mx_br_T, mx_br_F, mx_br_t, mx_br_f, mx_br_n, mx_cl_T, mx_cl_t, mx_re_T, mx_re_t, mx_rt_v, mx_rt_0, mx_cu_t, mx_w_id, mx_l_id, mx_b_0, mx_b_1, mx_b_r, mx_nl_0, mx_nl_1, mx_nl_2, mx_nl_n, mx_nl_l, mx_sw_n, mx_sw_h, mx_sw_m, Int.reduceLE, Int.reduceLT, Int.reduceEq, Int.reduceAdd, Int.reduceSub, Int.reduceMul, Int.reduceNeg, Int.reduceToNat, and_self, true_and, and_true, false_and, and_false, true_or, or_true, false_or, or_false, not_true_eq_false, not_false_eq_true, eq_self, rw_X11_evening, rw_X10_setEvening, hX, hF, c_xEv, mx_b_t q, c_xBs, mx_b_t a0, mx_b_t b0, ab, v.ver]
          refine mx_W_s ?_
          simp (disch := omega) only [mx_vt_h, mx_vt_m, mx_cmp_0, mx_cmp_1, mx_cmp_2, mx_cmp_3, mx_cmp_4, mx_u_s, mx_u_a, mx_u_k, mx_z_a, mx_z_s, mx_t_a, mx_t_2, mx_t_1, mx_t_0, mx_gd_T, mx_gd_t, mx_br_T, mx_br_F, mx_br_t, mx_br_f, mx_br_n, mx_cl_T, mx_cl_t, mx_re_T, mx_re_t, mx_rt_v, mx_rt_0, mx_cu_t, mx_w_id, mx_l_id, mx_b_0, mx_b_1, mx_b_r, mx_nl_0, mx_nl_1, mx_nl_2, mx_nl_n, mx_nl_l, mx_sw_n, mx_sw_h, mx_sw_m, Int.reduceLE, Int.reduceLT, Int.reduceEq, Int.reduceAdd, Int.reduceSub, Int.reduceMul, Int.reduceNeg, Int.reduceToNat, and_self, true_and, and_true, false_and, and_false, true_or, or_true, false_or, or_false, not_true_eq_false, not_false_eq_true, eq_self, rw_X12_evening, hM.e, c_isEvening, mx_b_t q, c_isBase, mx_b_t a0, mx_b_t b0, ab]
          refine mx_W_s ⟨⟨_, rfl, rfl⟩, ?_⟩
          have w2 : vw (eset (h 39) e a b) := by
            have n0 : eset (h 39) e a b 0 = h 39 0 := by unfold eset; rw [if_neg (by omega), if_neg (by omega)]
            have n1 : eset (h 39) e a b 1 = h 39 1 := by unfold eset; rw [if_neg (by omega), if_neg (by omega)]
            refine vw.mk (by rw [n0]; exact w.N) (by rw [n1]; exact w.L) ?_ ?_ ?_
            · intro k k0 k1
              by_cases ke : k = e
              · subst ke; unfold eset; rw [if_neg (by omega), if_pos rfl, if_pos rfl]; omega
              · unfold eset; rw [if_neg (by omega), if_neg (by omega), if_neg (by omega), if_neg (by omega)]; exact w.e k k0 k1
            · intro i i0 i1
              rw [n0] at i1
              have ii : ∀ k, 0 ≤ k → it (eset (h 39) e a b) i k = it (h 39) i k := fun k k0 => by unfold it eset; rw [if_neg (by omega), if_neg (by omega)]
              refine nw_c (w.n i i0 i1) (fun k k0 k1 _ => ii k k0) ?_
              rw [ii 1 (by decide)]; exact (w.n i i0 i1).e
            · intro l l0 l1
              rw [n1] at l1
              rw [n0]
              exact lw_c (w.l l l0 l1) (fun k k0 k1 => by unfold ln eset; rw [if_neg (by omega), if_neg (by omega)])
          refine v.V0 hc w2 ?_ ?_ ?_ ?_ ?_ ?_ ?_ ?_ ?_ ?_ ?_
          · funext k; unfold eset mx_u; simp
          · unfold eset; rw [if_neg (by omega), if_neg (by omega)]
          · unfold eset; rw [if_neg (by omega), if_neg (by omega)]
          · intro i k i0 i1 k0 k1; unfold it eset; rw [if_neg (by omega), if_neg (by omega)]
          · have : h 3 3 = h 39 0 := v.t.r.c
            simp (disch := omega) only [mx_u_a, mx_u_k]; unfold eset; rw [if_neg (by omega), if_neg (by omega)]; exact this
          · have : h 3 4 = h 39 1 := v.t.r.L
            simp (disch := omega) only [mx_u_a, mx_u_k]; unfold eset; rw [if_neg (by omega), if_neg (by omega)]; exact this
          · intro k k0 k1
            have : h 4 k = h 39 (3 + 2 * k) := v.t.r.lo k k0 k1
            by_cases ke : k = e
            · subst ke; simp (disch := omega) only [mx_u_a, mx_u_s]; unfold eset; rw [if_neg (by omega), if_pos rfl]
            · simp (disch := omega) only [mx_u_a, mx_u_k]; unfold eset; rw [if_neg (by omega), if_neg (by omega)]; exact this
          · intro k k0 k1
            have : h 5 k = h 39 (3 + 2 * k + 1) := v.t.r.hi k k0 k1
            by_cases ke : k = e
            · subst ke; simp (disch := omega) only [mx_u_a, mx_u_s]; unfold eset; rw [if_pos rfl]
            · simp (disch := omega) only [mx_u_a, mx_u_k]; unfold eset; rw [if_neg (by omega), if_neg (by omega)]; exact this
          · intro l k l0 l1 k0 k1
            have n1 : eset (h 39) e a b 1 = h 39 1 := by unfold eset; rw [if_neg (by omega), if_neg (by omega)]
            rw [n1] at l1
            have : h 6 (l * 4 + k) = ln (h 39) l k := v.t.r.l l k l0 l1 k0 k1
            simp (disch := omega) only [mx_u_a]; unfold ln eset; rw [if_neg (by omega), if_neg (by omega)]; exact this
          · intro y y0 y1; simp (disch := omega) only [mx_u_a]
          · simp (disch := omega) only [mx_u_a, mx_u_s]
      · refine ag_p v hc (y := -1) ?_ ?_
        · simp (disch := omega) only [mx_vt_h, mx_vt_m, mx_cmp_0, mx_cmp_1, mx_cmp_2, mx_cmp_3, mx_cmp_4, mx_u_s, mx_u_a, mx_u_k, mx_z_a, mx_z_s, mx_t_a, mx_t_2, mx_t_1, mx_t_0, mx_gd_T, mx_gd_t, mx_br_T, mx_br_F, mx_br_t, mx_br_f, mx_br_n, mx_cl_T, mx_cl_t, mx_re_T, mx_re_t, mx_rt_v, mx_rt_0, mx_cu_t, mx_w_id, mx_l_id, mx_b_0, mx_b_1, mx_b_r, mx_nl_0, mx_nl_1, mx_nl_2, mx_nl_n, mx_nl_l, mx_sw_n, mx_sw_h, mx_sw_m, Int.reduceLE, Int.reduceLT, Int.reduceEq, Int.reduceAdd, Int.reduceSub, Int.reduceMul, Int.reduceNeg, Int.reduceToNat, and_self, true_and, and_true, false_and, and_false, true_or, or_true, false_or, or_false, not_true_eq_false, not_false_eq_true, eq_self, rw_X11_evening, c_xEv, mx_b_t q, c_xBs, mx_b_t a0, mx_b_f b0]
        · simp (disch := omega) only [mx_vt_h, mx_vt_m, mx_cmp_0, mx_cmp_1, mx_cmp_2, mx_cmp_3, mx_cmp_4, mx_u_s, mx_u_a, mx_u_k, mx_z_a, mx_z_s, mx_t_a, mx_t_2, mx_t_1, mx_t_0, mx_gd_T, mx_gd_t, mx_br_T, mx_br_F, mx_br_t, mx_br_f, mx_br_n, mx_cl_T, mx_cl_t, mx_re_T, mx_re_t, mx_rt_v, mx_rt_0, mx_cu_t, mx_w_id, mx_l_id, mx_b_0, mx_b_1, mx_b_r, mx_nl_0, mx_nl_1, mx_nl_2, mx_nl_n, mx_nl_l, mx_sw_n, mx_sw_h, mx_sw_m, Int.reduceLE, Int.reduceLT, Int.reduceEq, Int.reduceAdd, Int.reduceSub, Int.reduceMul, Int.reduceNeg, Int.reduceToNat, and_self, true_and, and_true, false_and, and_false, true_or, or_true, false_or, or_false, not_true_eq_false, not_false_eq_true, eq_self, rw_X12_evening, c_isEvening, mx_b_t q, c_isBase, mx_b_t a0, mx_b_f b0]
    · refine ag_p v hc (y := -1) ?_ ?_
      · simp (disch := omega) only [mx_vt_h, mx_vt_m, mx_cmp_0, mx_cmp_1, mx_cmp_2, mx_cmp_3, mx_cmp_4, mx_u_s, mx_u_a, mx_u_k, mx_z_a, mx_z_s, mx_t_a, mx_t_2, mx_t_1, mx_t_0, mx_gd_T, mx_gd_t, mx_br_T, mx_br_F, mx_br_t, mx_br_f, mx_br_n, mx_cl_T, mx_cl_t, mx_re_T, mx_re_t, mx_rt_v, mx_rt_0, mx_cu_t, mx_w_id, mx_l_id, mx_b_0, mx_b_1, mx_b_r, mx_nl_0, mx_nl_1, mx_nl_2, mx_nl_n, mx_nl_l, mx_sw_n, mx_sw_h, mx_sw_m, Int.reduceLE, Int.reduceLT, Int.reduceEq, Int.reduceAdd, Int.reduceSub, Int.reduceMul, Int.reduceNeg, Int.reduceToNat, and_self, true_and, and_true, false_and, and_false, true_or, or_true, false_or, or_false, not_true_eq_false, not_false_eq_true, eq_self, rw_X11_evening, c_xEv, mx_b_t q, c_xBs, mx_b_f a0]
      · simp (disch := omega) only [mx_vt_h, mx_vt_m, mx_cmp_0, mx_cmp_1, mx_cmp_2, mx_cmp_3, mx_cmp_4, mx_u_s, mx_u_a, mx_u_k, mx_z_a, mx_z_s, mx_t_a, mx_t_2, mx_t_1, mx_t_0, mx_gd_T, mx_gd_t, mx_br_T, mx_br_F, mx_br_t, mx_br_f, mx_br_n, mx_cl_T, mx_cl_t, mx_re_T, mx_re_t, mx_rt_v, mx_rt_0, mx_cu_t, mx_w_id, mx_l_id, mx_b_0, mx_b_1, mx_b_r, mx_nl_0, mx_nl_1, mx_nl_2, mx_nl_n, mx_nl_l, mx_sw_n, mx_sw_h, mx_sw_m, Int.reduceLE, Int.reduceLT, Int.reduceEq, Int.reduceAdd, Int.reduceSub, Int.reduceMul, Int.reduceNeg, Int.reduceToNat, and_self, true_and, and_true, false_and, and_false, true_or, or_true, false_or, or_false, not_true_eq_false, not_false_eq_true, eq_self, rw_X12_evening, c_isEvening, mx_b_t q, c_isBase, mx_b_f a0]
  · refine ag_p v hc (y := -1) ?_ ?_
    · simp (disch := omega) only [mx_vt_h, mx_vt_m, mx_cmp_0, mx_cmp_1, mx_cmp_2, mx_cmp_3, mx_cmp_4, mx_u_s, mx_u_a, mx_u_k, mx_z_a, mx_z_s, mx_t_a, mx_t_2, mx_t_1, mx_t_0, mx_gd_T, mx_gd_t, mx_br_T, mx_br_F, mx_br_t, mx_br_f, mx_br_n, mx_cl_T, mx_cl_t, mx_re_T, mx_re_t, mx_rt_v, mx_rt_0, mx_cu_t, mx_w_id, mx_l_id, mx_b_0, mx_b_1, mx_b_r, mx_nl_0, mx_nl_1, mx_nl_2, mx_nl_n, mx_nl_l, mx_sw_n, mx_sw_h, mx_sw_m, Int.reduceLE, Int.reduceLT, Int.reduceEq, Int.reduceAdd, Int.reduceSub, Int.reduceMul, Int.reduceNeg, Int.reduceToNat, and_self, true_and, and_true, false_and, and_false, true_or, or_true, false_or, or_false, not_true_eq_false, not_false_eq_true, eq_self, rw_X11_evening, c_xEv, mx_b_f q]
    · simp (disch := omega) only [mx_vt_h, mx_vt_m, mx_cmp_0, mx_cmp_1, mx_cmp_2, mx_cmp_3, mx_cmp_4, mx_u_s, mx_u_a, mx_u_k, mx_z_a, mx_z_s, mx_t_a, mx_t_2, mx_t_1, mx_t_0, mx_gd_T, mx_gd_t, mx_br_T, mx_br_F, mx_br_t, mx_br_f, mx_br_n, mx_cl_T, mx_cl_t, mx_re_T, mx_re_t, mx_rt_v, mx_rt_0, mx_cu_t, mx_w_id, mx_l_id, mx_b_0, mx_b_1, mx_b_r, mx_nl_0, mx_nl_1, mx_nl_2, mx_nl_n, mx_nl_l, mx_sw_n, mx_sw_h, mx_sw_m, Int.reduceLE, Int.reduceLT, Int.reduceEq, Int.reduceAdd, Int.reduceSub, Int.reduceMul, Int.reduceNeg, Int.reduceToNat, and_self, true_and, and_true, false_and, and_false, true_or, or_true, false_or, or_false, not_true_eq_false, not_false_eq_true, eq_self, rw_X12_evening, c_isEvening, mx_b_f q]
end
