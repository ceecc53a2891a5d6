/-! What holds by three bases; mending; notes of an evening -/
section
variable {L : Nat} {x : Nat → Int32} {S h g : mx_H} {n c : Int} {d : Nat}
/-- only rows that count for nothing between calls have changed -/
theorem Inv.m3 (v : Inv L x S h n c) (f : ∀ a, ¬ a = 31 → a < 43 ∨ 45 < a → g a = h a) : Inv L x S g n c := by
  have ff : ∀ a, ¬ (a = 31) → ¬ (43 ≤ a ∧ a ≤ 45) → g a = h a := fun a y z => f a y (by omega)
  refine Inv.mk v.s (fun a q => by rw [ff a (by omega) (by omega)]; exact v.g a q) v.n v.c ?_ ?_ ?_ ?_ ?_ ?_ ?_ ?_
  · exact v.t.gg (ff 39 (by decide) (by decide)) (by rw [ff 0 (by decide) (by decide)]) (by rw [ff 3 (by decide) (by decide)]) (by rw [ff 3 (by decide) (by decide)]) (ff 4 (by decide) (by decide)) (ff 5 (by decide) (by decide)) (ff 6 (by decide) (by decide)) rfl (fun _ _ _ => rfl) (fun a _ _ => ff a (by omega) (by omega)) (Int.le_refl _)
  · exact v.k.gg v.t (ff 39 (by decide) (by decide)) (ff 40 (by decide) (by decide)) (by rw [ff 0 (by decide) (by decide)]) (by rw [ff 0 (by decide) (by decide)]) (by rw [ff 38 (by decide) (by decide)]) (by rw [ff 17 (by decide) (by decide)]) (by rw [ff 17 (by decide) (by decide)]) (ff 18 (by decide) (by decide)) (ff 19 (by decide) (by decide)) (ff 20 (by decide) (by decide)) rfl rfl (fun _ _ _ => rfl) (fun a _ _ => ff a (by omega) (by omega)) (Int.le_refl _)
  · exact v.p.gg (by rw [ff 0 (by decide) (by decide)]) (by rw [ff 38 (by decide) (by decide)]) (ff 1 (by decide) (by decide)) (ff 42 (by decide) (by decide))
  · exact v.r.gg (by rw [ff 0 (by decide) (by decide)]) (by rw [ff 38 (by decide) (by decide)]) (ff 30 (by decide) (by decide)) (ff 46 (by decide) (by decide))
  · exact v.b.gg (ff 47 (by decide) (by decide)) (ff 48 (by decide) (by decide)) (ff 49 (by decide) (by decide)) rfl (fun _ _ _ => rfl) (fun a _ _ _ => ff a (by omega) (by omega)) (Int.le_refl _)
  · exact v.l.gg (ff 33 (by decide) (by decide)) (ff 34 (by decide) (by decide)) (ff 50 (by decide) (by decide)) (ff 51 (by decide) (by decide)) rfl (fun _ _ _ => rfl) (fun a _ _ _ => ff a (by omega) (by omega)) (Int.le_refl _)
  · exact v.i.gg (ff 36 (by decide) (by decide)) (by rw [ff 38 (by decide) (by decide)]) (ff 37 (by decide) (by decide)) (ff 52 (by decide) (by decide))
  · exact v.f.gg (ff 2 (by decide) (by decide)) (ff 15 (by decide) (by decide)) (ff 16 (by decide) (by decide)) (by rw [ff 3 (by decide) (by decide)]) (ff 39 (by decide) (by decide))
theorem b3_tb {a b e : Int} {f : mx_H} {B : Int} (h0 : f B 0 = a) (h1 : f B 1 = b) (h2 : f B 2 = e) : ∀ k, 0 ≤ k → k ≤ 2 → f B k = tb a b e k := by
  intro k k0 k1
  have : k = 0 ∨ k = 1 ∨ k = 2 := by omega
  rcases this with z | z | z <;> subst z
  · rw [h0]; rfl
  · rw [h1]; rfl
  · rw [h2]; rfl
theorem bb_tb {σ : Int → Int} (w : vw σ) {a b e : Int} {β : Int → Int} (k : ∀ k, 0 ≤ k → k ≤ 2 → β k = tb a b e k) (a0 : 2 ≤ a ∧ a ≤ 16) (b0 : 2 ≤ b ∧ b ≤ 16) (e0 : 2 ≤ e ∧ e ≤ 16) : bb σ β := bb_3 w (fun i i0 i1 => by
  rw [k i i0 i1]
  have : i = 0 ∨ i = 1 ∨ i = 2 := by omega
  rcases this with z | z | z <;> subst z
  · exact a0
  · exact b0
  · exact e0)
theorem a_holds {l a b e : Int} (hc : c ≤ 599) : ag L x 116 202 [(0, l), (0, a), (0, b), (0, e)] 0 c := by
  intro d S h n v
  have hX := v.s.x.e
  have hF := v.s.f.e
  have hM := v.s.m
  have w := v.t.w
  have hL := w.L
  have r4 : h 3 4 = h 39 1 := v.t.r.L
  have qe : (0 ≤ l ∧ l ≤ h 39 1 - 1) ↔ (0 ≤ l ∧ l < h 39 1) := by omega
  by_cases q : 0 ≤ l ∧ l < h 39 1
  · by_cases a0 : 2 ≤ a ∧ a ≤ 16
    · by_cases b0 : 2 ≤ b ∧ b ≤ 16
      · by_cases e0 : 2 ≤ e ∧ e ≤ 16
        · let g1 := mx_u (mx_u (mx_u h 31 0 a) 31 1 b) 31 2 e
          have F1 : ∀ y, ¬ y = 31 → g1 y = h y := fun y z => by simp only [g1]; rw [mx_u_a z, mx_u_a z, mx_u_a z]
          have v1 : Inv L x S g1 n c := v.m3 (fun y z _ => F1 y z)
          have k1 := b3_tb (f := g1) (B := 31) (a := a) (b := b) (e := e) (by simp only [g1]; simp (disch := omega) only [mx_u_k, mx_u_s]) (by simp only [g1]; simp (disch := omega) only [mx_u_k, mx_u_s]) (by simp only [g1]; rw [mx_u_s])
          have e39 := F1 39 (by decide)
          have hX1 := hX
          have lh := c_lineHolds (d := d + 7) (n := n) (B := 31) v1.s.f.v v1.t.r v1.t.w q.1 (by rw [e39]; exact q.2) (bb_tb v1.t.w k1 a0 b0 e0) (by simp only [hX]) (by simp only [hX])
          rw [hl_c v1.t.w k1 q.1 (by rw [e39]; exact q.2), e39] at lh
          let g2 := mx_u (mx_u (mx_u g1 43 0 a) 43 1 b) 43 2 e
          have F2 : ∀ y, ¬ y = 43 → g2 y = g1 y := fun y z => by simp only [g2]; rw [mx_u_a z, mx_u_a z, mx_u_a z]
          have k2 := b3_tb (f := g2) (B := 43) (a := a) (b := b) (e := e) (by simp only [g2]; simp (disch := omega) only [mx_u_k, mx_u_s]) (by simp only [g2]; simp (disch := omega) only [mx_u_k, mx_u_s]) (by simp only [g2]; rw [mx_u_s])
          have e39' : g2 39 = h 39 := by rw [F2 39 (by decide)]; exact e39
          have w2 : vw (g2 39) := by rw [e39']; exact w
          have hn := c_holdsNow (d := d + 7) (n := n) (h := g2) hM w2 (bb_tb w2 k2 a0 b0 e0) q.1 (by rw [e39']; exact q.2)
          rw [hl_c w2 k2 q.1 (by rw [e39']; exact q.2), e39'] at hn
          have il := c_isLine (d := d + 10) (n := n) (h := g1) (v := l) hM v1.t.w
          rw [e39] at il
          have v2 : Inv L x S g2 n c := v1.m (fun y z => F2 y (by omega))
          simp only [g2] at hn v2
          simp only [g1] at lh hn il v2
          by_cases t : hl (h 39) (tb a b e) l
          · simp (disch := omega) only [mx_vt_h, mx_vt_m, mx_cmp_0, mx_cmp_1, mx_cmp_2, mx_cmp_3, mx_cmp_4, mx_u_s, mx_u_a, mx_u_k, mx_z_a, mx_z_s, mx_t_a, mx_t_2, mx_t_1, mx_t_0, mx_gd_T, mx_gd_t, mx_br_T, mx_br_F, mx_br_t, mx_br_f, mx_br_n, mx_cl_T, mx_cl_t, mx_re_T, mx_re_t, mx_rt_v, mx_rt_0, mx_cu_t, mx_w_id, mx_l_id, mx_b_0, mx_b_1, mx_b_r, mx_nl_0, mx_nl_1, mx_nl_2, mx_nl_n, mx_nl_l, mx_sw_n, mx_sw_h, mx_sw_m, Int.reduceLE, Int.reduceLT, Int.reduceEq, Int.reduceAdd, Int.reduceSub, Int.reduceMul, Int.reduceNeg, Int.reduceToNat, and_self, true_and, and_true, false_and, and_false, true_or, or_true, false_or, or_false, not_true_eq_false, not_false_eq_true, eq_self, rw_X11_holds, hX, hF, r4, c_within, mx_b_t (qe.mpr q), c_xBs, mx_b_t a0, mx_b_t b0, mx_b_t e0, lh, mx_b_t t]
            refine mx_W_s ?_
            simp (disch := omega) only [mx_vt_h, mx_vt_m, mx_cmp_0, mx_cmp_1, mx_cmp_2, mx_cmp_3, mx_cmp_4, mx_u_s, mx_u_a, mx_u_k, mx_z_a, mx_z_s, mx_t_a, mx_t_2, mx_t_1, mx_t_0, mx_gd_T, mx_gd_t, mx_br_T, mx_br_F, mx_br_t, mx_br_f, mx_br_n, mx_cl_T, mx_cl_t, mx_re_T, mx_re_t, mx_rt_v, mx_rt_0, mx_cu_t, mx_w_id, mx_l_id, mx_b_0, mx_b_1, mx_b_r, mx_nl_0, mx_nl_1, mx_nl_2, mx_nl_n, mx_nl_l, mx_sw_n, mx_sw_h, mx_sw_m, Int.reduceLE, Int.reduceLT, Int.reduceEq, Int.reduceAdd, Int.reduceSub, Int.reduceMul, Int.reduceNeg, Int.reduceToNat, and_self, true_and, and_true, false_and, and_false, true_or, or_true, false_or, or_false, not_true_eq_false, not_false_eq_true, eq_self, rw_X12_holds, hM.e, il, mx_b_t q, c_isBase, mx_b_t a0, mx_b_t b0, mx_b_t e0, hn, mx_b_t t]
            exact mx_W_s ⟨⟨_, rfl, rfl⟩, v2.w hc⟩
          · simp (disch := omega) only [mx_vt_h, mx_vt_m, mx_cmp_0, mx_cmp_1, mx_cmp_2, mx_cmp_3, mx_cmp_4, mx_u_s, mx_u_a, mx_u_k, mx_z_a, mx_z_s, mx_t_a, mx_t_2, mx_t_1, mx_t_0, mx_gd_T, mx_gd_t, mx_br_T, mx_br_F, mx_br_t, mx_br_f, mx_br_n, mx_cl_T, mx_cl_t, mx_re_T, mx_re_t, mx_rt_v, mx_rt_0, mx_cu_t, mx_w_id, mx_l_id, mx_b_0, mx_b_1, mx_b_r, mx_nl_0, mx_nl_1, mx_nl_2, mx_nl_n, mx_nl_l, mx_sw_n, mx_sw_h, mx_sw_m, Int.reduceLE, Int.reduceLT, Int.reduceEq, Int.reduceAdd, Int.reduceSub, Int.reduceMul, Int.reduceNeg, Int.reduceToNat, and_self, true_and, and_true, false_and, and_false, true_or, or_true, false_or, or_false, not_true_eq_false, not_false_eq_true, eq_self, rw_X11_holds, hX, hF, r4, c_within, mx_b_t (qe.mpr q), c_xBs, mx_b_t a0, mx_b_t b0, mx_b_t e0, lh, mx_b_f t]
            refine mx_W_s ?_
            simp (disch := omega) only [mx_vt_h, mx_vt_m, mx_cmp_0, mx_cmp_1, mx_cmp_2, mx_cmp_3, mx_cmp_4, mx_u_s, mx_u_a, mx_u_k, mx_z_a, mx_z_s, mx_t_a, mx_t_2, mx_t_1, mx_t_0, mx_gd_T, mx_gd_t, mx_br_T, mx_br_F, mx_br_t, mx_br_f, mx_br_n, mx_cl_T, mx_cl_t, mx_re_T, mx_re_t, mx_rt_v, mx_rt_0, mx_cu_t, mx_w_id, mx_l_id, mx_b_0, mx_b_1, mx_b_r, mx_nl_0, mx_nl_1, mx_nl_2, mx_nl_n, mx_nl_l, mx_sw_n, mx_sw_h, mx_sw_m, Int.reduceLE, Int.reduceLT, Int.reduceEq, Int.reduceAdd, Int.reduceSub, Int.reduceMul, Int.reduceNeg, Int.reduceToNat, and_self, true_and, and_true, false_and, and_false, true_or, or_true, false_or, or_false, not_true_eq_false, not_false_eq_true, eq_self, rw_X12_holds, hM.e, il, mx_b_t q, c_isBase, mx_b_t a0, mx_b_t b0, mx_b_t e0, hn, mx_b_f t]
            exact mx_W_s ⟨⟨_, rfl, rfl⟩, v2.w hc⟩
        · refine ag_p v hc (y := -1) ?_ ?_
          · simp (disch := omega) only [mx_vt_h, mx_vt_m, mx_cmp_0, mx_cmp_1, mx_cmp_2, mx_cmp_3, mx_cmp_4, mx_u_s, mx_u_a, mx_u_k, mx_z_a, mx_z_s, mx_t_a, mx_t_2, mx_t_1, mx_t_0, mx_gd_T, mx_gd_t, mx_br_T, mx_br_F, mx_br_t, mx_br_f, mx_br_n, mx_cl_T, mx_cl_t, mx_re_T, mx_re_t, mx_rt_v, mx_rt_0, mx_cu_t, mx_w_id, mx_l_id, mx_b_0, mx_b_1, mx_b_r, mx_nl_0, mx_nl_1, mx_nl_2, mx_nl_n, mx_nl_l, mx_sw_n, mx_sw_h, mx_sw_m, Int.reduceLE, Int.reduceLT, Int.reduceEq, Int.reduceAdd, Int.reduceSub, Int.reduceMul, Int.reduceNeg, Int.reduceToNat, and_self, true_and, and_true, false_and, and_false, true_or, or_true, false_or, or_false, not_true_eq_false, not_false_eq_true, eq_self, rw_X11_holds, hX, hF, r4, c_within, mx_b_t (qe.mpr q), c_xBs, mx_b_t a0, mx_b_t b0, mx_b_f e0]
          · simp (disch := omega) only [mx_vt_h, mx_vt_m, mx_cmp_0, mx_cmp_1, mx_cmp_2, mx_cmp_3, mx_cmp_4, mx_u_s, mx_u_a, mx_u_k, mx_z_a, mx_z_s, mx_t_a, mx_t_2, mx_t_1, mx_t_0, mx_gd_T, mx_gd_t, mx_br_T, mx_br_F, mx_br_t, mx_br_f, mx_br_n, mx_cl_T, mx_cl_t, mx_re_T, mx_re_t, mx_rt_v, mx_rt_0, mx_cu_t, mx_w_id, mx_l_id, mx_b_0, mx_b_1, mx_b_r, mx_nl_0, mx_nl_1, mx_nl_2, mx_nl_n, mx_nl_l, mx_sw_n, mx_sw_h, mx_sw_m, Int.reduceLE, Int.reduceLT, Int.reduceEq, Int.reduceAdd, Int.reduceSub, Int.reduceMul, Int.reduceNeg, Int.reduceToNat, and_self, true_and, and_true, false_and, and_false, true_or, or_true, false_or, or_false, not_true_eq_false, not_false_eq_true, eq_self, rw_X12_holds, hM.e, c_isLine hM w, mx_b_t q, c_isBase, mx_b_t a0, mx_b_t b0, mx_b_f e0]
      · refine ag_p v hc (y := -1) ?_ ?_
        · simp (disch := omega) only [mx_vt_h, mx_vt_m, mx_cmp_0, mx_cmp_1, mx_cmp_2, mx_cmp_3, mx_cmp_4, mx_u_s, mx_u_a, mx_u_k, mx_z_a, mx_z_s, mx_t_a, mx_t_2, mx_t_1, mx_t_0, mx_gd_T, mx_gd_t, mx_br_T, mx_br_F, mx_br_t, mx_br_f, mx_br_n, mx_cl_T, mx_cl_t, mx_re_T, mx_re_t, mx_rt_v, mx_rt_0, mx_cu_t, mx_w_id, mx_l_id, mx_b_0, mx_b_1, mx_b_r, mx_nl_0, mx_nl_1, mx_nl_2, mx_nl_n, mx_nl_l, mx_sw_n, mx_sw_h, mx_sw_m, Int.reduceLE, Int.reduceLT, Int.reduceEq, Int.reduceAdd, Int.reduceSub, Int.reduceMul, Int.reduceNeg, Int.reduceToNat, and_self, true_and, and_true, false_and, and_false, true_or, or_true, false_or, or_false, not_true_eq_false, not_false_eq_true, eq_self, rw_X11_holds, hX, hF, r4, c_within, mx_b_t (qe.mpr q), c_xBs, mx_b_t a0, mx_b_f b0]
        · simp (disch := omega) only [mx_vt_h, mx_vt_m, mx_cmp_0, mx_cmp_1, mx_cmp_2, mx_cmp_3, mx_cmp_4, mx_u_s, mx_u_a, mx_u_k, mx_z_a, mx_z_s, mx_t_a, mx_t_2, mx_t_1, mx_t_0, mx_gd_T, mx_gd_t, mx_br_T, mx_br_F, mx_br_t, mx_br_f, mx_br_n, mx_cl_T, mx_cl_t, mx_re_T, mx_re_t, mx_rt_v, mx_rt_0, mx_cu_t, mx_w_id, mx_l_id, mx_b_0, mx_b_1, mx_b_r, mx_nl_0, mx_nl_1, mx_nl_2, mx_nl_n, mx_nl_l, mx_sw_n, mx_sw_h, mx_sw_m, Int.reduceLE, Int.reduceLT, Int.reduceEq, Int.reduceAdd, Int.reduceSub, Int.reduceMul, Int.reduceNeg, Int.reduceToNat, and_self, true_and, and_true, false_and, and_false, true_or, or_true, false_or, or_false, not_true_eq_false, not_false_eq_true, eq_self, rw_X12_holds, hM.e, c_isLine hM w, mx_b_t q, c_isBase, mx_b_t a0, mx_b_f b0]
    · refine ag_p v hc (y := -1) ?_ ?_
      · simp (disch := omega) only [mx_vt_h, mx_vt_m, mx_cmp_0, mx_cmp_1, mx_cmp_2, mx_cmp_3, mx_cmp_4, mx_u_s, mx_u_a, mx_u_k, mx_z_a, mx_z_s, mx_t_a, mx_t_2, mx_t_1, mx_t_0, mx_gd_T, mx_gd_t, mx_br_T, mx_br_F, mx_br_t, mx_br_f, mx_br_n, mx_cl_T, mx_cl_t, mx_re_T, mx_re_t, mx_rt_v, mx_rt_0, mx_cu_t, mx_w_id, mx_l_id, mx_b_0, mx_b_1, mx_b_r, mx_nl_0, mx_nl_1, mx_nl_2, mx_nl_n, mx_nl_l, mx_sw_n, mx_sw_h, mx_sw_m, Int.reduceLE, Int.reduceLT, Int.reduceEq, Int.reduceAdd, Int.reduceSub, Int.reduceMul, Int.reduceNeg, Int.reduceToNat, and_self, true_and, and_true, false_and, and_false, true_or, or_true, false_or, or_false, not_true_eq_false, not_false_eq_true, eq_self, rw_X11_holds, hX, hF, r4, c_within, mx_b_t (qe.mpr q), c_xBs, mx_b_f a0]
      · simp (disch := omega) only [mx_vt_h, mx_vt_m, mx_cmp_0, mx_cmp_1, mx_cmp_2, mx_cmp_3, mx_cmp_4, mx_u_s, mx_u_a, mx_u_k, mx_z_a, mx_z_s, mx_t_a, mx_t_2, mx_t_1, mx_t_0, mx_gd_T, mx_gd_t, mx_br_T, mx_br_F, mx_br_t, mx_br_f, mx_br_n, mx_cl_T, mx_cl_t, mx_re_T, mx_re_t, mx_rt_v, mx_rt_0, mx_cu_t, mx_w_id, mx_l_id, mx_b_0, mx_b_1, mx_b_r, mx_nl_0, mx_nl_1, mx_nl_2, mx_nl_n, mx_nl_l, mx_sw_n, mx_sw_h, mx_sw_m, Int.reduceLE, Int.reduceLT, Int.reduceEq, Int.reduceAdd, Int.reduceSub, Int.reduceMul, Int.reduceNeg, Int.reduceToNat, and_self, true_and, and_true, false_and, and_false, true_or, or_true, false_or, or_false, not_true_eq_false, not_false_eq_true, eq_self, rw_X12_holds, hM.e, c_isLine hM w, mx_b_t q, c_isBase, mx_b_f a0]
  · refine ag_p v hc (y := -1) ?_ ?_
    · simp (disch := omega) only [mx_vt_h, mx_vt_m, mx_cmp_0, mx_cmp_1, mx_cmp_2, mx_cmp_3, mx_cmp_4, mx_u_s, mx_u_a, mx_u_k, mx_z_a, mx_z_s, mx_t_a, mx_t_2, mx_t_1, mx_t_0, mx_gd_T, mx_gd_t, mx_br_T, mx_br_F, mx_br_t, mx_br_f, mx_br_n, mx_cl_T, mx_cl_t, mx_re_T, mx_re_t, mx_rt_v, mx_rt_0, mx_cu_t, mx_w_id, mx_l_id, mx_b_0, mx_b_1, mx_b_r, mx_nl_0, mx_nl_1, mx_nl_2, mx_nl_n, mx_nl_l, mx_sw_n, mx_sw_h, mx_sw_m, Int.reduceLE, Int.reduceLT, Int.reduceEq, Int.reduceAdd, Int.reduceSub, Int.reduceMul, Int.reduceNeg, Int.reduceToNat, and_self, true_and, and_true, false_and, and_false, true_or, or_true, false_or, or_false, not_true_eq_false, not_false_eq_true, eq_self, rw_X11_holds, hX, hF, r4, c_within, mx_b_f (fun z => q (qe.mp z))]
    · simp (disch := omega) only [mx_vt_h, mx_vt_m, mx_cmp_0, mx_cmp_1, mx_cmp_2, mx_cmp_3, mx_cmp_4, mx_u_s, mx_u_a, mx_u_k, mx_z_a, mx_z_s, mx_t_a, mx_t_2, mx_t_1, mx_t_0, mx_gd_T, mx_gd_t, mx_br_T, mx_br_F, mx_br_t, mx_br_f, mx_br_n, mx_cl_T, mx_cl_t, mx_re_T, mx_re_t, mx_rt_v, mx_rt_0, mx_cu_t, mx_w_id, mx_l_id, mx_b_0, mx_b_1, mx_b_r, mx_nl_0, mx_nl_1, mx_nl_2, mx_nl_n, mx_nl_l, mx_sw_n, mx_sw_h, mx_sw_m, Int.reduceLE, Int.reduceLT, Int.reduceEq, Int.reduceAdd, Int.reduceSub, Int.reduceMul, Int.reduceNeg, Int.reduceToNat, and_self, true_and, and_true, false_and, and_false, true_or, or_true, false_or, or_false, not_true_eq_false, not_false_eq_true, eq_self, rw_X12_holds, hM.e, c_isLine hM w, mx_b_f q]
/-- the first that mends is one -/
theorem mk_u {σ : Int → Int} {k u : Int} (a : mk σ k) (b : ∀ v, v < k → ¬ mk σ v) (a2 : mk σ u) (b2 : ∀ v, v < u → ¬ mk σ v) : k = u := by
  by_cases h1 : k < u
  · exact absurd a (b2 k h1)
  · by_cases h2 : u < k
    · exact absurd a2 (b u h2)
    · omega
theorem a_mended {t : Int} (hc : c ≤ 599) : ag L x 118 205 [(0, t)] 0 c := by
  intro d S h n v
  have hX := v.s.x.e
  have hF := v.s.f.e
  have hM := v.s.m
  have w := v.t.w
  by_cases q : 0 ≤ t ∧ t ≤ 2
  · simp (disch := omega) only [mx_vt_h, mx_vt_m, mx_cmp_0, mx_cmp_1, mx_cmp_2, mx_cmp_3, mx_cmp_4, mx_u_s, mx_u_a, mx_u_k, mx_z_a, mx_z_s, mx_t_a, mx_t_2, mx_t_1, mx_t_0, mx_gd_T, mx_gd_t, mx_br_T, mx_br_F, mx_br_t, mx_br_f, mx_br_n, mx_cl_T, mx_cl_t, mx_re_T, mx_re_t, mx_rt_v, mx_rt_0, mx_cu_t, mx_w_id, mx_l_id, mx_b_0, mx_b_1, mx_b_r, mx_nl_0, mx_nl_1, mx_nl_2, mx_nl_n, mx_nl_l, mx_sw_n, mx_sw_h, mx_sw_m, Int.reduceLE, Int.reduceLT, Int.reduceEq, Int.reduceAdd, Int.reduceSub, Int.reduceMul, Int.reduceNeg, Int.reduceToNat, and_self, true_and, and_true, false_and, and_false, true_or, or_true, false_or, or_false, not_true_eq_false, not_false_eq_true, eq_self, rw_X11_mended, hX, hF, c_within, mx_b_t q]
    refine mx_W_r (c_howMany v.s.f v.t.w v.t.r v.o v.f.z v.f.f ?_)
    intro g f c1 q1
    have v1 := v.r' f c1 q1
    have e39 := f.f 39 (by decide) (by decide)
    show mx_W (mx_ex _ _ _ _ [_] _ _ _) _
    have r := cT_r (σ := h 39) (x := 63) (t := 4913) (by decide)
    have ec := ew_c (x := 63) w
    obtain ⟨A, eA⟩ : ∃ A, id (cT (h 39) 63 4913 = A) := ⟨_, rfl⟩
    rw [show cT (h 39) 63 4913 = A from eA] at r ec ⊢
    clear eA
    by_cases e : ew (h 39) 63
    · have e0 := ec.mp e
      simp (disch := omega) only [mx_vt_h, mx_vt_m, mx_cmp_0, mx_cmp_1, mx_cmp_2, mx_cmp_3, mx_cmp_4, mx_u_s, mx_u_a, mx_u_k, mx_z_a, mx_z_s, mx_t_a, mx_t_2, mx_t_1, mx_t_0, mx_gd_T, mx_gd_t, mx_br_T, mx_br_F, mx_br_t, mx_br_f, mx_br_n, mx_cl_T, mx_cl_t, mx_re_T, mx_re_t, mx_rt_v, mx_rt_0, mx_cu_t, mx_w_id, mx_l_id, mx_b_0, mx_b_1, mx_b_r, mx_nl_0, mx_nl_1, mx_nl_2, mx_nl_n, mx_nl_l, mx_sw_n, mx_sw_h, mx_sw_m, Int.reduceLE, Int.reduceLT, Int.reduceEq, Int.reduceAdd, Int.reduceSub, Int.reduceMul, Int.reduceNeg, Int.reduceToNat, and_self, true_and, and_true, false_and, and_false, true_or, or_true, false_or, or_false, not_true_eq_false, not_false_eq_true, eq_self, rw_X11_mended]
      refine mx_W_s ?_
      simp (disch := omega) only [mx_vt_h, mx_vt_m, mx_cmp_0, mx_cmp_1, mx_cmp_2, mx_cmp_3, mx_cmp_4, mx_u_s, mx_u_a, mx_u_k, mx_z_a, mx_z_s, mx_t_a, mx_t_2, mx_t_1, mx_t_0, mx_gd_T, mx_gd_t, mx_br_T, mx_br_F, mx_br_t, mx_br_f, mx_br_n, mx_cl_T, mx_cl_t, mx_re_T, mx_re_t, mx_rt_v, mx_rt_0, mx_cu_t, mx_w_id, mx_l_id, mx_b_0, mx_b_1, mx_b_r, mx_nl_0, mx_nl_1, mx_nl_2, mx_nl_n, mx_nl_l, mx_sw_n, mx_sw_h, mx_sw_m, Int.reduceLE, Int.reduceLT, Int.reduceEq, Int.reduceAdd, Int.reduceSub, Int.reduceMul, Int.reduceNeg, Int.reduceToNat, and_self, true_and, and_true, false_and, and_false, true_or, or_true, false_or, or_false, not_true_eq_false, not_false_eq_true, eq_self, rw_X12_mended, rw_X12_mended_1, hM.e, c_in, mx_b_t q]
      refine mx_W_r (c_hasW hM v1.t.w ?_)
      intro g2 f2
      rw [e39, mx_b_t e]
      show mx_W (mx_ex _ _ _ _ [_] _ _ _) _
      simp (disch := omega) only [mx_vt_h, mx_vt_m, mx_cmp_0, mx_cmp_1, mx_cmp_2, mx_cmp_3, mx_cmp_4, mx_u_s, mx_u_a, mx_u_k, mx_z_a, mx_z_s, mx_t_a, mx_t_2, mx_t_1, mx_t_0, mx_gd_T, mx_gd_t, mx_br_T, mx_br_F, mx_br_t, mx_br_f, mx_br_n, mx_cl_T, mx_cl_t, mx_re_T, mx_re_t, mx_rt_v, mx_rt_0, mx_cu_t, mx_w_id, mx_l_id, mx_b_0, mx_b_1, mx_b_r, mx_nl_0, mx_nl_1, mx_nl_2, mx_nl_n, mx_nl_l, mx_sw_n, mx_sw_h, mx_sw_m, Int.reduceLE, Int.reduceLT, Int.reduceEq, Int.reduceAdd, Int.reduceSub, Int.reduceMul, Int.reduceNeg, Int.reduceToNat, and_self, true_and, and_true, false_and, and_false, true_or, or_true, false_or, or_false, not_true_eq_false, not_false_eq_true, eq_self, rw_X12_mended, rw_X12_mended_1]
      exact mx_W_s ⟨⟨_, rfl, rfl⟩, (v1.m f2).w hc⟩
    · have e0 : ¬ 0 < A := fun z => e (ec.mpr z)
      simp (disch := omega) only [mx_vt_h, mx_vt_m, mx_cmp_0, mx_cmp_1, mx_cmp_2, mx_cmp_3, mx_cmp_4, mx_u_s, mx_u_a, mx_u_k, mx_z_a, mx_z_s, mx_t_a, mx_t_2, mx_t_1, mx_t_0, mx_gd_T, mx_gd_t, mx_br_T, mx_br_F, mx_br_t, mx_br_f, mx_br_n, mx_cl_T, mx_cl_t, mx_re_T, mx_re_t, mx_rt_v, mx_rt_0, mx_cu_t, mx_w_id, mx_l_id, mx_b_0, mx_b_1, mx_b_r, mx_nl_0, mx_nl_1, mx_nl_2, mx_nl_n, mx_nl_l, mx_sw_n, mx_sw_h, mx_sw_m, Int.reduceLE, Int.reduceLT, Int.reduceEq, Int.reduceAdd, Int.reduceSub, Int.reduceMul, Int.reduceNeg, Int.reduceToNat, and_self, true_and, and_true, false_and, and_false, true_or, or_true, false_or, or_false, not_true_eq_false, not_false_eq_true, eq_self, rw_X11_mended, hX, hF]
      refine mx_W_r (c_cm v.s.f v1.t.w v1.t.r v1.o v1.f.m ?_)
      intro g2 f2 k2 m2 mm
      have e39' : g2 39 = h 39 := by rw [f2 39 (by decide) (by decide), e39]
      have v2 : Inv L x S g2 n c := by
        have e3 : g2 3 = g 3 := f2 3 (by decide) (by decide)
        have vv := v1.f.v
        have va := v1.f.a
        refine v1.d (fun a y z => f2 a (by omega) y) (fnd.mk (fun k a b y => by rw [f2 15 (by decide) (by decide)]; exact v1.f.z k a b y) (fun y => ?_) (fun _ => ?_) (by rw [e3]; exact vv) (by rw [e3, k2 14 (by decide) (by decide) (by decide) (by decide)]; exact va) (by rw [e3, m2]; omega))
        · rw [e3, k2 14 (by decide) (by decide) (by decide) (by decide)] at y
          have : g2 39 = g 39 := f2 39 (by decide) (by decide)
          rw [this]
          exact (v1.f.f y).gg (k2 13 (by decide) (by decide) (by decide) (by decide)) (f2 15 (by decide) (by decide)) (f2 16 (by decide) (by decide))
        · have : g2 39 = g 39 := f2 39 (by decide) (by decide)
          rw [this]; exact mm
      rw [e39] at mm
      -- the reference's side
      have ref : ∀ y, ((∀ u, ¬ mk (h 39) u) → y = -3) → (∀ u, mk (h 39) u → (∀ z, z < u → ¬ mk (h 39) z) → y = if t = 0 then u / 96 else if t = 1 then u / 16 % 6 else u % 16) → mx_W (mx_M (d + 12) 205 [(2, 38), (0, t)] S g2 n) (fun v2 S2 h2 n2 => (∃ z, some (0, y) = some (0, z) ∧ v2 = some (0, z)) ∧ Inv L x S2 h2 n2 (c + 1)) := by
        intro y h1 h2
        simp (disch := omega) only [mx_vt_h, mx_vt_m, mx_cmp_0, mx_cmp_1, mx_cmp_2, mx_cmp_3, mx_cmp_4, mx_u_s, mx_u_a, mx_u_k, mx_z_a, mx_z_s, mx_t_a, mx_t_2, mx_t_1, mx_t_0, mx_gd_T, mx_gd_t, mx_br_T, mx_br_F, mx_br_t, mx_br_f, mx_br_n, mx_cl_T, mx_cl_t, mx_re_T, mx_re_t, mx_rt_v, mx_rt_0, mx_cu_t, mx_w_id, mx_l_id, mx_b_0, mx_b_1, mx_b_r, mx_nl_0, mx_nl_1, mx_nl_2, mx_nl_n, mx_nl_l, mx_sw_n, mx_sw_h, mx_sw_m, Int.reduceLE, Int.reduceLT, Int.reduceEq, Int.reduceAdd, Int.reduceSub, Int.reduceMul, Int.reduceNeg, Int.reduceToNat, and_self, true_and, and_true, false_and, and_false, true_or, or_true, false_or, or_false, not_true_eq_false, not_false_eq_true, eq_self, rw_X12_mended, rw_X12_mended_1, hM.e, c_in, mx_b_t q]
        refine mx_W_r (c_hasW hM v2.t.w ?_)
        intro g3 f3
        rw [e39', mx_b_f e]
        show mx_W (mx_ex _ _ _ _ [_] _ _ _) _
        have v3 := v2.m f3
        have e39'' : g3 39 = h 39 := by rw [f3 39 (by decide), e39']
        have ih := fun l3 l4 l5 l6 l7 l8 => c_mend_l (d := d + 4) (n := n) (h := g3) (g := g3) (k := 0) (t := t) (l3 := l3) (l4 := l4) (l5 := l5) (l6 := l6) (l7 := l7) (l8 := l8) (Q := fun v2 S2 h2 n2 => (∃ z, some (0, y) = some (0, z) ∧ v2 = some (0, z)) ∧ Inv L x S2 h2 n2 (c + 1)) hM v3.t.w (by decide) (by have := v3.t.w.N; omega) q.1 q.2 (fun _ _ => rfl) (fun u hu z => by have := z.1; omega)
          (fun g4 f4 no => ⟨⟨_, rfl, by rw [h1 (by rw [e39''] at no; exact no)]⟩, (v3.m f4).w hc⟩)
          (fun g4 u f4 mu no => ⟨⟨_, rfl, by rw [h2 u (by rw [e39''] at mu; exact mu) (by rw [e39''] at no; exact no)]⟩, (v3.m f4).w hc⟩)
        simp (disch := omega) only [mx_vt_h, mx_vt_m, mx_cmp_0, mx_cmp_1, mx_cmp_2, mx_cmp_3, mx_cmp_4, mx_u_s, mx_u_a, mx_u_k, mx_z_a, mx_z_s, mx_t_a, mx_t_2, mx_t_1, mx_t_0, mx_gd_T, mx_gd_t, mx_br_T, mx_br_F, mx_br_t, mx_br_f, mx_br_n, mx_cl_T, mx_cl_t, mx_re_T, mx_re_t, mx_rt_v, mx_rt_0, mx_cu_t, mx_w_id, mx_l_id, mx_b_0, mx_b_1, mx_b_r, mx_nl_0, mx_nl_1, mx_nl_2, mx_nl_n, mx_nl_l, mx_sw_n, mx_sw_h, mx_sw_m, Int.reduceLE, Int.reduceLT, Int.reduceEq, Int.reduceAdd, Int.reduceSub, Int.reduceMul, Int.reduceNeg, Int.reduceToNat, and_self, true_and, and_true, false_and, and_false, true_or, or_true, false_or, or_false, not_true_eq_false, not_false_eq_true, eq_self, rw_X12_mended, rw_X12_mended_1]
        exact ih _ _ _ _ _ _
      show mx_W (mx_ex _ _ _ _ [_] _ _ _) _
      rcases mm with ⟨m1, no⟩ | ⟨u, mu, no, u2, u3, u4⟩
      · rw [mx_b_f (fun z => z m1)]
        simp (disch := omega) only [mx_vt_h, mx_vt_m, mx_cmp_0, mx_cmp_1, mx_cmp_2, mx_cmp_3, mx_cmp_4, mx_u_s, mx_u_a, mx_u_k, mx_z_a, mx_z_s, mx_t_a, mx_t_2, mx_t_1, mx_t_0, mx_gd_T, mx_gd_t, mx_br_T, mx_br_F, mx_br_t, mx_br_f, mx_br_n, mx_cl_T, mx_cl_t, mx_re_T, mx_re_t, mx_rt_v, mx_rt_0, mx_cu_t, mx_w_id, mx_l_id, mx_b_0, mx_b_1, mx_b_r, mx_nl_0, mx_nl_1, mx_nl_2, mx_nl_n, mx_nl_l, mx_sw_n, mx_sw_h, mx_sw_m, Int.reduceLE, Int.reduceLT, Int.reduceEq, Int.reduceAdd, Int.reduceSub, Int.reduceMul, Int.reduceNeg, Int.reduceToNat, and_self, true_and, and_true, false_and, and_false, true_or, or_true, false_or, or_false, not_true_eq_false, not_false_eq_true, eq_self, rw_X11_mended]
        refine mx_W_s (ref _ (fun _ => rfl) (fun u mu _ => absurd mu (no u)))
      · have u0 := mu.1
        have n1 : ¬ g2 2 2 = -1 := by omega
        rw [mx_b_t n1]
        by_cases c0 : t = 0
        · subst c0
          simp (disch := omega) only [mx_vt_h, mx_vt_m, mx_cmp_0, mx_cmp_1, mx_cmp_2, mx_cmp_3, mx_cmp_4, mx_u_s, mx_u_a, mx_u_k, mx_z_a, mx_z_s, mx_t_a, mx_t_2, mx_t_1, mx_t_0, mx_gd_T, mx_gd_t, mx_br_T, mx_br_F, mx_br_t, mx_br_f, mx_br_n, mx_cl_T, mx_cl_t, mx_re_T, mx_re_t, mx_rt_v, mx_rt_0, mx_cu_t, mx_w_id, mx_l_id, mx_b_0, mx_b_1, mx_b_r, mx_nl_0, mx_nl_1, mx_nl_2, mx_nl_n, mx_nl_l, mx_sw_n, mx_sw_h, mx_sw_m, Int.reduceLE, Int.reduceLT, Int.reduceEq, Int.reduceAdd, Int.reduceSub, Int.reduceMul, Int.reduceNeg, Int.reduceToNat, and_self, true_and, and_true, false_and, and_false, true_or, or_true, false_or, or_false, not_true_eq_false, not_false_eq_true, eq_self, rw_X11_mended, hX, hF, u2]
          refine mx_W_s (ref _ (fun nn => absurd mu (nn u)) (fun u' mu' no' => by rw [mk_u mu no mu' no', if_pos rfl]))
        · by_cases c1 : t = 1
          · subst c1
            simp (disch := omega) only [mx_vt_h, mx_vt_m, mx_cmp_0, mx_cmp_1, mx_cmp_2, mx_cmp_3, mx_cmp_4, mx_u_s, mx_u_a, mx_u_k, mx_z_a, mx_z_s, mx_t_a, mx_t_2, mx_t_1, mx_t_0, mx_gd_T, mx_gd_t, mx_br_T, mx_br_F, mx_br_t, mx_br_f, mx_br_n, mx_cl_T, mx_cl_t, mx_re_T, mx_re_t, mx_rt_v, mx_rt_0, mx_cu_t, mx_w_id, mx_l_id, mx_b_0, mx_b_1, mx_b_r, mx_nl_0, mx_nl_1, mx_nl_2, mx_nl_n, mx_nl_l, mx_sw_n, mx_sw_h, mx_sw_m, Int.reduceLE, Int.reduceLT, Int.reduceEq, Int.reduceAdd, Int.reduceSub, Int.reduceMul, Int.reduceNeg, Int.reduceToNat, and_self, true_and, and_true, false_and, and_false, true_or, or_true, false_or, or_false, not_true_eq_false, not_false_eq_true, eq_self, rw_X11_mended, hX, hF, u3]
            refine mx_W_s (ref _ (fun nn => absurd mu (nn u)) (fun u' mu' no' => by rw [mk_u mu no mu' no', if_neg (by decide), if_pos rfl]))
          · simp (disch := omega) only [mx_vt_h, mx_vt_m, mx_cmp_0, mx_cmp_1, mx_cmp_2, mx_cmp_3, mx_cmp_4, mx_u_s, mx_u_a, mx_u_k, mx_z_a, mx_z_s, mx_t_a, mx_t_2, mx_t_1, mx_t_0, mx_gd_T, mx_gd_t, mx_br_T, mx_br_F, mx_br_t, mx_br_f, mx_br_n, mx_cl_T, mx_cl_t, mx_re_T, mx_re_t, mx_rt_v, mx_rt_0, mx_cu_t, mx_w_id, mx_l_id, mx_b_0, mx_b_1, mx_b_r, mx_nl_0, mx_nl_1, mx_nl_2, mx_nl_n, mx_nl_l, mx_sw_n, mx_sw_h, mx_sw_m, Int.reduceLE, Int.reduceLT, Int.reduceEq, Int.reduceAdd, Int.reduceSub, Int.reduceMul, Int.reduceNeg, Int.reduceToNat, and_self, true_and, and_true, false_and, and_false, true_or, or_true, false_or, or_false, not_true_eq_false, not_false_eq_true, eq_self, rw_X11_mended, hX, hF, u4, c0, c1]
            refine mx_W_s (ref _ (fun nn => absurd mu (nn u)) (fun u' mu' no' => by rw [mk_u mu no mu' no', if_neg c0, if_neg c1]))
  · refine ag_p v hc (y := -1) ?_ ?_
    · simp (disch := omega) only [mx_vt_h, mx_vt_m, mx_cmp_0, mx_cmp_1, mx_cmp_2, mx_cmp_3, mx_cmp_4, mx_u_s, mx_u_a, mx_u_k, mx_z_a, mx_z_s, mx_t_a, mx_t_2, mx_t_1, mx_t_0, mx_gd_T, mx_gd_t, mx_br_T, mx_br_F, mx_br_t, mx_br_f, mx_br_n, mx_cl_T, mx_cl_t, mx_re_T, mx_re_t, mx_rt_v, mx_rt_0, mx_cu_t, mx_w_id, mx_l_id, mx_b_0, mx_b_1, mx_b_r, mx_nl_0, mx_nl_1, mx_nl_2, mx_nl_n, mx_nl_l, mx_sw_n, mx_sw_h, mx_sw_m, Int.reduceLE, Int.reduceLT, Int.reduceEq, Int.reduceAdd, Int.reduceSub, Int.reduceMul, Int.reduceNeg, Int.reduceToNat, and_self, true_and, and_true, false_and, and_false, true_or, or_true, false_or, or_false, not_true_eq_false, not_false_eq_true, eq_self, rw_X11_mended, c_within, mx_b_f q]
    · simp (disch := omega) only [mx_vt_h, mx_vt_m, mx_cmp_0, mx_cmp_1, mx_cmp_2, mx_cmp_3, mx_cmp_4, mx_u_s, mx_u_a, mx_u_k, mx_z_a, mx_z_s, mx_t_a, mx_t_2, mx_t_1, mx_t_0, mx_gd_T, mx_gd_t, mx_br_T, mx_br_F, mx_br_t, mx_br_f, mx_br_n, mx_cl_T, mx_cl_t, mx_re_T, mx_re_t, mx_rt_v, mx_rt_0, mx_cu_t, mx_w_id, mx_l_id, mx_b_0, mx_b_1, mx_b_r, mx_nl_0, mx_nl_1, mx_nl_2, mx_nl_n, mx_nl_l, mx_sw_n, mx_sw_h, mx_sw_m, Int.reduceLE, Int.reduceLT, Int.reduceEq, Int.reduceAdd, Int.reduceSub, Int.reduceMul, Int.reduceNeg, Int.reduceToNat, and_self, true_and, and_true, false_and, and_false, true_or, or_true, false_or, or_false, not_true_eq_false, not_false_eq_true, eq_self, rw_X12_mended, rw_X12_mended_1, c_in, mx_b_f q]
noncomputable def nse (σ : Int → Int) (e k : Int) : Int := bm (fun i => (i : Int) < k ∧ it σ i 1 = e) 6
theorem nse_t {σ : Int → Int} {e k : Int} (k0 : 0 ≤ k) (k1 : k ≤ 5) (q : it σ k 1 = e) : mx_or (nse σ e k) (mx_shl 1 k) = nse σ e (k + 1) := by
  unfold nse; rw [bm_or (by decide) k0 (by simp; omega)]
  refine bm_c (fun l hl => ?_)
  constructor
  · rintro (⟨x, y⟩ | x)
    · exact ⟨by omega, y⟩
    · exact ⟨by omega, by rw [← x]; exact q⟩
  · rintro ⟨x, y⟩
    by_cases e : k = l
    · exact Or.inr e
    · exact Or.inl ⟨by omega, y⟩
theorem nse_f {σ : Int → Int} {e k : Int} (q : ¬ it σ k 1 = e) : nse σ e k = nse σ e (k + 1) := by
  unfold nse
  refine bm_c (fun l hl => ?_)
  constructor
  · rintro ⟨x, y⟩; exact ⟨by omega, y⟩
  · rintro ⟨x, y⟩
    by_cases e : k = l
    · rw [← e] at y; exact absurd y q
    · exact ⟨by omega, y⟩
theorem nse_0 {σ : Int → Int} {e : Int} : nse σ e 0 = 0 := by
  unfold nse; rw [bm_e0 (by decide)]; intro k _ ⟨x, _⟩; omega
theorem c_no_l (v : Inv L x S h n c) {e k : Int} {l4 : Option mx_V} (k0 : 0 ≤ k) (k1 : k ≤ h 39 0) :
    mx_ex (d + 1) 88 4 [some (2, 3), some (0, e), some (0, nse (h 39) e k), some (0, k), l4] [] S h n = some (some (0, nse (h 39) e (h 39 0)), S, h, n) := by
  have hF := v.s.f.e
  have hN := v.t.w.N
  have r3 : h 3 3 = h 39 0 := v.t.r.c
  rw [rh_X10_notesOf_4]
  by_cases q : k < h 39 0
  · have r := v.nr ⟨k0, q⟩
    have hp := r.p0
    have hk := (v.nw ⟨k0, q⟩).k
    have ih := fun l4 => c_no_l v (e := e) (k := k + 1) (l4 := l4) (by omega) (by omega)
    by_cases z : it (h 39) k 1 = e
    · rw [← nse_t k0 (by omega) z] at ih
      simp (disch := omega) only [mx_vt_h, mx_vt_m, mx_cmp_0, mx_cmp_1, mx_cmp_2, mx_cmp_3, mx_cmp_4, mx_u_s, mx_u_a, mx_u_k, mx_z_a, mx_z_s, mx_t_a, mx_t_2, mx_t_1, mx_t_0, mx_gd_T, mx_gd_t, mx_br_T, mx_br_F, mx_br_t, mx_br_f, mx_br_n, mx_cl_T, mx_cl_t, mx_re_T, mx_re_t, mx_rt_v, mx_rt_0, mx_cu_t, mx_w_id, mx_l_id, mx_b_0, mx_b_1, mx_b_r, mx_nl_0, mx_nl_1, mx_nl_2, mx_nl_n, mx_nl_l, mx_sw_n, mx_sw_h, mx_sw_m, Int.reduceLE, Int.reduceLT, Int.reduceEq, Int.reduceAdd, Int.reduceSub, Int.reduceMul, Int.reduceNeg, Int.reduceToNat, and_self, true_and, and_true, false_and, and_false, true_or, or_true, false_or, or_false, not_true_eq_false, not_false_eq_true, eq_self, rw_X10_notesOf, hF, r3, v.na1 ⟨k0, q⟩, r.t, r.e, z]
      exact ih _
    · rw [← nse_f z] at ih
      simp (disch := omega) only [mx_vt_h, mx_vt_m, mx_cmp_0, mx_cmp_1, mx_cmp_2, mx_cmp_3, mx_cmp_4, mx_u_s, mx_u_a, mx_u_k, mx_z_a, mx_z_s, mx_t_a, mx_t_2, mx_t_1, mx_t_0, mx_gd_T, mx_gd_t, mx_br_T, mx_br_F, mx_br_t, mx_br_f, mx_br_n, mx_cl_T, mx_cl_t, mx_re_T, mx_re_t, mx_rt_v, mx_rt_0, mx_cu_t, mx_w_id, mx_l_id, mx_b_0, mx_b_1, mx_b_r, mx_nl_0, mx_nl_1, mx_nl_2, mx_nl_n, mx_nl_l, mx_sw_n, mx_sw_h, mx_sw_m, Int.reduceLE, Int.reduceLT, Int.reduceEq, Int.reduceAdd, Int.reduceSub, Int.reduceMul, Int.reduceNeg, Int.reduceToNat, and_self, true_and, and_true, false_and, and_false, true_or, or_true, false_or, or_false, not_true_eq_false, not_false_eq_true, eq_self, rw_X10_notesOf, hF, r3, v.na1 ⟨k0, q⟩, r.t, r.e, z]
      exact ih _
  · have e : k = h 39 0 := by omega
    subst e
    simp (disch := omega) only [mx_vt_h, mx_vt_m, mx_cmp_0, mx_cmp_1, mx_cmp_2, mx_cmp_3, mx_cmp_4, mx_u_s, mx_u_a, mx_u_k, mx_z_a, mx_z_s, mx_t_a, mx_t_2, mx_t_1, mx_t_0, mx_gd_T, mx_gd_t, mx_br_T, mx_br_F, mx_br_t, mx_br_f, mx_br_n, mx_cl_T, mx_cl_t, mx_re_T, mx_re_t, mx_rt_v, mx_rt_0, mx_cu_t, mx_w_id, mx_l_id, mx_b_0, mx_b_1, mx_b_r, mx_nl_0, mx_nl_1, mx_nl_2, mx_nl_n, mx_nl_l, mx_sw_n, mx_sw_h, mx_sw_m, Int.reduceLE, Int.reduceLT, Int.reduceEq, Int.reduceAdd, Int.reduceSub, Int.reduceMul, Int.reduceNeg, Int.reduceToNat, and_self, true_and, and_true, false_and, and_false, true_or, or_true, false_or, or_false, not_true_eq_false, not_false_eq_true, eq_self, rw_X10_notesOf, hF, r3]
termination_by (h 39 0 - k).toNat
decreasing_by omega
theorem c_mo_l (hM : sh_M S) (w : vw (h 39)) {e k : Int} {l2 : Option mx_V} (k0 : 0 ≤ k) (k1 : k ≤ h 39 0) :
    mx_ex (d + 1) 176 41 [some (2, 38), some (0, e), l2, some (0, nse (h 39) e k), some (0, k)] [] S h n = some (some (0, nse (h 39) e (h 39 0)), S, h, n) := by
  have hN := w.N
  rw [rh_X12_eveningOf_41]
  by_cases q : k < h 39 0
  · have ih := fun l2 => c_mo_l hM w (e := e) (k := k + 1) (l2 := l2) (by omega) (by omega)
    by_cases z : it (h 39) k 1 = e
    · rw [← nse_t k0 (by omega) z] at ih
      simp (disch := omega) only [mx_vt_h, mx_vt_m, mx_cmp_0, mx_cmp_1, mx_cmp_2, mx_cmp_3, mx_cmp_4, mx_u_s, mx_u_a, mx_u_k, mx_z_a, mx_z_s, mx_t_a, mx_t_2, mx_t_1, mx_t_0, mx_gd_T, mx_gd_t, mx_br_T, mx_br_F, mx_br_t, mx_br_f, mx_br_n, mx_cl_T, mx_cl_t, mx_re_T, mx_re_t, mx_rt_v, mx_rt_0, mx_cu_t, mx_w_id, mx_l_id, mx_b_0, mx_b_1, mx_b_r, mx_nl_0, mx_nl_1, mx_nl_2, mx_nl_n, mx_nl_l, mx_sw_n, mx_sw_h, mx_sw_m, Int.reduceLE, Int.reduceLT, Int.reduceEq, Int.reduceAdd, Int.reduceSub, Int.reduceMul, Int.reduceNeg, Int.reduceToNat, and_self, true_and, and_true, false_and, and_false, true_or, or_true, false_or, or_false, not_true_eq_false, not_false_eq_true, eq_self, rw_X12_eveningOf, hM.e, c_its hM, z]
      exact ih _
    · have z2 : mx_or (nse (h 39) e k) 0 = nse (h 39) e (k + 1) := by rw [← nse_f z]; unfold nse; exact bm_or0 (by decide)
      rw [← z2] at ih
      simp (disch := omega) only [mx_vt_h, mx_vt_m, mx_cmp_0, mx_cmp_1, mx_cmp_2, mx_cmp_3, mx_cmp_4, mx_u_s, mx_u_a, mx_u_k, mx_z_a, mx_z_s, mx_t_a, mx_t_2, mx_t_1, mx_t_0, mx_gd_T, mx_gd_t, mx_br_T, mx_br_F, mx_br_t, mx_br_f, mx_br_n, mx_cl_T, mx_cl_t, mx_re_T, mx_re_t, mx_rt_v, mx_rt_0, mx_cu_t, mx_w_id, mx_l_id, mx_b_0, mx_b_1, mx_b_r, mx_nl_0, mx_nl_1, mx_nl_2, mx_nl_n, mx_nl_l, mx_sw_n, mx_sw_h, mx_sw_m, Int.reduceLE, Int.reduceLT, Int.reduceEq, Int.reduceAdd, Int.reduceSub, Int.reduceMul, Int.reduceNeg, Int.reduceToNat, and_self, true_and, and_true, false_and, and_false, true_or, or_true, false_or, or_false, not_true_eq_false, not_false_eq_true, eq_self, rw_X12_eveningOf, hM.e, c_its hM, z]
      exact ih _
  · have e : k = h 39 0 := by omega
    subst e
    simp (disch := omega) only [mx_vt_h, mx_vt_m, mx_cmp_0, mx_cmp_1, mx_cmp_2, mx_cmp_3, mx_cmp_4, mx_u_s, mx_u_a, mx_u_k, mx_z_a, mx_z_s, mx_t_a, mx_t_2, mx_t_1, mx_t_0, mx_gd_T, mx_gd_t, mx_br_T, mx_br_F, mx_br_t, mx_br_f, mx_br_n, mx_cl_T, mx_cl_t, mx_re_T, mx_re_t, mx_rt_v, mx_rt_0, mx_cu_t, mx_w_id, mx_l_id, mx_b_0, mx_b_1, mx_b_r, mx_nl_0, mx_nl_1, mx_nl_2, mx_nl_n, mx_nl_l, mx_sw_n, mx_sw_h, mx_sw_m, Int.reduceLE, Int.reduceLT, Int.reduceEq, Int.reduceAdd, Int.reduceSub, Int.reduceMul, Int.reduceNeg, Int.reduceToNat, and_self, true_and, and_true, false_and, and_false, true_or, or_true, false_or, or_false, not_true_eq_false, not_false_eq_true, eq_self, rw_X12_eveningOf, hM.e]
termination_by (h 39 0 - k).toNat
decreasing_by omega
theorem a_eveningOf {e k : Int} (hc : c ≤ 599) : ag L x 102 176 [(0, e), (0, k)] 0 c := by
  intro d S h n v
  have hX := v.s.x.e
  have hF := v.s.f.e
  have hM := v.s.m
  have w := v.t.w
  have hN := w.N
  by_cases q : 0 ≤ e ∧ e ≤ 2
  · by_cases c0 : k = 0
    · subst c0
      have lo : h 4 e = h 39 (3 + 2 * e) := v.t.r.lo e q.1 q.2
      refine ag_p v hc (y := h 39 (3 + 2 * e)) ?_ ?_
      · simp (disch := omega) only [mx_vt_h, mx_vt_m, mx_cmp_0, mx_cmp_1, mx_cmp_2, mx_cmp_3, mx_cmp_4, mx_u_s, mx_u_a, mx_u_k, mx_z_a, mx_z_s, mx_t_a, mx_t_2, mx_t_1, mx_t_0, mx_gd_T, mx_gd_t, mx_br_T, mx_br_F, mx_br_t, mx_br_f, mx_br_n, mx_cl_T, mx_cl_t, mx_re_T, mx_re_t, mx_rt_v, mx_rt_0, mx_cu_t, mx_w_id, mx_l_id, mx_b_0, mx_b_1, mx_b_r, mx_nl_0, mx_nl_1, mx_nl_2, mx_nl_n, mx_nl_l, mx_sw_n, mx_sw_h, mx_sw_m, Int.reduceLE, Int.reduceLT, Int.reduceEq, Int.reduceAdd, Int.reduceSub, Int.reduceMul, Int.reduceNeg, Int.reduceToNat, and_self, true_and, and_true, false_and, and_false, true_or, or_true, false_or, or_false, not_true_eq_false, not_false_eq_true, eq_self, rw_X11_eveningOf, hX, hF, c_xEv, mx_b_t q, lo]
      · simp (disch := omega) only [mx_vt_h, mx_vt_m, mx_cmp_0, mx_cmp_1, mx_cmp_2, mx_cmp_3, mx_cmp_4, mx_u_s, mx_u_a, mx_u_k, mx_z_a, mx_z_s, mx_t_a, mx_t_2, mx_t_1, mx_t_0, mx_gd_T, mx_gd_t, mx_br_T, mx_br_F, mx_br_t, mx_br_f, mx_br_n, mx_cl_T, mx_cl_t, mx_re_T, mx_re_t, mx_rt_v, mx_rt_0, mx_cu_t, mx_w_id, mx_l_id, mx_b_0, mx_b_1, mx_b_r, mx_nl_0, mx_nl_1, mx_nl_2, mx_nl_n, mx_nl_l, mx_sw_n, mx_sw_h, mx_sw_m, Int.reduceLE, Int.reduceLT, Int.reduceEq, Int.reduceAdd, Int.reduceSub, Int.reduceMul, Int.reduceNeg, Int.reduceToNat, and_self, true_and, and_true, false_and, and_false, true_or, or_true, false_or, or_false, not_true_eq_false, not_false_eq_true, eq_self, rw_X12_eveningOf, hM.e, c_isEvening, mx_b_t q, c_in, mx_b_t (c := (0 : Int) ≤ 0 ∧ (0 : Int) ≤ 2) (by omega), Int.add_zero]
    · by_cases c1 : k = 1
      · subst c1
        have hi : h 5 e = h 39 (3 + 2 * e + 1) := v.t.r.hi e q.1 q.2
        refine ag_p v hc (y := h 39 (3 + 2 * e + 1)) ?_ ?_
        · simp (disch := omega) only [mx_vt_h, mx_vt_m, mx_cmp_0, mx_cmp_1, mx_cmp_2, mx_cmp_3, mx_cmp_4, mx_u_s, mx_u_a, mx_u_k, mx_z_a, mx_z_s, mx_t_a, mx_t_2, mx_t_1, mx_t_0, mx_gd_T, mx_gd_t, mx_br_T, mx_br_F, mx_br_t, mx_br_f, mx_br_n, mx_cl_T, mx_cl_t, mx_re_T, mx_re_t, mx_rt_v, mx_rt_0, mx_cu_t, mx_w_id, mx_l_id, mx_b_0, mx_b_1, mx_b_r, mx_nl_0, mx_nl_1, mx_nl_2, mx_nl_n, mx_nl_l, mx_sw_n, mx_sw_h, mx_sw_m, Int.reduceLE, Int.reduceLT, Int.reduceEq, Int.reduceAdd, Int.reduceSub, Int.reduceMul, Int.reduceNeg, Int.reduceToNat, and_self, true_and, and_true, false_and, and_false, true_or, or_true, false_or, or_false, not_true_eq_false, not_false_eq_true, eq_self, rw_X11_eveningOf, hX, hF, c_xEv, mx_b_t q, hi]
        · simp (disch := omega) only [mx_vt_h, mx_vt_m, mx_cmp_0, mx_cmp_1, mx_cmp_2, mx_cmp_3, mx_cmp_4, mx_u_s, mx_u_a, mx_u_k, mx_z_a, mx_z_s, mx_t_a, mx_t_2, mx_t_1, mx_t_0, mx_gd_T, mx_gd_t, mx_br_T, mx_br_F, mx_br_t, mx_br_f, mx_br_n, mx_cl_T, mx_cl_t, mx_re_T, mx_re_t, mx_rt_v, mx_rt_0, mx_cu_t, mx_w_id, mx_l_id, mx_b_0, mx_b_1, mx_b_r, mx_nl_0, mx_nl_1, mx_nl_2, mx_nl_n, mx_nl_l, mx_sw_n, mx_sw_h, mx_sw_m, Int.reduceLE, Int.reduceLT, Int.reduceEq, Int.reduceAdd, Int.reduceSub, Int.reduceMul, Int.reduceNeg, Int.reduceToNat, and_self, true_and, and_true, false_and, and_false, true_or, or_true, false_or, or_false, not_true_eq_false, not_false_eq_true, eq_self, rw_X12_eveningOf, hM.e, c_isEvening, mx_b_t q, c_in, mx_b_t (c := (0 : Int) ≤ 1 ∧ (1 : Int) ≤ 2) (by omega)]
      · by_cases c2 : k = 2
        · subst c2
          have i1 := fun l4 => c_no_l (d := d + 10) (e := e) (k := 0) (l4 := l4) v (by decide) (by omega)
          have i2 := fun l2 => c_mo_l (d := d + 11) (n := n) (e := e) (k := 0) (l2 := l2) hM w (by decide) (by omega)
          rw [nse_0] at i1 i2
          refine ag_p v hc (y := nse (h 39) e (h 39 0)) ?_ ?_
          · simp (disch := omega) only [mx_vt_h, mx_vt_m, mx_cmp_0, mx_cmp_1, mx_cmp_2, mx_cmp_3, mx_cmp_4, mx_u_s, mx_u_a, mx_u_k, mx_z_a, mx_z_s, mx_t_a, mx_t_2, mx_t_1, mx_t_0, mx_gd_T, mx_gd_t, mx_br_T, mx_br_F, mx_br_t, mx_br_f, mx_br_n, mx_cl_T, mx_cl_t, mx_re_T, mx_re_t, mx_rt_v, mx_rt_0, mx_cu_t, mx_w_id, mx_l_id, mx_b_0, mx_b_1, mx_b_r, mx_nl_0, mx_nl_1, mx_nl_2, mx_nl_n, mx_nl_l, mx_sw_n, mx_sw_h, mx_sw_m, Int.reduceLE, Int.reduceLT, Int.reduceEq, Int.reduceAdd, Int.reduceSub, Int.reduceMul, Int.reduceNeg, Int.reduceToNat, and_self, true_and, and_true, false_and, and_false, true_or, or_true, false_or, or_false, not_true_eq_false, not_false_eq_true, eq_self, rw_X11_eveningOf, rw_X10_notesOf, hX, hF, c_xEv, mx_b_t q, i1]
          · simp (disch := omega) only [mx_vt_h, mx_vt_m, mx_cmp_0, mx_cmp_1, mx_cmp_2, mx_cmp_3, mx_cmp_4, mx_u_s, mx_u_a, mx_u_k, mx_z_a, mx_z_s, mx_t_a, mx_t_2, mx_t_1, mx_t_0, mx_gd_T, mx_gd_t, mx_br_T, mx_br_F, mx_br_t, mx_br_f, mx_br_n, mx_cl_T, mx_cl_t, mx_re_T, mx_re_t, mx_rt_v, mx_rt_0, mx_cu_t, mx_w_id, mx_l_id, mx_b_0, mx_b_1, mx_b_r, mx_nl_0, mx_nl_1, mx_nl_2, mx_nl_n, mx_nl_l, mx_sw_n, mx_sw_h, mx_sw_m, Int.reduceLE, Int.reduceLT, Int.reduceEq, Int.reduceAdd, Int.reduceSub, Int.reduceMul, Int.reduceNeg, Int.reduceToNat, and_self, true_and, and_true, false_and, and_false, true_or, or_true, false_or, or_false, not_true_eq_false, not_false_eq_true, eq_self, rw_X12_eveningOf, hM.e, c_isEvening, mx_b_t q, c_in, mx_b_t (c := (0 : Int) ≤ 2 ∧ (2 : Int) ≤ 2) (by omega), i2]
        · refine ag_p v hc (y := -1) ?_ ?_
          · simp (disch := omega) only [mx_vt_h, mx_vt_m, mx_cmp_0, mx_cmp_1, mx_cmp_2, mx_cmp_3, mx_cmp_4, mx_u_s, mx_u_a, mx_u_k, mx_z_a, mx_z_s, mx_t_a, mx_t_2, mx_t_1, mx_t_0, mx_gd_T, mx_gd_t, mx_br_T, mx_br_F, mx_br_t, mx_br_f, mx_br_n, mx_cl_T, mx_cl_t, mx_re_T, mx_re_t, mx_rt_v, mx_rt_0, mx_cu_t, mx_w_id, mx_l_id, mx_b_0, mx_b_1, mx_b_r, mx_nl_0, mx_nl_1, mx_nl_2, mx_nl_n, mx_nl_l, mx_sw_n, mx_sw_h, mx_sw_m, Int.reduceLE, Int.reduceLT, Int.reduceEq, Int.reduceAdd, Int.reduceSub, Int.reduceMul, Int.reduceNeg, Int.reduceToNat, and_self, true_and, and_true, false_and, and_false, true_or, or_true, false_or, or_false, not_true_eq_false, not_false_eq_true, eq_self, rw_X11_eveningOf, c_xEv, mx_b_t q, c0, c1, c2]
          · simp (disch := omega) only [mx_vt_h, mx_vt_m, mx_cmp_0, mx_cmp_1, mx_cmp_2, mx_cmp_3, mx_cmp_4, mx_u_s, mx_u_a, mx_u_k, mx_z_a, mx_z_s, mx_t_a, mx_t_2, mx_t_1, mx_t_0, mx_gd_T, mx_gd_t, mx_br_T, mx_br_F, mx_br_t, mx_br_f, mx_br_n, mx_cl_T, mx_cl_t, mx_re_T, mx_re_t, mx_rt_v, mx_rt_0, mx_cu_t, mx_w_id, mx_l_id, mx_b_0, mx_b_1, mx_b_r, mx_nl_0, mx_nl_1, mx_nl_2, mx_nl_n, mx_nl_l, mx_sw_n, mx_sw_h, mx_sw_m, Int.reduceLE, Int.reduceLT, Int.reduceEq, Int.reduceAdd, Int.reduceSub, Int.reduceMul, Int.reduceNeg, Int.reduceToNat, and_self, true_and, and_true, false_and, and_false, true_or, or_true, false_or, or_false, not_true_eq_false, not_false_eq_true, eq_self, rw_X12_eveningOf, c_isEvening, mx_b_t q, c_in, mx_b_f (c := 0 ≤ k ∧ k ≤ 2) (by omega)]
  · refine ag_p v hc (y := -1) ?_ ?_
    · simp (disch := omega) only [mx_vt_h, mx_vt_m, mx_cmp_0, mx_cmp_1, mx_cmp_2, mx_cmp_3, mx_cmp_4, mx_u_s, mx_u_a, mx_u_k, mx_z_a, mx_z_s, mx_t_a, mx_t_2, mx_t_1, mx_t_0, mx_gd_T, mx_gd_t, mx_br_T, mx_br_F, mx_br_t, mx_br_f, mx_br_n, mx_cl_T, mx_cl_t, mx_re_T, mx_re_t, mx_rt_v, mx_rt_0, mx_cu_t, mx_w_id, mx_l_id, mx_b_0, mx_b_1, mx_b_r, mx_nl_0, mx_nl_1, mx_nl_2, mx_nl_n, mx_nl_l, mx_sw_n, mx_sw_h, mx_sw_m, Int.reduceLE, Int.reduceLT, Int.reduceEq, Int.reduceAdd, Int.reduceSub, Int.reduceMul, Int.reduceNeg, Int.reduceToNat, and_self, true_and, and_true, false_and, and_false, true_or, or_true, false_or, or_false, not_true_eq_false, not_false_eq_true, eq_self, rw_X11_eveningOf, c_xEv, mx_b_f q]
    · simp (disch := omega) only [mx_vt_h, mx_vt_m, mx_cmp_0, mx_cmp_1, mx_cmp_2, mx_cmp_3, mx_cmp_4, mx_u_s, mx_u_a, mx_u_k, mx_z_a, mx_z_s, mx_t_a, mx_t_2, mx_t_1, mx_t_0, mx_gd_T, mx_gd_t, mx_br_T, mx_br_F, mx_br_t, mx_br_f, mx_br_n, mx_cl_T, mx_cl_t, mx_re_T, mx_re_t, mx_rt_v, mx_rt_0, mx_cu_t, mx_w_id, mx_l_id, mx_b_0, mx_b_1, mx_b_r, mx_nl_0, mx_nl_1, mx_nl_2, mx_nl_n, mx_nl_l, mx_sw_n, mx_sw_h, mx_sw_m, Int.reduceLE, Int.reduceLT, Int.reduceEq, Int.reduceAdd, Int.reduceSub, Int.reduceMul, Int.reduceNeg, Int.reduceToNat, and_self, true_and, and_true, false_and, and_false, true_or, or_true, false_or, or_false, not_true_eq_false, not_false_eq_true, eq_self, rw_X12_eveningOf, c_isEvening, mx_b_f q]
end
