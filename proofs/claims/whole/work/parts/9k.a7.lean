/-! Lines; what holds; mending; notes of an evening -/
section
variable {L : Nat} {x : Nat → Int32} {S h g : mx_H} {n c : Int} {d : Nat}
theorem a_line {s a b e : Int} (hc : c ≤ 599) : ag L x 109 188 [(0, s), (0, a), (0, b), (0, e)] 0 c := by
  intro d S h n v
  have hX := v.s.x.e
  have hF := v.s.f.e
  have hM := v.s.m
  have w := v.t.w
  have hN := w.N
  have hL := w.L
  have r4 : h 3 4 = h 39 1 := v.t.r.L
  have ps : ∀ i, 0 ≤ i ∧ i < h 39 0 → 53 ≤ S 7 i := fun i q => (v.nr q).p0
  have isn := fun k => c_isNote (d := d + 10) (n := n) (v := k) hM w
  by_cases s0 : 0 ≤ s ∧ s ≤ 3
  · by_cases qa : 0 ≤ a ∧ a < h 39 0
    · have pa := ps a qa
      -- all of it is good: the line goes in, or there is no room
      have fin : ∀ b' e', vw (ladd (h 39) s a b' e') ∨ 6 ≤ h 39 1 → (h 39 1 ≤ 5 → mx_M (d + 12) 109 [(2, 0), (0, s), (0, a), (0, b), (0, e)] S h n = some (some (0, h 39 1), S, mx_u (mx_u (mx_u (mx_u (mx_u (mx_u h 6 (h 39 1 * 4) s) 6 (h 39 1 * 4 + 1) a) 6 (h 39 1 * 4 + 2) b') 6 (h 39 1 * 4 + 3) e') 3 4 (h 39 1 + 1)) 3 5 (h 3 5 + 1), n)) →
          (¬ h 39 1 ≤ 5 → mx_M (d + 12) 109 [(2, 0), (0, s), (0, a), (0, b), (0, e)] S h n = some (some (0, -2), S, h, n)) →
          (∀ g : mx_H, g 39 = h 39 → h 39 1 ≤ 5 → mx_M (d + 12) 188 [(2, 38), (0, s), (0, a), (0, b), (0, e)] S g n = some (some (0, h 39 1), S, mx_u (mx_u (mx_u (mx_u (mx_u g 39 (69 + 4 * h 39 1) s) 39 (69 + 4 * h 39 1 + 1) a) 39 (69 + 4 * h 39 1 + 2) b') 39 (69 + 4 * h 39 1 + 3) e') 39 1 (h 39 1 + 1), n)) →
          (¬ h 39 1 ≤ 5 → mx_M (d + 12) 188 [(2, 38), (0, s), (0, a), (0, b), (0, e)] S h n = some (some (0, -2), S, h, n)) →
          mx_W (mx_M (d + 12) 109 [(2, 0), (0, s), (0, a), (0, b), (0, e)] S h n) (fun v S1 h1 n1 => mx_W (mx_M (d + 12) 188 [(2, 38), (0, s), (0, a), (0, b), (0, e)] S1 h1 n1) (fun v2 S2 h2 n2 => (∃ y, v = some (0, y) ∧ v2 = some (0, y)) ∧ Inv L x S2 h2 n2 (c + 1))) := by
        intro b' e' w2 h1 h2 h3 h4
        by_cases l5 : h 39 1 ≤ 5
        · rw [h1 l5]
          refine mx_W_s ?_
          rw [h3 _ (by simp (disch := omega) only [mx_u_a]) l5]
          refine mx_W_s ⟨⟨_, rfl, rfl⟩, ?_⟩
          refine v.lad hc l5 (w2.resolve_right (by omega)) rfl rfl rfl rfl ?_ ?_
          · have := u_ladd (h := mx_u (mx_u (mx_u (mx_u (mx_u (mx_u h 6 (h 39 1 * 4) s) 6 (h 39 1 * 4 + 1) a) 6 (h 39 1 * 4 + 2) b') 6 (h 39 1 * 4 + 3) e') 3 4 (h 39 1 + 1)) 3 5 (h 3 5 + 1)) (s := s) (a := a) (b := b') (e := e')
            have e39 : mx_u (mx_u (mx_u (mx_u (mx_u (mx_u h 6 (h 39 1 * 4) s) 6 (h 39 1 * 4 + 1) a) 6 (h 39 1 * 4 + 2) b') 6 (h 39 1 * 4 + 3) e') 3 4 (h 39 1 + 1)) 3 5 (h 3 5 + 1) 39 = h 39 := by simp (disch := omega) only [mx_u_a]
            rw [e39] at this
            exact this hL.1
          · intro y hy; simp (disch := omega) only [mx_u_a]
        · exact ag_p v hc (h2 l5) (h4 l5)
      have G : ∀ g : mx_H, g 39 = h 39 → vw (g 39) := fun g e => by rw [e]; exact w
      by_cases s3 : s = 3
      · by_cases z : 1 ≤ e ∧ e ≤ 99
        · subst s3
          refine fin 0 e ?_ ?_ ?_ ?_ ?_
          · by_cases l6 : 6 ≤ h 39 1
            · exact Or.inr l6
            · exact Or.inl (ladd_w w (by omega) (by omega) qa (by omega) (by omega) (by omega) (by omega))
          · intro l5; simp (disch := omega) only [mx_vt_h, mx_vt_m, mx_cmp_0, mx_cmp_1, mx_cmp_2, mx_cmp_3, mx_cmp_4, mx_u_s, mx_u_a, mx_u_k, mx_z_a, mx_z_s, mx_t_a, mx_t_2, mx_t_1, mx_t_0, mx_gd_T, mx_gd_t, mx_br_T, mx_br_F, mx_br_t, mx_br_f, mx_br_n, mx_cl_T, mx_cl_t, mx_re_T, mx_re_t, mx_rt_v, mx_rt_0, mx_cu_t, mx_w_id, mx_l_id, mx_b_0, mx_b_1, mx_b_r, mx_nl_0, mx_nl_1, mx_nl_2, mx_nl_n, mx_nl_l, mx_sw_n, mx_sw_h, mx_sw_m, Int.reduceLE, Int.reduceLT, Int.reduceEq, Int.reduceAdd, Int.reduceSub, Int.reduceMul, Int.reduceNeg, Int.reduceToNat, and_self, true_and, and_true, false_and, and_false, true_or, or_true, false_or, or_false, not_true_eq_false, not_false_eq_true, eq_self, rw_X11_line, rw_X10_addLine, Int.add_sub_cancel, hX, hF, c_within, mx_b_t (c := (0 : Int) ≤ 3 ∧ (3 : Int) ≤ 3) (by omega), v.na1 qa, mx_b_t z, r4, v.ver]
          · intro l5; simp (disch := omega) only [mx_vt_h, mx_vt_m, mx_cmp_0, mx_cmp_1, mx_cmp_2, mx_cmp_3, mx_cmp_4, mx_u_s, mx_u_a, mx_u_k, mx_z_a, mx_z_s, mx_t_a, mx_t_2, mx_t_1, mx_t_0, mx_gd_T, mx_gd_t, mx_br_T, mx_br_F, mx_br_t, mx_br_f, mx_br_n, mx_cl_T, mx_cl_t, mx_re_T, mx_re_t, mx_rt_v, mx_rt_0, mx_cu_t, mx_w_id, mx_l_id, mx_b_0, mx_b_1, mx_b_r, mx_nl_0, mx_nl_1, mx_nl_2, mx_nl_n, mx_nl_l, mx_sw_n, mx_sw_h, mx_sw_m, Int.reduceLE, Int.reduceLT, Int.reduceEq, Int.reduceAdd, Int.reduceSub, Int.reduceMul, Int.reduceNeg, Int.reduceToNat, and_self, true_and, and_true, false_and, and_false, true_or, or_true, false_or, or_false, not_true_eq_false, not_false_eq_true, eq_self, rw_X11_line, hX, hF, c_within, mx_b_t (c := (0 : Int) ≤ 3 ∧ (3 : Int) ≤ 3) (by omega), v.na1 qa, mx_b_t z, r4]
          · intro g e39 l5
            have isg := fun k => c_isNote (d := d + 10) (n := n) (v := k) hM (G g e39)
            rw [e39] at isg
            have g0 : g 39 0 = h 39 0 := by rw [e39]
            have g1 : g 39 1 = h 39 1 := by rw [e39]
            simp (disch := omega) only [mx_vt_h, mx_vt_m, mx_cmp_0, mx_cmp_1, mx_cmp_2, mx_cmp_3, mx_cmp_4, mx_u_s, mx_u_a, mx_u_k, mx_z_a, mx_z_s, mx_t_a, mx_t_2, mx_t_1, mx_t_0, mx_gd_T, mx_gd_t, mx_br_T, mx_br_F, mx_br_t, mx_br_f, mx_br_n, mx_cl_T, mx_cl_t, mx_re_T, mx_re_t, mx_rt_v, mx_rt_0, mx_cu_t, mx_w_id, mx_l_id, mx_b_0, mx_b_1, mx_b_r, mx_nl_0, mx_nl_1, mx_nl_2, mx_nl_n, mx_nl_l, mx_sw_n, mx_sw_h, mx_sw_m, Int.reduceLE, Int.reduceLT, Int.reduceEq, Int.reduceAdd, Int.reduceSub, Int.reduceMul, Int.reduceNeg, Int.reduceToNat, and_self, true_and, and_true, false_and, and_false, true_or, or_true, false_or, or_false, not_true_eq_false, not_false_eq_true, eq_self, rw_X12_line, rw_X12_line_1, Int.add_sub_cancel, hM.e, c_in, mx_b_t (c := (0 : Int) ≤ 3 ∧ (3 : Int) ≤ 3) (by omega), isg, mx_b_t qa, mx_b_t z, g1]
          · intro l5; simp (disch := omega) only [mx_vt_h, mx_vt_m, mx_cmp_0, mx_cmp_1, mx_cmp_2, mx_cmp_3, mx_cmp_4, mx_u_s, mx_u_a, mx_u_k, mx_z_a, mx_z_s, mx_t_a, mx_t_2, mx_t_1, mx_t_0, mx_gd_T, mx_gd_t, mx_br_T, mx_br_F, mx_br_t, mx_br_f, mx_br_n, mx_cl_T, mx_cl_t, mx_re_T, mx_re_t, mx_rt_v, mx_rt_0, mx_cu_t, mx_w_id, mx_l_id, mx_b_0, mx_b_1, mx_b_r, mx_nl_0, mx_nl_1, mx_nl_2, mx_nl_n, mx_nl_l, mx_sw_n, mx_sw_h, mx_sw_m, Int.reduceLE, Int.reduceLT, Int.reduceEq, Int.reduceAdd, Int.reduceSub, Int.reduceMul, Int.reduceNeg, Int.reduceToNat, and_self, true_and, and_true, false_and, and_false, true_or, or_true, false_or, or_false, not_true_eq_false, not_false_eq_true, eq_self, rw_X12_line, rw_X12_line_1, hM.e, c_in, mx_b_t (c := (0 : Int) ≤ 3 ∧ (3 : Int) ≤ 3) (by omega), isn, mx_b_t qa, mx_b_t z]
        · subst s3
          refine ag_p v hc (y := -1) ?_ ?_
          · simp (disch := omega) only [mx_vt_h, mx_vt_m, mx_cmp_0, mx_cmp_1, mx_cmp_2, mx_cmp_3, mx_cmp_4, mx_u_s, mx_u_a, mx_u_k, mx_z_a, mx_z_s, mx_t_a, mx_t_2, mx_t_1, mx_t_0, mx_gd_T, mx_gd_t, mx_br_T, mx_br_F, mx_br_t, mx_br_f, mx_br_n, mx_cl_T, mx_cl_t, mx_re_T, mx_re_t, mx_rt_v, mx_rt_0, mx_cu_t, mx_w_id, mx_l_id, mx_b_0, mx_b_1, mx_b_r, mx_nl_0, mx_nl_1, mx_nl_2, mx_nl_n, mx_nl_l, mx_sw_n, mx_sw_h, mx_sw_m, Int.reduceLE, Int.reduceLT, Int.reduceEq, Int.reduceAdd, Int.reduceSub, Int.reduceMul, Int.reduceNeg, Int.reduceToNat, and_self, true_and, and_true, false_and, and_false, true_or, or_true, false_or, or_false, not_true_eq_false, not_false_eq_true, eq_self, rw_X11_line, hX, hF, c_within, mx_b_t (c := (0 : Int) ≤ 3 ∧ (3 : Int) ≤ 3) (by omega), v.na1 qa, mx_b_f z]
          · simp (disch := omega) only [mx_vt_h, mx_vt_m, mx_cmp_0, mx_cmp_1, mx_cmp_2, mx_cmp_3, mx_cmp_4, mx_u_s, mx_u_a, mx_u_k, mx_z_a, mx_z_s, mx_t_a, mx_t_2, mx_t_1, mx_t_0, mx_gd_T, mx_gd_t, mx_br_T, mx_br_F, mx_br_t, mx_br_f, mx_br_n, mx_cl_T, mx_cl_t, mx_re_T, mx_re_t, mx_rt_v, mx_rt_0, mx_cu_t, mx_w_id, mx_l_id, mx_b_0, mx_b_1, mx_b_r, mx_nl_0, mx_nl_1, mx_nl_2, mx_nl_n, mx_nl_l, mx_sw_n, mx_sw_h, mx_sw_m, Int.reduceLE, Int.reduceLT, Int.reduceEq, Int.reduceAdd, Int.reduceSub, Int.reduceMul, Int.reduceNeg, Int.reduceToNat, and_self, true_and, and_true, false_and, and_false, true_or, or_true, false_or, or_false, not_true_eq_false, not_false_eq_true, eq_self, rw_X12_line, rw_X12_line_1, hM.e, c_in, mx_b_t (c := (0 : Int) ≤ 3 ∧ (3 : Int) ≤ 3) (by omega), isn, mx_b_t qa, mx_b_f z]
      · by_cases qb : 0 ≤ b ∧ b < h 39 0
        · have pb := ps b qb
          by_cases s2 : s = 2
          · subst s2
            by_cases qe : 0 ≤ e ∧ e < h 39 0
            · have pe := ps e qe
              refine fin b e ?_ ?_ ?_ ?_ ?_
              · by_cases l6 : 6 ≤ h 39 1
                · exact Or.inr l6
                · exact Or.inl (ladd_w w (by omega) (by omega) qa qb (by omega) (by omega) (by omega))
              · intro l5; simp (disch := omega) only [mx_vt_h, mx_vt_m, mx_cmp_0, mx_cmp_1, mx_cmp_2, mx_cmp_3, mx_cmp_4, mx_u_s, mx_u_a, mx_u_k, mx_z_a, mx_z_s, mx_t_a, mx_t_2, mx_t_1, mx_t_0, mx_gd_T, mx_gd_t, mx_br_T, mx_br_F, mx_br_t, mx_br_f, mx_br_n, mx_cl_T, mx_cl_t, mx_re_T, mx_re_t, mx_rt_v, mx_rt_0, mx_cu_t, mx_w_id, mx_l_id, mx_b_0, mx_b_1, mx_b_r, mx_nl_0, mx_nl_1, mx_nl_2, mx_nl_n, mx_nl_l, mx_sw_n, mx_sw_h, mx_sw_m, Int.reduceLE, Int.reduceLT, Int.reduceEq, Int.reduceAdd, Int.reduceSub, Int.reduceMul, Int.reduceNeg, Int.reduceToNat, and_self, true_and, and_true, false_and, and_false, true_or, or_true, false_or, or_false, not_true_eq_false, not_false_eq_true, eq_self, rw_X11_line, rw_X10_addLine, Int.add_sub_cancel, hX, hF, c_within, mx_b_t (c := (0 : Int) ≤ 2 ∧ (2 : Int) ≤ 3) (by omega), v.na1 qa, v.na1 qb, v.na1 qe, r4, v.ver]
              · intro l5; simp (disch := omega) only [mx_vt_h, mx_vt_m, mx_cmp_0, mx_cmp_1, mx_cmp_2, mx_cmp_3, mx_cmp_4, mx_u_s, mx_u_a, mx_u_k, mx_z_a, mx_z_s, mx_t_a, mx_t_2, mx_t_1, mx_t_0, mx_gd_T, mx_gd_t, mx_br_T, mx_br_F, mx_br_t, mx_br_f, mx_br_n, mx_cl_T, mx_cl_t, mx_re_T, mx_re_t, mx_rt_v, mx_rt_0, mx_cu_t, mx_w_id, mx_l_id, mx_b_0, mx_b_1, mx_b_r, mx_nl_0, mx_nl_1, mx_nl_2, mx_nl_n, mx_nl_l, mx_sw_n, mx_sw_h, mx_sw_m, Int.reduceLE, Int.reduceLT, Int.reduceEq, Int.reduceAdd, Int.reduceSub, Int.reduceMul, Int.reduceNeg, Int.reduceToNat, and_self, true_and, and_true, false_and, and_false, true_or, or_true, false_or, or_false, not_true_eq_false, not_false_eq_true, eq_self, rw_X11_line, hX, hF, c_within, mx_b_t (c := (0 : Int) ≤ 2 ∧ (2 : Int) ≤ 3) (by omega), v.na1 qa, v.na1 qb, v.na1 qe, r4]
              · intro g e39 l5
                have isg := fun k => c_isNote (d := d + 10) (n := n) (v := k) hM (G g e39)
                rw [e39] at isg
                have g1 : g 39 1 = h 39 1 := by rw [e39]
                simp (disch := omega) only [mx_vt_h, mx_vt_m, mx_cmp_0, mx_cmp_1, mx_cmp_2, mx_cmp_3, mx_cmp_4, mx_u_s, mx_u_a, mx_u_k, mx_z_a, mx_z_s, mx_t_a, mx_t_2, mx_t_1, mx_t_0, mx_gd_T, mx_gd_t, mx_br_T, mx_br_F, mx_br_t, mx_br_f, mx_br_n, mx_cl_T, mx_cl_t, mx_re_T, mx_re_t, mx_rt_v, mx_rt_0, mx_cu_t, mx_w_id, mx_l_id, mx_b_0, mx_b_1, mx_b_r, mx_nl_0, mx_nl_1, mx_nl_2, mx_nl_n, mx_nl_l, mx_sw_n, mx_sw_h, mx_sw_m, Int.reduceLE, Int.reduceLT, Int.reduceEq, Int.reduceAdd, Int.reduceSub, Int.reduceMul, Int.reduceNeg, Int.reduceToNat, and_self, true_and, and_true, false_and, and_false, true_or, or_true, false_or, or_false, not_true_eq_false, not_false_eq_true, eq_self, rw_X12_line, rw_X12_line_1, Int.add_sub_cancel, hM.e, c_in, mx_b_t (c := (0 : Int) ≤ 2 ∧ (2 : Int) ≤ 3) (by omega), isg, mx_b_t qa, mx_b_t qb, mx_b_t qe, g1]
              · intro l5; simp (disch := omega) only [mx_vt_h, mx_vt_m, mx_cmp_0, mx_cmp_1, mx_cmp_2, mx_cmp_3, mx_cmp_4, mx_u_s, mx_u_a, mx_u_k, mx_z_a, mx_z_s, mx_t_a, mx_t_2, mx_t_1, mx_t_0, mx_gd_T, mx_gd_t, mx_br_T, mx_br_F, mx_br_t, mx_br_f, mx_br_n, mx_cl_T, mx_cl_t, mx_re_T, mx_re_t, mx_rt_v, mx_rt_0, mx_cu_t, mx_w_id, mx_l_id, mx_b_0, mx_b_1, mx_b_r, mx_nl_0, mx_nl_1, mx_nl_2, mx_nl_n, mx_nl_l, mx_sw_n, mx_sw_h, mx_sw_m, Int.reduceLE, Int.reduceLT, Int.reduceEq, Int.reduceAdd, Int.reduceSub, Int.reduceMul, Int.reduceNeg, Int.reduceToNat, and_self, true_and, and_true, false_and, and_false, true_or, or_true, false_or, or_false, not_true_eq_false, not_false_eq_true, eq_self, rw_X12_line, rw_X12_line_1, hM.e, c_in, mx_b_t (c := (0 : Int) ≤ 2 ∧ (2 : Int) ≤ 3) (by omega), isn, mx_b_t qa, mx_b_t qb, mx_b_t qe]
            · refine ag_p v hc (y := -1) ?_ ?_
              · simp (disch := omega) only [mx_vt_h, mx_vt_m, mx_cmp_0, mx_cmp_1, mx_cmp_2, mx_cmp_3, mx_cmp_4, mx_u_s, mx_u_a, mx_u_k, mx_z_a, mx_z_s, mx_t_a, mx_t_2, mx_t_1, mx_t_0, mx_gd_T, mx_gd_t, mx_br_T, mx_br_F, mx_br_t, mx_br_f, mx_br_n, mx_cl_T, mx_cl_t, mx_re_T, mx_re_t, mx_rt_v, mx_rt_0, mx_cu_t, mx_w_id, mx_l_id, mx_b_0, mx_b_1, mx_b_r, mx_nl_0, mx_nl_1, mx_nl_2, mx_nl_n, mx_nl_l, mx_sw_n, mx_sw_h, mx_sw_m, Int.reduceLE, Int.reduceLT, Int.reduceEq, Int.reduceAdd, Int.reduceSub, Int.reduceMul, Int.reduceNeg, Int.reduceToNat, and_self, true_and, and_true, false_and, and_false, true_or, or_true, false_or, or_false, not_true_eq_false, not_false_eq_true, eq_self, rw_X11_line, hX, hF, c_within, mx_b_t (c := (0 : Int) ≤ 2 ∧ (2 : Int) ≤ 3) (by omega), v.na1 qa, v.na1 qb, v.na0 qe]
              · simp (disch := omega) only [mx_vt_h, mx_vt_m, mx_cmp_0, mx_cmp_1, mx_cmp_2, mx_cmp_3, mx_cmp_4, mx_u_s, mx_u_a, mx_u_k, mx_z_a, mx_z_s, mx_t_a, mx_t_2, mx_t_1, mx_t_0, mx_gd_T, mx_gd_t, mx_br_T, mx_br_F, mx_br_t, mx_br_f, mx_br_n, mx_cl_T, mx_cl_t, mx_re_T, mx_re_t, mx_rt_v, mx_rt_0, mx_cu_t, mx_w_id, mx_l_id, mx_b_0, mx_b_1, mx_b_r, mx_nl_0, mx_nl_1, mx_nl_2, mx_nl_n, mx_nl_l, mx_sw_n, mx_sw_h, mx_sw_m, Int.reduceLE, Int.reduceLT, Int.reduceEq, Int.reduceAdd, Int.reduceSub, Int.reduceMul, Int.reduceNeg, Int.reduceToNat, and_self, true_and, and_true, false_and, and_false, true_or, or_true, false_or, or_false, not_true_eq_false, not_false_eq_true, eq_self, rw_X12_line, rw_X12_line_1, hM.e, c_in, mx_b_t (c := (0 : Int) ≤ 2 ∧ (2 : Int) ≤ 3) (by omega), isn, mx_b_t qa, mx_b_t qb, mx_b_f qe]
          · refine fin b 0 ?_ ?_ ?_ ?_ ?_
            · by_cases l6 : 6 ≤ h 39 1
              · exact Or.inr l6
              · exact Or.inl (ladd_w w (by omega) (by omega) qa qb (by omega) (by omega) (by omega))
            · intro l5; simp (disch := omega) only [mx_vt_h, mx_vt_m, mx_cmp_0, mx_cmp_1, mx_cmp_2, mx_cmp_3, mx_cmp_4, mx_u_s, mx_u_a, mx_u_k, mx_z_a, mx_z_s, mx_t_a, mx_t_2, mx_t_1, mx_t_0, mx_gd_T, mx_gd_t, mx_br_T, mx_br_F, mx_br_t, mx_br_f, mx_br_n, mx_cl_T, mx_cl_t, mx_re_T, mx_re_t, mx_rt_v, mx_rt_0, mx_cu_t, mx_w_id, mx_l_id, mx_b_0, mx_b_1, mx_b_r, mx_nl_0, mx_nl_1, mx_nl_2, mx_nl_n, mx_nl_l, mx_sw_n, mx_sw_h, mx_sw_m, Int.reduceLE, Int.reduceLT, Int.reduceEq, Int.reduceAdd, Int.reduceSub, Int.reduceMul, Int.reduceNeg, Int.reduceToNat, and_self, true_and, and_true, false_and, and_false, true_or, or_true, false_or, or_false, not_true_eq_false, not_false_eq_true, eq_self, rw_X11_line, rw_X10_addLine, Int.add_sub_cancel, hX, hF, c_within, mx_b_t s0, v.na1 qa, v.na1 qb, r4, v.ver, s3, s2]
            · intro l5; simp (disch := omega) only [mx_vt_h, mx_vt_m, mx_cmp_0, mx_cmp_1, mx_cmp_2, mx_cmp_3, mx_cmp_4, mx_u_s, mx_u_a, mx_u_k, mx_z_a, mx_z_s, mx_t_a, mx_t_2, mx_t_1, mx_t_0, mx_gd_T, mx_gd_t, mx_br_T, mx_br_F, mx_br_t, mx_br_f, mx_br_n, mx_cl_T, mx_cl_t, mx_re_T, mx_re_t, mx_rt_v, mx_rt_0, mx_cu_t, mx_w_id, mx_l_id, mx_b_0, mx_b_1, mx_b_r, mx_nl_0, mx_nl_1, mx_nl_2, mx_nl_n, mx_nl_l, mx_sw_n, mx_sw_h, mx_sw_m, Int.reduceLE, Int.reduceLT, Int.reduceEq, Int.reduceAdd, Int.reduceSub, Int.reduceMul, Int.reduceNeg, Int.reduceToNat, and_self, true_and, and_true, false_and, and_false, true_or, or_true, false_or, or_false, not_true_eq_false, not_false_eq_true, eq_self, rw_X11_line, hX, hF, c_within, mx_b_t s0, v.na1 qa, v.na1 qb, r4, s3, s2]
            · intro g e39 l5
              have isg := fun k => c_isNote (d := d + 10) (n := n) (v := k) hM (G g e39)
              rw [e39] at isg
              have g1 : g 39 1 = h 39 1 := by rw [e39]
              simp (disch := omega) only [mx_vt_h, mx_vt_m, mx_cmp_0, mx_cmp_1, mx_cmp_2, mx_cmp_3, mx_cmp_4, mx_u_s, mx_u_a, mx_u_k, mx_z_a, mx_z_s, mx_t_a, mx_t_2, mx_t_1, mx_t_0, mx_gd_T, mx_gd_t, mx_br_T, mx_br_F, mx_br_t, mx_br_f, mx_br_n, mx_cl_T, mx_cl_t, mx_re_T, mx_re_t, mx_rt_v, mx_rt_0, mx_cu_t, mx_w_id, mx_l_id, mx_b_0, mx_b_1, mx_b_r, mx_nl_0, mx_nl_1, mx_nl_2, mx_nl_n, mx_nl_l, mx_sw_n, mx_sw_h, mx_sw_m, Int.reduceLE, Int.reduceLT, Int.reduceEq, Int.reduceAdd, Int.reduceSub, Int.reduceMul, Int.reduceNeg, Int.reduceToNat, and_self, true_and, and_true, false_and, and_false, true_or, or_true, false_or, or_false, not_true_eq_false, not_false_eq_true, eq_self, rw_X12_line, rw_X12_line_1, Int.add_sub_cancel, hM.e, c_in, mx_b_t s0, isg, mx_b_t qa, mx_b_t qb, g1, s3, s2]
            · intro l5; simp (disch := omega) only [mx_vt_h, mx_vt_m, mx_cmp_0, mx_cmp_1, mx_cmp_2, mx_cmp_3, mx_cmp_4, mx_u_s, mx_u_a, mx_u_k, mx_z_a, mx_z_s, mx_t_a, mx_t_2, mx_t_1, mx_t_0, mx_gd_T, mx_gd_t, mx_br_T, mx_br_F, mx_br_t, mx_br_f, mx_br_n, mx_cl_T, mx_cl_t, mx_re_T, mx_re_t, mx_rt_v, mx_rt_0, mx_cu_t, mx_w_id, mx_l_id, mx_b_0, mx_b_1, mx_b_r, mx_nl_0, mx_nl_1, mx_nl_2, mx_nl_n, mx_nl_l, mx_sw_n, mx_sw_h, mx_sw_m, Int.reduceLE, Int.reduceLT, Int.reduceEq, Int.reduceAdd, Int.reduceSub, Int.reduceMul, Int.reduceNeg, Int.reduceToNat, and_self, true_and, and_true, false_and, and_false, true_or, or_true, false_or, or_false, not_true_eq_false, not_false_eq_true, eq_self, rw_X12_line, rw_X12_line_1, hM.e, c_in, mx_b_t s0, isn, mx_b_t qa, mx_b_t qb, s3, s2]
        · refine ag_p v hc (y := -1) ?_ ?_
          · simp (disch := omega) only [mx_vt_h, mx_vt_m, mx_cmp_0, mx_cmp_1, mx_cmp_2, mx_cmp_3, mx_cmp_4, mx_u_s, mx_u_a, mx_u_k, mx_z_a, mx_z_s, mx_t_a, mx_t_2, mx_t_1, mx_t_0, mx_gd_T, mx_gd_t, mx_br_T, mx_br_F, mx_br_t, mx_br_f, mx_br_n, mx_cl_T, mx_cl_t, mx_re_T, mx_re_t, mx_rt_v, mx_rt_0, mx_cu_t, mx_w_id, mx_l_id, mx_b_0, mx_b_1, mx_b_r, mx_nl_0, mx_nl_1, mx_nl_2, mx_nl_n, mx_nl_l, mx_sw_n, mx_sw_h, mx_sw_m, Int.reduceLE, Int.reduceLT, Int.reduceEq, Int.reduceAdd, Int.reduceSub, Int.reduceMul, Int.reduceNeg, Int.reduceToNat, and_self, true_and, and_true, false_and, and_false, true_or, or_true, false_or, or_false, not_true_eq_false, not_false_eq_true, eq_self, rw_X11_line, hX, hF, c_within, mx_b_t s0, v.na1 qa, v.na0 qb, s3]
          · simp (disch := omega) only [mx_vt_h, mx_vt_m, mx_cmp_0, mx_cmp_1, mx_cmp_2, mx_cmp_3, mx_cmp_4, mx_u_s, mx_u_a, mx_u_k, mx_z_a, mx_z_s, mx_t_a, mx_t_2, mx_t_1, mx_t_0, mx_gd_T, mx_gd_t, mx_br_T, mx_br_F, mx_br_t, mx_br_f, mx_br_n, mx_cl_T, mx_cl_t, mx_re_T, mx_re_t, mx_rt_v, mx_rt_0, mx_cu_t, mx_w_id, mx_l_id, mx_b_0, mx_b_1, mx_b_r, mx_nl_0, mx_nl_1, mx_nl_2, mx_nl_n, mx_nl_l, mx_sw_n, mx_sw_h, mx_sw_m, Int.reduceLE, Int.reduceLT, Int.reduceEq, Int.reduceAdd, Int.reduceSub, Int.reduceMul, Int.reduceNeg, Int.reduceToNat, and_self, true_and, and_true, false_and, and_false, true_or, or_true, false_or, or_false, not_true_eq_false, not_false_eq_true, eq_self, rw_X12_line, rw_X12_line_1, hM.e, c_in, mx_b_t s0, isn, mx_b_t qa, mx_b_f qb, s3]
    · refine ag_p v hc (y := -1) ?_ ?_
      · simp (disch := omega) only [mx_vt_h, mx_vt_m, mx_cmp_0, mx_cmp_1, mx_cmp_2, mx_cmp_3, mx_cmp_4, mx_u_s, mx_u_a, mx_u_k, mx_z_a, mx_z_s, mx_t_a, mx_t_2, mx_t_1, mx_t_0, mx_gd_T, mx_gd_t, mx_br_T, mx_br_F, mx_br_t, mx_br_f, mx_br_n, mx_cl_T, mx_cl_t, mx_re_T, mx_re_t, mx_rt_v, mx_rt_0, mx_cu_t, mx_w_id, mx_l_id, mx_b_0, mx_b_1, mx_b_r, mx_nl_0, mx_nl_1, mx_nl_2, mx_nl_n, mx_nl_l, mx_sw_n, mx_sw_h, mx_sw_m, Int.reduceLE, Int.reduceLT, Int.reduceEq, Int.reduceAdd, Int.reduceSub, Int.reduceMul, Int.reduceNeg, Int.reduceToNat, and_self, true_and, and_true, false_and, and_false, true_or, or_true, false_or, or_false, not_true_eq_false, not_false_eq_true, eq_self, rw_X11_line, hX, hF, c_within, mx_b_t s0, v.na0 qa]
      · simp (disch := omega) only [mx_vt_h, mx_vt_m, mx_cmp_0, mx_cmp_1, mx_cmp_2, mx_cmp_3, mx_cmp_4, mx_u_s, mx_u_a, mx_u_k, mx_z_a, mx_z_s, mx_t_a, mx_t_2, mx_t_1, mx_t_0, mx_gd_T, mx_gd_t, mx_br_T, mx_br_F, mx_br_t, mx_br_f, mx_br_n, mx_cl_T, mx_cl_t, mx_re_T, mx_re_t, mx_rt_v, mx_rt_0, mx_cu_t, mx_w_id, mx_l_id, mx_b_0, mx_b_1, mx_b_r, mx_nl_0, mx_nl_1, mx_nl_2, mx_nl_n, mx_nl_l, mx_sw_n, mx_sw_h, mx_sw_m, Int.reduceLE, Int.reduceLT, Int.reduceEq, Int.reduceAdd, Int.reduceSub, Int.reduceMul, Int.reduceNeg, Int.reduceToNat, and_self, true_and, and_true, false_and, and_false, true_or, or_true, false_or, or_false, not_true_eq_false, not_false_eq_true, eq_self, rw_X12_line, rw_X12_line_1, hM.e, c_in, mx_b_t s0, isn, mx_b_f qa]
  · refine ag_p v hc (y := -1) ?_ ?_
    · simp (disch := omega) only [mx_vt_h, mx_vt_m, mx_cmp_0, mx_cmp_1, mx_cmp_2, mx_cmp_3, mx_cmp_4, mx_u_s, mx_u_a, mx_u_k, mx_z_a, mx_z_s, mx_t_a, mx_t_2, mx_t_1, mx_t_0, mx_gd_T, mx_gd_t, mx_br_T, mx_br_F, mx_br_t, mx_br_f, mx_br_n, mx_cl_T, mx_cl_t, mx_re_T, mx_re_t, mx_rt_v, mx_rt_0, mx_cu_t, mx_w_id, mx_l_id, mx_b_0, mx_b_1, mx_b_r, mx_nl_0, mx_nl_1, mx_nl_2, mx_nl_n, mx_nl_l, mx_sw_n, mx_sw_h, mx_sw_m, Int.reduceLE, Int.reduceLT, Int.reduceEq, Int.reduceAdd, Int.reduceSub, Int.reduceMul, Int.reduceNeg, Int.reduceToNat, and_self, true_and, and_true, false_and, and_false, true_or, or_true, false_or, or_false, not_true_eq_false, not_false_eq_true, eq_self, rw_X11_line, c_within, mx_b_f s0]
    · simp (disch := omega) only [mx_vt_h, mx_vt_m, mx_cmp_0, mx_cmp_1, mx_cmp_2, mx_cmp_3, mx_cmp_4, mx_u_s, mx_u_a, mx_u_k, mx_z_a, mx_z_s, mx_t_a, mx_t_2, mx_t_1, mx_t_0, mx_gd_T, mx_gd_t, mx_br_T, mx_br_F, mx_br_t, mx_br_f, mx_br_n, mx_cl_T, mx_cl_t, mx_re_T, mx_re_t, mx_rt_v, mx_rt_0, mx_cu_t, mx_w_id, mx_l_id, mx_b_0, mx_b_1, mx_b_r, mx_nl_0, mx_nl_1, mx_nl_2, mx_nl_n, mx_nl_l, mx_sw_n, mx_sw_h, mx_sw_m, Int.reduceLE, Int.reduceLT, Int.reduceEq, Int.reduceAdd, Int.reduceSub, Int.reduceMul, Int.reduceNeg, Int.reduceToNat, and_self, true_and, and_true, false_and, and_false, true_or, or_true, false_or, or_false, not_true_eq_false, not_false_eq_true, eq_self, rw_X12_line, rw_X12_line_1, hM.e, c_in, mx_b_f s0]
/-- a line less, as far as j -/
def lst (σ : Int → Int) (l j : Int) : Int → Int := fun k => if k = 1 then σ 1 - 1 else if 69 + 4 * l ≤ k ∧ k < j then σ (k + 4) else σ k
theorem c_strike_l (hM : sh_M S) {σ : Int → Int} {l j : Int} (w : vw σ) (l0 : 0 ≤ l) (l1 : l < σ 1) (j0 : 69 + 4 * l ≤ j) (j1 : j ≤ 69 + 4 * (σ 1 - 1)) {h g : mx_H} (f : ∀ a, ¬ a = 39 → g a = h a) (g39 : g 39 = lst σ l j) {Q : Option mx_V → mx_H → mx_H → Int → Prop}
    (hX : ∀ g, (∀ a, ¬ a = 39 → g a = h a) → g 39 = lst σ l (69 + 4 * (σ 1 - 1)) → Q (some (0, σ 1 - 1)) S g n) :
    mx_W (mx_ex d 190 27 [some (2, 38), some (0, l), some (0, j)] [] S g n) Q := by
  have hL := w.L
  have g1 : g 39 1 = σ 1 - 1 := by rw [g39]; unfold lst; rw [if_pos rfl]
  rw [rh_X12_strike_27]
  by_cases q : j < 69 + 4 * (σ 1 - 1)
  · have gj : g 39 (j + 4) = σ (j + 4) := by rw [g39]; unfold lst; rw [if_neg (by omega), if_neg (by omega)]
    have ih := c_strike_l (Q := Q) hM w l0 l1 (j := j + 1) (by omega) (by omega) (h := h) (g := mx_u g 39 j (σ (j + 4))) (fun a y => by rw [mx_u_a y]; exact f a y) (by
      funext k
      unfold lst
      by_cases c : k = j
      · rw [c, mx_u_s, if_neg (by omega), if_pos (by omega)]
      · rw [mx_u_k c, g39]; unfold lst
        by_cases c1 : k = 1
        · rw [if_pos c1, if_pos c1]
        · rw [if_neg c1, if_neg c1]
          by_cases c2 : 69 + 4 * l ≤ k ∧ k < j
          · rw [if_pos c2, if_pos (by omega)]
          · rw [if_neg c2, if_neg (by omega)]) hX
    simp (disch := omega) only [mx_vt_h, mx_vt_m, mx_cmp_0, mx_cmp_1, mx_cmp_2, mx_cmp_3, mx_cmp_4, mx_u_s, mx_u_a, mx_u_k, mx_z_a, mx_z_s, mx_t_a, mx_t_2, mx_t_1, mx_t_0, mx_gd_T, mx_gd_t, mx_br_T, mx_br_F, mx_br_t, mx_br_f, mx_br_n, mx_cl_T, mx_cl_t, mx_re_T, mx_re_t, mx_rt_v, mx_rt_0, mx_cu_t, mx_w_id, mx_l_id, mx_b_0, mx_b_1, mx_b_r, mx_nl_0, mx_nl_1, mx_nl_2, mx_nl_n, mx_nl_l, mx_sw_n, mx_sw_h, mx_sw_m, Int.reduceLE, Int.reduceLT, Int.reduceEq, Int.reduceAdd, Int.reduceSub, Int.reduceMul, Int.reduceNeg, Int.reduceToNat, and_self, true_and, and_true, false_and, and_false, true_or, or_true, false_or, or_false, not_true_eq_false, not_false_eq_true, eq_self, rw_X12_strike, hM.e, g1, gj]
    exact ih
  · have e : j = 69 + 4 * (σ 1 - 1) := by omega
    subst e
    simp (disch := omega) only [mx_vt_h, mx_vt_m, mx_cmp_0, mx_cmp_1, mx_cmp_2, mx_cmp_3, mx_cmp_4, mx_u_s, mx_u_a, mx_u_k, mx_z_a, mx_z_s, mx_t_a, mx_t_2, mx_t_1, mx_t_0, mx_gd_T, mx_gd_t, mx_br_T, mx_br_F, mx_br_t, mx_br_f, mx_br_n, mx_cl_T, mx_cl_t, mx_re_T, mx_re_t, mx_rt_v, mx_rt_0, mx_cu_t, mx_w_id, mx_l_id, mx_b_0, mx_b_1, mx_b_r, mx_nl_0, mx_nl_1, mx_nl_2, mx_nl_n, mx_nl_l, mx_sw_n, mx_sw_h, mx_sw_m, Int.reduceLE, Int.reduceLT, Int.reduceEq, Int.reduceAdd, Int.reduceSub, Int.reduceMul, Int.reduceNeg, Int.reduceToNat, and_self, true_and, and_true, false_and, and_false, true_or, or_true, false_or, or_false, not_true_eq_false, not_false_eq_true, eq_self, rw_X12_strike, hM.e, g1]
    exact mx_W_s (hX g f g39)
termination_by (69 + 4 * (σ 1 - 1) - j).toNat
decreasing_by omega
theorem a_strike {l : Int} (hc : c ≤ 599) : ag L x 111 190 [(0, l)] 0 c := by
  intro d S h n v
  have hX := v.s.x.e
  have hF := v.s.f.e
  have hM := v.s.m
  have w := v.t.w
  have hL := w.L
  have hN := w.N
  have r4 : h 3 4 = h 39 1 := v.t.r.L
  have qe : (0 ≤ l ∧ l ≤ h 39 1 - 1) ↔ (0 ≤ l ∧ l < h 39 1) := by omega
  by_cases q : 0 ≤ l ∧ l < h 39 1
  · simp (disch := omega) only [mx_vt_h, mx_vt_m, mx_cmp_0, mx_cmp_1, mx_cmp_2, mx_cmp_3, mx_cmp_4, mx_u_s, mx_u_a, mx_u_k, mx_z_a, mx_z_s, mx_t_a, mx_t_2, mx_t_1, mx_t_0, mx_gd_T, mx_gd_t, mx_br_T, mx_br_F, mx_br_t, mx_br_f, mx_br_n, mx_cl_T, mx_cl_t, mx_re_T, mx_re_t, mx_rt_v, mx_rt_0, mx_cu_t, mx_w_id, mx_l_id, mx_b_0, mx_b_1, mx_b_r, mx_nl_0, mx_nl_1, mx_nl_2, mx_nl_n, mx_nl_l, mx_sw_n, mx_sw_h, mx_sw_m, Int.reduceLE, Int.reduceLT, Int.reduceEq, Int.reduceAdd, Int.reduceSub, Int.reduceMul, Int.reduceNeg, Int.reduceToNat, and_self, true_and, and_true, false_and, and_false, true_or, or_true, false_or, or_false, not_true_eq_false, not_false_eq_true, eq_self, rw_X11_strike, rw_X10_strikeLine, mx_y_a, hX, hF, r4, c_within, mx_b_t (qe.mpr q), v.ver]
    refine mx_W_s ?_
    have wg : ∀ g : mx_H, g 39 = h 39 → vw (g 39) := fun g e => by rw [e]; exact w
    let g1 := mx_u (mx_u (mx_y h 6 ((l + 1) * 4) 6 (l * 4) ((h 39 1 - 1 - l) * 4)) 3 4 (h 39 1 - 1)) 3 5 (h 3 5 + 1)
    have e39 : g1 39 = h 39 := by simp only [g1]; rw [mx_u_a (by decide), mx_u_a (by decide), mx_y_a (by decide)]
    have il := c_isLine (d := d + 10) (n := n) (h := g1) (v := l) hM (wg g1 e39)
    have e391 : g1 39 1 = h 39 1 := by rw [e39]
    have fin := c_strike_l (d := d + 12) (n := n) (l := l) (j := 69 + 4 * l) (h := g1) (g := mx_u g1 39 1 (h 39 1 - 1)) hM w q.1 q.2 (Int.le_refl _) (by omega) (fun a y => mx_u_a y) (by
      funext k; unfold lst
      by_cases c : k = 1
      · rw [c, mx_u_s, if_pos rfl]
      · rw [mx_u_k c, if_neg c, if_neg (by omega), e39]) (Q := fun v2 S2 h2 n2 => (∃ y, some (0, h 39 1 - 1) = some (0, y) ∧ v2 = some (0, y)) ∧ Inv L x S2 h2 n2 (c + 1)) (by
      intro g f g39
      refine ⟨⟨_, rfl, rfl⟩, ?_⟩
      have n1 : lst (h 39) l (69 + 4 * (h 39 1 - 1)) 1 = h 39 1 - 1 := by unfold lst; rw [if_pos rfl]
      have no : ∀ k, ¬ k = 1 → k < 69 → lst (h 39) l (69 + 4 * (h 39 1 - 1)) k = h 39 k := fun k a b => by unfold lst; rw [if_neg a, if_neg (by omega)]
      have nl : ∀ i k, 0 ≤ i → i < h 39 1 - 1 → 0 ≤ k → k ≤ 3 → ln (lst (h 39) l (69 + 4 * (h 39 1 - 1))) i k = ln (h 39) (if i < l then i else i + 1) k := by
        intro i k i0 i1 k0 k1
        unfold ln lst
        rw [if_neg (by omega)]
        by_cases z : i < l
        · rw [if_pos z, if_neg (by omega)]
        · rw [if_neg z, if_pos (by omega)]
          have : 69 + 4 * i + k + 4 = 69 + 4 * (i + 1) + k := by omega
          rw [this]
      have w2 : vw (lst (h 39) l (69 + 4 * (h 39 1 - 1))) := by
        have n0 := no 0 (by decide) (by decide)
        refine vw.mk (by rw [n0]; exact w.N) (by rw [n1]; omega) ?_ ?_ ?_
        · intro k k0 k1; rw [no _ (by omega) (by omega), no _ (by omega) (by omega)]; exact w.e k k0 k1
        · intro i i0 i1
          rw [n0] at i1
          have ii : ∀ k, 0 ≤ k → k ≤ 9 → it (lst (h 39) l (69 + 4 * (h 39 1 - 1))) i k = it (h 39) i k := fun k k0 k1 => no _ (by omega) (by omega)
          refine nw_c (w.n i i0 i1) (fun k k0 k1 _ => ii k k0 k1) ?_
          rw [ii 1 (by decide) (by decide)]; exact (w.n i i0 i1).e
        · intro i i0 i1
          rw [n1] at i1
          rw [n0]
          have wi := w.l (if i < l then i else i + 1) (by split <;> omega) (by split <;> omega)
          have ii := fun k k0 k1 => nl i k i0 i1 k0 k1
          exact lw.mk (by rw [ii 0 (by decide) (by decide)]; exact wi.s) (by rw [ii 1 (by decide) (by decide)]; exact wi.x) (by rw [ii 2 (by decide) (by decide)]; exact wi.y) (by rw [ii 3 (by decide) (by decide)]; exact wi.z) (by rw [ii 0 (by decide) (by decide), ii 3 (by decide) (by decide)]; exact wi.z2) (by rw [ii 0 (by decide) (by decide), ii 3 (by decide) (by decide)]; exact wi.z3)
      have gf : ∀ y, ¬ y = 39 → g y = g1 y := f
      refine v.V0 hc w2 g39 (no 0 (by decide) (by decide)) (no 2 (by decide) (by decide)) (fun i k i0 i1 k0 k1 => no _ (by omega) (by omega)) ?_ ?_ ?_ ?_ ?_ ?_ ?_
      · rw [gf _ (by decide), no 0 (by decide) (by decide)]; simp only [g1]; simp (disch := omega) only [mx_u_a, mx_u_k, mx_y_a]; exact v.t.r.c
      · rw [gf _ (by decide), n1]; simp only [g1]; simp (disch := omega) only [mx_u_k, mx_u_s]
      · intro k k0 k1; rw [gf _ (by decide), no _ (by omega) (by omega)]; simp only [g1]; simp (disch := omega) only [mx_u_a, mx_y_a]; exact v.t.r.lo k k0 k1
      · intro k k0 k1; rw [gf _ (by decide), no _ (by omega) (by omega)]; simp only [g1]; simp (disch := omega) only [mx_u_a, mx_y_a]; exact v.t.r.hi k k0 k1
      · intro i k i0 i1 k0 k1
        rw [n1] at i1
        rw [gf _ (by decide), nl i k i0 i1 k0 k1]; simp only [g1]
        by_cases z : i < l
        · have := v.t.r.l i k i0 (by omega) k0 k1
          rw [if_pos z]; simp (disch := omega) only [mx_u_a, mx_y_o]; exact this
        · have := v.t.r.l (i + 1) k (by omega) (by omega) k0 k1
          rw [if_neg z]; simp (disch := omega) only [mx_u_a, mx_y_i]
          have e : (l + 1) * 4 + (i * 4 + k - l * 4) = (i + 1) * 4 + k := by omega
          rw [e]; exact this
      · intro y y0 y1; rw [gf y y0]; simp only [g1]; simp (disch := omega) only [mx_u_a, mx_y_a]
      · rw [gf _ (by decide)]; simp only [g1]; rw [mx_u_s])
    rw [e391] at il
    simp only [g1] at il fin e391
    simp (disch := omega) only [mx_vt_h, mx_vt_m, mx_cmp_0, mx_cmp_1, mx_cmp_2, mx_cmp_3, mx_cmp_4, mx_u_s, mx_u_a, mx_u_k, mx_z_a, mx_z_s, mx_t_a, mx_t_2, mx_t_1, mx_t_0, mx_gd_T, mx_gd_t, mx_br_T, mx_br_F, mx_br_t, mx_br_f, mx_br_n, mx_cl_T, mx_cl_t, mx_re_T, mx_re_t, mx_rt_v, mx_rt_0, mx_cu_t, mx_w_id, mx_l_id, mx_b_0, mx_b_1, mx_b_r, mx_nl_0, mx_nl_1, mx_nl_2, mx_nl_n, mx_nl_l, mx_sw_n, mx_sw_h, mx_sw_m, Int.reduceLE, Int.reduceLT, Int.reduceEq, Int.reduceAdd, Int.reduceSub, Int.reduceMul, Int.reduceNeg, Int.reduceToNat, and_self, true_and, and_true, false_and, and_false, true_or, or_true, false_or, or_false, not_true_eq_false, not_false_eq_true, eq_self, rw_X12_strike, mx_y_a, hM.e, il, mx_b_t q, e391]
    exact fin
  · refine ag_p v hc (y := -1) ?_ ?_
    · simp (disch := omega) only [mx_vt_h, mx_vt_m, mx_cmp_0, mx_cmp_1, mx_cmp_2, mx_cmp_3, mx_cmp_4, mx_u_s, mx_u_a, mx_u_k, mx_z_a, mx_z_s, mx_t_a, mx_t_2, mx_t_1, mx_t_0, mx_gd_T, mx_gd_t, mx_br_T, mx_br_F, mx_br_t, mx_br_f, mx_br_n, mx_cl_T, mx_cl_t, mx_re_T, mx_re_t, mx_rt_v, mx_rt_0, mx_cu_t, mx_w_id, mx_l_id, mx_b_0, mx_b_1, mx_b_r, mx_nl_0, mx_nl_1, mx_nl_2, mx_nl_n, mx_nl_l, mx_sw_n, mx_sw_h, mx_sw_m, Int.reduceLE, Int.reduceLT, Int.reduceEq, Int.reduceAdd, Int.reduceSub, Int.reduceMul, Int.reduceNeg, Int.reduceToNat, and_self, true_and, and_true, false_and, and_false, true_or, or_true, false_or, or_false, not_true_eq_false, not_false_eq_true, eq_self, rw_X11_strike, hX, hF, r4, c_within, mx_b_f (fun z => q (qe.mp z))]
    · simp (disch := omega) only [mx_vt_h, mx_vt_m, mx_cmp_0, mx_cmp_1, mx_cmp_2, mx_cmp_3, mx_cmp_4, mx_u_s, mx_u_a, mx_u_k, mx_z_a, mx_z_s, mx_t_a, mx_t_2, mx_t_1, mx_t_0, mx_gd_T, mx_gd_t, mx_br_T, mx_br_F, mx_br_t, mx_br_f, mx_br_n, mx_cl_T, mx_cl_t, mx_re_T, mx_re_t, mx_rt_v, mx_rt_0, mx_cu_t, mx_w_id, mx_l_id, mx_b_0, mx_b_1, mx_b_r, mx_nl_0, mx_nl_1, mx_nl_2, mx_nl_n, mx_nl_l, mx_sw_n, mx_sw_h, mx_sw_m, Int.reduceLE, Int.reduceLT, Int.reduceEq, Int.reduceAdd, Int.reduceSub, Int.reduceMul, Int.reduceNeg, Int.reduceToNat, and_self, true_and, and_true, false_and, and_false, true_or, or_true, false_or, or_false, not_true_eq_false, not_false_eq_true, eq_self, rw_X12_strike, hM.e, c_isLine hM w, mx_b_f q]
end
