/-! act, whole -/
section
variable {L : Nat} {x : Nat → Int32} {S T h g : mx_H} {n m c : Int} {d : Nat}
theorem stt.h0 (v : Inv L x S h n c) : stt S (h0' h) n :=
  v.t.gg (h0_o (by decide)) (by rw [h0_o (by decide)]) (by rw [h0_o (by decide)]) (by rw [h0_o (by decide)]) (h0_o (by decide)) (h0_o (by decide)) (h0_o (by decide)) rfl (fun _ _ _ => rfl) (fun a _ _ => h0_o (by omega)) (Int.le_refl _)
theorem slv.h0 (v : Inv L x S h n c) : slv S (h0' h) n :=
  v.l.gg (h0_o (by decide)) (h0_o (by decide)) (h0_o (by decide)) (h0_o (by decide)) rfl (fun _ _ _ => rfl) (fun a _ _ _ => h0_o (by omega)) (Int.le_refl _)
theorem c_noteO (v : Inv L x S h n c) {a : Int} (q : 0 ≤ a ∧ a ≤ 3) : mx_M (d + 2) 144 [(2, 0), (0, a)] S (mx_u (mx_u h 36 1 0) 36 2 (-1)) n = some (some (2, if h 33 a = 0 ∧ h 34 a < h 39 0 then S 7 (h 34 a) else -1), S, mx_u (mx_u h 36 1 0) 36 2 (-1), n) := by
  have e := c_noteOn (d := d) v.s (stt.h0 v) (slv.h0 v) q
  rw [h0_o (b := 33) (by decide), h0_o (b := 34) (by decide), h0_o (b := 39) (by decide)] at e
  exact e
theorem act_c0 (v : Inv L x S h n c) {a y w : Int} {G : mx_H} (q : 0 ≤ a ∧ a ≤ 3) (z0 : h 33 a = 0) (i0 : 0 ≤ h 34 a) (i1 : h 34 a < h 39 0) (e : mx_M (d + 11) (gR (it (h 39) (h 34 a) 0)) [(2, S 7 (h 34 a)), (0, y), (2, 36)] S (h0' h) n = some (some (0, w), S, G, n)) :
    mx_M (d + 12) 137 [(2, 0), (0, a), (0, 0), (0, y)] S h n = some (some (0, if G 36 2 = -1 then w else -15), S, G, n) := by
  have hX := v.s.x.e
  have hF := v.s.f.e
  have r := v.nr ⟨i0, i1⟩
  have k := (v.nw ⟨i0, i1⟩).k
  have p0 := r.p0
  have ot := r.t
  have no := c_noteO (d := d + 9) v q
  rw [if_pos ⟨z0, i1⟩] at no
  unfold h0' at e
  by_cases u : G 36 2 = -1
  · rw [if_pos u]
    simp (disch := omega) only [mx_vt_h, mx_vt_m, mx_cmp_0, mx_cmp_1, mx_cmp_2, mx_cmp_3, mx_cmp_4, mx_u_s, mx_u_a, mx_u_k, mx_z_a, mx_z_s, mx_t_a, mx_t_2, mx_t_1, mx_t_0, mx_gd_T, mx_gd_t, mx_br_T, mx_br_F, mx_br_t, mx_br_f, mx_br_n, mx_cl_T, mx_cl_t, mx_re_T, mx_re_t, mx_rt_v, mx_rt_0, mx_cu_t, mx_w_id, mx_l_id, mx_b_0, mx_b_1, mx_b_r, mx_nl_0, mx_nl_1, mx_nl_2, mx_nl_n, mx_nl_l, mx_sw_n, mx_sw_h, mx_sw_m, Int.reduceLE, Int.reduceLT, Int.reduceEq, Int.reduceAdd, Int.reduceSub, Int.reduceMul, Int.reduceNeg, Int.reduceToNat, and_self, true_and, and_true, false_and, and_false, true_or, or_true, false_or, or_false, not_true_eq_false, not_false_eq_true, eq_self, rw_X11_act, rw_X8_clear, rw_X8_ended, hX, hF, c_xSf, mx_b_t q, no, c_within, mx_b_t (c := (0 : Int) ≤ 0 ∧ (0 : Int) ≤ 3) (by omega), ot, vt_R k, e, u]
  · rw [if_neg u]
    simp (disch := omega) only [mx_vt_h, mx_vt_m, mx_cmp_0, mx_cmp_1, mx_cmp_2, mx_cmp_3, mx_cmp_4, mx_u_s, mx_u_a, mx_u_k, mx_z_a, mx_z_s, mx_t_a, mx_t_2, mx_t_1, mx_t_0, mx_gd_T, mx_gd_t, mx_br_T, mx_br_F, mx_br_t, mx_br_f, mx_br_n, mx_cl_T, mx_cl_t, mx_re_T, mx_re_t, mx_rt_v, mx_rt_0, mx_cu_t, mx_w_id, mx_l_id, mx_b_0, mx_b_1, mx_b_r, mx_nl_0, mx_nl_1, mx_nl_2, mx_nl_n, mx_nl_l, mx_sw_n, mx_sw_h, mx_sw_m, Int.reduceLE, Int.reduceLT, Int.reduceEq, Int.reduceAdd, Int.reduceSub, Int.reduceMul, Int.reduceNeg, Int.reduceToNat, and_self, true_and, and_true, false_and, and_false, true_or, or_true, false_or, or_false, not_true_eq_false, not_false_eq_true, eq_self, rw_X11_act, rw_X8_clear, rw_X8_ended, hX, hF, c_xSf, mx_b_t q, no, c_within, mx_b_t (c := (0 : Int) ≤ 0 ∧ (0 : Int) ≤ 3) (by omega), ot, vt_R k, e, u]
theorem act_r0 {κ i A a y w : Int} {G K : mx_H} (o : np S (mx_u (mx_u (mx_u G 38 22 0) 38 23 i) 38 24 0) κ i A) (q : 0 ≤ a ∧ a ≤ 3) (h50 : G 50 a = 1) (h51 : G 51 a = i) (wv : vw (G 39)) (i1 : i < G 39 0) (e : mx_M (d + 11) 239 [(2, 38), (0, κ), (0, y)] S (mx_u (mx_u (mx_u G 38 22 0) 38 23 i) 38 24 0) n = some (some (0, w), S, K, n)) :
    mx_M (d + 12) 243 [(2, 38), (0, a), (0, 0), (0, y)] S G n = some (some (0, if K 38 24 = 0 then w else -15), S, K, n) := by
  have i0 := o.i0
  have hM := o.m
  have ie := c_isEmpty (d := d + 9) (n := n) (h := mx_u G 38 22 0) (a := a) hM (by rw [mx_u_a (by decide)]; exact wv) q
  rw [mx_u_a (b := 50) (by decide), mx_u_a (b := 51) (by decide), mx_u_a (b := 39) (by decide), h50, h51, mx_b_f (by omega)] at ie
  have ck := c_kindNow (d := d + 10) (n := n) o
  by_cases u : K 38 24 = 0
  · rw [if_pos u]
    simp (disch := omega) only [mx_vt_h, mx_vt_m, mx_cmp_0, mx_cmp_1, mx_cmp_2, mx_cmp_3, mx_cmp_4, mx_u_s, mx_u_a, mx_u_k, mx_z_a, mx_z_s, mx_t_a, mx_t_2, mx_t_1, mx_t_0, mx_gd_T, mx_gd_t, mx_br_T, mx_br_F, mx_br_t, mx_br_f, mx_br_n, mx_cl_T, mx_cl_t, mx_re_T, mx_re_t, mx_rt_v, mx_rt_0, mx_cu_t, mx_w_id, mx_l_id, mx_b_0, mx_b_1, mx_b_r, mx_nl_0, mx_nl_1, mx_nl_2, mx_nl_n, mx_nl_l, mx_sw_n, mx_sw_h, mx_sw_m, Int.reduceLE, Int.reduceLT, Int.reduceEq, Int.reduceAdd, Int.reduceSub, Int.reduceMul, Int.reduceNeg, Int.reduceToNat, and_self, true_and, and_true, false_and, and_false, true_or, or_true, false_or, or_false, not_true_eq_false, not_false_eq_true, eq_self, rw_X12_act, rw_X12_act_1, hM.e, c_mSf, mx_b_t q, c_in, mx_b_t (c := (0 : Int) ≤ 0 ∧ (0 : Int) ≤ 3) (by omega), ie, h50, h51, ck, e, u]
  · rw [if_neg u]
    simp (disch := omega) only [mx_vt_h, mx_vt_m, mx_cmp_0, mx_cmp_1, mx_cmp_2, mx_cmp_3, mx_cmp_4, mx_u_s, mx_u_a, mx_u_k, mx_z_a, mx_z_s, mx_t_a, mx_t_2, mx_t_1, mx_t_0, mx_gd_T, mx_gd_t, mx_br_T, mx_br_F, mx_br_t, mx_br_f, mx_br_n, mx_cl_T, mx_cl_t, mx_re_T, mx_re_t, mx_rt_v, mx_rt_0, mx_cu_t, mx_w_id, mx_l_id, mx_b_0, mx_b_1, mx_b_r, mx_nl_0, mx_nl_1, mx_nl_2, mx_nl_n, mx_nl_l, mx_sw_n, mx_sw_h, mx_sw_m, Int.reduceLE, Int.reduceLT, Int.reduceEq, Int.reduceAdd, Int.reduceSub, Int.reduceMul, Int.reduceNeg, Int.reduceToNat, and_self, true_and, and_true, false_and, and_false, true_or, or_true, false_or, or_false, not_true_eq_false, not_false_eq_true, eq_self, rw_X12_act, rw_X12_act_1, hM.e, c_mSf, mx_b_t q, c_in, mx_b_t (c := (0 : Int) ≤ 0 ∧ (0 : Int) ≤ 3) (by omega), ie, h50, h51, ck, e, u]
theorem act_c1 (v : Inv L x S h n c) {a y w : Int} {G : mx_H} (q : 0 ≤ a ∧ a ≤ 3) (z0 : h 33 a = 0) (i0 : 0 ≤ h 34 a) (i1 : h 34 a < h 39 0) (e : mx_M (d + 11) (gW (it (h 39) (h 34 a) 0)) [(2, S 7 (h 34 a)), (0, y), (2, 36)] S (h0' h) n = some (some (0, w), S, G, n)) :
    mx_M (d + 12) 137 [(2, 0), (0, a), (0, 1), (0, y)] S h n = some (some (0, if G 36 2 = -1 then w else -15), S, G, n) := by
  have hX := v.s.x.e
  have hF := v.s.f.e
  have r := v.nr ⟨i0, i1⟩
  have k := (v.nw ⟨i0, i1⟩).k
  have p0 := r.p0
  have ot := r.t
  have no := c_noteO (d := d + 9) v q
  rw [if_pos ⟨z0, i1⟩] at no
  unfold h0' at e
  by_cases u : G 36 2 = -1
  · rw [if_pos u]
    simp (disch := omega) only [mx_vt_h, mx_vt_m, mx_cmp_0, mx_cmp_1, mx_cmp_2, mx_cmp_3, mx_cmp_4, mx_u_s, mx_u_a, mx_u_k, mx_z_a, mx_z_s, mx_t_a, mx_t_2, mx_t_1, mx_t_0, mx_gd_T, mx_gd_t, mx_br_T, mx_br_F, mx_br_t, mx_br_f, mx_br_n, mx_cl_T, mx_cl_t, mx_re_T, mx_re_t, mx_rt_v, mx_rt_0, mx_cu_t, mx_w_id, mx_l_id, mx_b_0, mx_b_1, mx_b_r, mx_nl_0, mx_nl_1, mx_nl_2, mx_nl_n, mx_nl_l, mx_sw_n, mx_sw_h, mx_sw_m, Int.reduceLE, Int.reduceLT, Int.reduceEq, Int.reduceAdd, Int.reduceSub, Int.reduceMul, Int.reduceNeg, Int.reduceToNat, and_self, true_and, and_true, false_and, and_false, true_or, or_true, false_or, or_false, not_true_eq_false, not_false_eq_true, eq_self, rw_X11_act, rw_X8_clear, rw_X8_ended, hX, hF, c_xSf, mx_b_t q, no, c_within, mx_b_t (c := (0 : Int) ≤ 1 ∧ (1 : Int) ≤ 3) (by omega), ot, vt_W k, e, u]
  · rw [if_neg u]
    simp (disch := omega) only [mx_vt_h, mx_vt_m, mx_cmp_0, mx_cmp_1, mx_cmp_2, mx_cmp_3, mx_cmp_4, mx_u_s, mx_u_a, mx_u_k, mx_z_a, mx_z_s, mx_t_a, mx_t_2, mx_t_1, mx_t_0, mx_gd_T, mx_gd_t, mx_br_T, mx_br_F, mx_br_t, mx_br_f, mx_br_n, mx_cl_T, mx_cl_t, mx_re_T, mx_re_t, mx_rt_v, mx_rt_0, mx_cu_t, mx_w_id, mx_l_id, mx_b_0, mx_b_1, mx_b_r, mx_nl_0, mx_nl_1, mx_nl_2, mx_nl_n, mx_nl_l, mx_sw_n, mx_sw_h, mx_sw_m, Int.reduceLE, Int.reduceLT, Int.reduceEq, Int.reduceAdd, Int.reduceSub, Int.reduceMul, Int.reduceNeg, Int.reduceToNat, and_self, true_and, and_true, false_and, and_false, true_or, or_true, false_or, or_false, not_true_eq_false, not_false_eq_true, eq_self, rw_X11_act, rw_X8_clear, rw_X8_ended, hX, hF, c_xSf, mx_b_t q, no, c_within, mx_b_t (c := (0 : Int) ≤ 1 ∧ (1 : Int) ≤ 3) (by omega), ot, vt_W k, e, u]
theorem act_r1 {κ i A a y w : Int} {G K : mx_H} (o : np S (mx_u (mx_u (mx_u G 38 22 0) 38 23 i) 38 24 0) κ i A) (q : 0 ≤ a ∧ a ≤ 3) (h50 : G 50 a = 1) (h51 : G 51 a = i) (wv : vw (G 39)) (i1 : i < G 39 0) (e : mx_M (d + 11) 240 [(2, 38), (0, κ), (0, y)] S (mx_u (mx_u (mx_u G 38 22 0) 38 23 i) 38 24 0) n = some (some (0, w), S, K, n)) :
    mx_M (d + 12) 243 [(2, 38), (0, a), (0, 1), (0, y)] S G n = some (some (0, if K 38 24 = 0 then w else -15), S, K, n) := by
  have i0 := o.i0
  have hM := o.m
  have ie := c_isEmpty (d := d + 9) (n := n) (h := mx_u G 38 22 0) (a := a) hM (by rw [mx_u_a (by decide)]; exact wv) q
  rw [mx_u_a (b := 50) (by decide), mx_u_a (b := 51) (by decide), mx_u_a (b := 39) (by decide), h50, h51, mx_b_f (by omega)] at ie
  have ck := c_kindNow (d := d + 10) (n := n) o
  by_cases u : K 38 24 = 0
  · rw [if_pos u]
    simp (disch := omega) only [mx_vt_h, mx_vt_m, mx_cmp_0, mx_cmp_1, mx_cmp_2, mx_cmp_3, mx_cmp_4, mx_u_s, mx_u_a, mx_u_k, mx_z_a, mx_z_s, mx_t_a, mx_t_2, mx_t_1, mx_t_0, mx_gd_T, mx_gd_t, mx_br_T, mx_br_F, mx_br_t, mx_br_f, mx_br_n, mx_cl_T, mx_cl_t, mx_re_T, mx_re_t, mx_rt_v, mx_rt_0, mx_cu_t, mx_w_id, mx_l_id, mx_b_0, mx_b_1, mx_b_r, mx_nl_0, mx_nl_1, mx_nl_2, mx_nl_n, mx_nl_l, mx_sw_n, mx_sw_h, mx_sw_m, Int.reduceLE, Int.reduceLT, Int.reduceEq, Int.reduceAdd, Int.reduceSub, Int.reduceMul, Int.reduceNeg, Int.reduceToNat, and_self, true_and, and_true, false_and, and_false, true_or, or_true, false_or, or_false, not_true_eq_false, not_false_eq_true, eq_self, rw_X12_act, rw_X12_act_1, hM.e, c_mSf, mx_b_t q, c_in, mx_b_t (c := (0 : Int) ≤ 1 ∧ (1 : Int) ≤ 3) (by omega), ie, h50, h51, ck, e, u]
  · rw [if_neg u]
    simp (disch := omega) only [mx_vt_h, mx_vt_m, mx_cmp_0, mx_cmp_1, mx_cmp_2, mx_cmp_3, mx_cmp_4, mx_u_s, mx_u_a, mx_u_k, mx_z_a, mx_z_s, mx_t_a, mx_t_2, mx_t_1, mx_t_0, mx_gd_T, mx_gd_t, mx_br_T, mx_br_F, mx_br_t, mx_br_f, mx_br_n, mx_cl_T, mx_cl_t, mx_re_T, mx_re_t, mx_rt_v, mx_rt_0, mx_cu_t, mx_w_id, mx_l_id, mx_b_0, mx_b_1, mx_b_r, mx_nl_0, mx_nl_1, mx_nl_2, mx_nl_n, mx_nl_l, mx_sw_n, mx_sw_h, mx_sw_m, Int.reduceLE, Int.reduceLT, Int.reduceEq, Int.reduceAdd, Int.reduceSub, Int.reduceMul, Int.reduceNeg, Int.reduceToNat, and_self, true_and, and_true, false_and, and_false, true_or, or_true, false_or, or_false, not_true_eq_false, not_false_eq_true, eq_self, rw_X12_act, rw_X12_act_1, hM.e, c_mSf, mx_b_t q, c_in, mx_b_t (c := (0 : Int) ≤ 1 ∧ (1 : Int) ≤ 3) (by omega), ie, h50, h51, ck, e, u]
theorem act_c2 (v : Inv L x S h n c) {a y w : Int} {G : mx_H} (q : 0 ≤ a ∧ a ≤ 3) (z0 : h 33 a = 0) (i0 : 0 ≤ h 34 a) (i1 : h 34 a < h 39 0) (e : mx_M (d + 11) (gS (it (h 39) (h 34 a) 0)) [(2, S 7 (h 34 a)), (0, y), (2, 36)] S (h0' h) n = some (some (0, w), S, G, n)) :
    mx_M (d + 12) 137 [(2, 0), (0, a), (0, 2), (0, y)] S h n = some (some (0, if G 36 2 = -1 then w else -15), S, G, n) := by
  have hX := v.s.x.e
  have hF := v.s.f.e
  have r := v.nr ⟨i0, i1⟩
  have k := (v.nw ⟨i0, i1⟩).k
  have p0 := r.p0
  have ot := r.t
  have no := c_noteO (d := d + 9) v q
  rw [if_pos ⟨z0, i1⟩] at no
  unfold h0' at e
  by_cases u : G 36 2 = -1
  · rw [if_pos u]
    simp (disch := omega) only [mx_vt_h, mx_vt_m, mx_cmp_0, mx_cmp_1, mx_cmp_2, mx_cmp_3, mx_cmp_4, mx_u_s, mx_u_a, mx_u_k, mx_z_a, mx_z_s, mx_t_a, mx_t_2, mx_t_1, mx_t_0, mx_gd_T, mx_gd_t, mx_br_T, mx_br_F, mx_br_t, mx_br_f, mx_br_n, mx_cl_T, mx_cl_t, mx_re_T, mx_re_t, mx_rt_v, mx_rt_0, mx_cu_t, mx_w_id, mx_l_id, mx_b_0, mx_b_1, mx_b_r, mx_nl_0, mx_nl_1, mx_nl_2, mx_nl_n, mx_nl_l, mx_sw_n, mx_sw_h, mx_sw_m, Int.reduceLE, Int.reduceLT, Int.reduceEq, Int.reduceAdd, Int.reduceSub, Int.reduceMul, Int.reduceNeg, Int.reduceToNat, and_self, true_and, and_true, false_and, and_false, true_or, or_true, false_or, or_false, not_true_eq_false, not_false_eq_true, eq_self, rw_X11_act, rw_X8_clear, rw_X8_ended, hX, hF, c_xSf, mx_b_t q, no, c_within, mx_b_t (c := (0 : Int) ≤ 2 ∧ (2 : Int) ≤ 3) (by omega), ot, vt_S k, e, u]
  · rw [if_neg u]
    simp (disch := omega) only [mx_vt_h, mx_vt_m, mx_cmp_0, mx_cmp_1, mx_cmp_2, mx_cmp_3, mx_cmp_4, mx_u_s, mx_u_a, mx_u_k, mx_z_a, mx_z_s, mx_t_a, mx_t_2, mx_t_1, mx_t_0, mx_gd_T, mx_gd_t, mx_br_T, mx_br_F, mx_br_t, mx_br_f, mx_br_n, mx_cl_T, mx_cl_t, mx_re_T, mx_re_t, mx_rt_v, mx_rt_0, mx_cu_t, mx_w_id, mx_l_id, mx_b_0, mx_b_1, mx_b_r, mx_nl_0, mx_nl_1, mx_nl_2, mx_nl_n, mx_nl_l, mx_sw_n, mx_sw_h, mx_sw_m, Int.reduceLE, Int.reduceLT, Int.reduceEq, Int.reduceAdd, Int.reduceSub, Int.reduceMul, Int.reduceNeg, Int.reduceToNat, and_self, true_and, and_true, false_and, and_false, true_or, or_true, false_or, or_false, not_true_eq_false, not_false_eq_true, eq_self, rw_X11_act, rw_X8_clear, rw_X8_ended, hX, hF, c_xSf, mx_b_t q, no, c_within, mx_b_t (c := (0 : Int) ≤ 2 ∧ (2 : Int) ≤ 3) (by omega), ot, vt_S k, e, u]
theorem act_r2 {κ i A a y w : Int} {G K : mx_H} (o : np S (mx_u (mx_u (mx_u G 38 22 0) 38 23 i) 38 24 0) κ i A) (q : 0 ≤ a ∧ a ≤ 3) (h50 : G 50 a = 1) (h51 : G 51 a = i) (wv : vw (G 39)) (i1 : i < G 39 0) (e : mx_M (d + 11) 241 [(2, 38), (0, κ), (0, y)] S (mx_u (mx_u (mx_u G 38 22 0) 38 23 i) 38 24 0) n = some (some (0, w), S, K, n)) :
    mx_M (d + 12) 243 [(2, 38), (0, a), (0, 2), (0, y)] S G n = some (some (0, if K 38 24 = 0 then w else -15), S, K, n) := by
  have i0 := o.i0
  have hM := o.m
  have ie := c_isEmpty (d := d + 9) (n := n) (h := mx_u G 38 22 0) (a := a) hM (by rw [mx_u_a (by decide)]; exact wv) q
  rw [mx_u_a (b := 50) (by decide), mx_u_a (b := 51) (by decide), mx_u_a (b := 39) (by decide), h50, h51, mx_b_f (by omega)] at ie
  have ck := c_kindNow (d := d + 10) (n := n) o
  by_cases u : K 38 24 = 0
  · rw [if_pos u]
    simp (disch := omega) only [mx_vt_h, mx_vt_m, mx_cmp_0, mx_cmp_1, mx_cmp_2, mx_cmp_3, mx_cmp_4, mx_u_s, mx_u_a, mx_u_k, mx_z_a, mx_z_s, mx_t_a, mx_t_2, mx_t_1, mx_t_0, mx_gd_T, mx_gd_t, mx_br_T, mx_br_F, mx_br_t, mx_br_f, mx_br_n, mx_cl_T, mx_cl_t, mx_re_T, mx_re_t, mx_rt_v, mx_rt_0, mx_cu_t, mx_w_id, mx_l_id, mx_b_0, mx_b_1, mx_b_r, mx_nl_0, mx_nl_1, mx_nl_2, mx_nl_n, mx_nl_l, mx_sw_n, mx_sw_h, mx_sw_m, Int.reduceLE, Int.reduceLT, Int.reduceEq, Int.reduceAdd, Int.reduceSub, Int.reduceMul, Int.reduceNeg, Int.reduceToNat, and_self, true_and, and_true, false_and, and_false, true_or, or_true, false_or, or_false, not_true_eq_false, not_false_eq_true, eq_self, rw_X12_act, rw_X12_act_1, hM.e, c_mSf, mx_b_t q, c_in, mx_b_t (c := (0 : Int) ≤ 2 ∧ (2 : Int) ≤ 3) (by omega), ie, h50, h51, ck, e, u]
  · rw [if_neg u]
    simp (disch := omega) only [mx_vt_h, mx_vt_m, mx_cmp_0, mx_cmp_1, mx_cmp_2, mx_cmp_3, mx_cmp_4, mx_u_s, mx_u_a, mx_u_k, mx_z_a, mx_z_s, mx_t_a, mx_t_2, mx_t_1, mx_t_0, mx_gd_T, mx_gd_t, mx_br_T, mx_br_F, mx_br_t, mx_br_f, mx_br_n, mx_cl_T, mx_cl_t, mx_re_T, mx_re_t, mx_rt_v, mx_rt_0, mx_cu_t, mx_w_id, mx_l_id, mx_b_0, mx_b_1, mx_b_r, mx_nl_0, mx_nl_1, mx_nl_2, mx_nl_n, mx_nl_l, mx_sw_n, mx_sw_h, mx_sw_m, Int.reduceLE, Int.reduceLT, Int.reduceEq, Int.reduceAdd, Int.reduceSub, Int.reduceMul, Int.reduceNeg, Int.reduceToNat, and_self, true_and, and_true, false_and, and_false, true_or, or_true, false_or, or_false, not_true_eq_false, not_false_eq_true, eq_self, rw_X12_act, rw_X12_act_1, hM.e, c_mSf, mx_b_t q, c_in, mx_b_t (c := (0 : Int) ≤ 2 ∧ (2 : Int) ≤ 3) (by omega), ie, h50, h51, ck, e, u]
theorem act_c3 (v : Inv L x S h n c) {a y w : Int} {G : mx_H} (q : 0 ≤ a ∧ a ≤ 3) (z0 : h 33 a = 0) (i0 : 0 ≤ h 34 a) (i1 : h 34 a < h 39 0) (e : mx_M (d + 11) (gT (it (h 39) (h 34 a) 0)) [(2, S 7 (h 34 a)), (0, y), (2, 36)] S (h0' h) n = some (some (0, w), S, G, n)) :
    mx_M (d + 12) 137 [(2, 0), (0, a), (0, 3), (0, y)] S h n = some (some (0, if G 36 2 = -1 then w else -15), S, G, n) := by
  have hX := v.s.x.e
  have hF := v.s.f.e
  have r := v.nr ⟨i0, i1⟩
  have k := (v.nw ⟨i0, i1⟩).k
  have p0 := r.p0
  have ot := r.t
  have no := c_noteO (d := d + 9) v q
  rw [if_pos ⟨z0, i1⟩] at no
  unfold h0' at e
  by_cases u : G 36 2 = -1
  · rw [if_pos u]
    simp (disch := omega) only [mx_vt_h, mx_vt_m, mx_cmp_0, mx_cmp_1, mx_cmp_2, mx_cmp_3, mx_cmp_4, mx_u_s, mx_u_a, mx_u_k, mx_z_a, mx_z_s, mx_t_a, mx_t_2, mx_t_1, mx_t_0, mx_gd_T, mx_gd_t, mx_br_T, mx_br_F, mx_br_t, mx_br_f, mx_br_n, mx_cl_T, mx_cl_t, mx_re_T, mx_re_t, mx_rt_v, mx_rt_0, mx_cu_t, mx_w_id, mx_l_id, mx_b_0, mx_b_1, mx_b_r, mx_nl_0, mx_nl_1, mx_nl_2, mx_nl_n, mx_nl_l, mx_sw_n, mx_sw_h, mx_sw_m, Int.reduceLE, Int.reduceLT, Int.reduceEq, Int.reduceAdd, Int.reduceSub, Int.reduceMul, Int.reduceNeg, Int.reduceToNat, and_self, true_and, and_true, false_and, and_false, true_or, or_true, false_or, or_false, not_true_eq_false, not_false_eq_true, eq_self, rw_X11_act, rw_X8_clear, rw_X8_ended, hX, hF, c_xSf, mx_b_t q, no, c_within, mx_b_t (c := (0 : Int) ≤ 3 ∧ (3 : Int) ≤ 3) (by omega), ot, vt_T k, e, u]
  · rw [if_neg u]
    simp (disch := omega) only [mx_vt_h, mx_vt_m, mx_cmp_0, mx_cmp_1, mx_cmp_2, mx_cmp_3, mx_cmp_4, mx_u_s, mx_u_a, mx_u_k, mx_z_a, mx_z_s, mx_t_a, mx_t_2, mx_t_1, mx_t_0, mx_gd_T, mx_gd_t, mx_br_T, mx_br_F, mx_br_t, mx_br_f, mx_br_n, mx_cl_T, mx_cl_t, mx_re_T, mx_re_t, mx_rt_v, mx_rt_0, mx_cu_t, mx_w_id, mx_l_id, mx_b_0, mx_b_1, mx_b_r, mx_nl_0, mx_nl_1, mx_nl_2, mx_nl_n, mx_nl_l, mx_sw_n, mx_sw_h, mx_sw_m, Int.reduceLE, Int.reduceLT, Int.reduceEq, Int.reduceAdd, Int.reduceSub, Int.reduceMul, Int.reduceNeg, Int.reduceToNat, and_self, true_and, and_true, false_and, and_false, true_or, or_true, false_or, or_false, not_true_eq_false, not_false_eq_true, eq_self, rw_X11_act, rw_X8_clear, rw_X8_ended, hX, hF, c_xSf, mx_b_t q, no, c_within, mx_b_t (c := (0 : Int) ≤ 3 ∧ (3 : Int) ≤ 3) (by omega), ot, vt_T k, e, u]
theorem act_r3 {κ i A a y w : Int} {G K : mx_H} (o : np S (mx_u (mx_u (mx_u G 38 22 0) 38 23 i) 38 24 0) κ i A) (q : 0 ≤ a ∧ a ≤ 3) (h50 : G 50 a = 1) (h51 : G 51 a = i) (wv : vw (G 39)) (i1 : i < G 39 0) (e : mx_M (d + 11) 242 [(2, 38), (0, κ), (0, y)] S (mx_u (mx_u (mx_u G 38 22 0) 38 23 i) 38 24 0) n = some (some (0, w), S, K, n)) :
    mx_M (d + 12) 243 [(2, 38), (0, a), (0, 3), (0, y)] S G n = some (some (0, if K 38 24 = 0 then w else -15), S, K, n) := by
  have i0 := o.i0
  have hM := o.m
  have ie := c_isEmpty (d := d + 9) (n := n) (h := mx_u G 38 22 0) (a := a) hM (by rw [mx_u_a (by decide)]; exact wv) q
  rw [mx_u_a (b := 50) (by decide), mx_u_a (b := 51) (by decide), mx_u_a (b := 39) (by decide), h50, h51, mx_b_f (by omega)] at ie
  have ck := c_kindNow (d := d + 10) (n := n) o
  by_cases u : K 38 24 = 0
  · rw [if_pos u]
    simp (disch := omega) only [mx_vt_h, mx_vt_m, mx_cmp_0, mx_cmp_1, mx_cmp_2, mx_cmp_3, mx_cmp_4, mx_u_s, mx_u_a, mx_u_k, mx_z_a, mx_z_s, mx_t_a, mx_t_2, mx_t_1, mx_t_0, mx_gd_T, mx_gd_t, mx_br_T, mx_br_F, mx_br_t, mx_br_f, mx_br_n, mx_cl_T, mx_cl_t, mx_re_T, mx_re_t, mx_rt_v, mx_rt_0, mx_cu_t, mx_w_id, mx_l_id, mx_b_0, mx_b_1, mx_b_r, mx_nl_0, mx_nl_1, mx_nl_2, mx_nl_n, mx_nl_l, mx_sw_n, mx_sw_h, mx_sw_m, Int.reduceLE, Int.reduceLT, Int.reduceEq, Int.reduceAdd, Int.reduceSub, Int.reduceMul, Int.reduceNeg, Int.reduceToNat, and_self, true_and, and_true, false_and, and_false, true_or, or_true, false_or, or_false, not_true_eq_false, not_false_eq_true, eq_self, rw_X12_act, rw_X12_act_1, hM.e, c_mSf, mx_b_t q, c_in, mx_b_t (c := (0 : Int) ≤ 3 ∧ (3 : Int) ≤ 3) (by omega), ie, h50, h51, ck, e, u]
  · rw [if_neg u]
    simp (disch := omega) only [mx_vt_h, mx_vt_m, mx_cmp_0, mx_cmp_1, mx_cmp_2, mx_cmp_3, mx_cmp_4, mx_u_s, mx_u_a, mx_u_k, mx_z_a, mx_z_s, mx_t_a, mx_t_2, mx_t_1, mx_t_0, mx_gd_T, mx_gd_t, mx_br_T, mx_br_F, mx_br_t, mx_br_f, mx_br_n, mx_cl_T, mx_cl_t, mx_re_T, mx_re_t, mx_rt_v, mx_rt_0, mx_cu_t, mx_w_id, mx_l_id, mx_b_0, mx_b_1, mx_b_r, mx_nl_0, mx_nl_1, mx_nl_2, mx_nl_n, mx_nl_l, mx_sw_n, mx_sw_h, mx_sw_m, Int.reduceLE, Int.reduceLT, Int.reduceEq, Int.reduceAdd, Int.reduceSub, Int.reduceMul, Int.reduceNeg, Int.reduceToNat, and_self, true_and, and_true, false_and, and_false, true_or, or_true, false_or, or_false, not_true_eq_false, not_false_eq_true, eq_self, rw_X12_act, rw_X12_act_1, hM.e, c_mSf, mx_b_t q, c_in, mx_b_t (c := (0 : Int) ≤ 3 ∧ (3 : Int) ≤ 3) (by omega), ie, h50, h51, ck, e, u]
end
