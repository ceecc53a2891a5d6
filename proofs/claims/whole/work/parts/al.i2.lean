/-! A note told -/
theorem ws.f {L : Nat} {x : Nat → Int32} {S h g : mx_H} (w : ws L x S h) (f : ∀ a, a < 0 → g a = h a) : ws L x S g := ws.mk w.sS (fun a q => by rw [f a q]; exact w.hh a q)
theorem rwu_2 {σ : Int → Int} {k a b : Int} : rwu (rwu σ k a) k b = rwu σ k b := by
  funext j; unfold rwu; split <;> rfl
/-- the numbers with the note told -/
def ntS (t : Int → Int) (N q : Int) (σ : Int → Int) (κ e a : Int) (m : Nat) : Int → Int := rwu (rwu (rwi t N q (rwu (rwu (rwu σ (9 + 10 * σ 0) κ) (9 + 10 * σ 0 + 1) e) (9 + 10 * σ 0 + 2) a) (9 + 10 * σ 0) (m + 1)) (9 + 10 * σ 0 + 3) (m + 1)) 0 (σ 0 + 1)
section
variable {L : Nat} {x : Nat → Int32} {S0 h0 : mx_H} {n0 : Int} {S h : mx_H} {n : Int} {d : Nat} {t : Int → Int} {N p q : Int} {σ : Int → Int} {κ : Int}
theorem ntS_i {e a : Int} {m : Nat} (s : 0 ≤ σ 0 ∧ σ 0 ≤ 5) (k0 : 0 ≤ κ ∧ κ ≤ 5) (e0 : 0 ≤ e ∧ e ≤ 2) (a0 : 0 ≤ a ∧ a ≤ 6) (m5 : m ≤ 5) (f : ∀ j : Nat, j ≤ m → 0 ≤ tva t N (qn t N q j) ∧ tva t N (qn t N q j) ≤ 15) : nad σ (ntS t N q σ κ e a m) ∧ it (ntS t N q σ κ e a m) (σ 0) 0 = κ ∧ it (ntS t N q σ κ e a m) (σ 0) 1 = e ∧ it (ntS t N q σ κ e a m) (σ 0) 2 = a ∧ it (ntS t N q σ κ e a m) (σ 0) 3 = m + 1 ∧ (∀ j : Int, 0 ≤ j → j < m + 1 → it (ntS t N q σ κ e a m) (σ 0) (4 + j) = tva t N (qn t N q j.toNat)) ∧ ntS t N q σ κ e a m 2 = σ 2 := by
  have i0 : it (ntS t N q σ κ e a m) (σ 0) 0 = κ := by unfold it ntS rwu rwi; simp (disch := omega) only [if_pos, if_neg, if_true]
  have i1 : it (ntS t N q σ κ e a m) (σ 0) 1 = e := by unfold it ntS rwu rwi; simp (disch := omega) only [if_pos, if_neg, if_true]
  have i2 : it (ntS t N q σ κ e a m) (σ 0) 2 = a := by unfold it ntS rwu rwi; simp (disch := omega) only [if_pos, if_neg, if_true]
  have i3 : it (ntS t N q σ κ e a m) (σ 0) 3 = m + 1 := by unfold it ntS rwu rwi; simp (disch := omega) only [if_pos, if_neg, if_true]
  have i4 : ∀ j : Int, 0 ≤ j → j < m + 1 → it (ntS t N q σ κ e a m) (σ 0) (4 + j) = tva t N (qn t N q j.toNat) := fun j j0 j1 => by
    unfold it ntS rwu rwi; rw [if_neg (by omega), if_neg (by omega), if_pos (by omega)]
    exact congrArg (fun y => tva t N (qn t N q y)) (by omega)
  refine ⟨nad.mk ?_ (fun k b0 b1 => ?_) (nw.mk (by rw [i0]; exact k0) (by rw [i1]; exact e0) (by rw [i2]; exact a0) (by rw [i3]; omega) ?_), i0, i1, i2, i3, i4, ?_⟩
  · unfold ntS rwu; rw [if_pos rfl]
  · unfold ntS rwu rwi; simp (disch := omega) only [if_neg]
  · rw [i3]; intro j j0 j1; rw [i4 j j0 j1]; exact f j.toNat (by omega)
  · unfold ntS rwu rwi; simp (disch := omega) only [if_neg]
theorem N_r1 {S' h' : mx_H} {n' : Int} (Y : RX t N p S' h') (y39 : h' 39 = σ) (wr : ws L x S' h') (wN : 0 ≤ σ 0 ∧ σ 0 ≤ 5) (q1 : ¬ tnu t N 0 2 (tpl t N p)) : ∃ g', mx_M (d + 8) 170 [(2, 38), (0, κ)] S' h' n' = some (some (0, 0), S', g', n') ∧ fR h' g' ∧ RX t N (tpl t N p) S' g' := by
  obtain ⟨k0, a0, b0, _, Y0⟩ := Y.nx (d := d + 5) (n := n')
  have y0 : k0 39 = σ := by rw [b0.1 39 (by decide)]; exact y39
  have zz := Y0.u0 (d := d + 4) (n := n') (by decide) (by decide) q1
  refine ⟨k0, ?_, b0.r, Y0⟩
  simp (disch := omega) only [mx_vt_h, mx_vt_m, mx_cmp_0, mx_cmp_1, mx_cmp_2, mx_cmp_3, mx_cmp_4, mx_u_s, mx_u_a, mx_u_k, mx_z_a, mx_z_s, mx_t_a, mx_t_2, mx_t_1, mx_t_0, mx_gd_T, mx_gd_t, mx_br_T, mx_br_F, mx_br_t, mx_br_f, mx_br_n, mx_cl_T, mx_cl_t, mx_re_T, mx_re_t, mx_rt_v, mx_rt_0, mx_cu_t, mx_w_id, mx_l_id, mx_b_0, mx_b_1, mx_b_r, mx_nl_0, mx_nl_1, mx_nl_2, mx_nl_n, mx_nl_l, mx_sw_n, mx_sw_h, mx_sw_m, Int.reduceLE, Int.reduceLT, Int.reduceEq, Int.reduceAdd, Int.reduceSub, Int.reduceMul, Int.reduceNeg, Int.reduceToNat, and_self, true_and, and_true, false_and, and_false, true_or, or_true, false_or, or_false, not_true_eq_false, not_false_eq_true, eq_self, rw_X12_takesNote, rw_X12_takesNote_1, Y.m.e, y39, y0, a0, zz]
theorem N_rA {S' h' : mx_H} {n' : Int} (Y : RX t N p S' h') (y39 : h' 39 = σ) (wr : ws L x S' h') (wN : 0 ≤ σ 0 ∧ σ 0 ≤ 5) (q1 : tnu t N 0 2 (tpl t N p)) (nm : ¬ nmm t N (tpl t N (tpl t N p)) 11) (q2 : ¬ tby t N 58 (tpl t N (tpl t N p))) : ∃ g', mx_M (d + 8) 170 [(2, 38), (0, κ)] S' h' n' = some (some (0, 0), S', g', n') ∧ fR h' g' ∧ RX t N (tpl t N (tpl t N p)) S' g' := by
  obtain ⟨k0, a0, b0, _, Y0⟩ := Y.nx (d := d + 5) (n := n')
  have y0 : k0 39 = σ := by rw [b0.1 39 (by decide)]; exact y39
  obtain ⟨k1, a1, b1, v1, Y1⟩ := Y0.u (d := d + 4) (n := n') (by decide) (by decide) q1
  have y1 : k1 39 = σ := by rw [b1.1 39 (by decide)]; exact y0
  have W1 : RX t N (tpl t N (tpl t N p)) S' (mx_u (mx_u (mx_u k1 39 (9 + 10 * σ 0) κ) 39 ((9 + 10 * σ 0) + 1) (tva t N (tpl t N p))) 39 ((9 + 10 * σ 0) + 2) 0) := Y1.w.w.w
  have F1 : fR h' (mx_u (mx_u (mx_u k1 39 (9 + 10 * σ 0) κ) 39 ((9 + 10 * σ 0) + 1) (tva t N (tpl t N p))) 39 ((9 + 10 * σ 0) + 2) 0) := ((b0.r).t b1.r).u.u.u
  have w1 : (mx_u (mx_u (mx_u k1 39 (9 + 10 * σ 0) κ) 39 ((9 + 10 * σ 0) + 1) (tva t N (tpl t N p))) 39 ((9 + 10 * σ 0) + 2) 0) 39 = (rwu (rwu (rwu σ (9 + 10 * σ 0) κ) ((9 + 10 * σ 0) + 1) (tva t N (tpl t N p))) ((9 + 10 * σ 0) + 2) 0) := by rw [rwu_39, rwu_39, rwu_39, y1]
  have wr1 : ws L x S' (mx_u (mx_u (mx_u k1 39 (9 + 10 * σ 0) κ) 39 ((9 + 10 * σ 0) + 1) (tva t N (tpl t N p))) 39 ((9 + 10 * σ 0) + 2) 0) := wr.f (fun a z => F1.1 a (by omega) (by omega))
  have ci := c_isM (d := d + 2) (n := n') (A := -28) W1 wr1 (k := 18) (by decide) (by decide)
  rw [mx_b_i (nmm_c (t := t) (N := N) (k := 18) (j := 11) (by decide +kernel)), mx_b_f nm] at ci
  have zz := W1.y0 (d := d + 4) (n := n') (by decide) q2
  refine ⟨_, ?_, F1, W1⟩
  simp (disch := omega) only [mx_vt_h, mx_vt_m, mx_cmp_0, mx_cmp_1, mx_cmp_2, mx_cmp_3, mx_cmp_4, mx_u_s, mx_u_a, mx_u_k, mx_z_a, mx_z_s, mx_t_a, mx_t_2, mx_t_1, mx_t_0, mx_gd_T, mx_gd_t, mx_br_T, mx_br_F, mx_br_t, mx_br_f, mx_br_n, mx_cl_T, mx_cl_t, mx_re_T, mx_re_t, mx_rt_v, mx_rt_0, mx_cu_t, mx_w_id, mx_l_id, mx_b_0, mx_b_1, mx_b_r, mx_nl_0, mx_nl_1, mx_nl_2, mx_nl_n, mx_nl_l, mx_sw_n, mx_sw_h, mx_sw_m, Int.reduceLE, Int.reduceLT, Int.reduceEq, Int.reduceAdd, Int.reduceSub, Int.reduceMul, Int.reduceNeg, Int.reduceToNat, and_self, true_and, and_true, false_and, and_false, true_or, or_true, false_or, or_false, not_true_eq_false, not_false_eq_true, eq_self, rw_X12_takesNote, rw_X12_takesNote_1, Y.m.e, y39, y0, a0, a1, v1, Int.add_zero, ci, zz]
theorem N_hA {S' h' : mx_H} {n' : Int} (Y : RX t N p S' h') (y39 : h' 39 = σ) (wr : ws L x S' h') (wN : 0 ≤ σ 0 ∧ σ 0 ≤ 5) (q1 : tnu t N 0 2 (tpl t N p)) (nm : ¬ nmm t N (tpl t N (tpl t N p)) 11) (q2 : tby t N 58 (tpl t N (tpl t N p))) : ∃ k, mx_M (d + 8) 170 [(2, 38), (0, κ)] S' h' n' = mx_ex (d + 8) 170 124 [some (2, 38), some (0, κ), some (0, 9 + 10 * σ 0), some (0, 0), some (0, 1)] [] S' k n' ∧ fR h' k ∧ RX t N (tpl t N (tpl t N (tpl t N p))) S' k ∧ k 39 = (rwu (rwu (rwu σ (9 + 10 * σ 0) κ) ((9 + 10 * σ 0) + 1) (tva t N (tpl t N p))) ((9 + 10 * σ 0) + 2) 0) := by
  obtain ⟨k0, a0, b0, _, Y0⟩ := Y.nx (d := d + 5) (n := n')
  have y0 : k0 39 = σ := by rw [b0.1 39 (by decide)]; exact y39
  obtain ⟨k1, a1, b1, v1, Y1⟩ := Y0.u (d := d + 4) (n := n') (by decide) (by decide) q1
  have y1 : k1 39 = σ := by rw [b1.1 39 (by decide)]; exact y0
  have W1 : RX t N (tpl t N (tpl t N p)) S' (mx_u (mx_u (mx_u k1 39 (9 + 10 * σ 0) κ) 39 ((9 + 10 * σ 0) + 1) (tva t N (tpl t N p))) 39 ((9 + 10 * σ 0) + 2) 0) := Y1.w.w.w
  have F1 : fR h' (mx_u (mx_u (mx_u k1 39 (9 + 10 * σ 0) κ) 39 ((9 + 10 * σ 0) + 1) (tva t N (tpl t N p))) 39 ((9 + 10 * σ 0) + 2) 0) := ((b0.r).t b1.r).u.u.u
  have w1 : (mx_u (mx_u (mx_u k1 39 (9 + 10 * σ 0) κ) 39 ((9 + 10 * σ 0) + 1) (tva t N (tpl t N p))) 39 ((9 + 10 * σ 0) + 2) 0) 39 = (rwu (rwu (rwu σ (9 + 10 * σ 0) κ) ((9 + 10 * σ 0) + 1) (tva t N (tpl t N p))) ((9 + 10 * σ 0) + 2) 0) := by rw [rwu_39, rwu_39, rwu_39, y1]
  have wr1 : ws L x S' (mx_u (mx_u (mx_u k1 39 (9 + 10 * σ 0) κ) 39 ((9 + 10 * σ 0) + 1) (tva t N (tpl t N p))) 39 ((9 + 10 * σ 0) + 2) 0) := wr.f (fun a z => F1.1 a (by omega) (by omega))
  have ci := c_isM (d := d + 2) (n := n') (A := -28) W1 wr1 (k := 18) (by decide) (by decide)
  rw [mx_b_i (nmm_c (t := t) (N := N) (k := 18) (j := 11) (by decide +kernel)), mx_b_f nm] at ci
  obtain ⟨k2, a2, b2, _, Y2⟩ := W1.y (d := d + 4) (n := n') (by decide) q2
  refine ⟨k2, ?_, F1.t b2.r, Y2, by rw [b2.1 39 (by decide)]; exact w1⟩
  simp (disch := omega) only [mx_vt_h, mx_vt_m, mx_cmp_0, mx_cmp_1, mx_cmp_2, mx_cmp_3, mx_cmp_4, mx_u_s, mx_u_a, mx_u_k, mx_z_a, mx_z_s, mx_t_a, mx_t_2, mx_t_1, mx_t_0, mx_gd_T, mx_gd_t, mx_br_T, mx_br_F, mx_br_t, mx_br_f, mx_br_n, mx_cl_T, mx_cl_t, mx_re_T, mx_re_t, mx_rt_v, mx_rt_0, mx_cu_t, mx_w_id, mx_l_id, mx_b_0, mx_b_1, mx_b_r, mx_nl_0, mx_nl_1, mx_nl_2, mx_nl_n, mx_nl_l, mx_sw_n, mx_sw_h, mx_sw_m, Int.reduceLE, Int.reduceLT, Int.reduceEq, Int.reduceAdd, Int.reduceSub, Int.reduceMul, Int.reduceNeg, Int.reduceToNat, and_self, true_and, and_true, false_and, and_false, true_or, or_true, false_or, or_false, not_true_eq_false, not_false_eq_true, eq_self, rw_X12_takesNote, rw_X12_takesNote_1, Y.m.e, y39, y0, a0, a1, v1, Int.add_zero, ci, a2]
theorem N_r3 {S' h' : mx_H} {n' : Int} (Y : RX t N p S' h') (y39 : h' 39 = σ) (wr : ws L x S' h') (wN : 0 ≤ σ 0 ∧ σ 0 ≤ 5) (q1 : tnu t N 0 2 (tpl t N p)) (nm : nmm t N (tpl t N (tpl t N p)) 11) (q3 : ¬ tnu t N 0 6 (tpl t N (tpl t N (tpl t N p)))) : ∃ g', mx_M (d + 8) 170 [(2, 38), (0, κ)] S' h' n' = some (some (0, 0), S', g', n') ∧ fR h' g' ∧ RX t N (tpl t N (tpl t N (tpl t N p))) S' g' := by
  obtain ⟨k0, a0, b0, _, Y0⟩ := Y.nx (d := d + 5) (n := n')
  have y0 : k0 39 = σ := by rw [b0.1 39 (by decide)]; exact y39
  obtain ⟨k1, a1, b1, v1, Y1⟩ := Y0.u (d := d + 4) (n := n') (by decide) (by decide) q1
  have y1 : k1 39 = σ := by rw [b1.1 39 (by decide)]; exact y0
  have W1 : RX t N (tpl t N (tpl t N p)) S' (mx_u (mx_u (mx_u k1 39 (9 + 10 * σ 0) κ) 39 ((9 + 10 * σ 0) + 1) (tva t N (tpl t N p))) 39 ((9 + 10 * σ 0) + 2) 0) := Y1.w.w.w
  have F1 : fR h' (mx_u (mx_u (mx_u k1 39 (9 + 10 * σ 0) κ) 39 ((9 + 10 * σ 0) + 1) (tva t N (tpl t N p))) 39 ((9 + 10 * σ 0) + 2) 0) := ((b0.r).t b1.r).u.u.u
  have w1 : (mx_u (mx_u (mx_u k1 39 (9 + 10 * σ 0) κ) 39 ((9 + 10 * σ 0) + 1) (tva t N (tpl t N p))) 39 ((9 + 10 * σ 0) + 2) 0) 39 = (rwu (rwu (rwu σ (9 + 10 * σ 0) κ) ((9 + 10 * σ 0) + 1) (tva t N (tpl t N p))) ((9 + 10 * σ 0) + 2) 0) := by rw [rwu_39, rwu_39, rwu_39, y1]
  have wr1 : ws L x S' (mx_u (mx_u (mx_u k1 39 (9 + 10 * σ 0) κ) 39 ((9 + 10 * σ 0) + 1) (tva t N (tpl t N p))) 39 ((9 + 10 * σ 0) + 2) 0) := wr.f (fun a z => F1.1 a (by omega) (by omega))
  have ci := c_isM (d := d + 2) (n := n') (A := -28) W1 wr1 (k := 18) (by decide) (by decide)
  rw [mx_b_i (nmm_c (t := t) (N := N) (k := 18) (j := 11) (by decide +kernel)), mx_b_t nm] at ci
  obtain ⟨k2, a2, b2, _, Y2⟩ := W1.nx (d := d + 5) (n := n')
  have y2 : k2 39 = (rwu (rwu (rwu σ (9 + 10 * σ 0) κ) ((9 + 10 * σ 0) + 1) (tva t N (tpl t N p))) ((9 + 10 * σ 0) + 2) 0) := by rw [b2.1 39 (by decide)]; exact w1
  have zz := Y2.u0 (d := d + 4) (n := n') (by decide) (by decide) q3
  refine ⟨k2, ?_, F1.t b2.r, Y2⟩
  simp (disch := omega) only [mx_vt_h, mx_vt_m, mx_cmp_0, mx_cmp_1, mx_cmp_2, mx_cmp_3, mx_cmp_4, mx_u_s, mx_u_a, mx_u_k, mx_z_a, mx_z_s, mx_t_a, mx_t_2, mx_t_1, mx_t_0, mx_gd_T, mx_gd_t, mx_br_T, mx_br_F, mx_br_t, mx_br_f, mx_br_n, mx_cl_T, mx_cl_t, mx_re_T, mx_re_t, mx_rt_v, mx_rt_0, mx_cu_t, mx_w_id, mx_l_id, mx_b_0, mx_b_1, mx_b_r, mx_nl_0, mx_nl_1, mx_nl_2, mx_nl_n, mx_nl_l, mx_sw_n, mx_sw_h, mx_sw_m, Int.reduceLE, Int.reduceLT, Int.reduceEq, Int.reduceAdd, Int.reduceSub, Int.reduceMul, Int.reduceNeg, Int.reduceToNat, and_self, true_and, and_true, false_and, and_false, true_or, or_true, false_or, or_false, not_true_eq_false, not_false_eq_true, eq_self, rw_X12_takesNote, rw_X12_takesNote_1, Y.m.e, y39, y0, a0, a1, v1, Int.add_zero, ci, a2, zz]
theorem N_rB {S' h' : mx_H} {n' : Int} (Y : RX t N p S' h') (y39 : h' 39 = σ) (wr : ws L x S' h') (wN : 0 ≤ σ 0 ∧ σ 0 ≤ 5) (q1 : tnu t N 0 2 (tpl t N p)) (nm : nmm t N (tpl t N (tpl t N p)) 11) (q3 : tnu t N 0 6 (tpl t N (tpl t N (tpl t N p)))) (q4 : ¬ tby t N 58 (tpl t N (tpl t N (tpl t N (tpl t N p))))) : ∃ g', mx_M (d + 8) 170 [(2, 38), (0, κ)] S' h' n' = some (some (0, 0), S', g', n') ∧ fR h' g' ∧ RX t N (tpl t N (tpl t N (tpl t N (tpl t N p)))) S' g' := by
  obtain ⟨k0, a0, b0, _, Y0⟩ := Y.nx (d := d + 5) (n := n')
  have y0 : k0 39 = σ := by rw [b0.1 39 (by decide)]; exact y39
  obtain ⟨k1, a1, b1, v1, Y1⟩ := Y0.u (d := d + 4) (n := n') (by decide) (by decide) q1
  have y1 : k1 39 = σ := by rw [b1.1 39 (by decide)]; exact y0
  have W1 : RX t N (tpl t N (tpl t N p)) S' (mx_u (mx_u (mx_u k1 39 (9 + 10 * σ 0) κ) 39 ((9 + 10 * σ 0) + 1) (tva t N (tpl t N p))) 39 ((9 + 10 * σ 0) + 2) 0) := Y1.w.w.w
  have F1 : fR h' (mx_u (mx_u (mx_u k1 39 (9 + 10 * σ 0) κ) 39 ((9 + 10 * σ 0) + 1) (tva t N (tpl t N p))) 39 ((9 + 10 * σ 0) + 2) 0) := ((b0.r).t b1.r).u.u.u
  have w1 : (mx_u (mx_u (mx_u k1 39 (9 + 10 * σ 0) κ) 39 ((9 + 10 * σ 0) + 1) (tva t N (tpl t N p))) 39 ((9 + 10 * σ 0) + 2) 0) 39 = (rwu (rwu (rwu σ (9 + 10 * σ 0) κ) ((9 + 10 * σ 0) + 1) (tva t N (tpl t N p))) ((9 + 10 * σ 0) + 2) 0) := by rw [rwu_39, rwu_39, rwu_39, y1]
  have wr1 : ws L x S' (mx_u (mx_u (mx_u k1 39 (9 + 10 * σ 0) κ) 39 ((9 + 10 * σ 0) + 1) (tva t N (tpl t N p))) 39 ((9 + 10 * σ 0) + 2) 0) := wr.f (fun a z => F1.1 a (by omega) (by omega))
  have ci := c_isM (d := d + 2) (n := n') (A := -28) W1 wr1 (k := 18) (by decide) (by decide)
  rw [mx_b_i (nmm_c (t := t) (N := N) (k := 18) (j := 11) (by decide +kernel)), mx_b_t nm] at ci
  obtain ⟨k2, a2, b2, _, Y2⟩ := W1.nx (d := d + 5) (n := n')
  have y2 : k2 39 = (rwu (rwu (rwu σ (9 + 10 * σ 0) κ) ((9 + 10 * σ 0) + 1) (tva t N (tpl t N p))) ((9 + 10 * σ 0) + 2) 0) := by rw [b2.1 39 (by decide)]; exact w1
  obtain ⟨k3, a3, b3, v3, Y3⟩ := Y2.u (d := d + 4) (n := n') (by decide) (by decide) q3
  have y3 : k3 39 = (rwu (rwu (rwu σ (9 + 10 * σ 0) κ) ((9 + 10 * σ 0) + 1) (tva t N (tpl t N p))) ((9 + 10 * σ 0) + 2) 0) := by rw [b3.1 39 (by decide)]; exact y2
  have W3 : RX t N (tpl t N (tpl t N (tpl t N (tpl t N p)))) S' (mx_u k3 39 ((9 + 10 * σ 0) + 2) (tva t N (tpl t N (tpl t N (tpl t N p))))) := Y3.w
  have F3 : fR h' (mx_u k3 39 ((9 + 10 * σ 0) + 2) (tva t N (tpl t N (tpl t N (tpl t N p))))) := ((F1.t b2.r).t b3.r).u
  have w3 : (mx_u k3 39 ((9 + 10 * σ 0) + 2) (tva t N (tpl t N (tpl t N (tpl t N p))))) 39 = (rwu (rwu (rwu σ (9 + 10 * σ 0) κ) ((9 + 10 * σ 0) + 1) (tva t N (tpl t N p))) ((9 + 10 * σ 0) + 2) (tva t N (tpl t N (tpl t N (tpl t N p))))) := by rw [rwu_39, y3, rwu_2]
  have zz := W3.y0 (d := d + 4) (n := n') (by decide) q4
  refine ⟨_, ?_, F3, W3⟩
  simp (disch := omega) only [mx_vt_h, mx_vt_m, mx_cmp_0, mx_cmp_1, mx_cmp_2, mx_cmp_3, mx_cmp_4, mx_u_s, mx_u_a, mx_u_k, mx_z_a, mx_z_s, mx_t_a, mx_t_2, mx_t_1, mx_t_0, mx_gd_T, mx_gd_t, mx_br_T, mx_br_F, mx_br_t, mx_br_f, mx_br_n, mx_cl_T, mx_cl_t, mx_re_T, mx_re_t, mx_rt_v, mx_rt_0, mx_cu_t, mx_w_id, mx_l_id, mx_b_0, mx_b_1, mx_b_r, mx_nl_0, mx_nl_1, mx_nl_2, mx_nl_n, mx_nl_l, mx_sw_n, mx_sw_h, mx_sw_m, Int.reduceLE, Int.reduceLT, Int.reduceEq, Int.reduceAdd, Int.reduceSub, Int.reduceMul, Int.reduceNeg, Int.reduceToNat, and_self, true_and, and_true, false_and, and_false, true_or, or_true, false_or, or_false, not_true_eq_false, not_false_eq_true, eq_self, rw_X12_takesNote, rw_X12_takesNote_1, Y.m.e, y39, y0, a0, a1, v1, Int.add_zero, ci, a2, a3, v3, zz]
theorem N_hB {S' h' : mx_H} {n' : Int} (Y : RX t N p S' h') (y39 : h' 39 = σ) (wr : ws L x S' h') (wN : 0 ≤ σ 0 ∧ σ 0 ≤ 5) (q1 : tnu t N 0 2 (tpl t N p)) (nm : nmm t N (tpl t N (tpl t N p)) 11) (q3 : tnu t N 0 6 (tpl t N (tpl t N (tpl t N p)))) (q4 : tby t N 58 (tpl t N (tpl t N (tpl t N (tpl t N p))))) : ∃ k, mx_M (d + 8) 170 [(2, 38), (0, κ)] S' h' n' = mx_ex (d + 8) 170 124 [some (2, 38), some (0, κ), some (0, 9 + 10 * σ 0), some (0, 0), some (0, 1)] [] S' k n' ∧ fR h' k ∧ RX t N (tpl t N (tpl t N (tpl t N (tpl t N (tpl t N p))))) S' k ∧ k 39 = (rwu (rwu (rwu σ (9 + 10 * σ 0) κ) ((9 + 10 * σ 0) + 1) (tva t N (tpl t N p))) ((9 + 10 * σ 0) + 2) (tva t N (tpl t N (tpl t N (tpl t N p))))) := by
  obtain ⟨k0, a0, b0, _, Y0⟩ := Y.nx (d := d + 5) (n := n')
  have y0 : k0 39 = σ := by rw [b0.1 39 (by decide)]; exact y39
  obtain ⟨k1, a1, b1, v1, Y1⟩ := Y0.u (d := d + 4) (n := n') (by decide) (by decide) q1
  have y1 : k1 39 = σ := by rw [b1.1 39 (by decide)]; exact y0
  have W1 : RX t N (tpl t N (tpl t N p)) S' (mx_u (mx_u (mx_u k1 39 (9 + 10 * σ 0) κ) 39 ((9 + 10 * σ 0) + 1) (tva t N (tpl t N p))) 39 ((9 + 10 * σ 0) + 2) 0) := Y1.w.w.w
  have F1 : fR h' (mx_u (mx_u (mx_u k1 39 (9 + 10 * σ 0) κ) 39 ((9 + 10 * σ 0) + 1) (tva t N (tpl t N p))) 39 ((9 + 10 * σ 0) + 2) 0) := ((b0.r).t b1.r).u.u.u
  have w1 : (mx_u (mx_u (mx_u k1 39 (9 + 10 * σ 0) κ) 39 ((9 + 10 * σ 0) + 1) (tva t N (tpl t N p))) 39 ((9 + 10 * σ 0) + 2) 0) 39 = (rwu (rwu (rwu σ (9 + 10 * σ 0) κ) ((9 + 10 * σ 0) + 1) (tva t N (tpl t N p))) ((9 + 10 * σ 0) + 2) 0) := by rw [rwu_39, rwu_39, rwu_39, y1]
  have wr1 : ws L x S' (mx_u (mx_u (mx_u k1 39 (9 + 10 * σ 0) κ) 39 ((9 + 10 * σ 0) + 1) (tva t N (tpl t N p))) 39 ((9 + 10 * σ 0) + 2) 0) := wr.f (fun a z => F1.1 a (by omega) (by omega))
  have ci := c_isM (d := d + 2) (n := n') (A := -28) W1 wr1 (k := 18) (by decide) (by decide)
  rw [mx_b_i (nmm_c (t := t) (N := N) (k := 18) (j := 11) (by decide +kernel)), mx_b_t nm] at ci
  obtain ⟨k2, a2, b2, _, Y2⟩ := W1.nx (d := d + 5) (n := n')
  have y2 : k2 39 = (rwu (rwu (rwu σ (9 + 10 * σ 0) κ) ((9 + 10 * σ 0) + 1) (tva t N (tpl t N p))) ((9 + 10 * σ 0) + 2) 0) := by rw [b2.1 39 (by decide)]; exact w1
  obtain ⟨k3, a3, b3, v3, Y3⟩ := Y2.u (d := d + 4) (n := n') (by decide) (by decide) q3
  have y3 : k3 39 = (rwu (rwu (rwu σ (9 + 10 * σ 0) κ) ((9 + 10 * σ 0) + 1) (tva t N (tpl t N p))) ((9 + 10 * σ 0) + 2) 0) := by rw [b3.1 39 (by decide)]; exact y2
  have W3 : RX t N (tpl t N (tpl t N (tpl t N (tpl t N p)))) S' (mx_u k3 39 ((9 + 10 * σ 0) + 2) (tva t N (tpl t N (tpl t N (tpl t N p))))) := Y3.w
  have F3 : fR h' (mx_u k3 39 ((9 + 10 * σ 0) + 2) (tva t N (tpl t N (tpl t N (tpl t N p))))) := ((F1.t b2.r).t b3.r).u
  have w3 : (mx_u k3 39 ((9 + 10 * σ 0) + 2) (tva t N (tpl t N (tpl t N (tpl t N p))))) 39 = (rwu (rwu (rwu σ (9 + 10 * σ 0) κ) ((9 + 10 * σ 0) + 1) (tva t N (tpl t N p))) ((9 + 10 * σ 0) + 2) (tva t N (tpl t N (tpl t N (tpl t N p))))) := by rw [rwu_39, y3, rwu_2]
  obtain ⟨k4, a4, b4, _, Y4⟩ := W3.y (d := d + 4) (n := n') (by decide) q4
  refine ⟨k4, ?_, F3.t b4.r, Y4, by rw [b4.1 39 (by decide)]; exact w3⟩
  simp (disch := omega) only [mx_vt_h, mx_vt_m, mx_cmp_0, mx_cmp_1, mx_cmp_2, mx_cmp_3, mx_cmp_4, mx_u_s, mx_u_a, mx_u_k, mx_z_a, mx_z_s, mx_t_a, mx_t_2, mx_t_1, mx_t_0, mx_gd_T, mx_gd_t, mx_br_T, mx_br_F, mx_br_t, mx_br_f, mx_br_n, mx_cl_T, mx_cl_t, mx_re_T, mx_re_t, mx_rt_v, mx_rt_0, mx_cu_t, mx_w_id, mx_l_id, mx_b_0, mx_b_1, mx_b_r, mx_nl_0, mx_nl_1, mx_nl_2, mx_nl_n, mx_nl_l, mx_sw_n, mx_sw_h, mx_sw_m, Int.reduceLE, Int.reduceLT, Int.reduceEq, Int.reduceAdd, Int.reduceSub, Int.reduceMul, Int.reduceNeg, Int.reduceToNat, and_self, true_and, and_true, false_and, and_false, true_or, or_true, false_or, or_false, not_true_eq_false, not_false_eq_true, eq_self, rw_X12_takesNote, rw_X12_takesNote_1, Y.m.e, y39, y0, a0, a1, v1, Int.add_zero, ci, a2, a3, v3, a4]
theorem N_la {e a : Int} {k : mx_H} {n' : Int} {S' : mx_H} {m : Nat} (A : mA t N q m) (wN : 0 ≤ σ 0 ∧ σ 0 ≤ 5) (Y : RX t N q S' k) (r : k 39 = rwu (rwu (rwu σ (9 + 10 * σ 0) κ) ((9 + 10 * σ 0) + 1) e) ((9 + 10 * σ 0) + 2) a) : ∃ g, mx_ex (d + 8) 170 124 [some (2, 38), some (0, κ), some (0, 9 + 10 * σ 0), some (0, 0), some (0, 1)] [] S' k n' = some (some (0, mx_b (tby t N 59 (tpl t N (qn t N q m)))), S', g, n') ∧ fR k g ∧ g 39 = ntS t N q σ κ e a m ∧ (tby t N 59 (tpl t N (qn t N q m)) → RX t N (tpl t N (tpl t N (qn t N q m))) S' g) ∧ (¬ tby t N 59 (tpl t N (qn t N q m)) → RX t N (tpl t N (qn t N q m)) S' g) := by
  have ρ0 : (rwu (rwu (rwu σ (9 + 10 * σ 0) κ) ((9 + 10 * σ 0) + 1) e) ((9 + 10 * σ 0) + 2) a) 0 = σ 0 := by unfold rwu; simp (disch := omega) only [if_neg]
  obtain ⟨g, e1, f1, w1, X1, X2⟩ := c_mM_a (d := d + 4) (n := n') (κ := κ) A (ρ := rwu (rwu (rwu σ (9 + 10 * σ 0) κ) ((9 + 10 * σ 0) + 1) e) ((9 + 10 * σ 0) + 2) a) (T := (9 + 10 * σ 0)) (by omega) (by rw [ρ0]; exact wN) m (i := 0) (h := k) (by omega) Y (by rw [rwi_0]; exact r)
  rw [ρ0] at w1
  exact ⟨g, e1, f1, w1, X1, X2⟩
theorem N_lb {k : mx_H} {n' : Int} {S' : mx_H} {m : Nat} (B : mB t N q m) (wN : 0 ≤ σ 0 ∧ σ 0 ≤ 5) (Y : RX t N q S' k) : ∃ g, mx_ex (d + 8) 170 124 [some (2, 38), some (0, κ), some (0, 9 + 10 * σ 0), some (0, 0), some (0, 1)] [] S' k n' = some (some (0, 0), S', g, n') ∧ fR k g ∧ RX t N (qn t N q m) S' g :=
  c_mM_b (d := d + 4) (n := n') (κ := κ) B (T := (9 + 10 * σ 0)) (by omega) m (i := 0) (h := k) (by omega) Y
/-- the program, where all was told -/
theorem N_add {e a : Int} {m : Nat} {g : mx_H} (s0 : sv S0 23) (n5 : 53 ≤ n0) (A : mA t N q m) (D : DS S0 h0 n0 σ S g n) {p' : Int} (X : CX t N p' S g) (wN : 0 ≤ σ 0 ∧ σ 0 ≤ 5) (k0 : 0 ≤ κ ∧ κ ≤ 5) (e0 : 0 ≤ e ∧ e ≤ 2) (a0 : 0 ≤ a ∧ a ≤ 6) (mk : ∀ k : Nat, k ≤ m → g 28 k = tva t N (qn t N q k)) : ∃ T2 g2 w, mx_M (d + 5) 91 [(2, 23), (0, κ), (0, e), (0, a), (2, n)] (mx_t S n 20 (m + 1)) (mx_y (mx_z g n) 28 0 n 0 (m + 1)) (n + 1) = some (some (0, w), T2, g2, n + 1 + 1) ∧ CX t N p' T2 g2 ∧ DS S0 h0 n0 (ntS t N q σ κ e a m) T2 g2 (n + 1 + 1) := by
  have m5 := A.1
  have Df := D.f.m
  have Dm := D.m
  have wN2 := D.w.N
  have sd := D.f.sv s0 n5
  have fr : ∀ j : Nat, j ≤ m → 0 ≤ tva t N (qn t N q j) ∧ tva t N (qn t N q j) ≤ 15 := fun j hj => by
    by_cases z : j = m
    · rw [z]; exact A.2.2.1.2
    · exact (A.2.1 j (by omega)).1.2
  obtain ⟨na, i0, i1, i2, i3, i4, _⟩ := ntS_i (t := t) (N := N) (q := q) (m := m) wN k0 e0 a0 m5 fr
  have oS : ∀ b, ¬ b = n → mx_t S n 20 (m + 1) b = S b := fun b z => mx_t_a z
  have og : ∀ b, ¬ b = n → mx_y (mx_z g n) 28 0 n 0 (m + 1) b = g b := fun b z => by rw [mx_y_a z, mx_z_a z]
  have s1 : sv (mx_t S n 20 (m + 1)) 23 := by
    have se := sd.e
    refine sv.mk ?_
    rw [oS 23 (by omega), oS (23 + 1) (by omega), oS (23 + 2) (by omega), oS (23 + 3) (by omega), oS (23 + 4) (by omega)]; exact se
  have c3 : mx_y (mx_z g n) 28 0 n 0 (m + 1) 23 3 = σ 0 := by rw [og 23 (by omega)]; exact D.r.c
  obtain ⟨T2, g2, eA, B⟩ := c_addNote (d := d) (S := mx_t S n 20 (m + 1)) (h := mx_y (mx_z g n) 28 0 n 0 (m + 1)) (n := n + 1) (v := 23) (k := κ) (e := e) (a := a) (mk := n) s1 (by omega) k0 (by omega) (by decide)
  have tT : ∀ b, b < n → ¬ b = 27 → T2 b = S b := fun b z y => by rw [B.S0 b (by omega) (by omega), oS b (by omega)]
  have gG : ∀ b, b < n → ¬ b = 23 → g2 b = g b := fun b z y => by rw [B.g0 b (by omega) y, og b (by omega)]
  refine ⟨T2, g2, _, eA, ?_, ?_⟩
  · have se := X.s.e
    refine CX.mk (tS.mk ?_) (by rw [gG 1 (by omega) (by decide)]; exact X.t) X.N2 X.p0 ?_
    · rw [tT 22 (by omega) (by decide), tT 1 (by omega) (by decide), tT 28 (by omega) (by decide)]; exact se
    · have e22 := gG 22 (by omega) (by decide)
      exact CT.mk (by rw [e22]; exact X.c.N) (by rw [e22]; exact X.c.s) (by rw [e22]; exact X.c.p) (by rw [e22]; exact X.c.k) (by rw [e22]; exact X.c.v)
  · have r1 : rr (mx_t S n 20 (m + 1)) (mx_y (mx_z g n) 28 0 n 0 (m + 1)) (n + 1) 23 σ := D.r.gg (by rw [og 23 (by omega)]) (by rw [og 23 (by omega)]) (og _ (by omega)) (og _ (by omega)) (og _ (by omega)) (oS _ (by omega)) (fun b _ z => oS b (by omega)) (fun b _ z => og b (by omega)) (by omega)
    refine DS.mk (DF.mk (fun b z y => by rw [tT b (by omega) y]; exact D.f.S0 b z y) (fun k z => ?_) (fun b z y => by rw [gG b (by omega) (by omega)]; exact D.f.g0 b z y) (by omega)) (rr_ad B r1 D.w na (by omega) (by decide) (by omega) i0 i1 i2 (by omega) mx_t_2 (by rw [i3]; exact mx_t_1) (fun j j0 j1 => ?_)) (na.vw D.w (by omega)) (by rw [na.z]; omega)
    · have S4 := B.S4 k (by rw [c3]; omega)
      have S4 : T2 27 k = mx_t S n 20 (m + 1) 27 k := S4
      rw [S4, oS 27 (by omega)]; exact D.f.S4 k z
    · rw [i3] at j1
      rw [i4 j j0 j1, mx_y_i (by omega) (by omega), mx_z_a (by omega)]
      have ej : (0 : Int) + (j - 0) = ((j.toNat : Nat) : Int) := by omega
      rw [ej]; exact mk j.toNat (by omega)
end
