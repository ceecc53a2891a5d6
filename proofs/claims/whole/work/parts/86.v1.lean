/-! The program's valleys: reading -/
/-- the shape of a valley's cells -/
def sv (S : mx_H) (v : Int) : Prop := (S v (-2) = 8 ∧ S v 0 = v + 1 ∧ S v 1 = v + 2 ∧ S v 2 = v + 3 ∧ S v 6 = v + 4 ∧ S (v + 1) (-2) = 20 ∧ S (v + 1) (-1) = 3 ∧ S (v + 2) (-2) = 20 ∧ S (v + 2) (-1) = 3 ∧ S (v + 3) (-2) = 20 ∧ S (v + 3) (-1) = 24 ∧ S (v + 4) (-2) = 22 ∧ S (v + 4) (-1) = 6)
theorem sv.mk {S : mx_H} {v : Int} (x0 : S v (-2) = 8 ∧ S v 0 = v + 1 ∧ S v 1 = v + 2 ∧ S v 2 = v + 3 ∧ S v 6 = v + 4 ∧ S (v + 1) (-2) = 20 ∧ S (v + 1) (-1) = 3 ∧ S (v + 2) (-2) = 20 ∧ S (v + 2) (-1) = 3 ∧ S (v + 3) (-2) = 20 ∧ S (v + 3) (-1) = 24 ∧ S (v + 4) (-2) = 22 ∧ S (v + 4) (-1) = 6) : sv S v := x0
theorem sv.e {S : mx_H} {v : Int} (q : sv S v) : S v (-2) = 8 ∧ S v 0 = v + 1 ∧ S v 1 = v + 2 ∧ S v 2 = v + 3 ∧ S v 6 = v + 4 ∧ S (v + 1) (-2) = 20 ∧ S (v + 1) (-1) = 3 ∧ S (v + 2) (-2) = 20 ∧ S (v + 2) (-1) = 3 ∧ S (v + 3) (-2) = 20 ∧ S (v + 3) (-1) = 24 ∧ S (v + 4) (-2) = 22 ∧ S (v + 4) (-1) = 6 := q
/-- the valley at v tells σ -/
def rr (S h : mx_H) (N v : Int) (σ : Int → Int) : Prop := (h v 3 = σ 0) ∧ (h v 4 = σ 1) ∧ (∀ e, 0 ≤ e → e ≤ 2 → h (v + 1) e = σ (3 + 2 * e)) ∧ (∀ e, 0 ≤ e → e ≤ 2 → h (v + 2) e = σ (3 + 2 * e + 1)) ∧ (∀ l k, 0 ≤ l → l < σ 1 → 0 ≤ k → k ≤ 3 → h (v + 3) (l * 4 + k) = ln σ l k) ∧ (∀ i, 0 ≤ i → i < σ 0 → nr S h N (S (v + 4) i) σ i)
theorem rr.mk {S h : mx_H} {N v : Int} {σ : Int → Int} (x0 : h v 3 = σ 0) (x1 : h v 4 = σ 1) (x2 : ∀ e, 0 ≤ e → e ≤ 2 → h (v + 1) e = σ (3 + 2 * e)) (x3 : ∀ e, 0 ≤ e → e ≤ 2 → h (v + 2) e = σ (3 + 2 * e + 1)) (x4 : ∀ l k, 0 ≤ l → l < σ 1 → 0 ≤ k → k ≤ 3 → h (v + 3) (l * 4 + k) = ln σ l k) (x5 : ∀ i, 0 ≤ i → i < σ 0 → nr S h N (S (v + 4) i) σ i) : rr S h N v σ := (And.intro x0 (And.intro x1 (And.intro x2 (And.intro x3 (And.intro x4 x5)))))
theorem rr.c {S h : mx_H} {N v : Int} {σ : Int → Int} (q : rr S h N v σ) : h v 3 = σ 0 := (And.left q)
theorem rr.L {S h : mx_H} {N v : Int} {σ : Int → Int} (q : rr S h N v σ) : h v 4 = σ 1 := (And.left (And.right q))
theorem rr.lo {S h : mx_H} {N v : Int} {σ : Int → Int} (q : rr S h N v σ) : ∀ e, 0 ≤ e → e ≤ 2 → h (v + 1) e = σ (3 + 2 * e) := (And.left (And.right (And.right q)))
theorem rr.hi {S h : mx_H} {N v : Int} {σ : Int → Int} (q : rr S h N v σ) : ∀ e, 0 ≤ e → e ≤ 2 → h (v + 2) e = σ (3 + 2 * e + 1) := (And.left (And.right (And.right (And.right q))))
theorem rr.l {S h : mx_H} {N v : Int} {σ : Int → Int} (q : rr S h N v σ) : ∀ l k, 0 ≤ l → l < σ 1 → 0 ≤ k → k ≤ 3 → h (v + 3) (l * 4 + k) = ln σ l k := (And.left (And.right (And.right (And.right (And.right q)))))
theorem rr.n {S h : mx_H} {N v : Int} {σ : Int → Int} (q : rr S h N v σ) : ∀ i, 0 ≤ i → i < σ 0 → nr S h N (S (v + 4) i) σ i := (And.right (And.right (And.right (And.right (And.right q)))))
theorem rr.l0 {S h : mx_H} {N v : Int} {σ : Int → Int} (r : rr S h N v σ) {l : Int} (h0 : 0 ≤ l) (h1 : l < σ 1) : h (v + 3) (l * 4) = ln σ l 0 := by
  have := r.l l 0 h0 h1 (by omega) (by omega)
  rw [Int.add_zero] at this; exact this
section
variable {d : Nat} {S h : mx_H} {n N v : Int} {σ : Int → Int}
theorem c_noteAt (s : sv S v) (r : rr S h N v σ) (w : vw σ) {i : Int} : mx_M d 90 [(2, v), (0, i)] S h n = some (some (2, if 0 ≤ i ∧ i < σ 0 then S (v + 4) i else -1), S, h, n) := by
  have hN := w.N
  by_cases q : 0 ≤ i ∧ i < σ 0
  · rw [if_pos q]
    simp (disch := omega) only [mx_vt_h, mx_vt_m, mx_cmp_0, mx_cmp_1, mx_cmp_2, mx_cmp_3, mx_cmp_4, mx_u_s, mx_u_a, mx_u_k, mx_z_a, mx_z_s, mx_t_a, mx_t_2, mx_t_1, mx_t_0, mx_gd_T, mx_gd_t, mx_br_T, mx_br_F, mx_br_t, mx_br_f, mx_br_n, mx_cl_T, mx_cl_t, mx_re_T, mx_re_t, mx_rt_v, mx_rt_0, mx_cu_t, mx_w_id, mx_l_id, mx_b_0, mx_b_1, mx_b_r, mx_nl_0, mx_nl_1, mx_nl_2, mx_nl_n, mx_nl_l, mx_sw_n, mx_sw_h, mx_sw_m, Int.reduceLE, Int.reduceLT, Int.reduceEq, Int.reduceAdd, Int.reduceSub, Int.reduceMul, Int.reduceNeg, Int.reduceToNat, and_self, true_and, and_true, false_and, and_false, true_or, or_true, false_or, or_false, not_true_eq_false, not_false_eq_true, eq_self, rw_X10_noteAt, s.e, r.c]
  · rw [if_neg q]
    (repeat' (first | (simp (disch := omega) only [mx_vt_h, mx_vt_m, mx_cmp_0, mx_cmp_1, mx_cmp_2, mx_cmp_3, mx_cmp_4, mx_u_s, mx_u_a, mx_u_k, mx_z_a, mx_z_s, mx_t_a, mx_t_2, mx_t_1, mx_t_0, mx_gd_T, mx_gd_t, mx_br_T, mx_br_F, mx_br_t, mx_br_f, mx_br_n, mx_cl_T, mx_cl_t, mx_re_T, mx_re_t, mx_rt_v, mx_rt_0, mx_cu_t, mx_w_id, mx_l_id, mx_b_0, mx_b_1, mx_b_r, mx_nl_0, mx_nl_1, mx_nl_2, mx_nl_n, mx_nl_l, mx_sw_n, mx_sw_h, mx_sw_m, Int.reduceLE, Int.reduceLT, Int.reduceEq, Int.reduceAdd, Int.reduceSub, Int.reduceMul, Int.reduceNeg, Int.reduceToNat, and_self, true_and, and_true, false_and, and_false, true_or, or_true, false_or, or_false, not_true_eq_false, not_false_eq_true, eq_self, rw_X10_noteAt, s.e, r.c]) | (refine mx_br_c (fun _ => ?_) (fun _ => ?_)) | (refine mx_W_b (fun _ => ?_) (fun _ => ?_))))
theorem c_noteAt1 (s : sv S v) (r : rr S h N v σ) (w : vw σ) {i : Int} (h0 : 0 ≤ i) (h1 : i < σ 0) : mx_M d 90 [(2, v), (0, i)] S h n = some (some (2, S (v + 4) i), S, h, n) := by
  rw [c_noteAt s r w, if_pos ⟨h0, h1⟩]
theorem c_worthOf (s : sv S v) (r : rr S h N v σ) (w : vw σ) {i B : Int} (h0 : 0 ≤ i) (h1 : i < σ 0) (b : bb σ (h B)) (B0 : S B (-2) = 20) (B1 : S B (-1) = 3) : mx_M (d + 3) 95 [(2, v), (0, i), (2, B)] S h n = some (some (0, wn σ (h B) i), S, h, n) := by
  have hN := w.N
  have hr := r.n i h0 h1
  have hw := w.n i h0 h1
  have hk := hw.k
  have he := hw.e
  have hb := b i h0 h1
  have hp := hr.p0
  simp (disch := omega) only [mx_vt_h, mx_vt_m, mx_cmp_0, mx_cmp_1, mx_cmp_2, mx_cmp_3, mx_cmp_4, mx_u_s, mx_u_a, mx_u_k, mx_z_a, mx_z_s, mx_t_a, mx_t_2, mx_t_1, mx_t_0, mx_gd_T, mx_gd_t, mx_br_T, mx_br_F, mx_br_t, mx_br_f, mx_br_n, mx_cl_T, mx_cl_t, mx_re_T, mx_re_t, mx_rt_v, mx_rt_0, mx_cu_t, mx_w_id, mx_l_id, mx_b_0, mx_b_1, mx_b_r, mx_nl_0, mx_nl_1, mx_nl_2, mx_nl_n, mx_nl_l, mx_sw_n, mx_sw_h, mx_sw_m, Int.reduceLE, Int.reduceLT, Int.reduceEq, Int.reduceAdd, Int.reduceSub, Int.reduceMul, Int.reduceNeg, Int.reduceToNat, and_self, true_and, and_true, false_and, and_false, true_or, or_true, false_or, or_false, not_true_eq_false, not_false_eq_true, eq_self, rw_X10_worthOf, s.e, c_noteAt1 s r w h0 h1, hr.e, hr.t, B0, B1]
  rw [← hr.t, c_worthV hr hw hb.1 hb.2 rfl]
  simp (disch := omega) only [mx_vt_h, mx_vt_m, mx_cmp_0, mx_cmp_1, mx_cmp_2, mx_cmp_3, mx_cmp_4, mx_u_s, mx_u_a, mx_u_k, mx_z_a, mx_z_s, mx_t_a, mx_t_2, mx_t_1, mx_t_0, mx_gd_T, mx_gd_t, mx_br_T, mx_br_F, mx_br_t, mx_br_f, mx_br_n, mx_cl_T, mx_cl_t, mx_re_T, mx_re_t, mx_rt_v, mx_rt_0, mx_cu_t, mx_w_id, mx_l_id, mx_b_0, mx_b_1, mx_b_r, mx_nl_0, mx_nl_1, mx_nl_2, mx_nl_n, mx_nl_l, mx_sw_n, mx_sw_h, mx_sw_m, Int.reduceLE, Int.reduceLT, Int.reduceEq, Int.reduceAdd, Int.reduceSub, Int.reduceMul, Int.reduceNeg, Int.reduceToNat, and_self, true_and, and_true, false_and, and_false, true_or, or_true, false_or, or_false, not_true_eq_false, not_false_eq_true, eq_self, rw_X10_worthOf]
  rfl
theorem c_sortHolds {s x y z : Int} (s0 : 0 ≤ s) (s1 : s ≤ 3) (x0 : -100000000 ≤ x) (x1 : x ≤ 100000000) (y0 : -100000000 ≤ y) (y1 : y ≤ 100000000) (hz : s = 3 → 1 ≤ z) : mx_M d 153 [(0, s), (0, x), (0, y), (0, z)] S h n = some (some (0, mx_b (if s = 0 then x = y else if s = 1 then y < x else if s = 2 then x + y = z else Int.tmod x z = 0)), S, h, n) := by
  have : s = 0 ∨ s = 1 ∨ s = 2 ∨ s = 3 := by omega
  rcases this with q | q | q | q <;> subst q
  · rw [if_pos rfl]
    (repeat' (first | (simp (disch := omega) only [mx_vt_h, mx_vt_m, mx_cmp_0, mx_cmp_1, mx_cmp_2, mx_cmp_3, mx_cmp_4, mx_u_s, mx_u_a, mx_u_k, mx_z_a, mx_z_s, mx_t_a, mx_t_2, mx_t_1, mx_t_0, mx_gd_T, mx_gd_t, mx_br_T, mx_br_F, mx_br_t, mx_br_f, mx_br_n, mx_cl_T, mx_cl_t, mx_re_T, mx_re_t, mx_rt_v, mx_rt_0, mx_cu_t, mx_w_id, mx_l_id, mx_b_0, mx_b_1, mx_b_r, mx_nl_0, mx_nl_1, mx_nl_2, mx_nl_n, mx_nl_l, mx_sw_n, mx_sw_h, mx_sw_m, Int.reduceLE, Int.reduceLT, Int.reduceEq, Int.reduceAdd, Int.reduceSub, Int.reduceMul, Int.reduceNeg, Int.reduceToNat, and_self, true_and, and_true, false_and, and_false, true_or, or_true, false_or, or_false, not_true_eq_false, not_false_eq_true, eq_self, rw_X11_sortHolds]) | (refine mx_br_c (fun _ => ?_) (fun _ => ?_)) | (refine mx_W_b (fun _ => ?_) (fun _ => ?_))))
    all_goals (first | rfl | (rw [mx_b_t (by first | assumption | omega)]) | (rw [mx_b_f (by first | assumption | omega)]))
  · rw [if_neg (by decide), if_pos rfl]
    (repeat' (first | (simp (disch := omega) only [mx_vt_h, mx_vt_m, mx_cmp_0, mx_cmp_1, mx_cmp_2, mx_cmp_3, mx_cmp_4, mx_u_s, mx_u_a, mx_u_k, mx_z_a, mx_z_s, mx_t_a, mx_t_2, mx_t_1, mx_t_0, mx_gd_T, mx_gd_t, mx_br_T, mx_br_F, mx_br_t, mx_br_f, mx_br_n, mx_cl_T, mx_cl_t, mx_re_T, mx_re_t, mx_rt_v, mx_rt_0, mx_cu_t, mx_w_id, mx_l_id, mx_b_0, mx_b_1, mx_b_r, mx_nl_0, mx_nl_1, mx_nl_2, mx_nl_n, mx_nl_l, mx_sw_n, mx_sw_h, mx_sw_m, Int.reduceLE, Int.reduceLT, Int.reduceEq, Int.reduceAdd, Int.reduceSub, Int.reduceMul, Int.reduceNeg, Int.reduceToNat, and_self, true_and, and_true, false_and, and_false, true_or, or_true, false_or, or_false, not_true_eq_false, not_false_eq_true, eq_self, rw_X11_sortHolds]) | (refine mx_br_c (fun _ => ?_) (fun _ => ?_)) | (refine mx_W_b (fun _ => ?_) (fun _ => ?_))))
    all_goals (first | rfl | (rw [mx_b_t (by first | assumption | omega)]) | (rw [mx_b_f (by first | assumption | omega)]))
  · rw [if_neg (by decide), if_neg (by decide), if_pos rfl]
    (repeat' (first | (simp (disch := omega) only [mx_vt_h, mx_vt_m, mx_cmp_0, mx_cmp_1, mx_cmp_2, mx_cmp_3, mx_cmp_4, mx_u_s, mx_u_a, mx_u_k, mx_z_a, mx_z_s, mx_t_a, mx_t_2, mx_t_1, mx_t_0, mx_gd_T, mx_gd_t, mx_br_T, mx_br_F, mx_br_t, mx_br_f, mx_br_n, mx_cl_T, mx_cl_t, mx_re_T, mx_re_t, mx_rt_v, mx_rt_0, mx_cu_t, mx_w_id, mx_l_id, mx_b_0, mx_b_1, mx_b_r, mx_nl_0, mx_nl_1, mx_nl_2, mx_nl_n, mx_nl_l, mx_sw_n, mx_sw_h, mx_sw_m, Int.reduceLE, Int.reduceLT, Int.reduceEq, Int.reduceAdd, Int.reduceSub, Int.reduceMul, Int.reduceNeg, Int.reduceToNat, and_self, true_and, and_true, false_and, and_false, true_or, or_true, false_or, or_false, not_true_eq_false, not_false_eq_true, eq_self, rw_X11_sortHolds]) | (refine mx_br_c (fun _ => ?_) (fun _ => ?_)) | (refine mx_W_b (fun _ => ?_) (fun _ => ?_))))
    all_goals (first | rfl | (rw [mx_b_t (by first | assumption | omega)]) | (rw [mx_b_f (by first | assumption | omega)]))
  · rw [if_neg (by decide), if_neg (by decide), if_neg (by decide)]
    (repeat' (first | (simp (disch := omega) only [mx_vt_h, mx_vt_m, mx_cmp_0, mx_cmp_1, mx_cmp_2, mx_cmp_3, mx_cmp_4, mx_u_s, mx_u_a, mx_u_k, mx_z_a, mx_z_s, mx_t_a, mx_t_2, mx_t_1, mx_t_0, mx_gd_T, mx_gd_t, mx_br_T, mx_br_F, mx_br_t, mx_br_f, mx_br_n, mx_cl_T, mx_cl_t, mx_re_T, mx_re_t, mx_rt_v, mx_rt_0, mx_cu_t, mx_w_id, mx_l_id, mx_b_0, mx_b_1, mx_b_r, mx_nl_0, mx_nl_1, mx_nl_2, mx_nl_n, mx_nl_l, mx_sw_n, mx_sw_h, mx_sw_m, Int.reduceLE, Int.reduceLT, Int.reduceEq, Int.reduceAdd, Int.reduceSub, Int.reduceMul, Int.reduceNeg, Int.reduceToNat, and_self, true_and, and_true, false_and, and_false, true_or, or_true, false_or, or_false, not_true_eq_false, not_false_eq_true, eq_self, rw_X11_sortHolds]) | (refine mx_br_c (fun _ => ?_) (fun _ => ?_)) | (refine mx_W_b (fun _ => ?_) (fun _ => ?_))))
    all_goals (first | rfl | (rw [mx_b_t (by first | assumption | omega)]) | (rw [mx_b_f (by first | assumption | omega)]))
theorem c_lineHolds (s : sv S v) (r : rr S h N v σ) (w : vw σ) {l B : Int} (h0 : 0 ≤ l) (h1 : l < σ 1) (b : bb σ (h B)) (B0 : S B (-2) = 20) (B1 : S B (-1) = 3) : mx_M (d + 4) 94 [(2, v), (0, l), (2, B)] S h n = some (some (0, mx_b (hl σ (h B) l)), S, h, n) := by
  have hL := w.L
  have lw := w.l l h0 h1
  have ls := lw.s
  have lx := lw.x
  have ly := lw.y
  have lz := lw.z
  have r1 := wn_r w b lx.1 lx.2
  have r2 := wn_r w b ly.1 ly.2
  have cs := fun (y : Int) (y0 : -100000000 ≤ y) (y1 : y ≤ 100000000) (z : Int) (hz : ln σ l 0 = 3 → 1 ≤ z) => c_sortHolds (d := d + 3) (S := S) (h := h) (n := n) (x := wn σ (h B) (ln σ l 1)) (y := y) (z := z) ls.1 ls.2 (by omega) (by omega) y0 y1 hz
  have e0 := r.l0 h0 h1
  have e1 := r.l l 1 h0 h1 (by omega) (by omega)
  have e2 := r.l l 2 h0 h1 (by omega) (by omega)
  have e3 := r.l l 3 h0 h1 (by omega) (by omega)
  unfold hl
  by_cases s3 : ln σ l 0 = 3
  · rw [if_neg (by omega), if_neg (by omega), if_neg (by omega)]
    have cs := cs 0 (by omega) (by omega) (ln σ l 3) (fun _ => lw.z3 s3)
    rw [if_neg (by omega), if_neg (by omega), if_neg (by omega), s3] at cs
    simp (disch := omega) only [mx_vt_h, mx_vt_m, mx_cmp_0, mx_cmp_1, mx_cmp_2, mx_cmp_3, mx_cmp_4, mx_u_s, mx_u_a, mx_u_k, mx_z_a, mx_z_s, mx_t_a, mx_t_2, mx_t_1, mx_t_0, mx_gd_T, mx_gd_t, mx_br_T, mx_br_F, mx_br_t, mx_br_f, mx_br_n, mx_cl_T, mx_cl_t, mx_re_T, mx_re_t, mx_rt_v, mx_rt_0, mx_cu_t, mx_w_id, mx_l_id, mx_b_0, mx_b_1, mx_b_r, mx_nl_0, mx_nl_1, mx_nl_2, mx_nl_n, mx_nl_l, mx_sw_n, mx_sw_h, mx_sw_m, Int.reduceLE, Int.reduceLT, Int.reduceEq, Int.reduceAdd, Int.reduceSub, Int.reduceMul, Int.reduceNeg, Int.reduceToNat, and_self, true_and, and_true, false_and, and_false, true_or, or_true, false_or, or_false, not_true_eq_false, not_false_eq_true, eq_self, rw_X10_lineHolds, s.e, e0, e1, e2, e3, c_worthOf s r w lx.1 lx.2 b B0 B1, s3, cs]
  · have cs := cs (wn σ (h B) (ln σ l 2)) (by omega) (by omega)
    by_cases s2 : ln σ l 0 = 2
    · have cs := cs (wn σ (h B) (ln σ l 3)) (by omega)
      have lz2 := lw.z2 s2
      rw [if_neg (by omega), if_neg (by omega), if_pos s2]
      rw [if_neg (by omega), if_neg (by omega), if_pos s2, s2] at cs
      simp (disch := omega) only [mx_vt_h, mx_vt_m, mx_cmp_0, mx_cmp_1, mx_cmp_2, mx_cmp_3, mx_cmp_4, mx_u_s, mx_u_a, mx_u_k, mx_z_a, mx_z_s, mx_t_a, mx_t_2, mx_t_1, mx_t_0, mx_gd_T, mx_gd_t, mx_br_T, mx_br_F, mx_br_t, mx_br_f, mx_br_n, mx_cl_T, mx_cl_t, mx_re_T, mx_re_t, mx_rt_v, mx_rt_0, mx_cu_t, mx_w_id, mx_l_id, mx_b_0, mx_b_1, mx_b_r, mx_nl_0, mx_nl_1, mx_nl_2, mx_nl_n, mx_nl_l, mx_sw_n, mx_sw_h, mx_sw_m, Int.reduceLE, Int.reduceLT, Int.reduceEq, Int.reduceAdd, Int.reduceSub, Int.reduceMul, Int.reduceNeg, Int.reduceToNat, and_self, true_and, and_true, false_and, and_false, true_or, or_true, false_or, or_false, not_true_eq_false, not_false_eq_true, eq_self, rw_X10_lineHolds, s.e, e0, e1, e2, e3, c_worthOf s r w lx.1 lx.2 b B0 B1, c_worthOf s r w ly.1 ly.2 b B0 B1, c_worthOf s r w lz.1 lz2 b B0 B1, s2, cs]
    · have cs := cs (ln σ l 3) (by omega)
      simp only [if_neg s2] at cs ⊢
      by_cases s1 : ln σ l 0 = 1
      · simp only [if_pos s1, if_neg (show ¬ ln σ l 0 = 0 by omega)] at cs ⊢
        rw [s1] at cs
        simp (disch := omega) only [mx_vt_h, mx_vt_m, mx_cmp_0, mx_cmp_1, mx_cmp_2, mx_cmp_3, mx_cmp_4, mx_u_s, mx_u_a, mx_u_k, mx_z_a, mx_z_s, mx_t_a, mx_t_2, mx_t_1, mx_t_0, mx_gd_T, mx_gd_t, mx_br_T, mx_br_F, mx_br_t, mx_br_f, mx_br_n, mx_cl_T, mx_cl_t, mx_re_T, mx_re_t, mx_rt_v, mx_rt_0, mx_cu_t, mx_w_id, mx_l_id, mx_b_0, mx_b_1, mx_b_r, mx_nl_0, mx_nl_1, mx_nl_2, mx_nl_n, mx_nl_l, mx_sw_n, mx_sw_h, mx_sw_m, Int.reduceLE, Int.reduceLT, Int.reduceEq, Int.reduceAdd, Int.reduceSub, Int.reduceMul, Int.reduceNeg, Int.reduceToNat, and_self, true_and, and_true, false_and, and_false, true_or, or_true, false_or, or_false, not_true_eq_false, not_false_eq_true, eq_self, rw_X10_lineHolds, s.e, e0, e1, e2, e3, c_worthOf s r w lx.1 lx.2 b B0 B1, c_worthOf s r w ly.1 ly.2 b B0 B1, s1, cs]
      · have s0 : ln σ l 0 = 0 := by omega
        simp only [if_pos s0] at cs ⊢
        rw [s0] at cs
        simp (disch := omega) only [mx_vt_h, mx_vt_m, mx_cmp_0, mx_cmp_1, mx_cmp_2, mx_cmp_3, mx_cmp_4, mx_u_s, mx_u_a, mx_u_k, mx_z_a, mx_z_s, mx_t_a, mx_t_2, mx_t_1, mx_t_0, mx_gd_T, mx_gd_t, mx_br_T, mx_br_F, mx_br_t, mx_br_f, mx_br_n, mx_cl_T, mx_cl_t, mx_re_T, mx_re_t, mx_rt_v, mx_rt_0, mx_cu_t, mx_w_id, mx_l_id, mx_b_0, mx_b_1, mx_b_r, mx_nl_0, mx_nl_1, mx_nl_2, mx_nl_n, mx_nl_l, mx_sw_n, mx_sw_h, mx_sw_m, Int.reduceLE, Int.reduceLT, Int.reduceEq, Int.reduceAdd, Int.reduceSub, Int.reduceMul, Int.reduceNeg, Int.reduceToNat, and_self, true_and, and_true, false_and, and_false, true_or, or_true, false_or, or_false, not_true_eq_false, not_false_eq_true, eq_self, rw_X10_lineHolds, s.e, e0, e1, e2, e3, c_worthOf s r w lx.1 lx.2 b B0 B1, c_worthOf s r w ly.1 ly.2 b B0 B1, s0, cs]
end
