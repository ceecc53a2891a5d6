/-! Making notes -/
/-- a stretch of a row filled by a function -/
def fo (h : mx_H) (b o : Int) (f : Int → Int) (k : Int) : mx_H := fun a j => if a = b ∧ o ≤ j ∧ j < o + k then f (j - o) else h a j
section
variable {h : mx_H} {b o k a j : Int} {f : Int → Int}
theorem fo_o (q : ¬ a = b) : fo h b o f k a = h a := by funext j; unfold fo; rw [if_neg (fun z => q z.1)]
theorem fo_i (j0 : o ≤ j) (j1 : j < o + k) : fo h b o f k b j = f (j - o) := by unfold fo; rw [if_pos ⟨rfl, j0, j1⟩]
theorem fo_e (q : j < o ∨ o + k ≤ j) : fo h b o f k b j = h b j := by unfold fo; rw [if_neg (by omega)]
theorem fo_0 : fo h b o f 0 = h := by funext a j; unfold fo; rw [if_neg (by omega)]
theorem fo_s (k0 : 0 ≤ k) : mx_u (fo h b o f k) b (o + k) (f k) = fo h b o f (k + 1) := by
  funext a j; unfold mx_u fo
  by_cases q : a = b
  · by_cases z : j = o + k
    · rw [if_pos ⟨q, z⟩, if_pos (by omega)]
      have : j - o = k := by omega
      rw [this]
    · rw [if_neg (fun u => z u.2)]
      by_cases w : o ≤ j ∧ j < o + k
      · rw [if_pos ⟨q, w⟩, if_pos (by omega)]
      · rw [if_neg (fun u => w u.2), if_neg (by omega)]
  · rw [if_neg (fun u => q u.1), if_neg (fun u => q u.1), if_neg (fun u => q u.1)]
end
/-- a note has been added to the valley at v -/
def ad (S h : mx_H) (n v k e a mk : Int) (T g : mx_H) : Prop := (∀ b, ¬ b = n → ¬ b = v + 4 → T b = S b) ∧ (∀ j, ¬ j = h v 3 → T (v + 4) j = S (v + 4) j) ∧ (T (v + 4) (h v 3) = n) ∧ (T n (-2) = k + 1) ∧ (T n 2 = mk) ∧ (∀ b, ¬ b = n → ¬ b = v → g b = h b) ∧ (∀ j, ¬ j = 3 → ¬ j = 5 → g v j = h v j) ∧ (g v 3 = h v 3 + 1) ∧ (g v 5 = mx_w (h v 5 + 1)) ∧ (g n 0 = h v 3) ∧ (g n 1 = a) ∧ (g n 3 = e)
theorem ad.mk {S h : mx_H} {n v k e a mk : Int} {T g : mx_H} (x0 : ∀ b, ¬ b = n → ¬ b = v + 4 → T b = S b) (x1 : ∀ j, ¬ j = h v 3 → T (v + 4) j = S (v + 4) j) (x2 : T (v + 4) (h v 3) = n) (x3 : T n (-2) = k + 1) (x4 : T n 2 = mk) (x5 : ∀ b, ¬ b = n → ¬ b = v → g b = h b) (x6 : ∀ j, ¬ j = 3 → ¬ j = 5 → g v j = h v j) (x7 : g v 3 = h v 3 + 1) (x8 : g v 5 = mx_w (h v 5 + 1)) (x9 : g n 0 = h v 3) (x10 : g n 1 = a) (x11 : g n 3 = e) : ad S h n v k e a mk T g := (And.intro x0 (And.intro x1 (And.intro x2 (And.intro x3 (And.intro x4 (And.intro x5 (And.intro x6 (And.intro x7 (And.intro x8 (And.intro x9 (And.intro x10 x11)))))))))))
theorem ad.S0 {S h : mx_H} {n v k e a mk : Int} {T g : mx_H} (q : ad S h n v k e a mk T g) : ∀ b, ¬ b = n → ¬ b = v + 4 → T b = S b := (And.left q)
theorem ad.S4 {S h : mx_H} {n v k e a mk : Int} {T g : mx_H} (q : ad S h n v k e a mk T g) : ∀ j, ¬ j = h v 3 → T (v + 4) j = S (v + 4) j := (And.left (And.right q))
theorem ad.Sc {S h : mx_H} {n v k e a mk : Int} {T g : mx_H} (q : ad S h n v k e a mk T g) : T (v + 4) (h v 3) = n := (And.left (And.right (And.right q)))
theorem ad.St {S h : mx_H} {n v k e a mk : Int} {T g : mx_H} (q : ad S h n v k e a mk T g) : T n (-2) = k + 1 := (And.left (And.right (And.right (And.right q))))
theorem ad.Sm {S h : mx_H} {n v k e a mk : Int} {T g : mx_H} (q : ad S h n v k e a mk T g) : T n 2 = mk := (And.left (And.right (And.right (And.right (And.right q)))))
theorem ad.g0 {S h : mx_H} {n v k e a mk : Int} {T g : mx_H} (q : ad S h n v k e a mk T g) : ∀ b, ¬ b = n → ¬ b = v → g b = h b := (And.left (And.right (And.right (And.right (And.right (And.right q))))))
theorem ad.gv {S h : mx_H} {n v k e a mk : Int} {T g : mx_H} (q : ad S h n v k e a mk T g) : ∀ j, ¬ j = 3 → ¬ j = 5 → g v j = h v j := (And.left (And.right (And.right (And.right (And.right (And.right (And.right q)))))))
theorem ad.g3 {S h : mx_H} {n v k e a mk : Int} {T g : mx_H} (q : ad S h n v k e a mk T g) : g v 3 = h v 3 + 1 := (And.left (And.right (And.right (And.right (And.right (And.right (And.right (And.right q))))))))
theorem ad.g5 {S h : mx_H} {n v k e a mk : Int} {T g : mx_H} (q : ad S h n v k e a mk T g) : g v 5 = mx_w (h v 5 + 1) := (And.left (And.right (And.right (And.right (And.right (And.right (And.right (And.right (And.right q)))))))))
theorem ad.gn {S h : mx_H} {n v k e a mk : Int} {T g : mx_H} (q : ad S h n v k e a mk T g) : g n 0 = h v 3 := (And.left (And.right (And.right (And.right (And.right (And.right (And.right (And.right (And.right (And.right q))))))))))
theorem ad.ga {S h : mx_H} {n v k e a mk : Int} {T g : mx_H} (q : ad S h n v k e a mk T g) : g n 1 = a := (And.left (And.right (And.right (And.right (And.right (And.right (And.right (And.right (And.right (And.right (And.right q)))))))))))
theorem ad.ge {S h : mx_H} {n v k e a mk : Int} {T g : mx_H} (q : ad S h n v k e a mk T g) : g n 3 = e := (And.right (And.right (And.right (And.right (And.right (And.right (And.right (And.right (And.right (And.right (And.right q)))))))))))
section
variable {S h : mx_H} {n v : Int} {d : Nat}
theorem c_aN0 {e a mk : Int} (s : sv S v) (c0 : 0 ≤ h v 3 ∧ h v 3 ≤ 5) (n0 : 53 ≤ n) (v0 : 0 ≤ v ∧ v ≤ 40) : mx_M (d + 5) 91 [(2, v), (0, 0), (0, e), (0, a), (2, mk)] S h n = some (some (0, h v 3), mx_u (mx_u (mx_t S n (1) 0) n 2 mk) (v + 4) (h v 3) n, mx_u (mx_u (mx_u (mx_u (mx_u (mx_z h n) n 0 (h v 3)) n 3 e) n 1 a) v 3 (h v 3 + 1)) v 5 (mx_w (h v 5 + 1)), n + 1) := by
  have sve := s.e
  simp (disch := omega) only [mx_vt_h, mx_vt_m, mx_cmp_0, mx_cmp_1, mx_cmp_2, mx_cmp_3, mx_cmp_4, mx_u_s, mx_u_a, mx_u_k, mx_z_a, mx_z_s, mx_t_a, mx_t_2, mx_t_1, mx_t_0, mx_gd_T, mx_gd_t, mx_br_T, mx_br_F, mx_br_t, mx_br_f, mx_br_n, mx_cl_T, mx_cl_t, mx_re_T, mx_re_t, mx_rt_v, mx_rt_0, mx_cu_t, mx_w_id, mx_l_id, mx_b_0, mx_b_1, mx_b_r, mx_nl_0, mx_nl_1, mx_nl_2, mx_nl_n, mx_nl_l, mx_sw_n, mx_sw_h, mx_sw_m, Int.reduceLE, Int.reduceLT, Int.reduceEq, Int.reduceAdd, Int.reduceSub, Int.reduceMul, Int.reduceNeg, Int.reduceToNat, and_self, true_and, and_true, false_and, and_false, true_or, or_true, false_or, or_false, not_true_eq_false, not_false_eq_true, eq_self, rw_X10_addNote, rw_X10_addNote_1, sve, rw_X4_init]
theorem c_aN1 {e a mk : Int} (s : sv S v) (c0 : 0 ≤ h v 3 ∧ h v 3 ≤ 5) (n0 : 53 ≤ n) (v0 : 0 ≤ v ∧ v ≤ 40) : mx_M (d + 5) 91 [(2, v), (0, 1), (0, e), (0, a), (2, mk)] S h n = some (some (0, h v 3), mx_u (mx_u (mx_t S n (2) 0) n 2 mk) (v + 4) (h v 3) n, mx_u (mx_u (mx_u (mx_u (mx_u (mx_z h n) n 0 (h v 3)) n 3 e) n 1 a) v 3 (h v 3 + 1)) v 5 (mx_w (h v 5 + 1)), n + 1) := by
  have sve := s.e
  simp (disch := omega) only [mx_vt_h, mx_vt_m, mx_cmp_0, mx_cmp_1, mx_cmp_2, mx_cmp_3, mx_cmp_4, mx_u_s, mx_u_a, mx_u_k, mx_z_a, mx_z_s, mx_t_a, mx_t_2, mx_t_1, mx_t_0, mx_gd_T, mx_gd_t, mx_br_T, mx_br_F, mx_br_t, mx_br_f, mx_br_n, mx_cl_T, mx_cl_t, mx_re_T, mx_re_t, mx_rt_v, mx_rt_0, mx_cu_t, mx_w_id, mx_l_id, mx_b_0, mx_b_1, mx_b_r, mx_nl_0, mx_nl_1, mx_nl_2, mx_nl_n, mx_nl_l, mx_sw_n, mx_sw_h, mx_sw_m, Int.reduceLE, Int.reduceLT, Int.reduceEq, Int.reduceAdd, Int.reduceSub, Int.reduceMul, Int.reduceNeg, Int.reduceToNat, and_self, true_and, and_true, false_and, and_false, true_or, or_true, false_or, or_false, not_true_eq_false, not_false_eq_true, eq_self, rw_X10_addNote, rw_X10_addNote_1, sve, rw_X6_init, rw_X4_init]
theorem c_aN2 {e a mk : Int} (s : sv S v) (c0 : 0 ≤ h v 3 ∧ h v 3 ≤ 5) (n0 : 53 ≤ n) (v0 : 0 ≤ v ∧ v ≤ 40) : mx_M (d + 5) 91 [(2, v), (0, 2), (0, e), (0, a), (2, mk)] S h n = some (some (0, h v 3), mx_u (mx_u (mx_t S n (3) 0) n 2 mk) (v + 4) (h v 3) n, mx_u (mx_u (mx_u (mx_u (mx_u (mx_z h n) n 0 (h v 3)) n 3 e) n 1 a) v 3 (h v 3 + 1)) v 5 (mx_w (h v 5 + 1)), n + 1) := by
  have sve := s.e
  simp (disch := omega) only [mx_vt_h, mx_vt_m, mx_cmp_0, mx_cmp_1, mx_cmp_2, mx_cmp_3, mx_cmp_4, mx_u_s, mx_u_a, mx_u_k, mx_z_a, mx_z_s, mx_t_a, mx_t_2, mx_t_1, mx_t_0, mx_gd_T, mx_gd_t, mx_br_T, mx_br_F, mx_br_t, mx_br_f, mx_br_n, mx_cl_T, mx_cl_t, mx_re_T, mx_re_t, mx_rt_v, mx_rt_0, mx_cu_t, mx_w_id, mx_l_id, mx_b_0, mx_b_1, mx_b_r, mx_nl_0, mx_nl_1, mx_nl_2, mx_nl_n, mx_nl_l, mx_sw_n, mx_sw_h, mx_sw_m, Int.reduceLE, Int.reduceLT, Int.reduceEq, Int.reduceAdd, Int.reduceSub, Int.reduceMul, Int.reduceNeg, Int.reduceToNat, and_self, true_and, and_true, false_and, and_false, true_or, or_true, false_or, or_false, not_true_eq_false, not_false_eq_true, eq_self, rw_X10_addNote, rw_X10_addNote_1, sve, rw_X0_init, rw_X4_init]
theorem c_aN3 {e a mk : Int} (s : sv S v) (c0 : 0 ≤ h v 3 ∧ h v 3 ≤ 5) (n0 : 53 ≤ n) (v0 : 0 ≤ v ∧ v ≤ 40) : mx_M (d + 5) 91 [(2, v), (0, 3), (0, e), (0, a), (2, mk)] S h n = some (some (0, h v 3), mx_u (mx_u (mx_t S n (4) 0) n 2 mk) (v + 4) (h v 3) n, mx_u (mx_u (mx_u (mx_u (mx_u (mx_z h n) n 0 (h v 3)) n 3 e) n 1 a) v 3 (h v 3 + 1)) v 5 (mx_w (h v 5 + 1)), n + 1) := by
  have sve := s.e
  simp (disch := omega) only [mx_vt_h, mx_vt_m, mx_cmp_0, mx_cmp_1, mx_cmp_2, mx_cmp_3, mx_cmp_4, mx_u_s, mx_u_a, mx_u_k, mx_z_a, mx_z_s, mx_t_a, mx_t_2, mx_t_1, mx_t_0, mx_gd_T, mx_gd_t, mx_br_T, mx_br_F, mx_br_t, mx_br_f, mx_br_n, mx_cl_T, mx_cl_t, mx_re_T, mx_re_t, mx_rt_v, mx_rt_0, mx_cu_t, mx_w_id, mx_l_id, mx_b_0, mx_b_1, mx_b_r, mx_nl_0, mx_nl_1, mx_nl_2, mx_nl_n, mx_nl_l, mx_sw_n, mx_sw_h, mx_sw_m, Int.reduceLE, Int.reduceLT, Int.reduceEq, Int.reduceAdd, Int.reduceSub, Int.reduceMul, Int.reduceNeg, Int.reduceToNat, and_self, true_and, and_true, false_and, and_false, true_or, or_true, false_or, or_false, not_true_eq_false, not_false_eq_true, eq_self, rw_X10_addNote, rw_X10_addNote_1, sve, rw_X3_init, rw_X0_init, rw_X4_init]
theorem c_aN4 {e a mk : Int} (s : sv S v) (c0 : 0 ≤ h v 3 ∧ h v 3 ≤ 5) (n0 : 53 ≤ n) (v0 : 0 ≤ v ∧ v ≤ 40) : mx_M (d + 5) 91 [(2, v), (0, 4), (0, e), (0, a), (2, mk)] S h n = some (some (0, h v 3), mx_u (mx_u (mx_t S n (5) 0) n 2 mk) (v + 4) (h v 3) n, mx_u (mx_u (mx_u (mx_u (mx_u (mx_z h n) n 0 (h v 3)) n 3 e) n 1 a) v 3 (h v 3 + 1)) v 5 (mx_w (h v 5 + 1)), n + 1) := by
  have sve := s.e
  simp (disch := omega) only [mx_vt_h, mx_vt_m, mx_cmp_0, mx_cmp_1, mx_cmp_2, mx_cmp_3, mx_cmp_4, mx_u_s, mx_u_a, mx_u_k, mx_z_a, mx_z_s, mx_t_a, mx_t_2, mx_t_1, mx_t_0, mx_gd_T, mx_gd_t, mx_br_T, mx_br_F, mx_br_t, mx_br_f, mx_br_n, mx_cl_T, mx_cl_t, mx_re_T, mx_re_t, mx_rt_v, mx_rt_0, mx_cu_t, mx_w_id, mx_l_id, mx_b_0, mx_b_1, mx_b_r, mx_nl_0, mx_nl_1, mx_nl_2, mx_nl_n, mx_nl_l, mx_sw_n, mx_sw_h, mx_sw_m, Int.reduceLE, Int.reduceLT, Int.reduceEq, Int.reduceAdd, Int.reduceSub, Int.reduceMul, Int.reduceNeg, Int.reduceToNat, and_self, true_and, and_true, false_and, and_false, true_or, or_true, false_or, or_false, not_true_eq_false, not_false_eq_true, eq_self, rw_X10_addNote, rw_X10_addNote_1, sve, rw_X9_init, rw_X4_init]
theorem c_aN5 {e a mk : Int} (s : sv S v) (c0 : 0 ≤ h v 3 ∧ h v 3 ≤ 5) (n0 : 53 ≤ n) (v0 : 0 ≤ v ∧ v ≤ 40) : mx_M (d + 5) 91 [(2, v), (0, 5), (0, e), (0, a), (2, mk)] S h n = some (some (0, h v 3), mx_u (mx_u (mx_t S n (6) 0) n 2 mk) (v + 4) (h v 3) n, mx_u (mx_u (mx_u (mx_u (mx_u (mx_z h n) n 0 (h v 3)) n 3 e) n 1 a) v 3 (h v 3 + 1)) v 5 (mx_w (h v 5 + 1)), n + 1) := by
  have sve := s.e
  simp (disch := omega) only [mx_vt_h, mx_vt_m, mx_cmp_0, mx_cmp_1, mx_cmp_2, mx_cmp_3, mx_cmp_4, mx_u_s, mx_u_a, mx_u_k, mx_z_a, mx_z_s, mx_t_a, mx_t_2, mx_t_1, mx_t_0, mx_gd_T, mx_gd_t, mx_br_T, mx_br_F, mx_br_t, mx_br_f, mx_br_n, mx_cl_T, mx_cl_t, mx_re_T, mx_re_t, mx_rt_v, mx_rt_0, mx_cu_t, mx_w_id, mx_l_id, mx_b_0, mx_b_1, mx_b_r, mx_nl_0, mx_nl_1, mx_nl_2, mx_nl_n, mx_nl_l, mx_sw_n, mx_sw_h, mx_sw_m, Int.reduceLE, Int.reduceLT, Int.reduceEq, Int.reduceAdd, Int.reduceSub, Int.reduceMul, Int.reduceNeg, Int.reduceToNat, and_self, true_and, and_true, false_and, and_false, true_or, or_true, false_or, or_false, not_true_eq_false, not_false_eq_true, eq_self, rw_X10_addNote, rw_X10_addNote_1, sve, rw_X1_init, rw_X6_init, rw_X4_init]
theorem c_addNote {k e a mk : Int} (s : sv S v) (c0 : 0 ≤ h v 3 ∧ h v 3 ≤ 5) (k0 : 0 ≤ k ∧ k ≤ 5) (n0 : 53 ≤ n) (v0 : 0 ≤ v ∧ v ≤ 40) : ∃ T g, mx_M (d + 5) 91 [(2, v), (0, k), (0, e), (0, a), (2, mk)] S h n = some (some (0, h v 3), T, g, n + 1) ∧ ad S h n v k e a mk T g := by
  refine ⟨mx_u (mx_u (mx_t S n (k + 1) 0) n 2 mk) (v + 4) (h v 3) n, mx_u (mx_u (mx_u (mx_u (mx_u (mx_z h n) n 0 (h v 3)) n 3 e) n 1 a) v 3 (h v 3 + 1)) v 5 (mx_w (h v 5 + 1)), ?_, ?_⟩
  rotate_left 1
  · refine ad.mk ?_ ?_ ?_ ?_ ?_ ?_ ?_ ?_ ?_ ?_ ?_ ?_
    · intro b b0 b1; simp (disch := omega) only [mx_u_a, mx_t_a]
    · intro j j0; simp (disch := omega) only [mx_u_a, mx_u_k, mx_t_a]
    · simp (disch := omega) only [mx_u_s]
    · simp (disch := omega) only [mx_u_a, mx_u_k, mx_t_2]
    · simp (disch := omega) only [mx_u_a, mx_u_s]
    · intro b b0 b1; simp (disch := omega) only [mx_u_a, mx_z_a]
    · intro j j0 j1; simp (disch := omega) only [mx_u_a, mx_u_k, mx_z_a]
    · simp (disch := omega) only [mx_u_k, mx_u_s]
    · simp (disch := omega) only [mx_u_s]
    · simp (disch := omega) only [mx_u_a, mx_u_k, mx_u_s]
    · simp (disch := omega) only [mx_u_a, mx_u_s]
    · simp (disch := omega) only [mx_u_a, mx_u_k, mx_u_s]
  · rcases k6 k0 with q | q | q | q | q | q <;> subst q
    · exact c_aN0 s c0 n0 v0
    · exact c_aN1 s c0 n0 v0
    · exact c_aN2 s c0 n0 v0
    · exact c_aN3 s c0 n0 v0
    · exact c_aN4 s c0 n0 v0
    · exact c_aN5 s c0 n0 v0
end
/-- the note is told anew where its numbers stay -/
theorem nr_t {S h : mx_H} {N p i : Int} {σ τ : Int → Int} (r : nr S h N p σ i) (w : nw σ i) (e : ∀ k, 0 ≤ k → k ≤ 9 → it τ i k = it σ i k) : nr S h N p τ i := by
  have hn := w.n
  refine nr.mk (by rw [e 0 (by decide) (by decide)]; exact r.t) r.n (by rw [e 2 (by decide) (by decide)]; exact r.a) (by rw [e 1 (by decide) (by decide)]; exact r.e) r.q (by rw [e 3 (by decide) (by decide)]; exact r.l) (fun k k0 k1 => ?_) r.p0 r.p1 r.q0 r.q1
  rw [e 3 (by decide) (by decide)] at k1
  rw [e (4 + k) (by omega) (by omega)]; exact r.s k k0 k1
/-- numbers with one note more -/
def nad (σ τ : Int → Int) : Prop := (τ 0 = σ 0 + 1) ∧ (∀ k, ¬ k = 0 → k < 9 + 10 * σ 0 ∨ 19 + 10 * σ 0 ≤ k → τ k = σ k) ∧ (nw τ (σ 0))
theorem nad.mk {σ τ : Int → Int} (x0 : τ 0 = σ 0 + 1) (x1 : ∀ k, ¬ k = 0 → k < 9 + 10 * σ 0 ∨ 19 + 10 * σ 0 ≤ k → τ k = σ k) (x2 : nw τ (σ 0)) : nad σ τ := (And.intro x0 (And.intro x1 x2))
theorem nad.z {σ τ : Int → Int} (q : nad σ τ) : τ 0 = σ 0 + 1 := (And.left q)
theorem nad.o {σ τ : Int → Int} (q : nad σ τ) : ∀ k, ¬ k = 0 → k < 9 + 10 * σ 0 ∨ 19 + 10 * σ 0 ≤ k → τ k = σ k := (And.left (And.right q))
theorem nad.n {σ τ : Int → Int} (q : nad σ τ) : nw τ (σ 0) := (And.right (And.right q))
theorem nad.it {σ τ : Int → Int} (a : nad σ τ) {i k : Int} (i0 : 0 ≤ i) (i1 : i < σ 0) (k0 : 0 ≤ k) (k1 : k ≤ 9) : it τ i k = it σ i k := a.o _ (by omega) (by omega)
theorem nad.ln {σ τ : Int → Int} (a : nad σ τ) {l k : Int} (s : 0 ≤ σ 0 ∧ σ 0 ≤ 5) (l0 : 0 ≤ l) (k0 : 0 ≤ k) : ln τ l k = ln σ l k := a.o _ (by omega) (by omega)
theorem nad.vw {σ τ : Int → Int} (a : nad σ τ) (w : vw σ) (s : σ 0 ≤ 5) : vw τ := by
  have hN := w.N
  have z := a.z
  have o1 := a.o 1 (by decide) (by omega)
  refine vw.mk (by omega) (by rw [o1]; exact w.L) (fun e e0 e1 => ?_) (fun i i0 i1 => ?_) (fun l l0 l1 => ?_)
  · rw [a.o (3 + 2 * e) (by omega) (by omega), a.o (3 + 2 * e + 1) (by omega) (by omega)]; exact w.e e e0 e1
  · by_cases q : i = σ 0
    · rw [q]; exact a.n
    · have wi := w.n i i0 (by omega)
      exact nw_c wi (fun k k0 k1 _ => a.it i0 (by omega) k0 k1) (by rw [a.it i0 (by omega) (by decide) (by decide)]; exact wi.e)
  · rw [o1] at l1
    have lw0 := w.l l l0 l1
    have e := fun k k0 => a.ln (l := l) (k := k) ⟨hN.1, s⟩ l0 k0
    have lx := lw0.x
    have ly := lw0.y
    refine lw.mk (by rw [e 0 (by decide)]; exact lw0.s) (by rw [e 1 (by decide)]; omega) (by rw [e 2 (by decide)]; omega) (by rw [e 3 (by decide)]; exact lw0.z) (fun q => ?_) (fun q => ?_)
    · rw [e 0 (by decide)] at q
      have := lw0.z2 q
      rw [e 3 (by decide)]; omega
    · rw [e 0 (by decide)] at q
      rw [e 3 (by decide)]; exact lw0.z3 q
theorem rr_ad {S h T g : mx_H} {n v k e a mk : Int} {σ τ : Int → Int} (A : ad S h n v k e a mk T g) (r : rr S h n v σ) (w : vw σ) (N : nad σ τ) (s : σ 0 ≤ 5) (v0 : 0 ≤ v ∧ v ≤ 40) (n0 : 53 ≤ n) (ik : it τ (σ 0) 0 = k) (ie : it τ (σ 0) 1 = e) (ia : it τ (σ 0) 2 = a) (m0 : 53 ≤ mk ∧ mk < n) (mt : S mk (-2) = 20) (ml : S mk (-1) = it τ (σ 0) 3) (ms : ∀ j, 0 ≤ j → j < it τ (σ 0) 3 → h mk j = it τ (σ 0) (4 + j)) : rr T g (n + 1) v τ := by
  have hN := w.N
  have rc := r.c
  have o1 := N.o 1 (by decide) (by omega)
  refine rr.mk (by rw [A.g3, N.z, rc]) (by rw [A.gv 4 (by decide) (by decide), o1]; exact r.L) (fun e e0 e1 => ?_) (fun e e0 e1 => ?_) (fun l k l0 l1 k0 k1 => ?_) (fun i i0 i1 => ?_)
  · rw [A.g0 _ (by omega) (by omega), N.o (3 + 2 * e) (by omega) (by omega)]; exact r.lo e e0 e1
  · rw [A.g0 _ (by omega) (by omega), N.o (3 + 2 * e + 1) (by omega) (by omega)]; exact r.hi e e0 e1
  · rw [o1] at l1
    rw [A.g0 _ (by omega) (by omega), N.ln ⟨hN.1, s⟩ l0 k0]; exact r.l l k l0 l1 k0 k1
  · by_cases q : i = σ 0
    · subst q
      have Sc := A.Sc
      rw [rc] at Sc
      rw [Sc]
      refine nr.mk (by rw [A.St, ik]) (by rw [A.gn, rc]) (by rw [A.ga, ia]) (by rw [A.ge, ie]) ?_ ?_ (fun j j0 j1 => ?_) n0 (by omega) ?_ ?_
      · rw [A.Sm, A.S0 _ (by omega) (by omega)]; exact mt
      · rw [A.Sm, A.S0 _ (by omega) (by omega)]; exact ml
      · rw [A.Sm, A.g0 _ (by omega) (by omega)]; exact ms j j0 j1
      · rw [A.Sm]; omega
      · rw [A.Sm]; omega
    · have i2 : i < σ 0 := by have := N.z; omega
      have ri := r.n i i0 i2
      rw [A.S4 i (by omega)]
      exact nr_t (ri.gg (fun b b0 b1 => A.S0 b (by omega) (by omega)) (fun b b0 b1 => A.g0 b (by omega) (by omega)) (by omega)) (w.n i i0 i2) (fun k k0 k1 => N.it i0 i2 k0 k1)
