/-! The program's notes: worth, bases, by kind -/
section
variable {d : Nat} {S h : mx_H} {n N p i : Int} {σ : Int → Int}
theorem mn_r {a b : Int} (h0 : 0 ≤ a) (h1 : 0 ≤ b) : 0 ≤ mx_min a b ∧ mx_min a b ≤ b ∧ mx_min a b ≤ a ∧ (mx_min a b = a ∨ mx_min a b = b) := by
  unfold mx_min; split <;> omega
theorem p18 {v : Int} {k : Nat} (h : v < 18 ^ k) : v < 18 ^ ((k : Int)).toNat := by simpa using h
theorem c_worth0 {b : Int} (r : nr S h N p σ i) (w : nw σ i) (g : it σ i 0 = 2 ∨ it σ i 0 = 3) (b0 : 2 ≤ b) (b1 : b ≤ 16) : mx_M (d + 1) 3 [(2, p), (0, b)] S h n = some (some (0, wo σ i b), S, h, n) := by
  have hn := w.n
  have ha := w.p
  have hm := mn_r (a := it σ i 2) (b := it σ i 3) (by omega) (by omega)
  obtain ⟨m, em⟩ : ∃ m, mx_min (it σ i 2) (it σ i 3) = m := ⟨_, rfl⟩
  rw [em] at hm
  have em : (if it σ i 3 < it σ i 2 then it σ i 3 else it σ i 2) = m := em
  have hb : ∀ b2, (it σ i 0 = 2 → b2 = b + 1) → (it σ i 0 = 3 → b2 = b - 1) → ∀ k, 0 ≤ k → k < it σ i 3 → bs σ i k b = if m ≤ k then b2 else b := by
    intro b2 q2 q3 k _ _; unfold bs
    rcases g with g | g
    · have := q2 g
      by_cases c : m ≤ k
      · rw [if_pos c, if_pos ⟨g, by omega⟩]; omega
      · rw [if_neg c, if_neg (by omega), if_neg (by omega)]
    · have := q3 g
      by_cases c : m ≤ k
      · rw [if_pos c, if_neg (by omega), if_pos ⟨g, by omega⟩]; omega
      · rw [if_neg c, if_neg (by omega), if_neg (by omega)]
  have hc := c_grown (d := d) (n := n) (v := 0) (f := 0) (t := m) r w (by omega) (b := b) (by omega) (by omega) (by omega) (by decide) (by omega) (by omega)
  rw [Int.sub_zero] at hc
  have hr := gr_r (σ := σ) (i := i) (b := b) (v := 0) (f := 0) (k := m.toNat) (m := 0) w (by omega) (by omega) (by omega) (by omega) (by omega) (by decide)
  rw [Nat.zero_add] at hr
  have hc2 := fun b2 h1 h2 => c_grown (d := d) (n := n) (v := gr σ i b 0 0 m.toNat) (f := m) (t := it σ i 3) (b := b2) r w (by omega) h1 h2 hr.1 hr.2 (by omega) (by omega)
  have e : ∀ b2, (it σ i 0 = 2 → b2 = b + 1) → (it σ i 0 = 3 → b2 = b - 1) → gr σ i b2 (gr σ i b 0 0 m.toNat) m (it σ i 3 - m).toNat = wo σ i b := by
    intro b2 q2 q3
    rw [gr_br (hb b2 q2 q3) (by omega) (by omega) (by omega)]
    unfold wo; rw [if_neg (by omega), if_neg (by omega)]
    have : (m + (((it σ i 3 - m).toNat : Nat) : Int)).toNat = (it σ i 3).toNat := by omega
    rw [this]
  rcases g with g | g
  · have hc3 := hc2 (b + 1) (by omega) (by omega)
    rw [e (b + 1) (by omega) (by omega)] at hc3
    simp (disch := omega) only [mx_vt_h, mx_vt_m, mx_cmp_0, mx_cmp_1, mx_cmp_2, mx_cmp_3, mx_cmp_4, mx_u_s, mx_u_a, mx_u_k, mx_z_a, mx_z_s, mx_t_a, mx_t_2, mx_t_1, mx_t_0, mx_gd_T, mx_gd_t, mx_br_T, mx_br_F, mx_br_t, mx_br_f, mx_br_n, mx_cl_T, mx_cl_t, mx_re_T, mx_re_t, mx_rt_v, mx_rt_0, mx_cu_t, mx_w_id, mx_l_id, mx_b_0, mx_b_1, mx_b_r, mx_nl_0, mx_nl_1, mx_nl_2, mx_nl_n, mx_nl_l, mx_sw_n, mx_sw_h, mx_sw_m, Int.reduceLE, Int.reduceLT, Int.reduceEq, Int.reduceAdd, Int.reduceSub, Int.reduceMul, Int.reduceNeg, Int.reduceToNat, and_self, true_and, and_true, false_and, and_false, true_or, or_true, false_or, or_false, not_true_eq_false, not_false_eq_true, eq_self, rw_X0_worthBy, rw_X0_baseBehind, r.t, r.q, r.l, r.a, g, em, hc, hc3]
  · have hc3 := hc2 (b - 1) (by omega) (by omega)
    rw [e (b - 1) (by omega) (by omega)] at hc3
    simp (disch := omega) only [mx_vt_h, mx_vt_m, mx_cmp_0, mx_cmp_1, mx_cmp_2, mx_cmp_3, mx_cmp_4, mx_u_s, mx_u_a, mx_u_k, mx_z_a, mx_z_s, mx_t_a, mx_t_2, mx_t_1, mx_t_0, mx_gd_T, mx_gd_t, mx_br_T, mx_br_F, mx_br_t, mx_br_f, mx_br_n, mx_cl_T, mx_cl_t, mx_re_T, mx_re_t, mx_rt_v, mx_rt_0, mx_cu_t, mx_w_id, mx_l_id, mx_b_0, mx_b_1, mx_b_r, mx_nl_0, mx_nl_1, mx_nl_2, mx_nl_n, mx_nl_l, mx_sw_n, mx_sw_h, mx_sw_m, Int.reduceLE, Int.reduceLT, Int.reduceEq, Int.reduceAdd, Int.reduceSub, Int.reduceMul, Int.reduceNeg, Int.reduceToNat, and_self, true_and, and_true, false_and, and_false, true_or, or_true, false_or, or_false, not_true_eq_false, not_false_eq_true, eq_self, rw_X0_worthBy, rw_X3_baseBehind, r.t, r.q, r.l, r.a, g, em, hc, hc3]
theorem c_worth6 {b : Int} (r : nr S h N p σ i) (w : nw σ i) (g : it σ i 0 = 1 ∨ it σ i 0 = 5) : mx_M d 56 [(2, p), (0, b)] S h n = some (some (0, it σ i 3), S, h, n) := by
  rcases g with g | g
  · simp (disch := omega) only [mx_vt_h, mx_vt_m, mx_cmp_0, mx_cmp_1, mx_cmp_2, mx_cmp_3, mx_cmp_4, mx_u_s, mx_u_a, mx_u_k, mx_z_a, mx_z_s, mx_t_a, mx_t_2, mx_t_1, mx_t_0, mx_gd_T, mx_gd_t, mx_br_T, mx_br_F, mx_br_t, mx_br_f, mx_br_n, mx_cl_T, mx_cl_t, mx_re_T, mx_re_t, mx_rt_v, mx_rt_0, mx_cu_t, mx_w_id, mx_l_id, mx_b_0, mx_b_1, mx_b_r, mx_nl_0, mx_nl_1, mx_nl_2, mx_nl_n, mx_nl_l, mx_sw_n, mx_sw_h, mx_sw_m, Int.reduceLE, Int.reduceLT, Int.reduceEq, Int.reduceAdd, Int.reduceSub, Int.reduceMul, Int.reduceNeg, Int.reduceToNat, and_self, true_and, and_true, false_and, and_false, true_or, or_true, false_or, or_false, not_true_eq_false, not_false_eq_true, eq_self, rw_X6_worthBy, r.t, r.q, r.l, g]
  · simp (disch := omega) only [mx_vt_h, mx_vt_m, mx_cmp_0, mx_cmp_1, mx_cmp_2, mx_cmp_3, mx_cmp_4, mx_u_s, mx_u_a, mx_u_k, mx_z_a, mx_z_s, mx_t_a, mx_t_2, mx_t_1, mx_t_0, mx_gd_T, mx_gd_t, mx_br_T, mx_br_F, mx_br_t, mx_br_f, mx_br_n, mx_cl_T, mx_cl_t, mx_re_T, mx_re_t, mx_rt_v, mx_rt_0, mx_cu_t, mx_w_id, mx_l_id, mx_b_0, mx_b_1, mx_b_r, mx_nl_0, mx_nl_1, mx_nl_2, mx_nl_n, mx_nl_l, mx_sw_n, mx_sw_h, mx_sw_m, Int.reduceLE, Int.reduceLT, Int.reduceEq, Int.reduceAdd, Int.reduceSub, Int.reduceMul, Int.reduceNeg, Int.reduceToNat, and_self, true_and, and_true, false_and, and_false, true_or, or_true, false_or, or_false, not_true_eq_false, not_false_eq_true, eq_self, rw_X6_worthBy, r.t, r.q, r.l, g]
theorem c_worth1 {b : Int} (r : nr S h N p σ i) (w : nw σ i) (g : it σ i 0 = 5) : mx_M (d + 1) 9 [(2, p), (0, b)] S h n = some (some (0, wo σ i b), S, h, n) := by
  have hn := w.n
  unfold wo; rw [if_neg (by omega), if_pos g]
  simp (disch := omega) only [mx_vt_h, mx_vt_m, mx_cmp_0, mx_cmp_1, mx_cmp_2, mx_cmp_3, mx_cmp_4, mx_u_s, mx_u_a, mx_u_k, mx_z_a, mx_z_s, mx_t_a, mx_t_2, mx_t_1, mx_t_0, mx_gd_T, mx_gd_t, mx_br_T, mx_br_F, mx_br_t, mx_br_f, mx_br_n, mx_cl_T, mx_cl_t, mx_re_T, mx_re_t, mx_rt_v, mx_rt_0, mx_cu_t, mx_w_id, mx_l_id, mx_b_0, mx_b_1, mx_b_r, mx_nl_0, mx_nl_1, mx_nl_2, mx_nl_n, mx_nl_l, mx_sw_n, mx_sw_h, mx_sw_m, Int.reduceLE, Int.reduceLT, Int.reduceEq, Int.reduceAdd, Int.reduceSub, Int.reduceMul, Int.reduceNeg, Int.reduceToNat, and_self, true_and, and_true, false_and, and_false, true_or, or_true, false_or, or_false, not_true_eq_false, not_false_eq_true, eq_self, rw_X1_worthBy, c_worth6 r w, r.t, g]
  exact rv (by omega)
theorem c_worth9_l {b j : Int} (r : nr S h N p σ i) (w : nw σ i) (g : it σ i 0 = 4) (b0 : 2 ≤ b) (b1 : b ≤ 16) (j0 : -1 ≤ j) (j1 : j < it σ i 3) :
    mx_ex d 81 10 [some (2, p), some (0, b), some (0, wv σ i b (it σ i 3 - 1 - j).toNat), some (0, j)] [] S h n = some (some (0, wo σ i b), S, h, n) := by
  have hn := w.n
  rw [rh_X9_worthBy_10]
  by_cases q : 0 ≤ j
  · have ih := c_worth9_l r w g b0 b1 (j := j - 1) (by omega) (by omega)
    have e : it σ i 3 - 1 - (j - 1) = it σ i 3 - 1 - j + 1 := by omega
    rw [e, wv_S (by omega)] at ih
    have e2 : bs σ i (it σ i 3 - 1 - j) b = b := by unfold bs; rw [if_neg (by omega), if_neg (by omega)]
    have e3 : pl σ i (it σ i 3 - 1 - j) = j := by unfold pl; rw [if_pos g]; omega
    have v1 := wv_6 w b0 b1 (k := (it σ i 3 - 1 - j).toNat) (by omega)
    have v2 := wv_6 w b0 b1 (k := (it σ i 3 - 1 - j + 1).toNat) (by omega)
    rw [wv_S (by omega)] at v2
    rw [e2, e3] at ih v2
    have hs := w.s j (by omega) (by omega)
    have m1 : 0 ≤ wv σ i b (it σ i 3 - 1 - j).toNat * b := Int.mul_nonneg v1.1 (by omega)
    simp (disch := omega) only [mx_vt_h, mx_vt_m, mx_cmp_0, mx_cmp_1, mx_cmp_2, mx_cmp_3, mx_cmp_4, mx_u_s, mx_u_a, mx_u_k, mx_z_a, mx_z_s, mx_t_a, mx_t_2, mx_t_1, mx_t_0, mx_gd_T, mx_gd_t, mx_br_T, mx_br_F, mx_br_t, mx_br_f, mx_br_n, mx_cl_T, mx_cl_t, mx_re_T, mx_re_t, mx_rt_v, mx_rt_0, mx_cu_t, mx_w_id, mx_l_id, mx_b_0, mx_b_1, mx_b_r, mx_nl_0, mx_nl_1, mx_nl_2, mx_nl_n, mx_nl_l, mx_sw_n, mx_sw_h, mx_sw_m, Int.reduceLE, Int.reduceLT, Int.reduceEq, Int.reduceAdd, Int.reduceSub, Int.reduceMul, Int.reduceNeg, Int.reduceToNat, and_self, true_and, and_true, false_and, and_false, true_or, or_true, false_or, or_false, not_true_eq_false, not_false_eq_true, eq_self, rw_X9_worthBy, r.t, r.q, r.l, r.s j (by omega) (by omega), g]
    exact ih
  · have e : j = -1 := by omega
    subst e
    simp (disch := omega) only [mx_vt_h, mx_vt_m, mx_cmp_0, mx_cmp_1, mx_cmp_2, mx_cmp_3, mx_cmp_4, mx_u_s, mx_u_a, mx_u_k, mx_z_a, mx_z_s, mx_t_a, mx_t_2, mx_t_1, mx_t_0, mx_gd_T, mx_gd_t, mx_br_T, mx_br_F, mx_br_t, mx_br_f, mx_br_n, mx_cl_T, mx_cl_t, mx_re_T, mx_re_t, mx_rt_v, mx_rt_0, mx_cu_t, mx_w_id, mx_l_id, mx_b_0, mx_b_1, mx_b_r, mx_nl_0, mx_nl_1, mx_nl_2, mx_nl_n, mx_nl_l, mx_sw_n, mx_sw_h, mx_sw_m, Int.reduceLE, Int.reduceLT, Int.reduceEq, Int.reduceAdd, Int.reduceSub, Int.reduceMul, Int.reduceNeg, Int.reduceToNat, and_self, true_and, and_true, false_and, and_false, true_or, or_true, false_or, or_false, not_true_eq_false, not_false_eq_true, eq_self, rw_X9_worthBy]
    unfold wo; rw [if_neg (by omega), if_neg (by omega)]
    have : it σ i 3 - 1 - -1 = it σ i 3 := by omega
    rw [this]
termination_by (j + 1).toNat
theorem c_worth9 {b : Int} (r : nr S h N p σ i) (w : nw σ i) (g : it σ i 0 = 4) (b0 : 2 ≤ b) (b1 : b ≤ 16) : mx_M d 81 [(2, p), (0, b)] S h n = some (some (0, wo σ i b), S, h, n) := by
  have hn := w.n
  have ih := c_worth9_l (d := d) (n := n) r w g b0 b1 (j := it σ i 3 - 1) (by omega) (by omega)
  have e : (it σ i 3 - 1 - (it σ i 3 - 1)).toNat = 0 := by omega
  rw [e] at ih
  simp (disch := omega) only [mx_vt_h, mx_vt_m, mx_cmp_0, mx_cmp_1, mx_cmp_2, mx_cmp_3, mx_cmp_4, mx_u_s, mx_u_a, mx_u_k, mx_z_a, mx_z_s, mx_t_a, mx_t_2, mx_t_1, mx_t_0, mx_gd_T, mx_gd_t, mx_br_T, mx_br_F, mx_br_t, mx_br_f, mx_br_n, mx_cl_T, mx_cl_t, mx_re_T, mx_re_t, mx_rt_v, mx_rt_0, mx_cu_t, mx_w_id, mx_l_id, mx_b_0, mx_b_1, mx_b_r, mx_nl_0, mx_nl_1, mx_nl_2, mx_nl_n, mx_nl_l, mx_sw_n, mx_sw_h, mx_sw_m, Int.reduceLE, Int.reduceLT, Int.reduceEq, Int.reduceAdd, Int.reduceSub, Int.reduceMul, Int.reduceNeg, Int.reduceToNat, and_self, true_and, and_true, false_and, and_false, true_or, or_true, false_or, or_false, not_true_eq_false, not_false_eq_true, eq_self, rw_X9_worthBy, r.t, r.q, r.l, g]
  exact ih
/-- worthBy, whatever the note's kind is -/
theorem c_worthV {b : Int} (r : nr S h N p σ i) (w : nw σ i) (b0 : 2 ≤ b) (b1 : b ≤ 16) {m pc : Nat} {L : mx_L} {st : List mx_V} {vt : List (Int × Nat)} (hv : vt = [(1, 43), (2, 56), (3, 3), (4, 3), (5, 81), (6, 9)]) :
    mx_cu (mx_vt (S p (-2)) vt) (d + 1) [(2, p), (0, b)] m pc L st S h n = mx_ex (d + 2) m pc L ((0, wo σ i b) :: st) S h n := by
  have hk := w.k
  subst hv
  have : it σ i 0 = 0 ∨ it σ i 0 = 1 ∨ it σ i 0 = 2 ∨ it σ i 0 = 3 ∨ it σ i 0 = 4 ∨ it σ i 0 = 5 := by omega
  rcases this with g | g | g | g | g | g
  · simp (disch := omega) only [mx_vt_h, mx_vt_m, mx_cmp_0, mx_cmp_1, mx_cmp_2, mx_cmp_3, mx_cmp_4, mx_u_s, mx_u_a, mx_u_k, mx_z_a, mx_z_s, mx_t_a, mx_t_2, mx_t_1, mx_t_0, mx_gd_T, mx_gd_t, mx_br_T, mx_br_F, mx_br_t, mx_br_f, mx_br_n, mx_cl_T, mx_cl_t, mx_re_T, mx_re_t, mx_rt_v, mx_rt_0, mx_cu_t, mx_w_id, mx_l_id, mx_b_0, mx_b_1, mx_b_r, mx_nl_0, mx_nl_1, mx_nl_2, mx_nl_n, mx_nl_l, mx_sw_n, mx_sw_h, mx_sw_m, Int.reduceLE, Int.reduceLT, Int.reduceEq, Int.reduceAdd, Int.reduceSub, Int.reduceMul, Int.reduceNeg, Int.reduceToNat, and_self, true_and, and_true, false_and, and_false, true_or, or_true, false_or, or_false, not_true_eq_false, not_false_eq_true, eq_self, r.t, g, c_worth4 r w g b0 b1]
  · have e : wo σ i b = it σ i 3 := by unfold wo; rw [if_pos g]
    simp (disch := omega) only [mx_vt_h, mx_vt_m, mx_cmp_0, mx_cmp_1, mx_cmp_2, mx_cmp_3, mx_cmp_4, mx_u_s, mx_u_a, mx_u_k, mx_z_a, mx_z_s, mx_t_a, mx_t_2, mx_t_1, mx_t_0, mx_gd_T, mx_gd_t, mx_br_T, mx_br_F, mx_br_t, mx_br_f, mx_br_n, mx_cl_T, mx_cl_t, mx_re_T, mx_re_t, mx_rt_v, mx_rt_0, mx_cu_t, mx_w_id, mx_l_id, mx_b_0, mx_b_1, mx_b_r, mx_nl_0, mx_nl_1, mx_nl_2, mx_nl_n, mx_nl_l, mx_sw_n, mx_sw_h, mx_sw_m, Int.reduceLE, Int.reduceLT, Int.reduceEq, Int.reduceAdd, Int.reduceSub, Int.reduceMul, Int.reduceNeg, Int.reduceToNat, and_self, true_and, and_true, false_and, and_false, true_or, or_true, false_or, or_false, not_true_eq_false, not_false_eq_true, eq_self, r.t, g, c_worth6 r w (Or.inl g), e]
  · simp (disch := omega) only [mx_vt_h, mx_vt_m, mx_cmp_0, mx_cmp_1, mx_cmp_2, mx_cmp_3, mx_cmp_4, mx_u_s, mx_u_a, mx_u_k, mx_z_a, mx_z_s, mx_t_a, mx_t_2, mx_t_1, mx_t_0, mx_gd_T, mx_gd_t, mx_br_T, mx_br_F, mx_br_t, mx_br_f, mx_br_n, mx_cl_T, mx_cl_t, mx_re_T, mx_re_t, mx_rt_v, mx_rt_0, mx_cu_t, mx_w_id, mx_l_id, mx_b_0, mx_b_1, mx_b_r, mx_nl_0, mx_nl_1, mx_nl_2, mx_nl_n, mx_nl_l, mx_sw_n, mx_sw_h, mx_sw_m, Int.reduceLE, Int.reduceLT, Int.reduceEq, Int.reduceAdd, Int.reduceSub, Int.reduceMul, Int.reduceNeg, Int.reduceToNat, and_self, true_and, and_true, false_and, and_false, true_or, or_true, false_or, or_false, not_true_eq_false, not_false_eq_true, eq_self, r.t, g, c_worth0 r w (Or.inl g) b0 b1]
  · simp (disch := omega) only [mx_vt_h, mx_vt_m, mx_cmp_0, mx_cmp_1, mx_cmp_2, mx_cmp_3, mx_cmp_4, mx_u_s, mx_u_a, mx_u_k, mx_z_a, mx_z_s, mx_t_a, mx_t_2, mx_t_1, mx_t_0, mx_gd_T, mx_gd_t, mx_br_T, mx_br_F, mx_br_t, mx_br_f, mx_br_n, mx_cl_T, mx_cl_t, mx_re_T, mx_re_t, mx_rt_v, mx_rt_0, mx_cu_t, mx_w_id, mx_l_id, mx_b_0, mx_b_1, mx_b_r, mx_nl_0, mx_nl_1, mx_nl_2, mx_nl_n, mx_nl_l, mx_sw_n, mx_sw_h, mx_sw_m, Int.reduceLE, Int.reduceLT, Int.reduceEq, Int.reduceAdd, Int.reduceSub, Int.reduceMul, Int.reduceNeg, Int.reduceToNat, and_self, true_and, and_true, false_and, and_false, true_or, or_true, false_or, or_false, not_true_eq_false, not_false_eq_true, eq_self, r.t, g, c_worth0 r w (Or.inr g) b0 b1]
  · simp (disch := omega) only [mx_vt_h, mx_vt_m, mx_cmp_0, mx_cmp_1, mx_cmp_2, mx_cmp_3, mx_cmp_4, mx_u_s, mx_u_a, mx_u_k, mx_z_a, mx_z_s, mx_t_a, mx_t_2, mx_t_1, mx_t_0, mx_gd_T, mx_gd_t, mx_br_T, mx_br_F, mx_br_t, mx_br_f, mx_br_n, mx_cl_T, mx_cl_t, mx_re_T, mx_re_t, mx_rt_v, mx_rt_0, mx_cu_t, mx_w_id, mx_l_id, mx_b_0, mx_b_1, mx_b_r, mx_nl_0, mx_nl_1, mx_nl_2, mx_nl_n, mx_nl_l, mx_sw_n, mx_sw_h, mx_sw_m, Int.reduceLE, Int.reduceLT, Int.reduceEq, Int.reduceAdd, Int.reduceSub, Int.reduceMul, Int.reduceNeg, Int.reduceToNat, and_self, true_and, and_true, false_and, and_false, true_or, or_true, false_or, or_false, not_true_eq_false, not_false_eq_true, eq_self, r.t, g, c_worth9 r w g b0 b1]
  · simp (disch := omega) only [mx_vt_h, mx_vt_m, mx_cmp_0, mx_cmp_1, mx_cmp_2, mx_cmp_3, mx_cmp_4, mx_u_s, mx_u_a, mx_u_k, mx_z_a, mx_z_s, mx_t_a, mx_t_2, mx_t_1, mx_t_0, mx_gd_T, mx_gd_t, mx_br_T, mx_br_F, mx_br_t, mx_br_f, mx_br_n, mx_cl_T, mx_cl_t, mx_re_T, mx_re_t, mx_rt_v, mx_rt_0, mx_cu_t, mx_w_id, mx_l_id, mx_b_0, mx_b_1, mx_b_r, mx_nl_0, mx_nl_1, mx_nl_2, mx_nl_n, mx_nl_l, mx_sw_n, mx_sw_h, mx_sw_m, Int.reduceLE, Int.reduceLT, Int.reduceEq, Int.reduceAdd, Int.reduceSub, Int.reduceMul, Int.reduceNeg, Int.reduceToNat, and_self, true_and, and_true, false_and, and_false, true_or, or_true, false_or, or_false, not_true_eq_false, not_false_eq_true, eq_self, r.t, g, c_worth1 r w g]
theorem c_can4 {b : Int} (r : nr S h N p σ i) (w : nw σ i) (g : it σ i 0 = 0 ∨ it σ i 0 = 4) : mx_M (d + 1) 44 [(2, p), (0, b)] S h n = some (some (0, mx_b (cb σ i b)), S, h, n) := by
  have hn := w.n
  have e : ab σ i b 0 (it σ i 3) ↔ cb σ i b := by
    have hb : ∀ k, bs σ i k b = b := by intro k; unfold bs; rw [if_neg (by omega), if_neg (by omega)]
    constructor
    · intro f k k0 k1; exact ⟨fun q => by rcases q with q | q <;> omega, fun _ => by rw [hb]; exact f k k0 k1⟩
    · intro f k k0 k1; have := (f k k0 k1).2 (by rintro (q | q) <;> omega); rw [hb] at this; exact this
  have hc := c_allBelow (d := d) (n := n) (b := b) (f := 0) (t := it σ i 3) r w (by omega) (by omega) (by omega)
  rw [mx_b_i e] at hc
  rcases g with g | g
  · simp (disch := omega) only [mx_vt_h, mx_vt_m, mx_cmp_0, mx_cmp_1, mx_cmp_2, mx_cmp_3, mx_cmp_4, mx_u_s, mx_u_a, mx_u_k, mx_z_a, mx_z_s, mx_t_a, mx_t_2, mx_t_1, mx_t_0, mx_gd_T, mx_gd_t, mx_br_T, mx_br_F, mx_br_t, mx_br_f, mx_br_n, mx_cl_T, mx_cl_t, mx_re_T, mx_re_t, mx_rt_v, mx_rt_0, mx_cu_t, mx_w_id, mx_l_id, mx_b_0, mx_b_1, mx_b_r, mx_nl_0, mx_nl_1, mx_nl_2, mx_nl_n, mx_nl_l, mx_sw_n, mx_sw_h, mx_sw_m, Int.reduceLE, Int.reduceLT, Int.reduceEq, Int.reduceAdd, Int.reduceSub, Int.reduceMul, Int.reduceNeg, Int.reduceToNat, and_self, true_and, and_true, false_and, and_false, true_or, or_true, false_or, or_false, not_true_eq_false, not_false_eq_true, eq_self, rw_X4_canBeIn, r.t, r.q, r.l, g, hc]
  · simp (disch := omega) only [mx_vt_h, mx_vt_m, mx_cmp_0, mx_cmp_1, mx_cmp_2, mx_cmp_3, mx_cmp_4, mx_u_s, mx_u_a, mx_u_k, mx_z_a, mx_z_s, mx_t_a, mx_t_2, mx_t_1, mx_t_0, mx_gd_T, mx_gd_t, mx_br_T, mx_br_F, mx_br_t, mx_br_f, mx_br_n, mx_cl_T, mx_cl_t, mx_re_T, mx_re_t, mx_rt_v, mx_rt_0, mx_cu_t, mx_w_id, mx_l_id, mx_b_0, mx_b_1, mx_b_r, mx_nl_0, mx_nl_1, mx_nl_2, mx_nl_n, mx_nl_l, mx_sw_n, mx_sw_h, mx_sw_m, Int.reduceLE, Int.reduceLT, Int.reduceEq, Int.reduceAdd, Int.reduceSub, Int.reduceMul, Int.reduceNeg, Int.reduceToNat, and_self, true_and, and_true, false_and, and_false, true_or, or_true, false_or, or_false, not_true_eq_false, not_false_eq_true, eq_self, rw_X4_canBeIn, r.t, r.q, r.l, g, hc]
theorem c_can6_l {b f : Int} (r : nr S h N p σ i) (w : nw σ i) (g : it σ i 0 = 1 ∨ it σ i 0 = 5) (f0 : 0 ≤ f) (f1 : f ≤ it σ i 3) {l1 : Option mx_V} :
    mx_ex d 57 2 [some (2, p), l1, some (0, f)] [] S h n = some (some (0, mx_b (∀ k, f ≤ k → k < it σ i 3 → it σ i (4 + k) = 1)), S, h, n) := by
  have hn := w.n
  have rt := r.t
  have hk := w.k
  rw [rh_X6_canBeIn_2]
  by_cases q : f < it σ i 3
  · have ih := fun l1 => c_can6_l (b := b) (l1 := l1) r w g (f := f + 1) (by omega) (by omega)
    by_cases c : it σ i (4 + f) = 1
    · have e : (∀ k, f + 1 ≤ k → k < it σ i 3 → it σ i (4 + k) = 1) ↔ (∀ k, f ≤ k → k < it σ i 3 → it σ i (4 + k) = 1) := by
        constructor
        · intro g k k1 k2
          by_cases e : k = f
          · rw [e]; exact c
          · exact g k (by omega) k2
        · intro g k k1 k2; exact g k (by omega) k2
      rw [mx_b_i e] at ih
      simp (disch := omega) only [mx_vt_h, mx_vt_m, mx_cmp_0, mx_cmp_1, mx_cmp_2, mx_cmp_3, mx_cmp_4, mx_u_s, mx_u_a, mx_u_k, mx_z_a, mx_z_s, mx_t_a, mx_t_2, mx_t_1, mx_t_0, mx_gd_T, mx_gd_t, mx_br_T, mx_br_F, mx_br_t, mx_br_f, mx_br_n, mx_cl_T, mx_cl_t, mx_re_T, mx_re_t, mx_rt_v, mx_rt_0, mx_cu_t, mx_w_id, mx_l_id, mx_b_0, mx_b_1, mx_b_r, mx_nl_0, mx_nl_1, mx_nl_2, mx_nl_n, mx_nl_l, mx_sw_n, mx_sw_h, mx_sw_m, Int.reduceLE, Int.reduceLT, Int.reduceEq, Int.reduceAdd, Int.reduceSub, Int.reduceMul, Int.reduceNeg, Int.reduceToNat, and_self, true_and, and_true, false_and, and_false, true_or, or_true, false_or, or_false, not_true_eq_false, not_false_eq_true, eq_self, rw_X6_canBeIn, r.t, r.q, r.l, r.s f (by omega) (by omega), c]
      exact ih _
    · simp (disch := omega) only [mx_vt_h, mx_vt_m, mx_cmp_0, mx_cmp_1, mx_cmp_2, mx_cmp_3, mx_cmp_4, mx_u_s, mx_u_a, mx_u_k, mx_z_a, mx_z_s, mx_t_a, mx_t_2, mx_t_1, mx_t_0, mx_gd_T, mx_gd_t, mx_br_T, mx_br_F, mx_br_t, mx_br_f, mx_br_n, mx_cl_T, mx_cl_t, mx_re_T, mx_re_t, mx_rt_v, mx_rt_0, mx_cu_t, mx_w_id, mx_l_id, mx_b_0, mx_b_1, mx_b_r, mx_nl_0, mx_nl_1, mx_nl_2, mx_nl_n, mx_nl_l, mx_sw_n, mx_sw_h, mx_sw_m, Int.reduceLE, Int.reduceLT, Int.reduceEq, Int.reduceAdd, Int.reduceSub, Int.reduceMul, Int.reduceNeg, Int.reduceToNat, and_self, true_and, and_true, false_and, and_false, true_or, or_true, false_or, or_false, not_true_eq_false, not_false_eq_true, eq_self, rw_X6_canBeIn, r.t, r.q, r.l, r.s f (by omega) (by omega)]
      rw [mx_b_f (fun g => c (g f (by omega) q))]
  · simp (disch := omega) only [mx_vt_h, mx_vt_m, mx_cmp_0, mx_cmp_1, mx_cmp_2, mx_cmp_3, mx_cmp_4, mx_u_s, mx_u_a, mx_u_k, mx_z_a, mx_z_s, mx_t_a, mx_t_2, mx_t_1, mx_t_0, mx_gd_T, mx_gd_t, mx_br_T, mx_br_F, mx_br_t, mx_br_f, mx_br_n, mx_cl_T, mx_cl_t, mx_re_T, mx_re_t, mx_rt_v, mx_rt_0, mx_cu_t, mx_w_id, mx_l_id, mx_b_0, mx_b_1, mx_b_r, mx_nl_0, mx_nl_1, mx_nl_2, mx_nl_n, mx_nl_l, mx_sw_n, mx_sw_h, mx_sw_m, Int.reduceLE, Int.reduceLT, Int.reduceEq, Int.reduceAdd, Int.reduceSub, Int.reduceMul, Int.reduceNeg, Int.reduceToNat, and_self, true_and, and_true, false_and, and_false, true_or, or_true, false_or, or_false, not_true_eq_false, not_false_eq_true, eq_self, rw_X6_canBeIn, r.t, r.q, r.l]
    rw [mx_b_t (c := ∀ k, f ≤ k → k < it σ i 3 → it σ i (4 + k) = 1) (fun k k1 k2 => absurd k1 (by omega))]
termination_by (it σ i 3 - f).toNat
theorem c_can6 {b : Int} (r : nr S h N p σ i) (w : nw σ i) (g : it σ i 0 = 1 ∨ it σ i 0 = 5) : mx_M d 57 [(2, p), (0, b)] S h n = some (some (0, mx_b (cb σ i b)), S, h, n) := by
  have hn := w.n
  have ih := fun l1 => c_can6_l (d := d) (n := n) (b := b) (l1 := l1) r w g (f := 0) (by omega) (by omega)
  have e : (∀ k, 0 ≤ k → k < it σ i 3 → it σ i (4 + k) = 1) ↔ cb σ i b := by
    constructor
    · intro f k k0 k1; exact ⟨fun _ => f k k0 k1, fun q => absurd g q⟩
    · intro f k k0 k1; exact (f k k0 k1).1 g
  rw [mx_b_i e] at ih
  simp (disch := omega) only [mx_vt_h, mx_vt_m, mx_cmp_0, mx_cmp_1, mx_cmp_2, mx_cmp_3, mx_cmp_4, mx_u_s, mx_u_a, mx_u_k, mx_z_a, mx_z_s, mx_t_a, mx_t_2, mx_t_1, mx_t_0, mx_gd_T, mx_gd_t, mx_br_T, mx_br_F, mx_br_t, mx_br_f, mx_br_n, mx_cl_T, mx_cl_t, mx_re_T, mx_re_t, mx_rt_v, mx_rt_0, mx_cu_t, mx_w_id, mx_l_id, mx_b_0, mx_b_1, mx_b_r, mx_nl_0, mx_nl_1, mx_nl_2, mx_nl_n, mx_nl_l, mx_sw_n, mx_sw_h, mx_sw_m, Int.reduceLE, Int.reduceLT, Int.reduceEq, Int.reduceAdd, Int.reduceSub, Int.reduceMul, Int.reduceNeg, Int.reduceToNat, and_self, true_and, and_true, false_and, and_false, true_or, or_true, false_or, or_false, not_true_eq_false, not_false_eq_true, eq_self, rw_X6_canBeIn]
  exact ih _
theorem c_can0 {b : Int} (r : nr S h N p σ i) (w : nw σ i) (g : it σ i 0 = 2 ∨ it σ i 0 = 3) (b0 : 2 ≤ b) (b1 : b ≤ 16) : mx_M (d + 1) 4 [(2, p), (0, b)] S h n = some (some (0, mx_b (cb σ i b)), S, h, n) := by
  have hn := w.n
  have ha := w.p
  have hm := mn_r (a := it σ i 2) (b := it σ i 3) (by omega) (by omega)
  obtain ⟨m, em⟩ : ∃ m, mx_min (it σ i 2) (it σ i 3) = m := ⟨_, rfl⟩
  rw [em] at hm
  have em : (if it σ i 3 < it σ i 2 then it σ i 3 else it σ i 2) = m := em
  have e : ∀ b2, (it σ i 0 = 2 → b2 = b + 1) → (it σ i 0 = 3 → b2 = b - 1) → (ab σ i b 0 m ∧ ab σ i b2 m (it σ i 3) ↔ cb σ i b) := by
    intro b2 q2 q3
    have hb : ∀ k, 0 ≤ k → k < it σ i 3 → bs σ i k b = if m ≤ k then b2 else b := by
      intro k _ _; unfold bs
      rcases g with g | g
      · have := q2 g
        by_cases c : m ≤ k
        · rw [if_pos c, if_pos ⟨g, by omega⟩]; omega
        · rw [if_neg c, if_neg (by omega), if_neg (by omega)]
      · have := q3 g
        by_cases c : m ≤ k
        · rw [if_pos c, if_neg (by omega), if_pos ⟨g, by omega⟩]; omega
        · rw [if_neg c, if_neg (by omega), if_neg (by omega)]
    constructor
    · rintro ⟨f1, f2⟩ k k0 k1
      refine ⟨fun q => by rcases q with q | q <;> omega, fun _ => ?_⟩
      rw [hb k k0 k1]
      by_cases c : m ≤ k
      · rw [if_pos c]; exact f2 k c k1
      · rw [if_neg c]; exact f1 k k0 (by omega)
    · intro f
      refine ⟨fun k k0 k1 => ?_, fun k k0 k1 => ?_⟩
      · have := (f k k0 (by omega)).2 (by rintro (q | q) <;> omega)
        rw [hb k k0 (by omega), if_neg (by omega)] at this; exact this
      · have := (f k (by omega) k1).2 (by rintro (q | q) <;> omega)
        rw [hb k (by omega) k1, if_pos k0] at this; exact this
  have hc := c_allBelow (d := d) (n := n) (b := b) (f := 0) (t := m) r w (by omega) (by omega) (by omega)
  have hc2 := fun b2 => c_allBelow (d := d) (n := n) (b := b2) (f := m) (t := it σ i 3) r w (by omega) (by omega) (by omega)
  rcases g with g | g
  · have e := e (b + 1) (by omega) (by omega)
    (repeat' (first | (simp (disch := omega) only [mx_vt_h, mx_vt_m, mx_cmp_0, mx_cmp_1, mx_cmp_2, mx_cmp_3, mx_cmp_4, mx_u_s, mx_u_a, mx_u_k, mx_z_a, mx_z_s, mx_t_a, mx_t_2, mx_t_1, mx_t_0, mx_gd_T, mx_gd_t, mx_br_T, mx_br_F, mx_br_t, mx_br_f, mx_br_n, mx_cl_T, mx_cl_t, mx_re_T, mx_re_t, mx_rt_v, mx_rt_0, mx_cu_t, mx_w_id, mx_l_id, mx_b_0, mx_b_1, mx_b_r, mx_nl_0, mx_nl_1, mx_nl_2, mx_nl_n, mx_nl_l, mx_sw_n, mx_sw_h, mx_sw_m, Int.reduceLE, Int.reduceLT, Int.reduceEq, Int.reduceAdd, Int.reduceSub, Int.reduceMul, Int.reduceNeg, Int.reduceToNat, and_self, true_and, and_true, false_and, and_false, true_or, or_true, false_or, or_false, not_true_eq_false, not_false_eq_true, eq_self, rw_X0_canBeIn, rw_X0_baseBehind, r.t, r.q, r.l, r.a, g, em, hc, hc2]) | (refine mx_br_c (fun _ => ?_) (fun _ => ?_)) | (refine mx_W_b (fun _ => ?_) (fun _ => ?_))))
    · rw [mx_b_t (e.mp ⟨by assumption, by assumption⟩)]
    · rw [mx_b_f (fun q => absurd (e.mpr q).2 (by assumption))]
    · rw [mx_b_f (fun q => absurd (e.mpr q).1 (by assumption))]
  · have e := e (b - 1) (by omega) (by omega)
    (repeat' (first | (simp (disch := omega) only [mx_vt_h, mx_vt_m, mx_cmp_0, mx_cmp_1, mx_cmp_2, mx_cmp_3, mx_cmp_4, mx_u_s, mx_u_a, mx_u_k, mx_z_a, mx_z_s, mx_t_a, mx_t_2, mx_t_1, mx_t_0, mx_gd_T, mx_gd_t, mx_br_T, mx_br_F, mx_br_t, mx_br_f, mx_br_n, mx_cl_T, mx_cl_t, mx_re_T, mx_re_t, mx_rt_v, mx_rt_0, mx_cu_t, mx_w_id, mx_l_id, mx_b_0, mx_b_1, mx_b_r, mx_nl_0, mx_nl_1, mx_nl_2, mx_nl_n, mx_nl_l, mx_sw_n, mx_sw_h, mx_sw_m, Int.reduceLE, Int.reduceLT, Int.reduceEq, Int.reduceAdd, Int.reduceSub, Int.reduceMul, Int.reduceNeg, Int.reduceToNat, and_self, true_and, and_true, false_and, and_false, true_or, or_true, false_or, or_false, not_true_eq_false, not_false_eq_true, eq_self, rw_X0_canBeIn, rw_X3_baseBehind, r.t, r.q, r.l, r.a, g, em, hc, hc2]) | (refine mx_br_c (fun _ => ?_) (fun _ => ?_)) | (refine mx_W_b (fun _ => ?_) (fun _ => ?_))))
    · rw [mx_b_t (e.mp ⟨by assumption, by assumption⟩)]
    · rw [mx_b_f (fun q => absurd (e.mpr q).2 (by assumption))]
    · rw [mx_b_f (fun q => absurd (e.mpr q).1 (by assumption))]
/-- canBeIn, whatever the note's kind is -/
theorem c_canV {b : Int} (r : nr S h N p σ i) (w : nw σ i) (b0 : 2 ≤ b) (b1 : b ≤ 16) {m pc : Nat} {L : mx_L} {st : List mx_V} :
    mx_cu (mx_vt (S p (-2)) [(1, 44), (2, 57), (3, 4), (4, 4), (5, 44), (6, 57)]) (d + 1) [(2, p), (0, b)] m pc L st S h n = mx_ex (d + 2) m pc L ((0, mx_b (cb σ i b)) :: st) S h n := by
  have hk := w.k
  have : it σ i 0 = 0 ∨ it σ i 0 = 1 ∨ it σ i 0 = 2 ∨ it σ i 0 = 3 ∨ it σ i 0 = 4 ∨ it σ i 0 = 5 := by omega
  rcases this with g | g | g | g | g | g
  · simp (disch := omega) only [mx_vt_h, mx_vt_m, mx_cmp_0, mx_cmp_1, mx_cmp_2, mx_cmp_3, mx_cmp_4, mx_u_s, mx_u_a, mx_u_k, mx_z_a, mx_z_s, mx_t_a, mx_t_2, mx_t_1, mx_t_0, mx_gd_T, mx_gd_t, mx_br_T, mx_br_F, mx_br_t, mx_br_f, mx_br_n, mx_cl_T, mx_cl_t, mx_re_T, mx_re_t, mx_rt_v, mx_rt_0, mx_cu_t, mx_w_id, mx_l_id, mx_b_0, mx_b_1, mx_b_r, mx_nl_0, mx_nl_1, mx_nl_2, mx_nl_n, mx_nl_l, mx_sw_n, mx_sw_h, mx_sw_m, Int.reduceLE, Int.reduceLT, Int.reduceEq, Int.reduceAdd, Int.reduceSub, Int.reduceMul, Int.reduceNeg, Int.reduceToNat, and_self, true_and, and_true, false_and, and_false, true_or, or_true, false_or, or_false, not_true_eq_false, not_false_eq_true, eq_self, r.t, g, c_can4 r w (Or.inl g)]
  · simp (disch := omega) only [mx_vt_h, mx_vt_m, mx_cmp_0, mx_cmp_1, mx_cmp_2, mx_cmp_3, mx_cmp_4, mx_u_s, mx_u_a, mx_u_k, mx_z_a, mx_z_s, mx_t_a, mx_t_2, mx_t_1, mx_t_0, mx_gd_T, mx_gd_t, mx_br_T, mx_br_F, mx_br_t, mx_br_f, mx_br_n, mx_cl_T, mx_cl_t, mx_re_T, mx_re_t, mx_rt_v, mx_rt_0, mx_cu_t, mx_w_id, mx_l_id, mx_b_0, mx_b_1, mx_b_r, mx_nl_0, mx_nl_1, mx_nl_2, mx_nl_n, mx_nl_l, mx_sw_n, mx_sw_h, mx_sw_m, Int.reduceLE, Int.reduceLT, Int.reduceEq, Int.reduceAdd, Int.reduceSub, Int.reduceMul, Int.reduceNeg, Int.reduceToNat, and_self, true_and, and_true, false_and, and_false, true_or, or_true, false_or, or_false, not_true_eq_false, not_false_eq_true, eq_self, r.t, g, c_can6 r w (Or.inl g)]
  · simp (disch := omega) only [mx_vt_h, mx_vt_m, mx_cmp_0, mx_cmp_1, mx_cmp_2, mx_cmp_3, mx_cmp_4, mx_u_s, mx_u_a, mx_u_k, mx_z_a, mx_z_s, mx_t_a, mx_t_2, mx_t_1, mx_t_0, mx_gd_T, mx_gd_t, mx_br_T, mx_br_F, mx_br_t, mx_br_f, mx_br_n, mx_cl_T, mx_cl_t, mx_re_T, mx_re_t, mx_rt_v, mx_rt_0, mx_cu_t, mx_w_id, mx_l_id, mx_b_0, mx_b_1, mx_b_r, mx_nl_0, mx_nl_1, mx_nl_2, mx_nl_n, mx_nl_l, mx_sw_n, mx_sw_h, mx_sw_m, Int.reduceLE, Int.reduceLT, Int.reduceEq, Int.reduceAdd, Int.reduceSub, Int.reduceMul, Int.reduceNeg, Int.reduceToNat, and_self, true_and, and_true, false_and, and_false, true_or, or_true, false_or, or_false, not_true_eq_false, not_false_eq_true, eq_self, r.t, g, c_can0 r w (Or.inl g) b0 b1]
  · simp (disch := omega) only [mx_vt_h, mx_vt_m, mx_cmp_0, mx_cmp_1, mx_cmp_2, mx_cmp_3, mx_cmp_4, mx_u_s, mx_u_a, mx_u_k, mx_z_a, mx_z_s, mx_t_a, mx_t_2, mx_t_1, mx_t_0, mx_gd_T, mx_gd_t, mx_br_T, mx_br_F, mx_br_t, mx_br_f, mx_br_n, mx_cl_T, mx_cl_t, mx_re_T, mx_re_t, mx_rt_v, mx_rt_0, mx_cu_t, mx_w_id, mx_l_id, mx_b_0, mx_b_1, mx_b_r, mx_nl_0, mx_nl_1, mx_nl_2, mx_nl_n, mx_nl_l, mx_sw_n, mx_sw_h, mx_sw_m, Int.reduceLE, Int.reduceLT, Int.reduceEq, Int.reduceAdd, Int.reduceSub, Int.reduceMul, Int.reduceNeg, Int.reduceToNat, and_self, true_and, and_true, false_and, and_false, true_or, or_true, false_or, or_false, not_true_eq_false, not_false_eq_true, eq_self, r.t, g, c_can0 r w (Or.inr g) b0 b1]
  · simp (disch := omega) only [mx_vt_h, mx_vt_m, mx_cmp_0, mx_cmp_1, mx_cmp_2, mx_cmp_3, mx_cmp_4, mx_u_s, mx_u_a, mx_u_k, mx_z_a, mx_z_s, mx_t_a, mx_t_2, mx_t_1, mx_t_0, mx_gd_T, mx_gd_t, mx_br_T, mx_br_F, mx_br_t, mx_br_f, mx_br_n, mx_cl_T, mx_cl_t, mx_re_T, mx_re_t, mx_rt_v, mx_rt_0, mx_cu_t, mx_w_id, mx_l_id, mx_b_0, mx_b_1, mx_b_r, mx_nl_0, mx_nl_1, mx_nl_2, mx_nl_n, mx_nl_l, mx_sw_n, mx_sw_h, mx_sw_m, Int.reduceLE, Int.reduceLT, Int.reduceEq, Int.reduceAdd, Int.reduceSub, Int.reduceMul, Int.reduceNeg, Int.reduceToNat, and_self, true_and, and_true, false_and, and_false, true_or, or_true, false_or, or_false, not_true_eq_false, not_false_eq_true, eq_self, r.t, g, c_can4 r w (Or.inr g)]
  · simp (disch := omega) only [mx_vt_h, mx_vt_m, mx_cmp_0, mx_cmp_1, mx_cmp_2, mx_cmp_3, mx_cmp_4, mx_u_s, mx_u_a, mx_u_k, mx_z_a, mx_z_s, mx_t_a, mx_t_2, mx_t_1, mx_t_0, mx_gd_T, mx_gd_t, mx_br_T, mx_br_F, mx_br_t, mx_br_f, mx_br_n, mx_cl_T, mx_cl_t, mx_re_T, mx_re_t, mx_rt_v, mx_rt_0, mx_cu_t, mx_w_id, mx_l_id, mx_b_0, mx_b_1, mx_b_r, mx_nl_0, mx_nl_1, mx_nl_2, mx_nl_n, mx_nl_l, mx_sw_n, mx_sw_h, mx_sw_m, Int.reduceLE, Int.reduceLT, Int.reduceEq, Int.reduceAdd, Int.reduceSub, Int.reduceMul, Int.reduceNeg, Int.reduceToNat, and_self, true_and, and_true, false_and, and_false, true_or, or_true, false_or, or_false, not_true_eq_false, not_false_eq_true, eq_self, r.t, g, c_can6 r w (Or.inr g)]
theorem c_basesItCanBeIn_l {b : Int} (r : nr S h N p σ i) (w : nw σ i) (b0 : 2 ≤ b) (b1 : b ≤ 17) :
    mx_ex (d + 2) 45 4 [some (2, p), some (0, bz 2 b (cb σ i)), some (0, b)] [] S h n = some (some (0, bz 2 17 (cb σ i)), S, h, n) := by
  rw [rh_X4_basesItCanBeIn_4]
  by_cases q : b ≤ 16
  · have ih := c_basesItCanBeIn_l r w (b := b + 1) (by omega) (by omega)
    by_cases c : cb σ i b
    · simp (disch := omega) only [mx_vt_h, mx_vt_m, mx_cmp_0, mx_cmp_1, mx_cmp_2, mx_cmp_3, mx_cmp_4, mx_u_s, mx_u_a, mx_u_k, mx_z_a, mx_z_s, mx_t_a, mx_t_2, mx_t_1, mx_t_0, mx_gd_T, mx_gd_t, mx_br_T, mx_br_F, mx_br_t, mx_br_f, mx_br_n, mx_cl_T, mx_cl_t, mx_re_T, mx_re_t, mx_rt_v, mx_rt_0, mx_cu_t, mx_w_id, mx_l_id, mx_b_0, mx_b_1, mx_b_r, mx_nl_0, mx_nl_1, mx_nl_2, mx_nl_n, mx_nl_l, mx_sw_n, mx_sw_h, mx_sw_m, Int.reduceLE, Int.reduceLT, Int.reduceEq, Int.reduceAdd, Int.reduceSub, Int.reduceMul, Int.reduceNeg, Int.reduceToNat, and_self, true_and, and_true, false_and, and_false, true_or, or_true, false_or, or_false, not_true_eq_false, not_false_eq_true, eq_self, rw_X4_basesItCanBeIn, c_canV r w b0 q, mx_b_t c]
      rw [bz_t (by omega) b0 (by omega) c]; exact ih
    · simp (disch := omega) only [mx_vt_h, mx_vt_m, mx_cmp_0, mx_cmp_1, mx_cmp_2, mx_cmp_3, mx_cmp_4, mx_u_s, mx_u_a, mx_u_k, mx_z_a, mx_z_s, mx_t_a, mx_t_2, mx_t_1, mx_t_0, mx_gd_T, mx_gd_t, mx_br_T, mx_br_F, mx_br_t, mx_br_f, mx_br_n, mx_cl_T, mx_cl_t, mx_re_T, mx_re_t, mx_rt_v, mx_rt_0, mx_cu_t, mx_w_id, mx_l_id, mx_b_0, mx_b_1, mx_b_r, mx_nl_0, mx_nl_1, mx_nl_2, mx_nl_n, mx_nl_l, mx_sw_n, mx_sw_h, mx_sw_m, Int.reduceLE, Int.reduceLT, Int.reduceEq, Int.reduceAdd, Int.reduceSub, Int.reduceMul, Int.reduceNeg, Int.reduceToNat, and_self, true_and, and_true, false_and, and_false, true_or, or_true, false_or, or_false, not_true_eq_false, not_false_eq_true, eq_self, rw_X4_basesItCanBeIn, c_canV r w b0 q, mx_b_f c]
      rw [bz_f c]; exact ih
  · have e : b = 17 := by omega
    simp (disch := omega) only [mx_vt_h, mx_vt_m, mx_cmp_0, mx_cmp_1, mx_cmp_2, mx_cmp_3, mx_cmp_4, mx_u_s, mx_u_a, mx_u_k, mx_z_a, mx_z_s, mx_t_a, mx_t_2, mx_t_1, mx_t_0, mx_gd_T, mx_gd_t, mx_br_T, mx_br_F, mx_br_t, mx_br_f, mx_br_n, mx_cl_T, mx_cl_t, mx_re_T, mx_re_t, mx_rt_v, mx_rt_0, mx_cu_t, mx_w_id, mx_l_id, mx_b_0, mx_b_1, mx_b_r, mx_nl_0, mx_nl_1, mx_nl_2, mx_nl_n, mx_nl_l, mx_sw_n, mx_sw_h, mx_sw_m, Int.reduceLE, Int.reduceLT, Int.reduceEq, Int.reduceAdd, Int.reduceSub, Int.reduceMul, Int.reduceNeg, Int.reduceToNat, and_self, true_and, and_true, false_and, and_false, true_or, or_true, false_or, or_false, not_true_eq_false, not_false_eq_true, eq_self, rw_X4_basesItCanBeIn, e]
termination_by (17 - b).toNat
theorem c_basesItCanBeIn (r : nr S h N p σ i) (w : nw σ i) : mx_M (d + 2) 45 [(2, p)] S h n = some (some (0, bz 2 17 (cb σ i)), S, h, n) := by
  have ih := c_basesItCanBeIn_l (d := d) (n := n) r w (b := 2) (by omega) (by omega)
  rw [bz_0 (by omega)] at ih
  simp (disch := omega) only [mx_vt_h, mx_vt_m, mx_cmp_0, mx_cmp_1, mx_cmp_2, mx_cmp_3, mx_cmp_4, mx_u_s, mx_u_a, mx_u_k, mx_z_a, mx_z_s, mx_t_a, mx_t_2, mx_t_1, mx_t_0, mx_gd_T, mx_gd_t, mx_br_T, mx_br_F, mx_br_t, mx_br_f, mx_br_n, mx_cl_T, mx_cl_t, mx_re_T, mx_re_t, mx_rt_v, mx_rt_0, mx_cu_t, mx_w_id, mx_l_id, mx_b_0, mx_b_1, mx_b_r, mx_nl_0, mx_nl_1, mx_nl_2, mx_nl_n, mx_nl_l, mx_sw_n, mx_sw_h, mx_sw_m, Int.reduceLE, Int.reduceLT, Int.reduceEq, Int.reduceAdd, Int.reduceSub, Int.reduceMul, Int.reduceNeg, Int.reduceToNat, and_self, true_and, and_true, false_and, and_false, true_or, or_true, false_or, or_false, not_true_eq_false, not_false_eq_true, eq_self, rw_X4_basesItCanBeIn]
  exact ih
theorem c_hasPlace (r : nr S h N p σ i) (w : nw σ i) {k : Int} : mx_M d 40 [(2, p), (0, k)] S h n = some (some (0, mx_b (0 ≤ k ∧ k < it σ i 3)), S, h, n) := by
  have hk := w.k
  have hn := w.n
  (repeat' (first | (simp (disch := omega) only [mx_vt_h, mx_vt_m, mx_cmp_0, mx_cmp_1, mx_cmp_2, mx_cmp_3, mx_cmp_4, mx_u_s, mx_u_a, mx_u_k, mx_z_a, mx_z_s, mx_t_a, mx_t_2, mx_t_1, mx_t_0, mx_gd_T, mx_gd_t, mx_br_T, mx_br_F, mx_br_t, mx_br_f, mx_br_n, mx_cl_T, mx_cl_t, mx_re_T, mx_re_t, mx_rt_v, mx_rt_0, mx_cu_t, mx_w_id, mx_l_id, mx_b_0, mx_b_1, mx_b_r, mx_nl_0, mx_nl_1, mx_nl_2, mx_nl_n, mx_nl_l, mx_sw_n, mx_sw_h, mx_sw_m, Int.reduceLE, Int.reduceLT, Int.reduceEq, Int.reduceAdd, Int.reduceSub, Int.reduceMul, Int.reduceNeg, Int.reduceToNat, and_self, true_and, and_true, false_and, and_false, true_or, or_true, false_or, or_false, not_true_eq_false, not_false_eq_true, eq_self, rw_X4_hasPlace, r.t, r.q, r.l]) | (refine mx_br_c (fun _ => ?_) (fun _ => ?_)) | (refine mx_W_b (fun _ => ?_) (fun _ => ?_))))
  all_goals (first | rfl | (rw [mx_b_t (by first | assumption | omega)]) | (rw [mx_b_f (by first | assumption | omega)]))
theorem c_kindV (r : nr S h N p σ i) (w : nw σ i) {m pc : Nat} {L : mx_L} {st : List mx_V} :
    mx_cu (mx_vt (S p (-2)) [(1, 39), (2, 55), (3, 1), (4, 34), (5, 80), (6, 8)]) d [(2, p)] m pc L st S h n = mx_ex (d + 1) m pc L ((0, it σ i 0) :: st) S h n := by
  have hk := w.k
  have : it σ i 0 = 0 ∨ it σ i 0 = 1 ∨ it σ i 0 = 2 ∨ it σ i 0 = 3 ∨ it σ i 0 = 4 ∨ it σ i 0 = 5 := by omega
  rcases this with g | g | g | g | g | g <;> simp (disch := omega) only [mx_vt_h, mx_vt_m, mx_cmp_0, mx_cmp_1, mx_cmp_2, mx_cmp_3, mx_cmp_4, mx_u_s, mx_u_a, mx_u_k, mx_z_a, mx_z_s, mx_t_a, mx_t_2, mx_t_1, mx_t_0, mx_gd_T, mx_gd_t, mx_br_T, mx_br_F, mx_br_t, mx_br_f, mx_br_n, mx_cl_T, mx_cl_t, mx_re_T, mx_re_t, mx_rt_v, mx_rt_0, mx_cu_t, mx_w_id, mx_l_id, mx_b_0, mx_b_1, mx_b_r, mx_nl_0, mx_nl_1, mx_nl_2, mx_nl_n, mx_nl_l, mx_sw_n, mx_sw_h, mx_sw_m, Int.reduceLE, Int.reduceLT, Int.reduceEq, Int.reduceAdd, Int.reduceSub, Int.reduceMul, Int.reduceNeg, Int.reduceToNat, and_self, true_and, and_true, false_and, and_false, true_or, or_true, false_or, or_false, not_true_eq_false, not_false_eq_true, eq_self, r.t, g, rw_X4_kind, rw_X6_kind, rw_X0_kind, rw_X3_kind, rw_X9_kind, rw_X1_kind]
theorem c_isOfKind (r : nr S h N p σ i) (w : nw σ i) {k : Int} (k0 : 0 ≤ k) (k1 : k ≤ 5) : mx_M d 42 [(2, p), (0, k)] S h n = some (some (0, mx_b (k = 0 ∨ it σ i 0 = k ∨ k = 2 ∧ it σ i 0 = 3 ∨ k = 1 ∧ it σ i 0 = 5)), S, h, n) := by
  have hk := w.k
  have : k = 0 ∨ k = 1 ∨ k = 2 ∨ k = 3 ∨ k = 4 ∨ k = 5 := by omega
  have : it σ i 0 = 0 ∨ it σ i 0 = 1 ∨ it σ i 0 = 2 ∨ it σ i 0 = 3 ∨ it σ i 0 = 4 ∨ it σ i 0 = 5 := by omega
  have key : ∀ c : Prop, ∀ y : Int, (c → y = 1) → (¬ c → y = 0) → (some (some (0, y), S, h, n) : mx_R) = some (some (0, mx_b c), S, h, n) := by
    intro c y h1 h2
    by_cases q : c
    · rw [mx_b_t q, h1 q]
    · rw [mx_b_f q, h2 q]
  have e1 : ∀ c : Prop, ∀ [Decidable c], (0 ≤ (if c then (1 : Int) else 0) ∧ (if c then (1 : Int) else 0) ≤ 1) = True := by
    intro c _; split <;> simp
  rcases (by assumption : k = 0 ∨ k = 1 ∨ k = 2 ∨ k = 3 ∨ k = 4 ∨ k = 5) with q | q | q | q | q | q <;> subst q
  · simp (disch := omega) only [mx_vt_h, mx_vt_m, mx_cmp_0, mx_cmp_1, mx_cmp_2, mx_cmp_3, mx_cmp_4, mx_u_s, mx_u_a, mx_u_k, mx_z_a, mx_z_s, mx_t_a, mx_t_2, mx_t_1, mx_t_0, mx_gd_T, mx_gd_t, mx_br_T, mx_br_F, mx_br_t, mx_br_f, mx_br_n, mx_cl_T, mx_cl_t, mx_re_T, mx_re_t, mx_rt_v, mx_rt_0, mx_cu_t, mx_w_id, mx_l_id, mx_b_0, mx_b_1, mx_b_r, mx_nl_0, mx_nl_1, mx_nl_2, mx_nl_n, mx_nl_l, mx_sw_n, mx_sw_h, mx_sw_m, Int.reduceLE, Int.reduceLT, Int.reduceEq, Int.reduceAdd, Int.reduceSub, Int.reduceMul, Int.reduceNeg, Int.reduceToNat, and_self, true_and, and_true, false_and, and_false, true_or, or_true, false_or, or_false, not_true_eq_false, not_false_eq_true, eq_self, rw_X4_isOfKind]
    rw [mx_b_t trivial]
  all_goals (simp (disch := omega) only [mx_vt_h, mx_vt_m, mx_cmp_0, mx_cmp_1, mx_cmp_2, mx_cmp_3, mx_cmp_4, mx_u_s, mx_u_a, mx_u_k, mx_z_a, mx_z_s, mx_t_a, mx_t_2, mx_t_1, mx_t_0, mx_gd_T, mx_gd_t, mx_br_T, mx_br_F, mx_br_t, mx_br_f, mx_br_n, mx_cl_T, mx_cl_t, mx_re_T, mx_re_t, mx_rt_v, mx_rt_0, mx_cu_t, mx_w_id, mx_l_id, mx_b_0, mx_b_1, mx_b_r, mx_nl_0, mx_nl_1, mx_nl_2, mx_nl_n, mx_nl_l, mx_sw_n, mx_sw_h, mx_sw_m, Int.reduceLE, Int.reduceLT, Int.reduceEq, Int.reduceAdd, Int.reduceSub, Int.reduceMul, Int.reduceNeg, Int.reduceToNat, and_self, true_and, and_true, false_and, and_false, true_or, or_true, false_or, or_false, not_true_eq_false, not_false_eq_true, eq_self, rw_X4_isOfKind, r.t, e1]; apply key <;> (intro q; split <;> omega))
theorem c_markFromLast (r : nr S h N p σ i) (w : nw σ i) {k : Int} (k0 : 0 ≤ k) (k1 : k ≤ 5) : mx_M (d + 1) 41 [(2, p), (0, k)] S h n = some (some (0, if it σ i 3 - 1 - k < 0 then 0 else it σ i (4 + (it σ i 3 - 1 - k))), S, h, n) := by
  have hn := w.n
  have hk := w.k
  by_cases q : it σ i 3 - 1 - k < 0
  · rw [if_pos q]
    simp (disch := omega) only [mx_vt_h, mx_vt_m, mx_cmp_0, mx_cmp_1, mx_cmp_2, mx_cmp_3, mx_cmp_4, mx_u_s, mx_u_a, mx_u_k, mx_z_a, mx_z_s, mx_t_a, mx_t_2, mx_t_1, mx_t_0, mx_gd_T, mx_gd_t, mx_br_T, mx_br_F, mx_br_t, mx_br_f, mx_br_n, mx_cl_T, mx_cl_t, mx_re_T, mx_re_t, mx_rt_v, mx_rt_0, mx_cu_t, mx_w_id, mx_l_id, mx_b_0, mx_b_1, mx_b_r, mx_nl_0, mx_nl_1, mx_nl_2, mx_nl_n, mx_nl_l, mx_sw_n, mx_sw_h, mx_sw_m, Int.reduceLE, Int.reduceLT, Int.reduceEq, Int.reduceAdd, Int.reduceSub, Int.reduceMul, Int.reduceNeg, Int.reduceToNat, and_self, true_and, and_true, false_and, and_false, true_or, or_true, false_or, or_false, not_true_eq_false, not_false_eq_true, eq_self, rw_X4_markFromLast, r.t, r.q, r.l, c_hasPlace r w, mx_b_f (c := 0 ≤ it σ i 3 - 1 - k ∧ it σ i 3 - 1 - k < it σ i 3) (by omega)]
  · rw [if_neg q]
    simp (disch := omega) only [mx_vt_h, mx_vt_m, mx_cmp_0, mx_cmp_1, mx_cmp_2, mx_cmp_3, mx_cmp_4, mx_u_s, mx_u_a, mx_u_k, mx_z_a, mx_z_s, mx_t_a, mx_t_2, mx_t_1, mx_t_0, mx_gd_T, mx_gd_t, mx_br_T, mx_br_F, mx_br_t, mx_br_f, mx_br_n, mx_cl_T, mx_cl_t, mx_re_T, mx_re_t, mx_rt_v, mx_rt_0, mx_cu_t, mx_w_id, mx_l_id, mx_b_0, mx_b_1, mx_b_r, mx_nl_0, mx_nl_1, mx_nl_2, mx_nl_n, mx_nl_l, mx_sw_n, mx_sw_h, mx_sw_m, Int.reduceLE, Int.reduceLT, Int.reduceEq, Int.reduceAdd, Int.reduceSub, Int.reduceMul, Int.reduceNeg, Int.reduceToNat, and_self, true_and, and_true, false_and, and_false, true_or, or_true, false_or, or_false, not_true_eq_false, not_false_eq_true, eq_self, rw_X4_markFromLast, r.t, r.q, r.l, c_hasPlace r w, mx_b_t (c := 0 ≤ it σ i 3 - 1 - k ∧ it σ i 3 - 1 - k < it σ i 3) (by omega), r.s (it σ i 3 - 1 - k) (by omega) (by omega)]
end
