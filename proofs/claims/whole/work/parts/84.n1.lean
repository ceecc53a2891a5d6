/-! The program's notes -/
/-- the cell p tells the note i of σ -/
def nr (S h : mx_H) (N p : Int) (σ : Int → Int) (i : Int) : Prop := (S p (-2) = it σ i 0 + 1) ∧ (h p 0 = i) ∧ (h p 1 = it σ i 2) ∧ (h p 3 = it σ i 1) ∧ (S (S p 2) (-2) = 20) ∧ (S (S p 2) (-1) = it σ i 3) ∧ (∀ k, 0 ≤ k → k < it σ i 3 → h (S p 2) k = it σ i (4 + k)) ∧ (53 ≤ p) ∧ (p < N) ∧ (53 ≤ S p 2) ∧ (S p 2 < N)
theorem nr.mk {S h : mx_H} {N p : Int} {σ : Int → Int} {i : Int} (x0 : S p (-2) = it σ i 0 + 1) (x1 : h p 0 = i) (x2 : h p 1 = it σ i 2) (x3 : h p 3 = it σ i 1) (x4 : S (S p 2) (-2) = 20) (x5 : S (S p 2) (-1) = it σ i 3) (x6 : ∀ k, 0 ≤ k → k < it σ i 3 → h (S p 2) k = it σ i (4 + k)) (x7 : 53 ≤ p) (x8 : p < N) (x9 : 53 ≤ S p 2) (x10 : S p 2 < N) : nr S h N p σ i := (And.intro x0 (And.intro x1 (And.intro x2 (And.intro x3 (And.intro x4 (And.intro x5 (And.intro x6 (And.intro x7 (And.intro x8 (And.intro x9 x10))))))))))
theorem nr.t {S h : mx_H} {N p : Int} {σ : Int → Int} {i : Int} (q : nr S h N p σ i) : S p (-2) = it σ i 0 + 1 := (And.left q)
theorem nr.n {S h : mx_H} {N p : Int} {σ : Int → Int} {i : Int} (q : nr S h N p σ i) : h p 0 = i := (And.left (And.right q))
theorem nr.a {S h : mx_H} {N p : Int} {σ : Int → Int} {i : Int} (q : nr S h N p σ i) : h p 1 = it σ i 2 := (And.left (And.right (And.right q)))
theorem nr.e {S h : mx_H} {N p : Int} {σ : Int → Int} {i : Int} (q : nr S h N p σ i) : h p 3 = it σ i 1 := (And.left (And.right (And.right (And.right q))))
theorem nr.q {S h : mx_H} {N p : Int} {σ : Int → Int} {i : Int} (q : nr S h N p σ i) : S (S p 2) (-2) = 20 := (And.left (And.right (And.right (And.right (And.right q)))))
theorem nr.l {S h : mx_H} {N p : Int} {σ : Int → Int} {i : Int} (q : nr S h N p σ i) : S (S p 2) (-1) = it σ i 3 := (And.left (And.right (And.right (And.right (And.right (And.right q))))))
theorem nr.s {S h : mx_H} {N p : Int} {σ : Int → Int} {i : Int} (q : nr S h N p σ i) : ∀ k, 0 ≤ k → k < it σ i 3 → h (S p 2) k = it σ i (4 + k) := (And.left (And.right (And.right (And.right (And.right (And.right (And.right q)))))))
theorem nr.p0 {S h : mx_H} {N p : Int} {σ : Int → Int} {i : Int} (q : nr S h N p σ i) : 53 ≤ p := (And.left (And.right (And.right (And.right (And.right (And.right (And.right (And.right q))))))))
theorem nr.p1 {S h : mx_H} {N p : Int} {σ : Int → Int} {i : Int} (q : nr S h N p σ i) : p < N := (And.left (And.right (And.right (And.right (And.right (And.right (And.right (And.right (And.right q)))))))))
theorem nr.q0 {S h : mx_H} {N p : Int} {σ : Int → Int} {i : Int} (q : nr S h N p σ i) : 53 ≤ S p 2 := (And.left (And.right (And.right (And.right (And.right (And.right (And.right (And.right (And.right (And.right q))))))))))
theorem nr.q1 {S h : mx_H} {N p : Int} {σ : Int → Int} {i : Int} (q : nr S h N p σ i) : S p 2 < N := (And.right (And.right (And.right (And.right (And.right (And.right (And.right (And.right (And.right (And.right q))))))))))
section
variable {d : Nat} {S h : mx_H} {n N p i : Int} {σ : Int → Int}
/-- what grown makes of the signs from f on -/
def gr (σ : Int → Int) (i b : Int) (v : Int) (f : Int) : Nat → Int
  | 0 => v
  | k + 1 => gr σ i b v f k * b + it σ i (4 + (f + k))
theorem gr_r {b v f : Int} (w : nw σ i) (f0 : 0 ≤ f) (b0 : 1 ≤ b) (b1 : b ≤ 17) {k : Nat} (hk : f + k ≤ it σ i 3) {m : Nat} (v0 : 0 ≤ v) (v1 : v < 18 ^ m) : 0 ≤ gr σ i b v f k ∧ gr σ i b v f k < 18 ^ (m + k) := by
  induction k with
  | zero => exact ⟨v0, v1⟩
  | succ k ih =>
    have ih := ih (by omega)
    have hs := w.s (f + k) (by omega) (by omega)
    simp only [gr]
    have e : (18 : Int) ^ (m + (k + 1)) = 18 ^ (m + k) * 18 := Int.pow_succ _ _
    have m1 : 0 ≤ gr σ i b v f k * b := Int.mul_nonneg ih.1 (by omega)
    have m2 : gr σ i b v f k * b ≤ gr σ i b v f k * 17 := Int.mul_le_mul_of_nonneg_left b1 ih.1
    omega
theorem gr_6 {b v f : Int} (w : nw σ i) (f0 : 0 ≤ f) (b0 : 1 ≤ b) (b1 : b ≤ 17) {k : Nat} (hk : f + k ≤ it σ i 3) (v0 : 0 ≤ v) (v1 : v < 18 ^ f.toNat) : 0 ≤ gr σ i b v f k ∧ gr σ i b v f k < 34012224 := by
  have h := gr_r w f0 b0 b1 hk v0 v1
  have hn := w.n
  have h3 : (18 : Nat) ^ (f.toNat + k) ≤ 18 ^ 6 := Nat.pow_le_pow_right (by decide) (by omega)
  have h4 : ((18 ^ (f.toNat + k) : Nat) : Int) = (18 : Int) ^ (f.toNat + k) := by simp
  omega
theorem c_grown_l {b v f t j : Int} (r : nr S h N p σ i) (w : nw σ i) (k0 : 0 ≤ f) (b0 : 1 ≤ b) (b1 : b ≤ 17) (v0 : 0 ≤ v) (v1 : v < 18 ^ f.toNat) (j0 : f ≤ j) (j1 : j ≤ t) (t1 : t ≤ it σ i 3) {l1 l3 : Option mx_V} :
    mx_ex d 46 6 [some (2, p), l1, some (0, b), l3, some (0, t), some (0, gr σ i b v f (j - f).toNat), some (0, j)] [] S h n = some (some (0, gr σ i b v f (t - f).toNat), S, h, n) := by
  have hk := w.k
  have hn := w.n
  have rt := r.t
  rw [rh_X4_grown_6]
  by_cases q : j < t
  · have e : (j + 1 - f).toNat = (j - f).toNat + 1 := by omega
    have e2 : f + (((j - f).toNat : Nat) : Int) = j := by omega
    have eS : gr σ i b v f (j + 1 - f).toNat = gr σ i b v f (j - f).toNat * b + it σ i (4 + j) := by rw [e]; simp only [gr, e2]
    have ih := fun l3 => c_grown_l r w k0 b0 b1 v0 v1 (j := j + 1) (l1 := l1) (l3 := l3) (by omega) (by omega) t1
    have g1 := gr_6 w k0 b0 b1 (k := (j - f).toNat) (by omega) v0 v1
    have g2 := gr_6 w k0 b0 b1 (k := (j + 1 - f).toNat) (by omega) v0 v1
    rw [eS] at ih g2
    have hs := w.s j (by omega) (by omega)
    have m1 : 0 ≤ gr σ i b v f (j - f).toNat * b := Int.mul_nonneg g1.1 (by omega)
    simp (disch := omega) only [mx_vt_h, mx_vt_m, mx_cmp_0, mx_cmp_1, mx_cmp_2, mx_cmp_3, mx_cmp_4, mx_u_s, mx_u_a, mx_u_k, mx_z_a, mx_z_s, mx_t_a, mx_t_2, mx_t_1, mx_t_0, mx_gd_T, mx_gd_t, mx_br_T, mx_br_F, mx_br_t, mx_br_f, mx_br_n, mx_cl_T, mx_cl_t, mx_re_T, mx_re_t, mx_rt_v, mx_rt_0, mx_cu_t, mx_w_id, mx_l_id, mx_b_0, mx_b_1, mx_b_r, mx_nl_0, mx_nl_1, mx_nl_2, mx_nl_n, mx_nl_l, mx_sw_n, mx_sw_h, mx_sw_m, Int.reduceLE, Int.reduceLT, Int.reduceEq, Int.reduceAdd, Int.reduceSub, Int.reduceMul, Int.reduceNeg, Int.reduceToNat, and_self, true_and, and_true, false_and, and_false, true_or, or_true, false_or, or_false, not_true_eq_false, not_false_eq_true, eq_self, rw_X4_grown, r.t, r.q, r.l, r.s j (by omega) (by omega)]
    exact ih _
  · have e : j = t := by omega
    simp (disch := omega) only [mx_vt_h, mx_vt_m, mx_cmp_0, mx_cmp_1, mx_cmp_2, mx_cmp_3, mx_cmp_4, mx_u_s, mx_u_a, mx_u_k, mx_z_a, mx_z_s, mx_t_a, mx_t_2, mx_t_1, mx_t_0, mx_gd_T, mx_gd_t, mx_br_T, mx_br_F, mx_br_t, mx_br_f, mx_br_n, mx_cl_T, mx_cl_t, mx_re_T, mx_re_t, mx_rt_v, mx_rt_0, mx_cu_t, mx_w_id, mx_l_id, mx_b_0, mx_b_1, mx_b_r, mx_nl_0, mx_nl_1, mx_nl_2, mx_nl_n, mx_nl_l, mx_sw_n, mx_sw_h, mx_sw_m, Int.reduceLE, Int.reduceLT, Int.reduceEq, Int.reduceAdd, Int.reduceSub, Int.reduceMul, Int.reduceNeg, Int.reduceToNat, and_self, true_and, and_true, false_and, and_false, true_or, or_true, false_or, or_false, not_true_eq_false, not_false_eq_true, eq_self, rw_X4_grown, e]
termination_by (t - j).toNat
theorem c_grown {b v f t : Int} (r : nr S h N p σ i) (w : nw σ i) (k0 : 0 ≤ f) (b0 : 1 ≤ b) (b1 : b ≤ 17) (v0 : 0 ≤ v) (v1 : v < 18 ^ f.toNat) (j1 : f ≤ t) (t1 : t ≤ it σ i 3) :
    mx_M d 46 [(2, p), (0, v), (0, b), (0, f), (0, t)] S h n = some (some (0, gr σ i b v f (t - f).toNat), S, h, n) := by
  have ih := fun l1 l3 => c_grown_l (d := d) (n := n) (l1 := l1) (l3 := l3) r w k0 b0 b1 v0 v1 (j := f) (by omega) j1 t1
  have e : (f - f).toNat = 0 := by omega
  rw [e] at ih
  simp (disch := omega) only [mx_vt_h, mx_vt_m, mx_cmp_0, mx_cmp_1, mx_cmp_2, mx_cmp_3, mx_cmp_4, mx_u_s, mx_u_a, mx_u_k, mx_z_a, mx_z_s, mx_t_a, mx_t_2, mx_t_1, mx_t_0, mx_gd_T, mx_gd_t, mx_br_T, mx_br_F, mx_br_t, mx_br_f, mx_br_n, mx_cl_T, mx_cl_t, mx_re_T, mx_re_t, mx_rt_v, mx_rt_0, mx_cu_t, mx_w_id, mx_l_id, mx_b_0, mx_b_1, mx_b_r, mx_nl_0, mx_nl_1, mx_nl_2, mx_nl_n, mx_nl_l, mx_sw_n, mx_sw_h, mx_sw_m, Int.reduceLE, Int.reduceLT, Int.reduceEq, Int.reduceAdd, Int.reduceSub, Int.reduceMul, Int.reduceNeg, Int.reduceToNat, and_self, true_and, and_true, false_and, and_false, true_or, or_true, false_or, or_false, not_true_eq_false, not_false_eq_true, eq_self, rw_X4_grown]
  exact ih _ _
/-- all signs from one place to another are below b -/
def ab (σ : Int → Int) (i b f t : Int) : Prop := ∀ k, f ≤ k → k < t → it σ i (4 + k) < b
theorem c_allBelow_l {b f t : Int} (r : nr S h N p σ i) (w : nw σ i) (k0 : 0 ≤ f) (j1 : f ≤ t) (t1 : t ≤ it σ i 3) {l2 : Option mx_V} :
    mx_ex d 47 3 [some (2, p), some (0, b), l2, some (0, t), some (0, f)] [] S h n = some (some (0, mx_b (ab σ i b f t)), S, h, n) := by
  have hk := w.k
  have hn := w.n
  have rt := r.t
  rw [rh_X4_allBelow_3]
  by_cases q : f < t
  · have ih := fun l2 => c_allBelow_l r w (f := f + 1) (b := b) (l2 := l2) (by omega) (by omega) t1
    by_cases c : it σ i (4 + f) < b
    · have e : ab σ i b (f + 1) t ↔ ab σ i b f t := by
        constructor
        · intro g k k1 k2
          by_cases e : k = f
          · rw [e]; exact c
          · exact g k (by omega) k2
        · intro g k k1 k2; exact g k (by omega) k2
      rw [mx_b_i e] at ih
      simp (disch := omega) only [mx_vt_h, mx_vt_m, mx_cmp_0, mx_cmp_1, mx_cmp_2, mx_cmp_3, mx_cmp_4, mx_u_s, mx_u_a, mx_u_k, mx_z_a, mx_z_s, mx_t_a, mx_t_2, mx_t_1, mx_t_0, mx_gd_T, mx_gd_t, mx_br_T, mx_br_F, mx_br_t, mx_br_f, mx_br_n, mx_cl_T, mx_cl_t, mx_re_T, mx_re_t, mx_rt_v, mx_rt_0, mx_cu_t, mx_w_id, mx_l_id, mx_b_0, mx_b_1, mx_b_r, mx_nl_0, mx_nl_1, mx_nl_2, mx_nl_n, mx_nl_l, mx_sw_n, mx_sw_h, mx_sw_m, Int.reduceLE, Int.reduceLT, Int.reduceEq, Int.reduceAdd, Int.reduceSub, Int.reduceMul, Int.reduceNeg, Int.reduceToNat, and_self, true_and, and_true, false_and, and_false, true_or, or_true, false_or, or_false, not_true_eq_false, not_false_eq_true, eq_self, rw_X4_allBelow, r.t, r.q, r.l, r.s f (by omega) (by omega)]
      exact ih _
    · simp (disch := omega) only [mx_vt_h, mx_vt_m, mx_cmp_0, mx_cmp_1, mx_cmp_2, mx_cmp_3, mx_cmp_4, mx_u_s, mx_u_a, mx_u_k, mx_z_a, mx_z_s, mx_t_a, mx_t_2, mx_t_1, mx_t_0, mx_gd_T, mx_gd_t, mx_br_T, mx_br_F, mx_br_t, mx_br_f, mx_br_n, mx_cl_T, mx_cl_t, mx_re_T, mx_re_t, mx_rt_v, mx_rt_0, mx_cu_t, mx_w_id, mx_l_id, mx_b_0, mx_b_1, mx_b_r, mx_nl_0, mx_nl_1, mx_nl_2, mx_nl_n, mx_nl_l, mx_sw_n, mx_sw_h, mx_sw_m, Int.reduceLE, Int.reduceLT, Int.reduceEq, Int.reduceAdd, Int.reduceSub, Int.reduceMul, Int.reduceNeg, Int.reduceToNat, and_self, true_and, and_true, false_and, and_false, true_or, or_true, false_or, or_false, not_true_eq_false, not_false_eq_true, eq_self, rw_X4_allBelow, r.t, r.q, r.l, r.s f (by omega) (by omega)]
      rw [mx_b_f (fun g => c (g f (by omega) q))]
  · simp (disch := omega) only [mx_vt_h, mx_vt_m, mx_cmp_0, mx_cmp_1, mx_cmp_2, mx_cmp_3, mx_cmp_4, mx_u_s, mx_u_a, mx_u_k, mx_z_a, mx_z_s, mx_t_a, mx_t_2, mx_t_1, mx_t_0, mx_gd_T, mx_gd_t, mx_br_T, mx_br_F, mx_br_t, mx_br_f, mx_br_n, mx_cl_T, mx_cl_t, mx_re_T, mx_re_t, mx_rt_v, mx_rt_0, mx_cu_t, mx_w_id, mx_l_id, mx_b_0, mx_b_1, mx_b_r, mx_nl_0, mx_nl_1, mx_nl_2, mx_nl_n, mx_nl_l, mx_sw_n, mx_sw_h, mx_sw_m, Int.reduceLE, Int.reduceLT, Int.reduceEq, Int.reduceAdd, Int.reduceSub, Int.reduceMul, Int.reduceNeg, Int.reduceToNat, and_self, true_and, and_true, false_and, and_false, true_or, or_true, false_or, or_false, not_true_eq_false, not_false_eq_true, eq_self, rw_X4_allBelow]
    rw [mx_b_t (c := ab σ i b f t) (fun k k1 k2 => absurd k1 (by omega))]
termination_by (t - f).toNat
theorem c_allBelow {b f t : Int} (r : nr S h N p σ i) (w : nw σ i) (k0 : 0 ≤ f) (j1 : f ≤ t) (t1 : t ≤ it σ i 3) :
    mx_M d 47 [(2, p), (0, b), (0, f), (0, t)] S h n = some (some (0, mx_b (ab σ i b f t)), S, h, n) := by
  have ih := fun l1 => c_allBelow_l (d := d) (n := n) (l2 := l1) (b := b) r w k0 j1 t1
  simp (disch := omega) only [mx_vt_h, mx_vt_m, mx_cmp_0, mx_cmp_1, mx_cmp_2, mx_cmp_3, mx_cmp_4, mx_u_s, mx_u_a, mx_u_k, mx_z_a, mx_z_s, mx_t_a, mx_t_2, mx_t_1, mx_t_0, mx_gd_T, mx_gd_t, mx_br_T, mx_br_F, mx_br_t, mx_br_f, mx_br_n, mx_cl_T, mx_cl_t, mx_re_T, mx_re_t, mx_rt_v, mx_rt_0, mx_cu_t, mx_w_id, mx_l_id, mx_b_0, mx_b_1, mx_b_r, mx_nl_0, mx_nl_1, mx_nl_2, mx_nl_n, mx_nl_l, mx_sw_n, mx_sw_h, mx_sw_m, Int.reduceLE, Int.reduceLT, Int.reduceEq, Int.reduceAdd, Int.reduceSub, Int.reduceMul, Int.reduceNeg, Int.reduceToNat, and_self, true_and, and_true, false_and, and_false, true_or, or_true, false_or, or_false, not_true_eq_false, not_false_eq_true, eq_self, rw_X4_allBelow]
  exact ih _
theorem gr_wv {b : Int} (h : ∀ k, 0 ≤ k → k < it σ i 3 → bs σ i k b = b) (g : ¬ it σ i 0 = 4) {k : Nat} (hk : (k : Int) ≤ it σ i 3) : gr σ i b 0 0 k = wv σ i b k := by
  induction k with
  | zero => rfl
  | succ k ih =>
    simp only [gr, wv]
    rw [ih (by omega), h k (by omega) (by omega)]
    unfold pl; rw [if_neg g]
    have : (0 : Int) + (k : Int) = k := by omega
    rw [this]
theorem c_worth4 {b : Int} (r : nr S h N p σ i) (w : nw σ i) (g : it σ i 0 = 0) (b0 : 2 ≤ b) (b1 : b ≤ 16) : mx_M (d + 1) 43 [(2, p), (0, b)] S h n = some (some (0, wo σ i b), S, h, n) := by
  have hn := w.n
  have hb : ∀ k, 0 ≤ k → k < it σ i 3 → bs σ i k b = b := by
    intro k _ _; unfold bs; rw [if_neg (by omega), if_neg (by omega)]
  have e : gr σ i b 0 0 (it σ i 3).toNat = wo σ i b := by
    rw [gr_wv hb (by omega) (by omega)]; unfold wo; rw [if_neg (by omega), if_neg (by omega)]
  have hc := c_grown (d := d) (n := n) (v := 0) (f := 0) (t := it σ i 3) r w (by omega) (b := b) (by omega) (by omega) (by omega) (by decide) (by omega) (by omega)
  rw [Int.sub_zero, e] at hc
  simp (disch := omega) only [mx_vt_h, mx_vt_m, mx_cmp_0, mx_cmp_1, mx_cmp_2, mx_cmp_3, mx_cmp_4, mx_u_s, mx_u_a, mx_u_k, mx_z_a, mx_z_s, mx_t_a, mx_t_2, mx_t_1, mx_t_0, mx_gd_T, mx_gd_t, mx_br_T, mx_br_F, mx_br_t, mx_br_f, mx_br_n, mx_cl_T, mx_cl_t, mx_re_T, mx_re_t, mx_rt_v, mx_rt_0, mx_cu_t, mx_w_id, mx_l_id, mx_b_0, mx_b_1, mx_b_r, mx_nl_0, mx_nl_1, mx_nl_2, mx_nl_n, mx_nl_l, mx_sw_n, mx_sw_h, mx_sw_m, Int.reduceLE, Int.reduceLT, Int.reduceEq, Int.reduceAdd, Int.reduceSub, Int.reduceMul, Int.reduceNeg, Int.reduceToNat, and_self, true_and, and_true, false_and, and_false, true_or, or_true, false_or, or_false, not_true_eq_false, not_false_eq_true, eq_self, rw_X4_worthBy, r.t, r.q, r.l, g, hc]
theorem gr_br {b b2 a : Int} (h : ∀ k, 0 ≤ k → k < it σ i 3 → bs σ i k b = if a ≤ k then b2 else b) (g : ¬ it σ i 0 = 4) (a0 : 0 ≤ a) {k : Nat} (hk : a + k ≤ it σ i 3) : gr σ i b2 (gr σ i b 0 0 a.toNat) a k = wv σ i b (a + k).toNat := by
  have ea : gr σ i b 0 0 a.toNat = wv σ i b a.toNat := by
    have : ∀ m : Nat, (m : Int) ≤ a → gr σ i b 0 0 m = wv σ i b m := by
      intro m
      induction m with
      | zero => intro _; rfl
      | succ m ih =>
        intro hm
        simp only [gr, wv]
        rw [ih (by omega), h m (by omega) (by omega), if_neg (by omega)]
        unfold pl; rw [if_neg g]
        have : (0 : Int) + (m : Int) = m := by omega
        rw [this]
    exact this _ (by omega)
  rw [ea]
  induction k with
  | zero => simp [gr]
  | succ k ih =>
    have e : (a + ((k + 1 : Nat) : Int)).toNat = (a + k).toNat + 1 := by omega
    have e2 : (((a + (k : Int)).toNat : Nat) : Int) = a + k := by omega
    rw [e]; simp only [gr, wv, e2]
    rw [ih (by omega), h (a + k) (by omega) (by omega), if_pos (by omega)]
    unfold pl; rw [if_neg g]
end
