/-! The reference's tokens -/
def ttk (t : Int → Int) (N p : Int) : Int := if tso t N p = 3 then 3 + t (tst t N p) else tso t N p
/-- what the reference makes of digits from a on, up to q -/
def dvv (t : Int → Int) (a q : Int) : Int := if q = a then 0 else if q = a + 1 then t a - 48 else if q = a + 2 then 10 * (t a - 48) + t (a + 1) - 48 else 999
def RT (t : Int → Int) (N p : Int) (h : mx_H) : Prop := (h 38 5 = N) ∧ (h 38 6 = tpl t N p) ∧ (h 38 7 = tst t N p) ∧ (h 38 8 = ttk t N p) ∧ (tso t N p = 2 → h 38 9 = dvv t (tst t N p) (tpl t N p))
theorem RT.mk {t : Int → Int} {N p : Int} {h : mx_H} (x0 : h 38 5 = N) (x1 : h 38 6 = tpl t N p) (x2 : h 38 7 = tst t N p) (x3 : h 38 8 = ttk t N p) (x4 : tso t N p = 2 → h 38 9 = dvv t (tst t N p) (tpl t N p)) : RT t N p h := (And.intro x0 (And.intro x1 (And.intro x2 (And.intro x3 x4))))
theorem RT.N {t : Int → Int} {N p : Int} {h : mx_H} (q : RT t N p h) : h 38 5 = N := (And.left q)
theorem RT.p {t : Int → Int} {N p : Int} {h : mx_H} (q : RT t N p h) : h 38 6 = tpl t N p := (And.left (And.right q))
theorem RT.s {t : Int → Int} {N p : Int} {h : mx_H} (q : RT t N p h) : h 38 7 = tst t N p := (And.left (And.right (And.right q)))
theorem RT.k {t : Int → Int} {N p : Int} {h : mx_H} (q : RT t N p h) : h 38 8 = ttk t N p := (And.left (And.right (And.right (And.right q))))
theorem RT.v {t : Int → Int} {N p : Int} {h : mx_H} (q : RT t N p h) : tso t N p = 2 → h 38 9 = dvv t (tst t N p) (tpl t N p) := (And.right (And.right (And.right (And.right q))))
/-- what the reference's tokens leave as it is -/
def fM (h g : mx_H) : Prop := (∀ b, ¬ b = 38 → g b = h b) ∧ ∀ k, k < 6 ∨ 10 < k → g 38 k = h 38 k
section
variable {S h : mx_H} {n : Int} {d : Nat} {t : Int → Int} {N : Int}
theorem c_bA (hM : sh_M S) {k : Int} (hN : h 38 5 = N) (ht : ∀ k, 0 ≤ k → k < N → h 42 k = t k) (k0 : 0 ≤ k) (N2 : N ≤ 200) : mx_M d 164 [(2, 38), (0, k)] S h n = some (some (0, if k < N then t k else -1), S, h, n) := by
  have hM1 := hM.e
  by_cases q : k < N
  · rw [if_pos q]
    simp (disch := omega) only [mx_vt_h, mx_vt_m, mx_cmp_0, mx_cmp_1, mx_cmp_2, mx_cmp_3, mx_cmp_4, mx_u_s, mx_u_a, mx_u_k, mx_z_a, mx_z_s, mx_t_a, mx_t_2, mx_t_1, mx_t_0, mx_gd_T, mx_gd_t, mx_br_T, mx_br_F, mx_br_t, mx_br_f, mx_br_n, mx_cl_T, mx_cl_t, mx_re_T, mx_re_t, mx_rt_v, mx_rt_0, mx_cu_t, mx_w_id, mx_l_id, mx_b_0, mx_b_1, mx_b_r, mx_nl_0, mx_nl_1, mx_nl_2, mx_nl_n, mx_nl_l, mx_sw_n, mx_sw_h, mx_sw_m, Int.reduceLE, Int.reduceLT, Int.reduceEq, Int.reduceAdd, Int.reduceSub, Int.reduceMul, Int.reduceNeg, Int.reduceToNat, and_self, true_and, and_true, false_and, and_false, true_or, or_true, false_or, or_false, not_true_eq_false, not_false_eq_true, eq_self, rw_X12_byteAt, hM1, hN, ht k k0 q]
  · rw [if_neg q]
    simp (disch := omega) only [mx_vt_h, mx_vt_m, mx_cmp_0, mx_cmp_1, mx_cmp_2, mx_cmp_3, mx_cmp_4, mx_u_s, mx_u_a, mx_u_k, mx_z_a, mx_z_s, mx_t_a, mx_t_2, mx_t_1, mx_t_0, mx_gd_T, mx_gd_t, mx_br_T, mx_br_F, mx_br_t, mx_br_f, mx_br_n, mx_cl_T, mx_cl_t, mx_re_T, mx_re_t, mx_rt_v, mx_rt_0, mx_cu_t, mx_w_id, mx_l_id, mx_b_0, mx_b_1, mx_b_r, mx_nl_0, mx_nl_1, mx_nl_2, mx_nl_n, mx_nl_l, mx_sw_n, mx_sw_h, mx_sw_m, Int.reduceLE, Int.reduceLT, Int.reduceEq, Int.reduceAdd, Int.reduceSub, Int.reduceMul, Int.reduceNeg, Int.reduceToNat, and_self, true_and, and_true, false_and, and_false, true_or, or_true, false_or, or_false, not_true_eq_false, not_false_eq_true, eq_self, rw_X12_byteAt, hM1, hN]
theorem c_nM_s (hM : sh_M S) (ht : ∀ k, 0 ≤ k → k < N → h 42 k = t k) (hN : h 38 5 = N) (N2 : N ≤ 200) {l1 : Option mx_V} : ∀ (f : Nat) (q : Int), 0 ≤ q → q ≤ N → f = (N - q).toNat → mx_ex (d + 1) 165 0 [some (2, 38), l1] [] S (mx_u h 38 6 q) n = mx_ex (d + 1) 165 0 [some (2, 38), l1] [] S (mx_u h 38 6 (skf t f q)) n := by
  have hM1 := hM.e
  intro f
  induction f with
  | zero => intro q q0 q1 hf; rfl
  | succ f ih =>
    intro q q0 q1 hf
    simp only [skf]
    by_cases z : t q = 32
    · rw [if_pos z]
      have ih := ih (q + 1) (by omega) (by omega) (by omega)
      rw [← ih]
      have cb := c_bA (d := d) (n := n) (h := mx_u h 38 6 q) (t := t) (N := N) (k := q) hM (by rw [mx_u_k (by decide)]; exact hN) (fun k a b => by rw [mx_u_a (by decide)]; exact ht k a b) q0 N2
      rw [if_pos (by omega), z] at cb
      conv => lhs; rw [rh_X12_next_0]
      simp (disch := omega) only [mx_vt_h, mx_vt_m, mx_cmp_0, mx_cmp_1, mx_cmp_2, mx_cmp_3, mx_cmp_4, mx_u_s, mx_u_a, mx_u_k, mx_z_a, mx_z_s, mx_t_a, mx_t_2, mx_t_1, mx_t_0, mx_gd_T, mx_gd_t, mx_br_T, mx_br_F, mx_br_t, mx_br_f, mx_br_n, mx_cl_T, mx_cl_t, mx_re_T, mx_re_t, mx_rt_v, mx_rt_0, mx_cu_t, mx_w_id, mx_l_id, mx_b_0, mx_b_1, mx_b_r, mx_nl_0, mx_nl_1, mx_nl_2, mx_nl_n, mx_nl_l, mx_sw_n, mx_sw_h, mx_sw_m, Int.reduceLE, Int.reduceLT, Int.reduceEq, Int.reduceAdd, Int.reduceSub, Int.reduceMul, Int.reduceNeg, Int.reduceToNat, and_self, true_and, and_true, false_and, and_false, true_or, or_true, false_or, or_false, not_true_eq_false, not_false_eq_true, eq_self, rw_X12_next, rw_X12_next_1, hM1, cb, mx_uu]
    · rw [if_neg z]
theorem c_nM_l (hM : sh_M S) (ht : ∀ k, 0 ≤ k → k < N → h 42 k = t k) (hN : h 38 5 = N) (N2 : N ≤ 200) {l1 : Option mx_V} : ∀ (f : Nat) (q : Int), 0 ≤ q → q ≤ N → f = (N - q).toNat → mx_ex (d + 1) 165 71 [some (2, 38), l1] [] S (mx_u h 38 6 q) n = some (none, S, mx_u h 38 6 (lef t f q), n) := by
  have hM1 := hM.e
  intro f
  induction f with
  | zero =>
    intro q q0 q1 hf
    have : q = N := by omega
    subst this
    have cb := c_bA (d := d) (n := n) (h := mx_u h 38 6 q) (t := t) (N := q) (k := q) hM (by rw [mx_u_k (by decide)]; exact hN) (fun k a b => by rw [mx_u_a (by decide)]; exact ht k a b) q0 N2
    rw [if_neg (by omega)] at cb
    rw [rh_X12_next_71]
    simp (disch := omega) only [mx_vt_h, mx_vt_m, mx_cmp_0, mx_cmp_1, mx_cmp_2, mx_cmp_3, mx_cmp_4, mx_u_s, mx_u_a, mx_u_k, mx_z_a, mx_z_s, mx_t_a, mx_t_2, mx_t_1, mx_t_0, mx_gd_T, mx_gd_t, mx_br_T, mx_br_F, mx_br_t, mx_br_f, mx_br_n, mx_cl_T, mx_cl_t, mx_re_T, mx_re_t, mx_rt_v, mx_rt_0, mx_cu_t, mx_w_id, mx_l_id, mx_b_0, mx_b_1, mx_b_r, mx_nl_0, mx_nl_1, mx_nl_2, mx_nl_n, mx_nl_l, mx_sw_n, mx_sw_h, mx_sw_m, Int.reduceLE, Int.reduceLT, Int.reduceEq, Int.reduceAdd, Int.reduceSub, Int.reduceMul, Int.reduceNeg, Int.reduceToNat, and_self, true_and, and_true, false_and, and_false, true_or, or_true, false_or, or_false, not_true_eq_false, not_false_eq_true, eq_self, rw_X12_next, rw_X12_next_1, hM1, cb, c_in, mx_b_f (c := (97 : Int) ≤ -1 ∧ (-1 : Int) ≤ 122) (by omega), lef]
  | succ f ih =>
    intro q q0 q1 hf
    have cb := c_bA (d := d) (n := n) (h := mx_u h 38 6 q) (t := t) (N := N) (k := q) hM (by rw [mx_u_k (by decide)]; exact hN) (fun k a b => by rw [mx_u_a (by decide)]; exact ht k a b) q0 N2
    rw [if_pos (by omega)] at cb
    simp only [lef]
    rw [rh_X12_next_71]
    by_cases z : 97 ≤ t q ∧ t q ≤ 122
    · rw [if_pos z]
      have ih := ih (q + 1) (by omega) (by omega) (by omega)
      simp (disch := omega) only [mx_vt_h, mx_vt_m, mx_cmp_0, mx_cmp_1, mx_cmp_2, mx_cmp_3, mx_cmp_4, mx_u_s, mx_u_a, mx_u_k, mx_z_a, mx_z_s, mx_t_a, mx_t_2, mx_t_1, mx_t_0, mx_gd_T, mx_gd_t, mx_br_T, mx_br_F, mx_br_t, mx_br_f, mx_br_n, mx_cl_T, mx_cl_t, mx_re_T, mx_re_t, mx_rt_v, mx_rt_0, mx_cu_t, mx_w_id, mx_l_id, mx_b_0, mx_b_1, mx_b_r, mx_nl_0, mx_nl_1, mx_nl_2, mx_nl_n, mx_nl_l, mx_sw_n, mx_sw_h, mx_sw_m, Int.reduceLE, Int.reduceLT, Int.reduceEq, Int.reduceAdd, Int.reduceSub, Int.reduceMul, Int.reduceNeg, Int.reduceToNat, and_self, true_and, and_true, false_and, and_false, true_or, or_true, false_or, or_false, not_true_eq_false, not_false_eq_true, eq_self, rw_X12_next, rw_X12_next_1, hM1, cb, c_in, mx_b_t z, mx_uu]
      exact ih
    · rw [if_neg z]
      simp (disch := omega) only [mx_vt_h, mx_vt_m, mx_cmp_0, mx_cmp_1, mx_cmp_2, mx_cmp_3, mx_cmp_4, mx_u_s, mx_u_a, mx_u_k, mx_z_a, mx_z_s, mx_t_a, mx_t_2, mx_t_1, mx_t_0, mx_gd_T, mx_gd_t, mx_br_T, mx_br_F, mx_br_t, mx_br_f, mx_br_n, mx_cl_T, mx_cl_t, mx_re_T, mx_re_t, mx_rt_v, mx_rt_0, mx_cu_t, mx_w_id, mx_l_id, mx_b_0, mx_b_1, mx_b_r, mx_nl_0, mx_nl_1, mx_nl_2, mx_nl_n, mx_nl_l, mx_sw_n, mx_sw_h, mx_sw_m, Int.reduceLE, Int.reduceLT, Int.reduceEq, Int.reduceAdd, Int.reduceSub, Int.reduceMul, Int.reduceNeg, Int.reduceToNat, and_self, true_and, and_true, false_and, and_false, true_or, or_true, false_or, or_false, not_true_eq_false, not_false_eq_true, eq_self, rw_X12_next, rw_X12_next_1, hM1, cb, c_in, mx_b_f z]
theorem c_nM_d (hM : sh_M S) (ht : ∀ k, 0 ≤ k → k < N → h 42 k = t k) (hN : h 38 5 = N) (N2 : N ≤ 200) {a : Int} (ha : h 38 7 = a) {l1 : Option mx_V} : ∀ (f : Nat) (q : Int), 0 ≤ a → a ≤ q → q ≤ N → (a < q → 48 ≤ t a ∧ t a ≤ 57) → f = (N - q).toNat → mx_ex (d + 1) 165 123 [some (2, 38), l1] [] S (mx_u (mx_u h 38 9 (dvv t a q)) 38 6 q) n = some (none, S, mx_u (mx_u h 38 9 (dvv t a (dgf t f q))) 38 6 (dgf t f q), n) := by
  have hM1 := hM.e
  intro f
  induction f with
  | zero =>
    intro q a0 q0 q1 da hf
    have : q = N := by omega
    subst this
    have cb := c_bA (d := d) (n := n) (h := mx_u (mx_u h 38 9 (dvv t a q)) 38 6 q) (t := t) (N := q) (k := q) hM (by rw [mx_u_k (by decide), mx_u_k (by decide)]; exact hN) (fun k a b => by rw [mx_u_a (by decide), mx_u_a (by decide)]; exact ht k a b) (by omega) N2
    rw [if_neg (by omega)] at cb
    rw [rh_X12_next_123]
    simp (disch := omega) only [mx_vt_h, mx_vt_m, mx_cmp_0, mx_cmp_1, mx_cmp_2, mx_cmp_3, mx_cmp_4, mx_u_s, mx_u_a, mx_u_k, mx_z_a, mx_z_s, mx_t_a, mx_t_2, mx_t_1, mx_t_0, mx_gd_T, mx_gd_t, mx_br_T, mx_br_F, mx_br_t, mx_br_f, mx_br_n, mx_cl_T, mx_cl_t, mx_re_T, mx_re_t, mx_rt_v, mx_rt_0, mx_cu_t, mx_w_id, mx_l_id, mx_b_0, mx_b_1, mx_b_r, mx_nl_0, mx_nl_1, mx_nl_2, mx_nl_n, mx_nl_l, mx_sw_n, mx_sw_h, mx_sw_m, Int.reduceLE, Int.reduceLT, Int.reduceEq, Int.reduceAdd, Int.reduceSub, Int.reduceMul, Int.reduceNeg, Int.reduceToNat, and_self, true_and, and_true, false_and, and_false, true_or, or_true, false_or, or_false, not_true_eq_false, not_false_eq_true, eq_self, rw_X12_next, rw_X12_next_1, hM1, cb, c_in, mx_b_f (c := (48 : Int) ≤ -1 ∧ (-1 : Int) ≤ 57) (by omega), dgf]
  | succ f ih =>
    intro q a0 q0 q1 da hf
    have cb := c_bA (d := d) (n := n) (h := mx_u (mx_u h 38 9 (dvv t a q)) 38 6 q) (t := t) (N := N) (k := q) hM (by rw [mx_u_k (by decide), mx_u_k (by decide)]; exact hN) (fun k a b => by rw [mx_u_a (by decide), mx_u_a (by decide)]; exact ht k a b) (by omega) N2
    rw [if_pos (by omega)] at cb
    simp only [dgf]
    rw [rh_X12_next_123]
    by_cases z : 48 ≤ t q ∧ t q ≤ 57
    · rw [if_pos z]
      have ih := ih (q + 1) a0 (by omega) (by omega) (fun _ => by
        by_cases e : q = a
        · rw [← e]; exact z
        · exact da (by omega)) (by omega)
      have sw : ∀ w, mx_u (mx_u (mx_u (mx_u h 38 9 (dvv t a q)) 38 6 q) 38 9 w) 38 6 (q + 1) = mx_u (mx_u h 38 9 w) 38 6 (q + 1) := fun w => by
        funext b j; unfold mx_u
        by_cases p6 : b = 38 ∧ j = 6
        · rw [if_pos p6, if_pos p6]
        · by_cases p9 : b = 38 ∧ j = 9
          · simp only [p6, p9, if_false, if_true, and_self]
          · simp only [p6, p9, if_false]
      by_cases c2 : q = a ∨ q = a + 1
      · have ev : 10 * dvv t a q + t q - 48 = dvv t a (q + 1) := by
          unfold dvv
          rcases c2 with c2 | c2
          · rw [if_pos c2, if_neg (by omega), if_pos (by omega), c2]; omega
          · rw [if_neg (by omega), if_pos c2, if_neg (by omega), if_neg (by omega), if_pos (by omega), c2]
        have dr : 0 ≤ dvv t a q ∧ dvv t a q ≤ 1000 := by
          unfold dvv
          rcases c2 with c2 | c2
          · rw [if_pos c2]; omega
          · rw [if_neg (by omega), if_pos c2]
            have := da (by omega)
            omega
        have cb2 := c_bA (d := d) (n := n) (h := mx_u (mx_u h 38 9 (dvv t a q)) 38 6 q) (t := t) (N := N) (k := q) hM (by rw [mx_u_k (by decide), mx_u_k (by decide)]; exact hN) (fun k a b => by rw [mx_u_a (by decide), mx_u_a (by decide)]; exact ht k a b) (by omega) N2
        rw [← ev, ← sw] at ih
        simp (disch := omega) only [mx_vt_h, mx_vt_m, mx_cmp_0, mx_cmp_1, mx_cmp_2, mx_cmp_3, mx_cmp_4, mx_u_s, mx_u_a, mx_u_k, mx_z_a, mx_z_s, mx_t_a, mx_t_2, mx_t_1, mx_t_0, mx_gd_T, mx_gd_t, mx_br_T, mx_br_F, mx_br_t, mx_br_f, mx_br_n, mx_cl_T, mx_cl_t, mx_re_T, mx_re_t, mx_rt_v, mx_rt_0, mx_cu_t, mx_w_id, mx_l_id, mx_b_0, mx_b_1, mx_b_r, mx_nl_0, mx_nl_1, mx_nl_2, mx_nl_n, mx_nl_l, mx_sw_n, mx_sw_h, mx_sw_m, Int.reduceLE, Int.reduceLT, Int.reduceEq, Int.reduceAdd, Int.reduceSub, Int.reduceMul, Int.reduceNeg, Int.reduceToNat, and_self, true_and, and_true, false_and, and_false, true_or, or_true, false_or, or_false, not_true_eq_false, not_false_eq_true, eq_self, rw_X12_next, rw_X12_next_1, hM1, cb, c_in, mx_b_t z, ha]
        exact ih
      · have ev : dvv t a (q + 1) = 999 := by
          unfold dvv; rw [if_neg (by omega), if_neg (by omega), if_neg (by omega)]
        rw [ev, ← sw] at ih
        simp (disch := omega) only [mx_vt_h, mx_vt_m, mx_cmp_0, mx_cmp_1, mx_cmp_2, mx_cmp_3, mx_cmp_4, mx_u_s, mx_u_a, mx_u_k, mx_z_a, mx_z_s, mx_t_a, mx_t_2, mx_t_1, mx_t_0, mx_gd_T, mx_gd_t, mx_br_T, mx_br_F, mx_br_t, mx_br_f, mx_br_n, mx_cl_T, mx_cl_t, mx_re_T, mx_re_t, mx_rt_v, mx_rt_0, mx_cu_t, mx_w_id, mx_l_id, mx_b_0, mx_b_1, mx_b_r, mx_nl_0, mx_nl_1, mx_nl_2, mx_nl_n, mx_nl_l, mx_sw_n, mx_sw_h, mx_sw_m, Int.reduceLE, Int.reduceLT, Int.reduceEq, Int.reduceAdd, Int.reduceSub, Int.reduceMul, Int.reduceNeg, Int.reduceToNat, and_self, true_and, and_true, false_and, and_false, true_or, or_true, false_or, or_false, not_true_eq_false, not_false_eq_true, eq_self, rw_X12_next, rw_X12_next_1, hM1, cb, c_in, mx_b_t z, ha]
        exact ih
    · rw [if_neg z]
      simp (disch := omega) only [mx_vt_h, mx_vt_m, mx_cmp_0, mx_cmp_1, mx_cmp_2, mx_cmp_3, mx_cmp_4, mx_u_s, mx_u_a, mx_u_k, mx_z_a, mx_z_s, mx_t_a, mx_t_2, mx_t_1, mx_t_0, mx_gd_T, mx_gd_t, mx_br_T, mx_br_F, mx_br_t, mx_br_f, mx_br_n, mx_cl_T, mx_cl_t, mx_re_T, mx_re_t, mx_rt_v, mx_rt_0, mx_cu_t, mx_w_id, mx_l_id, mx_b_0, mx_b_1, mx_b_r, mx_nl_0, mx_nl_1, mx_nl_2, mx_nl_n, mx_nl_l, mx_sw_n, mx_sw_h, mx_sw_m, Int.reduceLE, Int.reduceLT, Int.reduceEq, Int.reduceAdd, Int.reduceSub, Int.reduceMul, Int.reduceNeg, Int.reduceToNat, and_self, true_and, and_true, false_and, and_false, true_or, or_true, false_or, or_false, not_true_eq_false, not_false_eq_true, eq_self, rw_X12_next, rw_X12_next_1, hM1, cb, c_in, mx_b_f z]
theorem c_nextM {p : Int} (hM : sh_M S) (ht : ∀ k, 0 ≤ k → k < N → h 42 k = t k) (tb : ∀ k, 0 ≤ k → k < N → 0 ≤ t k ∧ t k ≤ 255) (hN : h 38 5 = N) (N2 : N ≤ 200) (hp : h 38 6 = p) (p0 : 0 ≤ p ∧ p ≤ N) : ∃ g, mx_M (d + 2) 165 [(2, 38)] S h n = some (none, S, g, n) ∧ fM h g ∧ RT t N p g ∧ g 38 10 = h 38 10 := by
  have hM1 := hM.e
  have r := tst_r (t := t) p0.2
  have rp := tpl_r (t := t) p0.2
  have e0 : mx_M (d + 2) 165 [(2, 38)] S h n = mx_ex (d + 2) 165 0 [some (2, 38), none] [] S (mx_u h 38 6 (tst t N p)) n := by
    have e := c_nM_s (d := d + 1) (n := n) (l1 := none) hM ht hN N2 (N - p).toNat p p0.1 p0.2 rfl
    rw [mx_ui hp] at e
    unfold tst
    rw [← e]
    simp (disch := omega) only [mx_vt_h, mx_vt_m, mx_cmp_0, mx_cmp_1, mx_cmp_2, mx_cmp_3, mx_cmp_4, mx_u_s, mx_u_a, mx_u_k, mx_z_a, mx_z_s, mx_t_a, mx_t_2, mx_t_1, mx_t_0, mx_gd_T, mx_gd_t, mx_br_T, mx_br_F, mx_br_t, mx_br_f, mx_br_n, mx_cl_T, mx_cl_t, mx_re_T, mx_re_t, mx_rt_v, mx_rt_0, mx_cu_t, mx_w_id, mx_l_id, mx_b_0, mx_b_1, mx_b_r, mx_nl_0, mx_nl_1, mx_nl_2, mx_nl_n, mx_nl_l, mx_sw_n, mx_sw_h, mx_sw_m, Int.reduceLE, Int.reduceLT, Int.reduceEq, Int.reduceAdd, Int.reduceSub, Int.reduceMul, Int.reduceNeg, Int.reduceToNat, and_self, true_and, and_true, false_and, and_false, true_or, or_true, false_or, or_false, not_true_eq_false, not_false_eq_true, eq_self, rw_X12_next, rw_X12_next_1]
  have n32 : tst t N p < N → ¬ t (tst t N p) = 32 := fun q => by
    have := skf_r (t := t) (N - p).toNat p
    exact this.2.2 (by unfold tst at q; omega)
  have cb := c_bA (d := d + 1) (n := n) (h := mx_u h 38 6 (tst t N p)) (t := t) (N := N) (k := tst t N p) hM (by rw [mx_u_k (by decide)]; exact hN) (fun k a b => by rw [mx_u_a (by decide)]; exact ht k a b) (by omega) N2
  have cb2 := c_bA (d := d + 1) (n := n) (h := mx_u (mx_u h 38 6 (tst t N p)) 38 7 (tst t N p)) (t := t) (N := N) (k := tst t N p) hM (by rw [mx_u_k (by decide), mx_u_k (by decide)]; exact hN) (fun k a b => by rw [mx_u_a (by decide), mx_u_a (by decide)]; exact ht k a b) (by omega) N2
  by_cases q : N ≤ tst t N p
  · rw [if_neg (by omega)] at cb cb2
    have k0 : tso t N p = 0 := tso_0.mpr q
    have pe : tpl t N p = tst t N p := by unfold tpl; rw [if_pos q]
    refine ⟨mx_u (mx_u (mx_u h 38 6 (tst t N p)) 38 7 (tst t N p)) 38 8 0, ?_, ⟨fun b b0 => by simp (disch := omega) only [mx_u_a], fun k b0 => by simp (disch := omega) only [mx_u_k]⟩, RT.mk ?_ ?_ ?_ ?_ ?_, by simp (disch := omega) only [mx_u_k]⟩
    · rw [e0, rh_X12_next_0]
      simp (disch := omega) only [mx_vt_h, mx_vt_m, mx_cmp_0, mx_cmp_1, mx_cmp_2, mx_cmp_3, mx_cmp_4, mx_u_s, mx_u_a, mx_u_k, mx_z_a, mx_z_s, mx_t_a, mx_t_2, mx_t_1, mx_t_0, mx_gd_T, mx_gd_t, mx_br_T, mx_br_F, mx_br_t, mx_br_f, mx_br_n, mx_cl_T, mx_cl_t, mx_re_T, mx_re_t, mx_rt_v, mx_rt_0, mx_cu_t, mx_w_id, mx_l_id, mx_b_0, mx_b_1, mx_b_r, mx_nl_0, mx_nl_1, mx_nl_2, mx_nl_n, mx_nl_l, mx_sw_n, mx_sw_h, mx_sw_m, Int.reduceLE, Int.reduceLT, Int.reduceEq, Int.reduceAdd, Int.reduceSub, Int.reduceMul, Int.reduceNeg, Int.reduceToNat, and_self, true_and, and_true, false_and, and_false, true_or, or_true, false_or, or_false, not_true_eq_false, not_false_eq_true, eq_self, rw_X12_next, rw_X12_next_1, hM1, cb, cb2]
    · simp (disch := omega) only [mx_u_k]; exact hN
    · simp (disch := omega) only [mx_u_k, mx_u_s]; rw [pe]
    · simp (disch := omega) only [mx_u_k, mx_u_s]
    · simp (disch := omega) only [mx_u_s]; unfold ttk; rw [k0]; rfl
    · intro z; omega
  · rw [if_pos (by omega)] at cb cb2
    have n32 := n32 (by omega)
    have tb := tb (tst t N p) (by omega) (by omega)
    by_cases u : 97 ≤ t (tst t N p) ∧ t (tst t N p) ≤ 122
    · have k1 : tso t N p = 1 := by unfold tso; rw [if_neg q, if_pos u]
      have pe : tpl t N p = lef t (N - tst t N p).toNat (tst t N p) := by unfold tpl; rw [if_neg q, if_pos u]
      have el := fun l1 => c_nM_l (d := d + 1) (n := n) (l1 := l1) (h := mx_u (mx_u (mx_u h 38 6 (tst t N p)) 38 7 (tst t N p)) 38 8 1) (t := t) (N := N) hM (fun k a b => by simp (disch := omega) only [mx_u_a]; exact ht k a b) (by simp (disch := omega) only [mx_u_k]; exact hN) N2 (N - tst t N p).toNat (tst t N p) (by omega) (by omega) rfl
      rw [← pe, mx_ui (h := mx_u (mx_u (mx_u h 38 6 (tst t N p)) 38 7 (tst t N p)) 38 8 1) (a := 38) (k := 6) (v := tst t N p) (by simp (disch := omega) only [mx_u_k, mx_u_s])] at el
      refine ⟨mx_u (mx_u (mx_u (mx_u h 38 6 (tst t N p)) 38 7 (tst t N p)) 38 8 1) 38 6 (tpl t N p), ?_, ⟨fun b b0 => by simp (disch := omega) only [mx_u_a], fun k b0 => by simp (disch := omega) only [mx_u_k]⟩, RT.mk ?_ ?_ ?_ ?_ ?_, by simp (disch := omega) only [mx_u_k]⟩
      · rw [e0, rh_X12_next_0]
        simp (disch := omega) only [mx_vt_h, mx_vt_m, mx_cmp_0, mx_cmp_1, mx_cmp_2, mx_cmp_3, mx_cmp_4, mx_u_s, mx_u_a, mx_u_k, mx_z_a, mx_z_s, mx_t_a, mx_t_2, mx_t_1, mx_t_0, mx_gd_T, mx_gd_t, mx_br_T, mx_br_F, mx_br_t, mx_br_f, mx_br_n, mx_cl_T, mx_cl_t, mx_re_T, mx_re_t, mx_rt_v, mx_rt_0, mx_cu_t, mx_w_id, mx_l_id, mx_b_0, mx_b_1, mx_b_r, mx_nl_0, mx_nl_1, mx_nl_2, mx_nl_n, mx_nl_l, mx_sw_n, mx_sw_h, mx_sw_m, Int.reduceLE, Int.reduceLT, Int.reduceEq, Int.reduceAdd, Int.reduceSub, Int.reduceMul, Int.reduceNeg, Int.reduceToNat, and_self, true_and, and_true, false_and, and_false, true_or, or_true, false_or, or_false, not_true_eq_false, not_false_eq_true, eq_self, rw_X12_next, rw_X12_next_1, hM1, cb, cb2, c_in, mx_b_t u]
        exact el _
      · simp (disch := omega) only [mx_u_k]; exact hN
      · simp (disch := omega) only [mx_u_s]
      · simp (disch := omega) only [mx_u_k, mx_u_s]
      · simp (disch := omega) only [mx_u_k, mx_u_s]; unfold ttk; rw [k1]; rfl
      · intro z; omega
    · by_cases w : 48 ≤ t (tst t N p) ∧ t (tst t N p) ≤ 57
      · have k2 : tso t N p = 2 := by unfold tso; rw [if_neg q, if_neg u, if_pos w]
        have pe : tpl t N p = dgf t (N - tst t N p).toNat (tst t N p) := by unfold tpl; rw [if_neg q, if_neg u, if_pos w]
        have ed := fun l1 => c_nM_d (d := d + 1) (n := n) (l1 := l1) (a := tst t N p) (h := mx_u (mx_u (mx_u h 38 6 (tst t N p)) 38 7 (tst t N p)) 38 8 2) (t := t) (N := N) hM (fun k a b => by simp (disch := omega) only [mx_u_a]; exact ht k a b) (by simp (disch := omega) only [mx_u_k]; exact hN) N2 (by simp (disch := omega) only [mx_u_k, mx_u_s]) (N - tst t N p).toNat (tst t N p) (by omega) (by omega) (by omega) (fun z => by omega) rfl
        have d0 : dvv t (tst t N p) (tst t N p) = 0 := by unfold dvv; rw [if_pos rfl]
        rw [← pe, d0, mx_ui (h := mx_u (mx_u (mx_u (mx_u h 38 6 (tst t N p)) 38 7 (tst t N p)) 38 8 2) 38 9 0) (a := 38) (k := 6) (v := tst t N p) (by simp (disch := omega) only [mx_u_k, mx_u_s])] at ed
        refine ⟨mx_u (mx_u (mx_u (mx_u (mx_u h 38 6 (tst t N p)) 38 7 (tst t N p)) 38 8 2) 38 9 (dvv t (tst t N p) (tpl t N p))) 38 6 (tpl t N p), ?_, ⟨fun b b0 => by simp (disch := omega) only [mx_u_a], fun k b0 => by simp (disch := omega) only [mx_u_k]⟩, RT.mk ?_ ?_ ?_ ?_ ?_, by simp (disch := omega) only [mx_u_k]⟩
        · rw [e0, rh_X12_next_0]
          simp (disch := omega) only [mx_vt_h, mx_vt_m, mx_cmp_0, mx_cmp_1, mx_cmp_2, mx_cmp_3, mx_cmp_4, mx_u_s, mx_u_a, mx_u_k, mx_z_a, mx_z_s, mx_t_a, mx_t_2, mx_t_1, mx_t_0, mx_gd_T, mx_gd_t, mx_br_T, mx_br_F, mx_br_t, mx_br_f, mx_br_n, mx_cl_T, mx_cl_t, mx_re_T, mx_re_t, mx_rt_v, mx_rt_0, mx_cu_t, mx_w_id, mx_l_id, mx_b_0, mx_b_1, mx_b_r, mx_nl_0, mx_nl_1, mx_nl_2, mx_nl_n, mx_nl_l, mx_sw_n, mx_sw_h, mx_sw_m, Int.reduceLE, Int.reduceLT, Int.reduceEq, Int.reduceAdd, Int.reduceSub, Int.reduceMul, Int.reduceNeg, Int.reduceToNat, and_self, true_and, and_true, false_and, and_false, true_or, or_true, false_or, or_false, not_true_eq_false, not_false_eq_true, eq_self, rw_X12_next, rw_X12_next_1, hM1, cb, cb2, c_in, mx_b_f u, mx_b_t w]
          exact ed _
        · simp (disch := omega) only [mx_u_k]; exact hN
        · simp (disch := omega) only [mx_u_s]
        · simp (disch := omega) only [mx_u_k, mx_u_s]
        · simp (disch := omega) only [mx_u_k, mx_u_s]; unfold ttk; rw [k2]; rfl
        · intro _; simp (disch := omega) only [mx_u_k, mx_u_s]
      · have k3 : tso t N p = 3 := by unfold tso; rw [if_neg q, if_neg u, if_neg w]
        have pe : tpl t N p = tst t N p + 1 := by unfold tpl; rw [if_neg q, if_neg u, if_neg w]
        refine ⟨mx_u (mx_u (mx_u (mx_u h 38 6 (tst t N p)) 38 7 (tst t N p)) 38 8 (3 + t (tst t N p))) 38 6 (tst t N p + 1), ?_, ⟨fun b b0 => by simp (disch := omega) only [mx_u_a], fun k b0 => by simp (disch := omega) only [mx_u_k]⟩, RT.mk ?_ ?_ ?_ ?_ ?_, by simp (disch := omega) only [mx_u_k]⟩
        · rw [e0, rh_X12_next_0]
          simp (disch := omega) only [mx_vt_h, mx_vt_m, mx_cmp_0, mx_cmp_1, mx_cmp_2, mx_cmp_3, mx_cmp_4, mx_u_s, mx_u_a, mx_u_k, mx_z_a, mx_z_s, mx_t_a, mx_t_2, mx_t_1, mx_t_0, mx_gd_T, mx_gd_t, mx_br_T, mx_br_F, mx_br_t, mx_br_f, mx_br_n, mx_cl_T, mx_cl_t, mx_re_T, mx_re_t, mx_rt_v, mx_rt_0, mx_cu_t, mx_w_id, mx_l_id, mx_b_0, mx_b_1, mx_b_r, mx_nl_0, mx_nl_1, mx_nl_2, mx_nl_n, mx_nl_l, mx_sw_n, mx_sw_h, mx_sw_m, Int.reduceLE, Int.reduceLT, Int.reduceEq, Int.reduceAdd, Int.reduceSub, Int.reduceMul, Int.reduceNeg, Int.reduceToNat, and_self, true_and, and_true, false_and, and_false, true_or, or_true, false_or, or_false, not_true_eq_false, not_false_eq_true, eq_self, rw_X12_next, rw_X12_next_1, hM1, cb, cb2, c_in, mx_b_f u, mx_b_f w]
        · simp (disch := omega) only [mx_u_k]; exact hN
        · simp (disch := omega) only [mx_u_s]; rw [pe]
        · simp (disch := omega) only [mx_u_k, mx_u_s]
        · simp (disch := omega) only [mx_u_k, mx_u_s]; unfold ttk; rw [if_pos k3]
        · intro z; omega
end
