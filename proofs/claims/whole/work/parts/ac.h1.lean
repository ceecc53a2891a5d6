/-! A text, token by token -/
def skf (t : Int → Int) : Nat → Int → Int
  | 0, p => p
  | f + 1, p => if t p = 32 then skf t f (p + 1) else p
def lef (t : Int → Int) : Nat → Int → Int
  | 0, p => p
  | f + 1, p => if 97 ≤ t p ∧ t p ≤ 122 then lef t f (p + 1) else p
def dgf (t : Int → Int) : Nat → Int → Int
  | 0, p => p
  | f + 1, p => if 48 ≤ t p ∧ t p ≤ 57 then dgf t f (p + 1) else p
/-- where the next token begins -/
def tst (t : Int → Int) (N p : Int) : Int := skf t (N - p).toNat p
def tso (t : Int → Int) (N p : Int) : Int := if N ≤ tst t N p then 0 else if 97 ≤ t (tst t N p) ∧ t (tst t N p) ≤ 122 then 1 else if 48 ≤ t (tst t N p) ∧ t (tst t N p) ≤ 57 then 2 else 3
def tpl (t : Int → Int) (N p : Int) : Int := if N ≤ tst t N p then tst t N p else if 97 ≤ t (tst t N p) ∧ t (tst t N p) ≤ 122 then lef t (N - tst t N p).toNat (tst t N p) else if 48 ≤ t (tst t N p) ∧ t (tst t N p) ≤ 57 then dgf t (N - tst t N p).toNat (tst t N p) else tst t N p + 1
/-- the number of the digits from a on, up to b, if there are two at most -/
def wrt (t : Int → Int) (a b : Int) : Int := if b = a + 1 then t a - 48 else (t a - 48) * 10 + t (a + 1) - 48
def tva (t : Int → Int) (N p : Int) : Int := if tso t N p = 2 then (if tpl t N p - tst t N p ≤ 2 then wrt t (tst t N p) (tpl t N p) else -1) else if tso t N p = 3 then t (tst t N p) else -1
section
variable {t : Int → Int} {N p : Int}
theorem skf_r : ∀ (f : Nat) (p : Int), p ≤ skf t f p ∧ skf t f p ≤ p + f ∧ (skf t f p < p + f → ¬ t (skf t f p) = 32) := by
  intro f
  induction f with
  | zero => intro p; simp only [skf]; omega
  | succ f ih =>
    intro p
    simp only [skf]
    split
    · have := ih (p + 1)
      refine ⟨by omega, by omega, fun q => this.2.2 (by omega)⟩
    · rename_i h
      exact ⟨Int.le_refl _, by omega, fun _ => h⟩
theorem lef_r : ∀ (f : Nat) (p : Int), p ≤ lef t f p ∧ lef t f p ≤ p + f := by
  intro f
  induction f with
  | zero => intro p; simp only [lef]; omega
  | succ f ih =>
    intro p
    simp only [lef]
    have := ih (p + 1)
    split <;> omega
theorem dgf_r : ∀ (f : Nat) (p : Int), p ≤ dgf t f p ∧ dgf t f p ≤ p + f ∧ ∀ k, p ≤ k → k < dgf t f p → 48 ≤ t k ∧ t k ≤ 57 := by
  intro f
  induction f with
  | zero => intro p; simp only [dgf]; exact ⟨Int.le_refl _, by omega, fun k a b => by omega⟩
  | succ f ih =>
    intro p
    simp only [dgf]
    have := ih (p + 1)
    split
    · rename_i h
      refine ⟨by omega, by omega, fun k a b => ?_⟩
      by_cases e : k = p
      · rw [e]; exact h
      · exact this.2.2 k (by omega) b
    · exact ⟨Int.le_refl _, by omega, fun k a b => by omega⟩
theorem tst_r (h : p ≤ N) : p ≤ tst t N p ∧ tst t N p ≤ N := by
  have := skf_r (t := t) (N - p).toNat p
  unfold tst; omega
theorem tpl_r (h : p ≤ N) : tst t N p ≤ tpl t N p ∧ tpl t N p ≤ N ∧ (tst t N p < N → tst t N p < tpl t N p) := by
  have r := tst_r (t := t) h
  unfold tpl
  split
  · omega
  · rename_i q
    have e : (N - tst t N p).toNat = (N - tst t N p).toNat - 1 + 1 := by omega
    split
    · rename_i u
      rw [e]; simp only [lef]; rw [if_pos u]
      have := lef_r (t := t) ((N - tst t N p).toNat - 1) (tst t N p + 1)
      omega
    · split
      · rename_i u
        rw [e]; simp only [dgf]; rw [if_pos u]
        have := dgf_r (t := t) ((N - tst t N p).toNat - 1) (tst t N p + 1)
        omega
      · omega
theorem tso_r : tso t N p = 0 ∨ tso t N p = 1 ∨ tso t N p = 2 ∨ tso t N p = 3 := by
  unfold tso; split
  · exact Or.inl rfl
  · split
    · exact Or.inr (Or.inl rfl)
    · split
      · exact Or.inr (Or.inr (Or.inl rfl))
      · exact Or.inr (Or.inr (Or.inr rfl))
theorem tso_0 : tso t N p = 0 ↔ N ≤ tst t N p := by
  unfold tso; split
  · exact ⟨fun _ => by assumption, fun _ => rfl⟩
  · constructor
    · intro h; split at h
      · omega
      · split at h <;> omega
    · intro h; omega
/-- a number told is from 0 to 99 -/
theorem wrt_r (h0 : 0 ≤ p) (h : p ≤ N) (s : tso t N p = 2) (l : tpl t N p - tst t N p ≤ 2) : 0 ≤ wrt t (tst t N p) (tpl t N p) ∧ wrt t (tst t N p) (tpl t N p) ≤ 99 := by
  have r := tst_r (t := t) h
  have q : ¬ N ≤ tst t N p := fun z => by have := tso_0.mpr z; omega
  have u : ¬ (97 ≤ t (tst t N p) ∧ t (tst t N p) ≤ 122) := fun z => by unfold tso at s; rw [if_neg q, if_pos z] at s; omega
  have v : 48 ≤ t (tst t N p) ∧ t (tst t N p) ≤ 57 := Classical.byContradiction (fun z => by unfold tso at s; rw [if_neg q, if_neg u, if_neg z] at s; omega)
  have e : tpl t N p = dgf t (N - tst t N p).toNat (tst t N p) := by unfold tpl; rw [if_neg q, if_neg u, if_pos v]
  have d := dgf_r (t := t) (N - tst t N p).toNat (tst t N p)
  rw [← e] at d
  have pr := (tpl_r (t := t) h).2.2 (by omega)
  unfold wrt; split
  · omega
  · have := d.2.2 (tst t N p + 1) (by omega) (by omega)
    omega
end
/-- what the teller knows of the token that begins from p on -/
def CT (t : Int → Int) (N p : Int) (h : mx_H) : Prop := (h 22 4 = N) ∧ (h 22 1 = tst t N p) ∧ (h 22 5 = tpl t N p) ∧ (h 22 6 = tso t N p) ∧ (h 22 7 = tva t N p)
theorem CT.mk {t : Int → Int} {N p : Int} {h : mx_H} (x0 : h 22 4 = N) (x1 : h 22 1 = tst t N p) (x2 : h 22 5 = tpl t N p) (x3 : h 22 6 = tso t N p) (x4 : h 22 7 = tva t N p) : CT t N p h := (And.intro x0 (And.intro x1 (And.intro x2 (And.intro x3 x4))))
theorem CT.N {t : Int → Int} {N p : Int} {h : mx_H} (q : CT t N p h) : h 22 4 = N := (And.left q)
theorem CT.s {t : Int → Int} {N p : Int} {h : mx_H} (q : CT t N p h) : h 22 1 = tst t N p := (And.left (And.right q))
theorem CT.p {t : Int → Int} {N p : Int} {h : mx_H} (q : CT t N p h) : h 22 5 = tpl t N p := (And.left (And.right (And.right q)))
theorem CT.k {t : Int → Int} {N p : Int} {h : mx_H} (q : CT t N p h) : h 22 6 = tso t N p := (And.left (And.right (And.right (And.right q))))
theorem CT.v {t : Int → Int} {N p : Int} {h : mx_H} (q : CT t N p h) : h 22 7 = tva t N p := (And.right (And.right (And.right (And.right q))))
/-- the shape of the teller -/
def tS (S : mx_H) : Prop := (S 22 (-2) = 10 ∧ S 22 0 = 23 ∧ S 22 2 = 28 ∧ S 22 3 = 1 ∧ S 1 (-2) = 20 ∧ S 1 (-1) = 200 ∧ S 28 (-2) = 20 ∧ S 28 (-1) = 6)
theorem tS.mk {S : mx_H} (x0 : S 22 (-2) = 10 ∧ S 22 0 = 23 ∧ S 22 2 = 28 ∧ S 22 3 = 1 ∧ S 1 (-2) = 20 ∧ S 1 (-1) = 200 ∧ S 28 (-2) = 20 ∧ S 28 (-1) = 6) : tS S := x0
theorem tS.e {S : mx_H} (q : tS S) : S 22 (-2) = 10 ∧ S 22 0 = 23 ∧ S 22 2 = 28 ∧ S 22 3 = 1 ∧ S 1 (-2) = 20 ∧ S 1 (-1) = 200 ∧ S 28 (-2) = 20 ∧ S 28 (-1) = 6 := q
theorem mx_uu {h : mx_H} {a k v w : Int} : mx_u (mx_u h a k v) a k w = mx_u h a k w := by
  funext b j; unfold mx_u; split <;> rfl
theorem mx_ui {h : mx_H} {a k v : Int} (e : h a k = v) : mx_u h a k v = h := by
  funext b j; unfold mx_u; split
  · rename_i q; rw [q.1, q.2, e]
  · rfl
section
variable {S h : mx_H} {n : Int} {d : Nat} {t : Int → Int} {N : Int}
theorem c_isL {v : Int} : mx_M d 72 [(0, v)] S h n = some (some (0, mx_b (97 ≤ v ∧ v ≤ 122)), S, h, n) := by
  (repeat' (first | (simp (disch := omega) only [mx_vt_h, mx_vt_m, mx_cmp_0, mx_cmp_1, mx_cmp_2, mx_cmp_3, mx_cmp_4, mx_u_s, mx_u_a, mx_u_k, mx_z_a, mx_z_s, mx_t_a, mx_t_2, mx_t_1, mx_t_0, mx_gd_T, mx_gd_t, mx_br_T, mx_br_F, mx_br_t, mx_br_f, mx_br_n, mx_cl_T, mx_cl_t, mx_re_T, mx_re_t, mx_rt_v, mx_rt_0, mx_cu_t, mx_w_id, mx_l_id, mx_b_0, mx_b_1, mx_b_r, mx_nl_0, mx_nl_1, mx_nl_2, mx_nl_n, mx_nl_l, mx_sw_n, mx_sw_h, mx_sw_m, Int.reduceLE, Int.reduceLT, Int.reduceEq, Int.reduceAdd, Int.reduceSub, Int.reduceMul, Int.reduceNeg, Int.reduceToNat, and_self, true_and, and_true, false_and, and_false, true_or, or_true, false_or, or_false, not_true_eq_false, not_false_eq_true, eq_self, rw_X7_isLetter]) | (refine mx_br_c (fun _ => ?_) (fun _ => ?_)) | (refine mx_W_b (fun _ => ?_) (fun _ => ?_))))
  all_goals (first | rfl | (rw [mx_b_t (by first | assumption | omega)]) | (rw [mx_b_f (by first | assumption | omega)]))
theorem c_isD {v : Int} : mx_M d 73 [(0, v)] S h n = some (some (0, mx_b (48 ≤ v ∧ v ≤ 57)), S, h, n) := by
  (repeat' (first | (simp (disch := omega) only [mx_vt_h, mx_vt_m, mx_cmp_0, mx_cmp_1, mx_cmp_2, mx_cmp_3, mx_cmp_4, mx_u_s, mx_u_a, mx_u_k, mx_z_a, mx_z_s, mx_t_a, mx_t_2, mx_t_1, mx_t_0, mx_gd_T, mx_gd_t, mx_br_T, mx_br_F, mx_br_t, mx_br_f, mx_br_n, mx_cl_T, mx_cl_t, mx_re_T, mx_re_t, mx_rt_v, mx_rt_0, mx_cu_t, mx_w_id, mx_l_id, mx_b_0, mx_b_1, mx_b_r, mx_nl_0, mx_nl_1, mx_nl_2, mx_nl_n, mx_nl_l, mx_sw_n, mx_sw_h, mx_sw_m, Int.reduceLE, Int.reduceLT, Int.reduceEq, Int.reduceAdd, Int.reduceSub, Int.reduceMul, Int.reduceNeg, Int.reduceToNat, and_self, true_and, and_true, false_and, and_false, true_or, or_true, false_or, or_false, not_true_eq_false, not_false_eq_true, eq_self, rw_X7_isDigit]) | (refine mx_br_c (fun _ => ?_) (fun _ => ?_)) | (refine mx_W_b (fun _ => ?_) (fun _ => ?_))))
  all_goals (first | rfl | (rw [mx_b_t (by first | assumption | omega)]) | (rw [mx_b_f (by first | assumption | omega)]))
theorem c_nx_s (s : tS S) (ht : h 1 = t) (hN : h 22 4 = N) (N2 : N ≤ 200) : ∀ (f : Nat) (q : Int), 0 ≤ q → q ≤ N → f = (N - q).toNat → mx_ex d 70 0 [some (2, 22)] [] S (mx_u h 22 5 q) n = mx_ex d 70 0 [some (2, 22)] [] S (mx_u h 22 5 (skf t f q)) n := by
  have se := s.e
  intro f
  induction f with
  | zero => intro q q0 q1 hf; rfl
  | succ f ih =>
    intro q q0 q1 hf
    simp only [skf]
    by_cases z : t q = 32
    · rw [if_pos z]
      have ih := ih (q + 1) (by omega) (by omega) (by omega)
      rw [← ih]
      conv => lhs; rw [rh_X7_next_0]
      simp (disch := omega) only [mx_vt_h, mx_vt_m, mx_cmp_0, mx_cmp_1, mx_cmp_2, mx_cmp_3, mx_cmp_4, mx_u_s, mx_u_a, mx_u_k, mx_z_a, mx_z_s, mx_t_a, mx_t_2, mx_t_1, mx_t_0, mx_gd_T, mx_gd_t, mx_br_T, mx_br_F, mx_br_t, mx_br_f, mx_br_n, mx_cl_T, mx_cl_t, mx_re_T, mx_re_t, mx_rt_v, mx_rt_0, mx_cu_t, mx_w_id, mx_l_id, mx_b_0, mx_b_1, mx_b_r, mx_nl_0, mx_nl_1, mx_nl_2, mx_nl_n, mx_nl_l, mx_sw_n, mx_sw_h, mx_sw_m, Int.reduceLE, Int.reduceLT, Int.reduceEq, Int.reduceAdd, Int.reduceSub, Int.reduceMul, Int.reduceNeg, Int.reduceToNat, and_self, true_and, and_true, false_and, and_false, true_or, or_true, false_or, or_false, not_true_eq_false, not_false_eq_true, eq_self, rw_X7_next, rw_X7_next_1, se, hN, ht, z, mx_uu]
    · rw [if_neg z]
theorem c_nx_l (s : tS S) (ht : h 1 = t) (hN : h 22 4 = N) (N2 : N ≤ 200) : ∀ (f : Nat) (q : Int), 0 ≤ q → q ≤ N → f = (N - q).toNat → mx_ex (d + 1) 70 90 [some (2, 22)] [] S (mx_u h 22 5 q) n = some (none, S, mx_u h 22 5 (lef t f q), n) := by
  have se := s.e
  intro f
  induction f with
  | zero =>
    intro q q0 q1 hf
    have : q = N := by omega
    subst this
    rw [rh_X7_next_90]
    simp (disch := omega) only [mx_vt_h, mx_vt_m, mx_cmp_0, mx_cmp_1, mx_cmp_2, mx_cmp_3, mx_cmp_4, mx_u_s, mx_u_a, mx_u_k, mx_z_a, mx_z_s, mx_t_a, mx_t_2, mx_t_1, mx_t_0, mx_gd_T, mx_gd_t, mx_br_T, mx_br_F, mx_br_t, mx_br_f, mx_br_n, mx_cl_T, mx_cl_t, mx_re_T, mx_re_t, mx_rt_v, mx_rt_0, mx_cu_t, mx_w_id, mx_l_id, mx_b_0, mx_b_1, mx_b_r, mx_nl_0, mx_nl_1, mx_nl_2, mx_nl_n, mx_nl_l, mx_sw_n, mx_sw_h, mx_sw_m, Int.reduceLE, Int.reduceLT, Int.reduceEq, Int.reduceAdd, Int.reduceSub, Int.reduceMul, Int.reduceNeg, Int.reduceToNat, and_self, true_and, and_true, false_and, and_false, true_or, or_true, false_or, or_false, not_true_eq_false, not_false_eq_true, eq_self, rw_X7_next, rw_X7_next_1, se, hN, ht, lef]
  | succ f ih =>
    intro q q0 q1 hf
    simp only [lef]
    rw [rh_X7_next_90]
    by_cases z : 97 ≤ t q ∧ t q ≤ 122
    · rw [if_pos z]
      have ih := ih (q + 1) (by omega) (by omega) (by omega)
      simp (disch := omega) only [mx_vt_h, mx_vt_m, mx_cmp_0, mx_cmp_1, mx_cmp_2, mx_cmp_3, mx_cmp_4, mx_u_s, mx_u_a, mx_u_k, mx_z_a, mx_z_s, mx_t_a, mx_t_2, mx_t_1, mx_t_0, mx_gd_T, mx_gd_t, mx_br_T, mx_br_F, mx_br_t, mx_br_f, mx_br_n, mx_cl_T, mx_cl_t, mx_re_T, mx_re_t, mx_rt_v, mx_rt_0, mx_cu_t, mx_w_id, mx_l_id, mx_b_0, mx_b_1, mx_b_r, mx_nl_0, mx_nl_1, mx_nl_2, mx_nl_n, mx_nl_l, mx_sw_n, mx_sw_h, mx_sw_m, Int.reduceLE, Int.reduceLT, Int.reduceEq, Int.reduceAdd, Int.reduceSub, Int.reduceMul, Int.reduceNeg, Int.reduceToNat, and_self, true_and, and_true, false_and, and_false, true_or, or_true, false_or, or_false, not_true_eq_false, not_false_eq_true, eq_self, rw_X7_next, rw_X7_next_1, se, hN, ht, c_isL, mx_b_t z, mx_uu]
      exact ih
    · rw [if_neg z]
      simp (disch := omega) only [mx_vt_h, mx_vt_m, mx_cmp_0, mx_cmp_1, mx_cmp_2, mx_cmp_3, mx_cmp_4, mx_u_s, mx_u_a, mx_u_k, mx_z_a, mx_z_s, mx_t_a, mx_t_2, mx_t_1, mx_t_0, mx_gd_T, mx_gd_t, mx_br_T, mx_br_F, mx_br_t, mx_br_f, mx_br_n, mx_cl_T, mx_cl_t, mx_re_T, mx_re_t, mx_rt_v, mx_rt_0, mx_cu_t, mx_w_id, mx_l_id, mx_b_0, mx_b_1, mx_b_r, mx_nl_0, mx_nl_1, mx_nl_2, mx_nl_n, mx_nl_l, mx_sw_n, mx_sw_h, mx_sw_m, Int.reduceLE, Int.reduceLT, Int.reduceEq, Int.reduceAdd, Int.reduceSub, Int.reduceMul, Int.reduceNeg, Int.reduceToNat, and_self, true_and, and_true, false_and, and_false, true_or, or_true, false_or, or_false, not_true_eq_false, not_false_eq_true, eq_self, rw_X7_next, rw_X7_next_1, se, hN, ht, c_isL, mx_b_f z]
theorem c_nx_d (s : tS S) (ht : h 1 = t) (hN : h 22 4 = N) (N2 : N ≤ 200) : ∀ (f : Nat) (q : Int), 0 ≤ q → q ≤ N → f = (N - q).toNat → mx_ex (d + 1) 70 149 [some (2, 22)] [] S (mx_u h 22 5 q) n = mx_ex (d + 1) 70 149 [some (2, 22)] [] S (mx_u h 22 5 (dgf t f q)) n := by
  have se := s.e
  intro f
  induction f with
  | zero => intro q q0 q1 hf; rfl
  | succ f ih =>
    intro q q0 q1 hf
    simp only [dgf]
    by_cases z : 48 ≤ t q ∧ t q ≤ 57
    · rw [if_pos z]
      have ih := ih (q + 1) (by omega) (by omega) (by omega)
      rw [← ih]
      conv => lhs; rw [rh_X7_next_149]
      simp (disch := omega) only [mx_vt_h, mx_vt_m, mx_cmp_0, mx_cmp_1, mx_cmp_2, mx_cmp_3, mx_cmp_4, mx_u_s, mx_u_a, mx_u_k, mx_z_a, mx_z_s, mx_t_a, mx_t_2, mx_t_1, mx_t_0, mx_gd_T, mx_gd_t, mx_br_T, mx_br_F, mx_br_t, mx_br_f, mx_br_n, mx_cl_T, mx_cl_t, mx_re_T, mx_re_t, mx_rt_v, mx_rt_0, mx_cu_t, mx_w_id, mx_l_id, mx_b_0, mx_b_1, mx_b_r, mx_nl_0, mx_nl_1, mx_nl_2, mx_nl_n, mx_nl_l, mx_sw_n, mx_sw_h, mx_sw_m, Int.reduceLE, Int.reduceLT, Int.reduceEq, Int.reduceAdd, Int.reduceSub, Int.reduceMul, Int.reduceNeg, Int.reduceToNat, and_self, true_and, and_true, false_and, and_false, true_or, or_true, false_or, or_false, not_true_eq_false, not_false_eq_true, eq_self, rw_X7_next, rw_X7_next_1, se, hN, ht, c_isD, mx_b_t z, mx_uu]
    · rw [if_neg z]
theorem dgf_n {t : Int → Int} : ∀ (f : Nat) (p : Int), dgf t f p < p + f → ¬ (48 ≤ t (dgf t f p) ∧ t (dgf t f p) ≤ 57) := by
  intro f
  induction f with
  | zero => intro p; simp only [dgf]; omega
  | succ f ih =>
    intro p
    simp only [dgf]
    split
    · intro q; exact ih (p + 1) (by omega)
    · rename_i u; intro _; exact u
theorem c_dw (s : tS S) (ht : h 1 = t) {a b : Int} (h1 : h 22 1 = a) (h5 : h 22 5 = b) (a0 : 0 ≤ a) (ab : a < b) (b2 : b ≤ a + 2) (b3 : b ≤ 200) (dg : ∀ k, a ≤ k → k < b → 48 ≤ t k ∧ t k ≤ 57) : mx_M d 71 [(2, 22)] S h n = some (some (0, wrt t a b), S, h, n) := by
  have se := s.e
  have g0 := dg a (by omega) (by omega)
  unfold wrt
  by_cases z : b = a + 1
  · rw [if_pos z]
    simp (disch := omega) only [mx_vt_h, mx_vt_m, mx_cmp_0, mx_cmp_1, mx_cmp_2, mx_cmp_3, mx_cmp_4, mx_u_s, mx_u_a, mx_u_k, mx_z_a, mx_z_s, mx_t_a, mx_t_2, mx_t_1, mx_t_0, mx_gd_T, mx_gd_t, mx_br_T, mx_br_F, mx_br_t, mx_br_f, mx_br_n, mx_cl_T, mx_cl_t, mx_re_T, mx_re_t, mx_rt_v, mx_rt_0, mx_cu_t, mx_w_id, mx_l_id, mx_b_0, mx_b_1, mx_b_r, mx_nl_0, mx_nl_1, mx_nl_2, mx_nl_n, mx_nl_l, mx_sw_n, mx_sw_h, mx_sw_m, Int.reduceLE, Int.reduceLT, Int.reduceEq, Int.reduceAdd, Int.reduceSub, Int.reduceMul, Int.reduceNeg, Int.reduceToNat, and_self, true_and, and_true, false_and, and_false, true_or, or_true, false_or, or_false, not_true_eq_false, not_false_eq_true, eq_self, rw_X7_digitsWorth, se, h1]
    rw [rh_X7_digitsWorth_7]
    simp (disch := omega) only [mx_vt_h, mx_vt_m, mx_cmp_0, mx_cmp_1, mx_cmp_2, mx_cmp_3, mx_cmp_4, mx_u_s, mx_u_a, mx_u_k, mx_z_a, mx_z_s, mx_t_a, mx_t_2, mx_t_1, mx_t_0, mx_gd_T, mx_gd_t, mx_br_T, mx_br_F, mx_br_t, mx_br_f, mx_br_n, mx_cl_T, mx_cl_t, mx_re_T, mx_re_t, mx_rt_v, mx_rt_0, mx_cu_t, mx_w_id, mx_l_id, mx_b_0, mx_b_1, mx_b_r, mx_nl_0, mx_nl_1, mx_nl_2, mx_nl_n, mx_nl_l, mx_sw_n, mx_sw_h, mx_sw_m, Int.reduceLE, Int.reduceLT, Int.reduceEq, Int.reduceAdd, Int.reduceSub, Int.reduceMul, Int.reduceNeg, Int.reduceToNat, and_self, true_and, and_true, false_and, and_false, true_or, or_true, false_or, or_false, not_true_eq_false, not_false_eq_true, eq_self, rw_X7_digitsWorth, se, h5, ht]
    rw [rh_X7_digitsWorth_7]
    simp (disch := omega) only [mx_vt_h, mx_vt_m, mx_cmp_0, mx_cmp_1, mx_cmp_2, mx_cmp_3, mx_cmp_4, mx_u_s, mx_u_a, mx_u_k, mx_z_a, mx_z_s, mx_t_a, mx_t_2, mx_t_1, mx_t_0, mx_gd_T, mx_gd_t, mx_br_T, mx_br_F, mx_br_t, mx_br_f, mx_br_n, mx_cl_T, mx_cl_t, mx_re_T, mx_re_t, mx_rt_v, mx_rt_0, mx_cu_t, mx_w_id, mx_l_id, mx_b_0, mx_b_1, mx_b_r, mx_nl_0, mx_nl_1, mx_nl_2, mx_nl_n, mx_nl_l, mx_sw_n, mx_sw_h, mx_sw_m, Int.reduceLE, Int.reduceLT, Int.reduceEq, Int.reduceAdd, Int.reduceSub, Int.reduceMul, Int.reduceNeg, Int.reduceToNat, and_self, true_and, and_true, false_and, and_false, true_or, or_true, false_or, or_false, not_true_eq_false, not_false_eq_true, eq_self, rw_X7_digitsWorth, se, h5, ht]
    exact rv (by omega)
  · rw [if_neg z]
    have g1 := dg (a + 1) (by omega) (by omega)
    simp (disch := omega) only [mx_vt_h, mx_vt_m, mx_cmp_0, mx_cmp_1, mx_cmp_2, mx_cmp_3, mx_cmp_4, mx_u_s, mx_u_a, mx_u_k, mx_z_a, mx_z_s, mx_t_a, mx_t_2, mx_t_1, mx_t_0, mx_gd_T, mx_gd_t, mx_br_T, mx_br_F, mx_br_t, mx_br_f, mx_br_n, mx_cl_T, mx_cl_t, mx_re_T, mx_re_t, mx_rt_v, mx_rt_0, mx_cu_t, mx_w_id, mx_l_id, mx_b_0, mx_b_1, mx_b_r, mx_nl_0, mx_nl_1, mx_nl_2, mx_nl_n, mx_nl_l, mx_sw_n, mx_sw_h, mx_sw_m, Int.reduceLE, Int.reduceLT, Int.reduceEq, Int.reduceAdd, Int.reduceSub, Int.reduceMul, Int.reduceNeg, Int.reduceToNat, and_self, true_and, and_true, false_and, and_false, true_or, or_true, false_or, or_false, not_true_eq_false, not_false_eq_true, eq_self, rw_X7_digitsWorth, se, h1]
    rw [rh_X7_digitsWorth_7]
    simp (disch := omega) only [mx_vt_h, mx_vt_m, mx_cmp_0, mx_cmp_1, mx_cmp_2, mx_cmp_3, mx_cmp_4, mx_u_s, mx_u_a, mx_u_k, mx_z_a, mx_z_s, mx_t_a, mx_t_2, mx_t_1, mx_t_0, mx_gd_T, mx_gd_t, mx_br_T, mx_br_F, mx_br_t, mx_br_f, mx_br_n, mx_cl_T, mx_cl_t, mx_re_T, mx_re_t, mx_rt_v, mx_rt_0, mx_cu_t, mx_w_id, mx_l_id, mx_b_0, mx_b_1, mx_b_r, mx_nl_0, mx_nl_1, mx_nl_2, mx_nl_n, mx_nl_l, mx_sw_n, mx_sw_h, mx_sw_m, Int.reduceLE, Int.reduceLT, Int.reduceEq, Int.reduceAdd, Int.reduceSub, Int.reduceMul, Int.reduceNeg, Int.reduceToNat, and_self, true_and, and_true, false_and, and_false, true_or, or_true, false_or, or_false, not_true_eq_false, not_false_eq_true, eq_self, rw_X7_digitsWorth, se, h5, ht]
    rw [rh_X7_digitsWorth_7]
    simp (disch := omega) only [mx_vt_h, mx_vt_m, mx_cmp_0, mx_cmp_1, mx_cmp_2, mx_cmp_3, mx_cmp_4, mx_u_s, mx_u_a, mx_u_k, mx_z_a, mx_z_s, mx_t_a, mx_t_2, mx_t_1, mx_t_0, mx_gd_T, mx_gd_t, mx_br_T, mx_br_F, mx_br_t, mx_br_f, mx_br_n, mx_cl_T, mx_cl_t, mx_re_T, mx_re_t, mx_rt_v, mx_rt_0, mx_cu_t, mx_w_id, mx_l_id, mx_b_0, mx_b_1, mx_b_r, mx_nl_0, mx_nl_1, mx_nl_2, mx_nl_n, mx_nl_l, mx_sw_n, mx_sw_h, mx_sw_m, Int.reduceLE, Int.reduceLT, Int.reduceEq, Int.reduceAdd, Int.reduceSub, Int.reduceMul, Int.reduceNeg, Int.reduceToNat, and_self, true_and, and_true, false_and, and_false, true_or, or_true, false_or, or_false, not_true_eq_false, not_false_eq_true, eq_self, rw_X7_digitsWorth, se, h5, ht]
    rw [rh_X7_digitsWorth_7]
    simp (disch := omega) only [mx_vt_h, mx_vt_m, mx_cmp_0, mx_cmp_1, mx_cmp_2, mx_cmp_3, mx_cmp_4, mx_u_s, mx_u_a, mx_u_k, mx_z_a, mx_z_s, mx_t_a, mx_t_2, mx_t_1, mx_t_0, mx_gd_T, mx_gd_t, mx_br_T, mx_br_F, mx_br_t, mx_br_f, mx_br_n, mx_cl_T, mx_cl_t, mx_re_T, mx_re_t, mx_rt_v, mx_rt_0, mx_cu_t, mx_w_id, mx_l_id, mx_b_0, mx_b_1, mx_b_r, mx_nl_0, mx_nl_1, mx_nl_2, mx_nl_n, mx_nl_l, mx_sw_n, mx_sw_h, mx_sw_m, Int.reduceLE, Int.reduceLT, Int.reduceEq, Int.reduceAdd, Int.reduceSub, Int.reduceMul, Int.reduceNeg, Int.reduceToNat, and_self, true_and, and_true, false_and, and_false, true_or, or_true, false_or, or_false, not_true_eq_false, not_false_eq_true, eq_self, rw_X7_digitsWorth, se, h5, ht]
    exact rv (by omega)
theorem c_next {p : Int} (s : tS S) (ht : h 1 = t) (hN : h 22 4 = N) (N2 : N ≤ 200) (hp : h 22 5 = p) (p0 : 0 ≤ p ∧ p ≤ N) : ∃ g, mx_M (d + 2) 70 [(2, 22)] S h n = some (none, S, g, n) ∧ (∀ b, ¬ b = 22 → g b = h b) ∧ CT t N p g := by
  have se := s.e
  have r := tst_r (t := t) p0.2
  have rp := tpl_r (t := t) p0.2
  have e0 : mx_M (d + 2) 70 [(2, 22)] S h n = mx_ex (d + 2) 70 0 [some (2, 22)] [] S (mx_u h 22 5 (tst t N p)) n := by
    have e := c_nx_s (d := d + 2) (n := n) s ht hN N2 (N - p).toNat p p0.1 p0.2 rfl
    rw [mx_ui hp] at e
    unfold tst
    rw [← e]
    simp (disch := omega) only [mx_vt_h, mx_vt_m, mx_cmp_0, mx_cmp_1, mx_cmp_2, mx_cmp_3, mx_cmp_4, mx_u_s, mx_u_a, mx_u_k, mx_z_a, mx_z_s, mx_t_a, mx_t_2, mx_t_1, mx_t_0, mx_gd_T, mx_gd_t, mx_br_T, mx_br_F, mx_br_t, mx_br_f, mx_br_n, mx_cl_T, mx_cl_t, mx_re_T, mx_re_t, mx_rt_v, mx_rt_0, mx_cu_t, mx_w_id, mx_l_id, mx_b_0, mx_b_1, mx_b_r, mx_nl_0, mx_nl_1, mx_nl_2, mx_nl_n, mx_nl_l, mx_sw_n, mx_sw_h, mx_sw_m, Int.reduceLE, Int.reduceLT, Int.reduceEq, Int.reduceAdd, Int.reduceSub, Int.reduceMul, Int.reduceNeg, Int.reduceToNat, and_self, true_and, and_true, false_and, and_false, true_or, or_true, false_or, or_false, not_true_eq_false, not_false_eq_true, eq_self, rw_X7_next, rw_X7_next_1]
  have n32 : tst t N p < N → ¬ t (tst t N p) = 32 := fun q => by
    have := skf_r (t := t) (N - p).toNat p
    exact this.2.2 (by unfold tst at q; omega)
  by_cases q : N ≤ tst t N p
  · have k0 : tso t N p = 0 := tso_0.mpr q
    have pe : tpl t N p = tst t N p := by unfold tpl; rw [if_pos q]
    have ve : tva t N p = -1 := by unfold tva; rw [k0]; rfl
    refine ⟨mx_u (mx_u (mx_u (mx_u h 22 5 (tst t N p)) 22 1 (tst t N p)) 22 7 (-1)) 22 6 0, ?_, fun b b0 => by simp (disch := omega) only [mx_u_a], ?_⟩
    · rw [e0, rh_X7_next_0]
      simp (disch := omega) only [mx_vt_h, mx_vt_m, mx_cmp_0, mx_cmp_1, mx_cmp_2, mx_cmp_3, mx_cmp_4, mx_u_s, mx_u_a, mx_u_k, mx_z_a, mx_z_s, mx_t_a, mx_t_2, mx_t_1, mx_t_0, mx_gd_T, mx_gd_t, mx_br_T, mx_br_F, mx_br_t, mx_br_f, mx_br_n, mx_cl_T, mx_cl_t, mx_re_T, mx_re_t, mx_rt_v, mx_rt_0, mx_cu_t, mx_w_id, mx_l_id, mx_b_0, mx_b_1, mx_b_r, mx_nl_0, mx_nl_1, mx_nl_2, mx_nl_n, mx_nl_l, mx_sw_n, mx_sw_h, mx_sw_m, Int.reduceLE, Int.reduceLT, Int.reduceEq, Int.reduceAdd, Int.reduceSub, Int.reduceMul, Int.reduceNeg, Int.reduceToNat, and_self, true_and, and_true, false_and, and_false, true_or, or_true, false_or, or_false, not_true_eq_false, not_false_eq_true, eq_self, rw_X7_next, rw_X7_next_1, se, hN, ht]
    · refine CT.mk ?_ ?_ ?_ ?_ ?_
      · simp (disch := omega) only [mx_u_k]; exact hN
      · simp (disch := omega) only [mx_u_k, mx_u_s]
      · simp (disch := omega) only [mx_u_k, mx_u_s]; rw [pe]
      · simp (disch := omega) only [mx_u_s]; rw [k0]
      · simp (disch := omega) only [mx_u_k, mx_u_s]; rw [ve]
  · have n32 := n32 (by omega)
    by_cases u : 97 ≤ t (tst t N p) ∧ t (tst t N p) ≤ 122
    · have k1 : tso t N p = 1 := by unfold tso; rw [if_neg q, if_pos u]
      have pe : tpl t N p = lef t (N - tst t N p).toNat (tst t N p) := by unfold tpl; rw [if_neg q, if_pos u]
      have ve : tva t N p = -1 := by unfold tva; rw [k1]; rfl
      have el := c_nx_l (d := d + 1) (n := n) (h := mx_u (mx_u (mx_u (mx_u h 22 5 (tst t N p)) 22 1 (tst t N p)) 22 7 (-1)) 22 6 1) (t := t) (N := N) s (by simp (disch := omega) only [mx_u_a]; exact ht) (by simp (disch := omega) only [mx_u_k]; exact hN) N2 (N - tst t N p).toNat (tst t N p) (by omega) (by omega) rfl
      rw [← pe, mx_ui (h := mx_u (mx_u (mx_u (mx_u h 22 5 (tst t N p)) 22 1 (tst t N p)) 22 7 (-1)) 22 6 1) (a := 22) (k := 5) (v := tst t N p) (by simp (disch := omega) only [mx_u_k, mx_u_s])] at el
      refine ⟨mx_u (mx_u (mx_u (mx_u (mx_u h 22 5 (tst t N p)) 22 1 (tst t N p)) 22 7 (-1)) 22 6 1) 22 5 (tpl t N p), ?_, ?_, ?_⟩
      · rw [e0, rh_X7_next_0]
        simp (disch := omega) only [mx_vt_h, mx_vt_m, mx_cmp_0, mx_cmp_1, mx_cmp_2, mx_cmp_3, mx_cmp_4, mx_u_s, mx_u_a, mx_u_k, mx_z_a, mx_z_s, mx_t_a, mx_t_2, mx_t_1, mx_t_0, mx_gd_T, mx_gd_t, mx_br_T, mx_br_F, mx_br_t, mx_br_f, mx_br_n, mx_cl_T, mx_cl_t, mx_re_T, mx_re_t, mx_rt_v, mx_rt_0, mx_cu_t, mx_w_id, mx_l_id, mx_b_0, mx_b_1, mx_b_r, mx_nl_0, mx_nl_1, mx_nl_2, mx_nl_n, mx_nl_l, mx_sw_n, mx_sw_h, mx_sw_m, Int.reduceLE, Int.reduceLT, Int.reduceEq, Int.reduceAdd, Int.reduceSub, Int.reduceMul, Int.reduceNeg, Int.reduceToNat, and_self, true_and, and_true, false_and, and_false, true_or, or_true, false_or, or_false, not_true_eq_false, not_false_eq_true, eq_self, rw_X7_next, rw_X7_next_1, se, hN, ht, c_isL, mx_b_t u]
        exact el
      · intro b b0; simp (disch := omega) only [mx_u_a]
      · refine CT.mk ?_ ?_ ?_ ?_ ?_
        · simp (disch := omega) only [mx_u_k]; exact hN
        · simp (disch := omega) only [mx_u_k, mx_u_s]
        · simp (disch := omega) only [mx_u_s]
        · simp (disch := omega) only [mx_u_k, mx_u_s]; rw [k1]
        · simp (disch := omega) only [mx_u_k, mx_u_s]; rw [ve]
    · by_cases w : 48 ≤ t (tst t N p) ∧ t (tst t N p) ≤ 57
      · have k2 : tso t N p = 2 := by unfold tso; rw [if_neg q, if_neg u, if_pos w]
        have pe : tpl t N p = dgf t (N - tst t N p).toNat (tst t N p) := by unfold tpl; rw [if_neg q, if_neg u, if_pos w]
        have dr := dgf_r (t := t) (N - tst t N p).toNat (tst t N p)
        have dn := dgf_n (t := t) (N - tst t N p).toNat (tst t N p)
        rw [← pe] at dr dn
        have rp3 := rp.2.2 (by omega)
        obtain ⟨H, eH⟩ : ∃ H, id (mx_u (mx_u (mx_u (mx_u h 22 5 (tst t N p)) 22 1 (tst t N p)) 22 7 (-1)) 22 6 2 = H) := ⟨_, rfl⟩
        have eH : mx_u (mx_u (mx_u (mx_u h 22 5 (tst t N p)) 22 1 (tst t N p)) 22 7 (-1)) 22 6 2 = H := eH
        have H1 : H 1 = t := by rw [← eH]; simp (disch := omega) only [mx_u_a]; exact ht
        have H4 : H 22 4 = N := by rw [← eH]; simp (disch := omega) only [mx_u_k]; exact hN
        have H5 : H 22 5 = tst t N p := by rw [← eH]; simp (disch := omega) only [mx_u_k, mx_u_s]
        have Hs : H 22 1 = tst t N p := by rw [← eH]; simp (disch := omega) only [mx_u_k, mx_u_s]
        have H6 : H 22 6 = 2 := by rw [← eH]; simp (disch := omega) only [mx_u_s]
        have H7 : H 22 7 = -1 := by rw [← eH]; simp (disch := omega) only [mx_u_k, mx_u_s]
        have Ho : ∀ b, ¬ b = 22 → H b = h b := fun b b0 => by rw [← eH]; simp (disch := omega) only [mx_u_a]
        have ed := c_nx_d (d := d + 1) (n := n) (h := H) (t := t) (N := N) s H1 H4 N2 (N - tst t N p).toNat (tst t N p) (by omega) (by omega) rfl
        rw [← pe, mx_ui H5] at ed
        have lead : mx_M (d + 2) 70 [(2, 22)] S h n = mx_ex (d + 2) 70 149 [some (2, 22)] [] S (mx_u H 22 5 (tpl t N p)) n := by
          rw [e0, rh_X7_next_0]
          simp (disch := omega) only [mx_vt_h, mx_vt_m, mx_cmp_0, mx_cmp_1, mx_cmp_2, mx_cmp_3, mx_cmp_4, mx_u_s, mx_u_a, mx_u_k, mx_z_a, mx_z_s, mx_t_a, mx_t_2, mx_t_1, mx_t_0, mx_gd_T, mx_gd_t, mx_br_T, mx_br_F, mx_br_t, mx_br_f, mx_br_n, mx_cl_T, mx_cl_t, mx_re_T, mx_re_t, mx_rt_v, mx_rt_0, mx_cu_t, mx_w_id, mx_l_id, mx_b_0, mx_b_1, mx_b_r, mx_nl_0, mx_nl_1, mx_nl_2, mx_nl_n, mx_nl_l, mx_sw_n, mx_sw_h, mx_sw_m, Int.reduceLE, Int.reduceLT, Int.reduceEq, Int.reduceAdd, Int.reduceSub, Int.reduceMul, Int.reduceNeg, Int.reduceToNat, and_self, true_and, and_true, false_and, and_false, true_or, or_true, false_or, or_false, not_true_eq_false, not_false_eq_true, eq_self, rw_X7_next, rw_X7_next_1, se, hN, ht, c_isL, mx_b_f u, c_isD, mx_b_t w, eH]
          exact ed
        have dN : tpl t N p < N → mx_b (48 ≤ t (tpl t N p) ∧ t (tpl t N p) ≤ 57) = 0 := fun z => mx_b_f (dn (by omega))
        by_cases l : tpl t N p - tst t N p ≤ 2
        · have cw := c_dw (d := d + 1) (n := n) (h := mx_u H 22 5 (tpl t N p)) (a := tst t N p) (b := tpl t N p) (t := t) s (by rw [mx_u_a (by decide)]; exact H1) (by rw [mx_u_k (by decide)]; exact Hs) mx_u_s (by omega) rp3 (by omega) (by omega) (fun k a b => dr.2.2 k a b)
          refine ⟨mx_u (mx_u H 22 5 (tpl t N p)) 22 7 (wrt t (tst t N p) (tpl t N p)), ?_, fun b b0 => by rw [mx_u_a b0, mx_u_a b0, Ho b b0], ?_⟩
          · rw [lead, rh_X7_next_149]
            by_cases z : tpl t N p < N
            · have dN := dN z
              simp (disch := omega) only [mx_vt_h, mx_vt_m, mx_cmp_0, mx_cmp_1, mx_cmp_2, mx_cmp_3, mx_cmp_4, mx_u_s, mx_u_a, mx_u_k, mx_z_a, mx_z_s, mx_t_a, mx_t_2, mx_t_1, mx_t_0, mx_gd_T, mx_gd_t, mx_br_T, mx_br_F, mx_br_t, mx_br_f, mx_br_n, mx_cl_T, mx_cl_t, mx_re_T, mx_re_t, mx_rt_v, mx_rt_0, mx_cu_t, mx_w_id, mx_l_id, mx_b_0, mx_b_1, mx_b_r, mx_nl_0, mx_nl_1, mx_nl_2, mx_nl_n, mx_nl_l, mx_sw_n, mx_sw_h, mx_sw_m, Int.reduceLE, Int.reduceLT, Int.reduceEq, Int.reduceAdd, Int.reduceSub, Int.reduceMul, Int.reduceNeg, Int.reduceToNat, and_self, true_and, and_true, false_and, and_false, true_or, or_true, false_or, or_false, not_true_eq_false, not_false_eq_true, eq_self, rw_X7_next, rw_X7_next_1, se, H4, H1, c_isD, dN, Hs, cw]
            · simp (disch := omega) only [mx_vt_h, mx_vt_m, mx_cmp_0, mx_cmp_1, mx_cmp_2, mx_cmp_3, mx_cmp_4, mx_u_s, mx_u_a, mx_u_k, mx_z_a, mx_z_s, mx_t_a, mx_t_2, mx_t_1, mx_t_0, mx_gd_T, mx_gd_t, mx_br_T, mx_br_F, mx_br_t, mx_br_f, mx_br_n, mx_cl_T, mx_cl_t, mx_re_T, mx_re_t, mx_rt_v, mx_rt_0, mx_cu_t, mx_w_id, mx_l_id, mx_b_0, mx_b_1, mx_b_r, mx_nl_0, mx_nl_1, mx_nl_2, mx_nl_n, mx_nl_l, mx_sw_n, mx_sw_h, mx_sw_m, Int.reduceLE, Int.reduceLT, Int.reduceEq, Int.reduceAdd, Int.reduceSub, Int.reduceMul, Int.reduceNeg, Int.reduceToNat, and_self, true_and, and_true, false_and, and_false, true_or, or_true, false_or, or_false, not_true_eq_false, not_false_eq_true, eq_self, rw_X7_next, rw_X7_next_1, se, H4, H1, c_isD, Hs, cw]
          · refine CT.mk ?_ ?_ ?_ ?_ ?_
            · simp (disch := omega) only [mx_u_k]; exact H4
            · simp (disch := omega) only [mx_u_k]; exact Hs
            · simp (disch := omega) only [mx_u_k, mx_u_s]
            · simp (disch := omega) only [mx_u_k]; rw [H6, k2]
            · simp (disch := omega) only [mx_u_s]; unfold tva; rw [if_pos k2, if_pos l]
        · refine ⟨mx_u H 22 5 (tpl t N p), ?_, fun b b0 => by rw [mx_u_a b0, Ho b b0], ?_⟩
          · rw [lead, rh_X7_next_149]
            by_cases z : tpl t N p < N
            · have dN := dN z
              simp (disch := omega) only [mx_vt_h, mx_vt_m, mx_cmp_0, mx_cmp_1, mx_cmp_2, mx_cmp_3, mx_cmp_4, mx_u_s, mx_u_a, mx_u_k, mx_z_a, mx_z_s, mx_t_a, mx_t_2, mx_t_1, mx_t_0, mx_gd_T, mx_gd_t, mx_br_T, mx_br_F, mx_br_t, mx_br_f, mx_br_n, mx_cl_T, mx_cl_t, mx_re_T, mx_re_t, mx_rt_v, mx_rt_0, mx_cu_t, mx_w_id, mx_l_id, mx_b_0, mx_b_1, mx_b_r, mx_nl_0, mx_nl_1, mx_nl_2, mx_nl_n, mx_nl_l, mx_sw_n, mx_sw_h, mx_sw_m, Int.reduceLE, Int.reduceLT, Int.reduceEq, Int.reduceAdd, Int.reduceSub, Int.reduceMul, Int.reduceNeg, Int.reduceToNat, and_self, true_and, and_true, false_and, and_false, true_or, or_true, false_or, or_false, not_true_eq_false, not_false_eq_true, eq_self, rw_X7_next, rw_X7_next_1, se, H4, H1, c_isD, dN, Hs]
            · simp (disch := omega) only [mx_vt_h, mx_vt_m, mx_cmp_0, mx_cmp_1, mx_cmp_2, mx_cmp_3, mx_cmp_4, mx_u_s, mx_u_a, mx_u_k, mx_z_a, mx_z_s, mx_t_a, mx_t_2, mx_t_1, mx_t_0, mx_gd_T, mx_gd_t, mx_br_T, mx_br_F, mx_br_t, mx_br_f, mx_br_n, mx_cl_T, mx_cl_t, mx_re_T, mx_re_t, mx_rt_v, mx_rt_0, mx_cu_t, mx_w_id, mx_l_id, mx_b_0, mx_b_1, mx_b_r, mx_nl_0, mx_nl_1, mx_nl_2, mx_nl_n, mx_nl_l, mx_sw_n, mx_sw_h, mx_sw_m, Int.reduceLE, Int.reduceLT, Int.reduceEq, Int.reduceAdd, Int.reduceSub, Int.reduceMul, Int.reduceNeg, Int.reduceToNat, and_self, true_and, and_true, false_and, and_false, true_or, or_true, false_or, or_false, not_true_eq_false, not_false_eq_true, eq_self, rw_X7_next, rw_X7_next_1, se, H4, H1, c_isD, Hs]
          · refine CT.mk ?_ ?_ ?_ ?_ ?_
            · simp (disch := omega) only [mx_u_k]; exact H4
            · simp (disch := omega) only [mx_u_k]; exact Hs
            · simp (disch := omega) only [mx_u_s]
            · simp (disch := omega) only [mx_u_k]; rw [H6, k2]
            · simp (disch := omega) only [mx_u_k]; unfold tva; rw [if_pos k2, if_neg l, H7]
      · have k3 : tso t N p = 3 := by unfold tso; rw [if_neg q, if_neg u, if_neg w]
        have pe : tpl t N p = tst t N p + 1 := by unfold tpl; rw [if_neg q, if_neg u, if_neg w]
        have ve : tva t N p = t (tst t N p) := by unfold tva; rw [if_neg (by omega), if_pos k3]
        refine ⟨mx_u (mx_u (mx_u (mx_u (mx_u (mx_u h 22 5 (tst t N p)) 22 1 (tst t N p)) 22 7 (-1)) 22 6 3) 22 7 (t (tst t N p))) 22 5 (tst t N p + 1), ?_, fun b b0 => by simp (disch := omega) only [mx_u_a], ?_⟩
        · rw [e0, rh_X7_next_0]
          simp (disch := omega) only [mx_vt_h, mx_vt_m, mx_cmp_0, mx_cmp_1, mx_cmp_2, mx_cmp_3, mx_cmp_4, mx_u_s, mx_u_a, mx_u_k, mx_z_a, mx_z_s, mx_t_a, mx_t_2, mx_t_1, mx_t_0, mx_gd_T, mx_gd_t, mx_br_T, mx_br_F, mx_br_t, mx_br_f, mx_br_n, mx_cl_T, mx_cl_t, mx_re_T, mx_re_t, mx_rt_v, mx_rt_0, mx_cu_t, mx_w_id, mx_l_id, mx_b_0, mx_b_1, mx_b_r, mx_nl_0, mx_nl_1, mx_nl_2, mx_nl_n, mx_nl_l, mx_sw_n, mx_sw_h, mx_sw_m, Int.reduceLE, Int.reduceLT, Int.reduceEq, Int.reduceAdd, Int.reduceSub, Int.reduceMul, Int.reduceNeg, Int.reduceToNat, and_self, true_and, and_true, false_and, and_false, true_or, or_true, false_or, or_false, not_true_eq_false, not_false_eq_true, eq_self, rw_X7_next, rw_X7_next_1, se, hN, ht, c_isL, mx_b_f u, c_isD, mx_b_f w]
        · refine CT.mk ?_ ?_ ?_ ?_ ?_
          · simp (disch := omega) only [mx_u_k]; exact hN
          · simp (disch := omega) only [mx_u_k, mx_u_s]
          · simp (disch := omega) only [mx_u_s]; rw [pe]
          · simp (disch := omega) only [mx_u_k, mx_u_s]; rw [k3]
          · simp (disch := omega) only [mx_u_k, mx_u_s]; rw [ve]
end
