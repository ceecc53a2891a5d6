/-! The program's finder: rows filled, the bases of an evening -/
def fil (h : mx_H) (a v m : Int) : mx_H := fun b k => if b = a ∧ 0 ≤ k ∧ k < m then v else h b k
theorem fil_a {h : mx_H} {a v m b : Int} (q : ¬ b = a) : fil h a v m b = h b := by funext k; unfold fil; simp [q]
theorem fil_i {h : mx_H} {a v m k : Int} (q : 0 ≤ k) (r : k < m) : fil h a v m a k = v := by unfold fil; simp [q, r]
theorem fil_0 {h : mx_H} {a v : Int} : fil h a v 0 = h := by
  funext b k; unfold fil; rw [if_neg (by omega)]
theorem fil_u {h : mx_H} {a v m : Int} (q : 0 ≤ m) : mx_u (fil h a v m) a m v = fil h a v (m + 1) := by
  funext b k; unfold mx_u fil
  by_cases c : b = a ∧ k = m
  · rw [if_pos c, if_pos ⟨c.1, by omega, by omega⟩]
  · rw [if_neg c]
    by_cases c2 : b = a ∧ 0 ≤ k ∧ k < m
    · rw [if_pos c2, if_pos ⟨c2.1, by omega, by omega⟩]
    · rw [if_neg c2, if_neg (fun x => by
        by_cases e : k = m
        · exact c ⟨x.1, e⟩
        · exact c2 ⟨x.1, x.2.1, by omega⟩)]
section
variable {d : Nat} {S h : mx_H} {n : Int} {σ : Int → Int} {Q : Option mx_V → mx_H → mx_H → Int → Prop}
theorem c_fill_l {a v i m : Int} (t : S a (-2) = 20) (l : S a (-1) = m) (i0 : 0 ≤ i) (i1 : i ≤ m) (m1 : m ≤ 300) :
    mx_ex d 255 5 [some (2, a), some (0, v), some (0, i), some (0, m)] [] S (fil h a v i) n = some (none, S, fil h a v m, n) := by
  rw [rh_J7_fill_53178_5]
  by_cases q : i < m
  · have ih := c_fill_l (v := v) t l (i := i + 1) (by omega) (by omega) m1
    simp (disch := omega) only [mx_vt_h, mx_vt_m, mx_cmp_0, mx_cmp_1, mx_cmp_2, mx_cmp_3, mx_cmp_4, mx_u_s, mx_u_a, mx_u_k, mx_z_a, mx_z_s, mx_t_a, mx_t_2, mx_t_1, mx_t_0, mx_gd_T, mx_gd_t, mx_br_T, mx_br_F, mx_br_t, mx_br_f, mx_br_n, mx_cl_T, mx_cl_t, mx_re_T, mx_re_t, mx_rt_v, mx_rt_0, mx_cu_t, mx_w_id, mx_l_id, mx_b_0, mx_b_1, mx_b_r, mx_nl_0, mx_nl_1, mx_nl_2, mx_nl_n, mx_nl_l, mx_sw_n, mx_sw_h, mx_sw_m, Int.reduceLE, Int.reduceLT, Int.reduceEq, Int.reduceAdd, Int.reduceSub, Int.reduceMul, Int.reduceNeg, Int.reduceToNat, and_self, true_and, and_true, false_and, and_false, true_or, or_true, false_or, or_false, not_true_eq_false, not_false_eq_true, eq_self, rw_J7_fill_53178, t, l, fil_u i0]
    exact ih
  · have e : i = m := by omega
    subst e
    simp (disch := omega) only [mx_vt_h, mx_vt_m, mx_cmp_0, mx_cmp_1, mx_cmp_2, mx_cmp_3, mx_cmp_4, mx_u_s, mx_u_a, mx_u_k, mx_z_a, mx_z_s, mx_t_a, mx_t_2, mx_t_1, mx_t_0, mx_gd_T, mx_gd_t, mx_br_T, mx_br_F, mx_br_t, mx_br_f, mx_br_n, mx_cl_T, mx_cl_t, mx_re_T, mx_re_t, mx_rt_v, mx_rt_0, mx_cu_t, mx_w_id, mx_l_id, mx_b_0, mx_b_1, mx_b_r, mx_nl_0, mx_nl_1, mx_nl_2, mx_nl_n, mx_nl_l, mx_sw_n, mx_sw_h, mx_sw_m, Int.reduceLE, Int.reduceLT, Int.reduceEq, Int.reduceAdd, Int.reduceSub, Int.reduceMul, Int.reduceNeg, Int.reduceToNat, and_self, true_and, and_true, false_and, and_false, true_or, or_true, false_or, or_false, not_true_eq_false, not_false_eq_true, eq_self, rw_J7_fill_53178, t, l]
termination_by (m - i).toNat
theorem c_fill {a v m : Int} (t : S a (-2) = 20) (l : S a (-1) = m) (m0 : 0 ≤ m) (m1 : m ≤ 300) :
    mx_M d 255 [(2, a), (0, v)] S h n = some (none, S, fil h a v m, n) := by
  have ih := c_fill_l (d := d) (n := n) (h := h) (v := v) t l (i := 0) (by omega) m0 m1
  rw [fil_0] at ih
  simp (disch := omega) only [mx_vt_h, mx_vt_m, mx_cmp_0, mx_cmp_1, mx_cmp_2, mx_cmp_3, mx_cmp_4, mx_u_s, mx_u_a, mx_u_k, mx_z_a, mx_z_s, mx_t_a, mx_t_2, mx_t_1, mx_t_0, mx_gd_T, mx_gd_t, mx_br_T, mx_br_F, mx_br_t, mx_br_f, mx_br_n, mx_cl_T, mx_cl_t, mx_re_T, mx_re_t, mx_rt_v, mx_rt_0, mx_cu_t, mx_w_id, mx_l_id, mx_b_0, mx_b_1, mx_b_r, mx_nl_0, mx_nl_1, mx_nl_2, mx_nl_n, mx_nl_l, mx_sw_n, mx_sw_h, mx_sw_m, Int.reduceLE, Int.reduceLT, Int.reduceEq, Int.reduceAdd, Int.reduceSub, Int.reduceMul, Int.reduceNeg, Int.reduceToNat, and_self, true_and, and_true, false_and, and_false, true_or, or_true, false_or, or_false, not_true_eq_false, not_false_eq_true, eq_self, rw_J7_fill_53178, t, l]
  exact ih
theorem bm_lh {lo hi : Nat} (h : lo ≤ hi) : ∀ k : Nat, bm (fun k => lo ≤ k ∧ k ≤ hi) k = if k ≤ lo then 0 else if k ≤ hi + 1 then 2 ^ k - 2 ^ lo else 2 ^ (hi + 1) - 2 ^ lo := by
  intro k
  induction k with
  | zero => rw [if_pos (by omega)]; rfl
  | succ k ih =>
    simp only [bm]; rw [ih]
    have e2 : (2 : Int) ^ (k + 1) = 2 ^ k * 2 := Int.pow_succ _ _
    by_cases c : k < lo
    · simp only [if_pos (show k ≤ lo by omega), if_pos (show k + 1 ≤ lo by omega)]; rw [mx_if_f (by omega)]; rfl
    · by_cases c1 : k = lo
      · subst c1
        simp only [if_pos (Nat.le_refl k), if_neg (show ¬ k + 1 ≤ k by omega), if_pos (show k + 1 ≤ hi + 1 by omega)]; rw [mx_if_t (by omega)]; omega
      · simp only [if_neg (show ¬ k ≤ lo by omega), if_neg (show ¬ k + 1 ≤ lo by omega)]
        by_cases c2 : k ≤ hi
        · simp only [if_pos (show k ≤ hi + 1 by omega), if_pos (show k + 1 ≤ hi + 1 by omega)]; rw [mx_if_t (by omega)]; omega
        · rw [mx_if_f (by omega)]
          simp only [if_neg (show ¬ k + 1 ≤ hi + 1 by omega)]
          by_cases c3 : k = hi + 1
          · subst c3; simp only [if_pos (Nat.le_refl _)]; omega
          · simp only [if_neg (show ¬ k ≤ hi + 1 by omega)]; omega
theorem bz_lh {lo hi : Int} (h0 : 2 ≤ lo) (h1 : lo ≤ hi) (h2 : hi ≤ 16) : mx_shl 1 (hi + 1) - mx_shl 1 lo = bz 2 17 (fun b => lo ≤ b ∧ b ≤ hi) := by
  have e1 := bt_shl_v ⟨(hi + 1).toNat, by omega⟩
  have e2 := bt_shl_v ⟨lo.toNat, by omega⟩
  have c1 : (((hi + 1).toNat : Nat) : Int) = hi + 1 := by omega
  have c2 : ((lo.toNat : Nat) : Int) = lo := by omega
  simp only [c1, c2] at e1 e2
  rw [e1, e2]
  have := bm_lh (lo := lo.toNat) (hi := hi.toNat) (by omega) 17
  rw [if_neg (by omega)] at this
  have c3 : (hi + 1).toNat = hi.toNat + 1 := by omega
  have e : bz 2 17 (fun b => lo ≤ b ∧ b ≤ hi) = bm (fun k => lo.toNat ≤ k ∧ k ≤ hi.toNat) 17 := by
    unfold bz; apply bm_c; intro k _
    constructor
    · rintro ⟨_, _, a, b⟩; omega
    · rintro ⟨a, b⟩; omega
  rw [e, this, c3]
  by_cases c : 17 ≤ hi.toNat + 1
  · rw [if_pos c]
    have : hi.toNat + 1 = 17 := by omega
    rw [this]
  · rw [if_neg c]
theorem c_basesOf (hS : sh_F S) (w : vw σ) (r : lr h σ) {e : Int} (e0 : 0 ≤ e) (e1 : e ≤ 2) : mx_M d 89 [(2, 3), (0, e)] S h n = some (some (0, bz 2 17 (fun b => σ (3 + 2 * e) ≤ b ∧ b ≤ σ (3 + 2 * e + 1))), S, h, n) := by
  have hE := w.e e e0 e1
  have b := bz_lh hE.1 hE.2.1 hE.2.2
  have br := bm_i (p := fun k => 2 ≤ (k : Int) ∧ (k : Int) < 17 ∧ σ (3 + 2 * e) ≤ k ∧ k ≤ σ (3 + 2 * e + 1)) (n := 17) (by decide)
  have br : -2147483648 ≤ bz 2 17 (fun b => σ (3 + 2 * e) ≤ b ∧ b ≤ σ (3 + 2 * e + 1)) ∧ bz 2 17 (fun b => σ (3 + 2 * e) ≤ b ∧ b ≤ σ (3 + 2 * e + 1)) ≤ 2147483647 := br
  simp (disch := omega) only [mx_vt_h, mx_vt_m, mx_cmp_0, mx_cmp_1, mx_cmp_2, mx_cmp_3, mx_cmp_4, mx_u_s, mx_u_a, mx_u_k, mx_z_a, mx_z_s, mx_t_a, mx_t_2, mx_t_1, mx_t_0, mx_gd_T, mx_gd_t, mx_br_T, mx_br_F, mx_br_t, mx_br_f, mx_br_n, mx_cl_T, mx_cl_t, mx_re_T, mx_re_t, mx_rt_v, mx_rt_0, mx_cu_t, mx_w_id, mx_l_id, mx_b_0, mx_b_1, mx_b_r, mx_nl_0, mx_nl_1, mx_nl_2, mx_nl_n, mx_nl_l, mx_sw_n, mx_sw_h, mx_sw_m, Int.reduceLE, Int.reduceLT, Int.reduceEq, Int.reduceAdd, Int.reduceSub, Int.reduceMul, Int.reduceNeg, Int.reduceToNat, and_self, true_and, and_true, false_and, and_false, true_or, or_true, false_or, or_false, not_true_eq_false, not_false_eq_true, eq_self, rw_X10_basesOf, hS.e, r.lo e e0 e1, r.hi e e0 e1, b]
end
