/-! put, sheet -/
section
variable {L : Nat} {x : Nat → Int32} {S T h g : mx_H} {n m c : Int} {d : Nat}
theorem a_put {a i y : Int} (hc : c ≤ 599) (y0 : -2147483648 ≤ y) (y1 : y ≤ 2147483647) : ag L x 133 229 [(0, a), (0, i), (0, y)] 0 c := by
  intro d S h n v
  have hX := v.s.x.e
  have hM := v.s.m.e
  by_cases q : 0 ≤ a ∧ a ≤ 3
  · rcases v.b.s a q.1 q.2 with ⟨h1, h2⟩ | ⟨r, ri⟩
    · refine ag_p v hc (y := -11) ?_ ?_
      · simp (disch := omega) only [mx_vt_h, mx_vt_m, mx_cmp_0, mx_cmp_1, mx_cmp_2, mx_cmp_3, mx_cmp_4, mx_u_s, mx_u_a, mx_u_k, mx_z_a, mx_z_s, mx_t_a, mx_t_2, mx_t_1, mx_t_0, mx_gd_T, mx_gd_t, mx_br_T, mx_br_F, mx_br_t, mx_br_f, mx_br_n, mx_cl_T, mx_cl_t, mx_re_T, mx_re_t, mx_rt_v, mx_rt_0, mx_cu_t, mx_w_id, mx_l_id, mx_b_0, mx_b_1, mx_b_r, mx_nl_0, mx_nl_1, mx_nl_2, mx_nl_n, mx_nl_l, mx_sw_n, mx_sw_h, mx_sw_m, Int.reduceLE, Int.reduceLT, Int.reduceEq, Int.reduceAdd, Int.reduceSub, Int.reduceMul, Int.reduceNeg, Int.reduceToNat, and_self, true_and, and_true, false_and, and_false, true_or, or_true, false_or, or_false, not_true_eq_false, not_false_eq_true, eq_self, rw_X11_put, hX, c_xSh, mx_b_t q, h2]
      · simp (disch := omega) only [mx_vt_h, mx_vt_m, mx_cmp_0, mx_cmp_1, mx_cmp_2, mx_cmp_3, mx_cmp_4, mx_u_s, mx_u_a, mx_u_k, mx_z_a, mx_z_s, mx_t_a, mx_t_2, mx_t_1, mx_t_0, mx_gd_T, mx_gd_t, mx_br_T, mx_br_F, mx_br_t, mx_br_f, mx_br_n, mx_cl_T, mx_cl_t, mx_re_T, mx_re_t, mx_rt_v, mx_rt_0, mx_cu_t, mx_w_id, mx_l_id, mx_b_0, mx_b_1, mx_b_r, mx_nl_0, mx_nl_1, mx_nl_2, mx_nl_n, mx_nl_l, mx_sw_n, mx_sw_h, mx_sw_m, Int.reduceLE, Int.reduceLT, Int.reduceEq, Int.reduceAdd, Int.reduceSub, Int.reduceMul, Int.reduceNeg, Int.reduceToNat, and_self, true_and, and_true, false_and, and_false, true_or, or_true, false_or, or_false, not_true_eq_false, not_false_eq_true, eq_self, rw_X12_put, hM, c_mSh, mx_b_t q, h1]
    · have hp := r.p
      have hs := r.s0
      have hz := r.z0
      have hi := r.i
      by_cases i0 : 0 ≤ i ∧ i ≤ h 48 a - 1
      · simp (disch := omega) only [mx_vt_h, mx_vt_m, mx_cmp_0, mx_cmp_1, mx_cmp_2, mx_cmp_3, mx_cmp_4, mx_u_s, mx_u_a, mx_u_k, mx_z_a, mx_z_s, mx_t_a, mx_t_2, mx_t_1, mx_t_0, mx_gd_T, mx_gd_t, mx_br_T, mx_br_F, mx_br_t, mx_br_f, mx_br_n, mx_cl_T, mx_cl_t, mx_re_T, mx_re_t, mx_rt_v, mx_rt_0, mx_cu_t, mx_w_id, mx_l_id, mx_b_0, mx_b_1, mx_b_r, mx_nl_0, mx_nl_1, mx_nl_2, mx_nl_n, mx_nl_l, mx_sw_n, mx_sw_h, mx_sw_m, Int.reduceLE, Int.reduceLT, Int.reduceEq, Int.reduceAdd, Int.reduceSub, Int.reduceMul, Int.reduceNeg, Int.reduceToNat, and_self, true_and, and_true, false_and, and_false, true_or, or_true, false_or, or_false, not_true_eq_false, not_false_eq_true, eq_self, rw_X11_put, hX, c_xSh, mx_b_t q, c_within, r.t, r.q, r.l, mx_b_t i0, c_narX r]
        refine mx_W_s ?_
        simp (disch := omega) only [mx_vt_h, mx_vt_m, mx_cmp_0, mx_cmp_1, mx_cmp_2, mx_cmp_3, mx_cmp_4, mx_u_s, mx_u_a, mx_u_k, mx_z_a, mx_z_s, mx_t_a, mx_t_2, mx_t_1, mx_t_0, mx_gd_T, mx_gd_t, mx_br_T, mx_br_F, mx_br_t, mx_br_f, mx_br_n, mx_cl_T, mx_cl_t, mx_re_T, mx_re_t, mx_rt_v, mx_rt_0, mx_cu_t, mx_w_id, mx_l_id, mx_b_0, mx_b_1, mx_b_r, mx_nl_0, mx_nl_1, mx_nl_2, mx_nl_n, mx_nl_l, mx_sw_n, mx_sw_h, mx_sw_m, Int.reduceLE, Int.reduceLT, Int.reduceEq, Int.reduceAdd, Int.reduceSub, Int.reduceMul, Int.reduceNeg, Int.reduceToNat, and_self, true_and, and_true, false_and, and_false, true_or, or_true, false_or, or_false, not_true_eq_false, not_false_eq_true, eq_self, rw_X12_put, hM, c_mSh, mx_b_t q, c_in, mx_b_t i0, c_narM hs y0 y1]
        refine mx_W_s ⟨⟨_, rfl, rfl⟩, ?_⟩
        have f : ∀ b, ¬ b = S (S 32 a) 1 → ¬ b = 49 → mx_u (mx_u h (S (S 32 a) 1) i (nar (h 47 a) y)) 49 (40 * a + i) (nar (h 47 a) y) b = h b := fun b u w => by rw [mx_u_a w, mx_u_a u]
        have f12 : ∀ b, 53 ≤ b → b < n → S b (-2) = 12 → mx_u (mx_u h (S (S 32 a) 1) i (nar (h 47 a) y)) 49 (40 * a + i) (nar (h 47 a) y) b = h b := fun b b0 b1 b2 => f b (fun z => by rw [z] at b2; have := r.q; omega) (by omega)
        refine v.B hc (fun _ _ _ => rfl) (fun _ _ => rfl) rfl rfl (fun _ _ _ => rfl) (fun b b0 b1 b2 b3 => f b (by omega) (by omega)) (fun b b0 b1 b2 => f b (fun z => b2 (by rw [z]; exact r.q)) (by omega)) ?_ ?_ (Int.le_refl _) (by omega)
        · have e47 := f 47 (by omega) (by decide)
          have e48 := f 48 (by omega) (by decide)
          refine shs.mk ?_ ?_
          · intro k k0 k1
            rw [e47, e48]
            rcases v.b.s k k0 k1 with z | ⟨rk, rj⟩
            · exact Or.inl z
            · refine Or.inr ⟨rk.gg (fun _ _ _ => rfl) f12 (Int.le_refl _), fun j j0 j1 => ?_⟩
              have zk := rk.z0
              have ik := rk.i
              have rj := rj j j0 j1
              by_cases ka : k = a
              · subst ka
                by_cases ji : j = i
                · subst ji; simp (disch := omega) only [mx_u_a, mx_u_s]
                · simp (disch := omega) only [mx_u_a, mx_u_k]; exact rj
              · have dd := v.b.d k a k0 k1 q.1 q.2 ka rk.s0.1 r.s0.1
                simp (disch := omega) only [mx_u_a, mx_u_k]; exact rj
          · rw [e47]; exact v.b.d
        · exact v.l.gg (f 33 (by omega) (by decide)) (f 34 (by omega) (by decide)) (f 50 (by omega) (by decide)) (f 51 (by omega) (by decide)) rfl (fun _ _ _ => rfl) f12 (Int.le_refl _)
      · refine ag_p v hc (y := -12) ?_ ?_
        · simp (disch := omega) only [mx_vt_h, mx_vt_m, mx_cmp_0, mx_cmp_1, mx_cmp_2, mx_cmp_3, mx_cmp_4, mx_u_s, mx_u_a, mx_u_k, mx_z_a, mx_z_s, mx_t_a, mx_t_2, mx_t_1, mx_t_0, mx_gd_T, mx_gd_t, mx_br_T, mx_br_F, mx_br_t, mx_br_f, mx_br_n, mx_cl_T, mx_cl_t, mx_re_T, mx_re_t, mx_rt_v, mx_rt_0, mx_cu_t, mx_w_id, mx_l_id, mx_b_0, mx_b_1, mx_b_r, mx_nl_0, mx_nl_1, mx_nl_2, mx_nl_n, mx_nl_l, mx_sw_n, mx_sw_h, mx_sw_m, Int.reduceLE, Int.reduceLT, Int.reduceEq, Int.reduceAdd, Int.reduceSub, Int.reduceMul, Int.reduceNeg, Int.reduceToNat, and_self, true_and, and_true, false_and, and_false, true_or, or_true, false_or, or_false, not_true_eq_false, not_false_eq_true, eq_self, rw_X11_put, hX, c_xSh, mx_b_t q, c_within, r.t, r.q, r.l, mx_b_f i0]
        · simp (disch := omega) only [mx_vt_h, mx_vt_m, mx_cmp_0, mx_cmp_1, mx_cmp_2, mx_cmp_3, mx_cmp_4, mx_u_s, mx_u_a, mx_u_k, mx_z_a, mx_z_s, mx_t_a, mx_t_2, mx_t_1, mx_t_0, mx_gd_T, mx_gd_t, mx_br_T, mx_br_F, mx_br_t, mx_br_f, mx_br_n, mx_cl_T, mx_cl_t, mx_re_T, mx_re_t, mx_rt_v, mx_rt_0, mx_cu_t, mx_w_id, mx_l_id, mx_b_0, mx_b_1, mx_b_r, mx_nl_0, mx_nl_1, mx_nl_2, mx_nl_n, mx_nl_l, mx_sw_n, mx_sw_h, mx_sw_m, Int.reduceLE, Int.reduceLT, Int.reduceEq, Int.reduceAdd, Int.reduceSub, Int.reduceMul, Int.reduceNeg, Int.reduceToNat, and_self, true_and, and_true, false_and, and_false, true_or, or_true, false_or, or_false, not_true_eq_false, not_false_eq_true, eq_self, rw_X12_put, hM, c_mSh, mx_b_t q, c_in, mx_b_f i0]
  · refine ag_p v hc (y := -1) ?_ ?_
    · simp (disch := omega) only [mx_vt_h, mx_vt_m, mx_cmp_0, mx_cmp_1, mx_cmp_2, mx_cmp_3, mx_cmp_4, mx_u_s, mx_u_a, mx_u_k, mx_z_a, mx_z_s, mx_t_a, mx_t_2, mx_t_1, mx_t_0, mx_gd_T, mx_gd_t, mx_br_T, mx_br_F, mx_br_t, mx_br_f, mx_br_n, mx_cl_T, mx_cl_t, mx_re_T, mx_re_t, mx_rt_v, mx_rt_0, mx_cu_t, mx_w_id, mx_l_id, mx_b_0, mx_b_1, mx_b_r, mx_nl_0, mx_nl_1, mx_nl_2, mx_nl_n, mx_nl_l, mx_sw_n, mx_sw_h, mx_sw_m, Int.reduceLE, Int.reduceLT, Int.reduceEq, Int.reduceAdd, Int.reduceSub, Int.reduceMul, Int.reduceNeg, Int.reduceToNat, and_self, true_and, and_true, false_and, and_false, true_or, or_true, false_or, or_false, not_true_eq_false, not_false_eq_true, eq_self, rw_X11_put, c_xSh, mx_b_f q]
    · simp (disch := omega) only [mx_vt_h, mx_vt_m, mx_cmp_0, mx_cmp_1, mx_cmp_2, mx_cmp_3, mx_cmp_4, mx_u_s, mx_u_a, mx_u_k, mx_z_a, mx_z_s, mx_t_a, mx_t_2, mx_t_1, mx_t_0, mx_gd_T, mx_gd_t, mx_br_T, mx_br_F, mx_br_t, mx_br_f, mx_br_n, mx_cl_T, mx_cl_t, mx_re_T, mx_re_t, mx_rt_v, mx_rt_0, mx_cu_t, mx_w_id, mx_l_id, mx_b_0, mx_b_1, mx_b_r, mx_nl_0, mx_nl_1, mx_nl_2, mx_nl_n, mx_nl_l, mx_sw_n, mx_sw_h, mx_sw_m, Int.reduceLE, Int.reduceLT, Int.reduceEq, Int.reduceAdd, Int.reduceSub, Int.reduceMul, Int.reduceNeg, Int.reduceToNat, and_self, true_and, and_true, false_and, and_false, true_or, or_true, false_or, or_false, not_true_eq_false, not_false_eq_true, eq_self, rw_X12_put, c_mSh, mx_b_f q]
/-- a sheet's numbers in the reference, the first k of them wiped -/
def zr (h : mx_H) (a k : Int) : mx_H := fun b j => if b = 49 ∧ 40 * a ≤ j ∧ j < 40 * a + k then 0 else h b j
theorem zr_o {h : mx_H} {a k b : Int} (q : ¬ b = 49) : zr h a k b = h b := by funext j; unfold zr; rw [if_neg (fun z => q z.1)]
theorem zr_s {h : mx_H} {a k : Int} (k0 : 0 ≤ k) : mx_u (zr h a k) 49 (40 * a + k) 0 = zr h a (k + 1) := by
  funext b j; unfold mx_u zr
  by_cases q : b = 49
  · by_cases z : j = 40 * a + k
    · rw [if_pos ⟨q, z⟩, if_pos (by omega)]
    · rw [if_neg (fun u => z u.2)]
      by_cases w : 40 * a ≤ j ∧ j < 40 * a + k
      · rw [if_pos ⟨q, w⟩, if_pos (by omega)]
      · rw [if_neg (fun u => w u.2), if_neg (by omega)]
  · rw [if_neg (fun u => q u.1), if_neg (fun u => q u.1), if_neg (fun u => q u.1)]
theorem zr_0 {h : mx_H} {a : Int} : zr h a 0 = h := by
  funext b j; unfold zr; rw [if_neg (by omega)]
theorem c_shl (hM : sh_M S) {a k : Int} {l2 l3 : Option mx_V} (q : 0 ≤ a ∧ a ≤ 3) (k0 : 0 ≤ k) (k1 : k ≤ 40) : mx_ex d 227 64 [some (2, 38), some (0, a), l2, l3, some (0, k)] [] S (zr h a k) n = some (some (0, 1), S, zr h a 40, n) := by
  have hM1 := hM.e
  rw [rh_X12_sheet_64]
  by_cases z : k < 40
  · have ih := fun l2 l3 => c_shl hM (a := a) (k := k + 1) (l2 := l2) (l3 := l3) q (by omega) (by omega)
    rw [← zr_s k0] at ih
    simp (disch := omega) only [mx_vt_h, mx_vt_m, mx_cmp_0, mx_cmp_1, mx_cmp_2, mx_cmp_3, mx_cmp_4, mx_u_s, mx_u_a, mx_u_k, mx_z_a, mx_z_s, mx_t_a, mx_t_2, mx_t_1, mx_t_0, mx_gd_T, mx_gd_t, mx_br_T, mx_br_F, mx_br_t, mx_br_f, mx_br_n, mx_cl_T, mx_cl_t, mx_re_T, mx_re_t, mx_rt_v, mx_rt_0, mx_cu_t, mx_w_id, mx_l_id, mx_b_0, mx_b_1, mx_b_r, mx_nl_0, mx_nl_1, mx_nl_2, mx_nl_n, mx_nl_l, mx_sw_n, mx_sw_h, mx_sw_m, Int.reduceLE, Int.reduceLT, Int.reduceEq, Int.reduceAdd, Int.reduceSub, Int.reduceMul, Int.reduceNeg, Int.reduceToNat, and_self, true_and, and_true, false_and, and_false, true_or, or_true, false_or, or_false, not_true_eq_false, not_false_eq_true, eq_self, rw_X12_sheet, hM1]
    exact ih _ _
  · have e : k = 40 := by omega
    subst e
    simp (disch := omega) only [mx_vt_h, mx_vt_m, mx_cmp_0, mx_cmp_1, mx_cmp_2, mx_cmp_3, mx_cmp_4, mx_u_s, mx_u_a, mx_u_k, mx_z_a, mx_z_s, mx_t_a, mx_t_2, mx_t_1, mx_t_0, mx_gd_T, mx_gd_t, mx_br_T, mx_br_F, mx_br_t, mx_br_f, mx_br_n, mx_cl_T, mx_cl_t, mx_re_T, mx_re_t, mx_rt_v, mx_rt_0, mx_cu_t, mx_w_id, mx_l_id, mx_b_0, mx_b_1, mx_b_r, mx_nl_0, mx_nl_1, mx_nl_2, mx_nl_n, mx_nl_l, mx_sw_n, mx_sw_h, mx_sw_m, Int.reduceLE, Int.reduceLT, Int.reduceEq, Int.reduceAdd, Int.reduceSub, Int.reduceMul, Int.reduceNeg, Int.reduceToNat, and_self, true_and, and_true, false_and, and_false, true_or, or_true, false_or, or_false, not_true_eq_false, not_false_eq_true, eq_self, rw_X12_sheet, hM1]
termination_by (40 - k).toNat
decreasing_by omega
end
