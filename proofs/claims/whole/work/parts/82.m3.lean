/-! The reference: sets of bases, lines that hold -/
section
variable {d : Nat} {S h : mx_H} {n : Int}
theorem c_worth (hS : sh_M S) (w : vw (h 39)) {a b : Int} : mx_M (d + 3) 185 [(2, 38), (0, a), (0, b)] S h n = some (some (1, if (0 ≤ a ∧ a < h 39 0) ∧ 2 ≤ b ∧ b ≤ 16 then wo (h 39) a b else -1000000000000), S, h, n) := by
  have hN := w.N
  by_cases q : (0 ≤ a ∧ a < h 39 0)
  · by_cases r : 2 ≤ b ∧ b ≤ 16
    · rw [if_pos ⟨q, r⟩]
      simp (disch := omega) only [mx_vt_h, mx_vt_m, mx_cmp_0, mx_cmp_1, mx_cmp_2, mx_cmp_3, mx_cmp_4, mx_u_s, mx_u_a, mx_u_k, mx_z_a, mx_z_s, mx_t_a, mx_t_2, mx_t_1, mx_t_0, mx_gd_T, mx_gd_t, mx_br_T, mx_br_F, mx_br_t, mx_br_f, mx_br_n, mx_cl_T, mx_cl_t, mx_re_T, mx_re_t, mx_rt_v, mx_rt_0, mx_cu_t, mx_w_id, mx_l_id, mx_b_0, mx_b_1, mx_b_r, mx_nl_0, mx_nl_1, mx_nl_2, mx_nl_n, mx_nl_l, mx_sw_n, mx_sw_h, mx_sw_m, Int.reduceLE, Int.reduceLT, Int.reduceEq, Int.reduceAdd, Int.reduceSub, Int.reduceMul, Int.reduceNeg, Int.reduceToNat, and_self, true_and, and_true, false_and, and_false, true_or, or_true, false_or, or_false, not_true_eq_false, not_false_eq_true, eq_self, rw_X12_worth, c_isNote hS w, c_isBase, c_worthBy hS _ _ (w.n _ q.1 q.2), hS.e, mx_b_t q, mx_b_t r]
    · rw [if_neg (fun t => r t.2)]
      simp (disch := omega) only [mx_vt_h, mx_vt_m, mx_cmp_0, mx_cmp_1, mx_cmp_2, mx_cmp_3, mx_cmp_4, mx_u_s, mx_u_a, mx_u_k, mx_z_a, mx_z_s, mx_t_a, mx_t_2, mx_t_1, mx_t_0, mx_gd_T, mx_gd_t, mx_br_T, mx_br_F, mx_br_t, mx_br_f, mx_br_n, mx_cl_T, mx_cl_t, mx_re_T, mx_re_t, mx_rt_v, mx_rt_0, mx_cu_t, mx_w_id, mx_l_id, mx_b_0, mx_b_1, mx_b_r, mx_nl_0, mx_nl_1, mx_nl_2, mx_nl_n, mx_nl_l, mx_sw_n, mx_sw_h, mx_sw_m, Int.reduceLE, Int.reduceLT, Int.reduceEq, Int.reduceAdd, Int.reduceSub, Int.reduceMul, Int.reduceNeg, Int.reduceToNat, and_self, true_and, and_true, false_and, and_false, true_or, or_true, false_or, or_false, not_true_eq_false, not_false_eq_true, eq_self, rw_X12_worth, c_isNote hS w, c_isBase, hS.e, mx_b_t q, mx_b_f r]
  · rw [if_neg (fun t => q t.1)]
    simp (disch := omega) only [mx_vt_h, mx_vt_m, mx_cmp_0, mx_cmp_1, mx_cmp_2, mx_cmp_3, mx_cmp_4, mx_u_s, mx_u_a, mx_u_k, mx_z_a, mx_z_s, mx_t_a, mx_t_2, mx_t_1, mx_t_0, mx_gd_T, mx_gd_t, mx_br_T, mx_br_F, mx_br_t, mx_br_f, mx_br_n, mx_cl_T, mx_cl_t, mx_re_T, mx_re_t, mx_rt_v, mx_rt_0, mx_cu_t, mx_w_id, mx_l_id, mx_b_0, mx_b_1, mx_b_r, mx_nl_0, mx_nl_1, mx_nl_2, mx_nl_n, mx_nl_l, mx_sw_n, mx_sw_h, mx_sw_m, Int.reduceLE, Int.reduceLT, Int.reduceEq, Int.reduceAdd, Int.reduceSub, Int.reduceMul, Int.reduceNeg, Int.reduceToNat, and_self, true_and, and_true, false_and, and_false, true_or, or_true, false_or, or_false, not_true_eq_false, not_false_eq_true, eq_self, rw_X12_worth, c_isNote hS w, c_isBase, hS.e, mx_b_f q]
theorem c_can_l (hS : sh_M S) {a b : Int} (h0 : 0 ≤ a) (h1 : a ≤ 5) (w : nw (h 39) a) (h2 : 2 ≤ b) (h3 : b ≤ 17) :
    mx_ex (d + 3) 186 14 [some (2, 38), some (0, a), some (0, bz 2 b (cb (h 39) a)), some (0, b)] [] S h n = some (some (0, bz 2 17 (cb (h 39) a)), S, h, n) := by
  rw [rh_X12_can_14]
  by_cases q : b ≤ 16
  · have ih := c_can_l hS h0 h1 w (b := b + 1) (by omega) (by omega)
    by_cases c : cb (h 39) a b
    · simp (disch := omega) only [mx_vt_h, mx_vt_m, mx_cmp_0, mx_cmp_1, mx_cmp_2, mx_cmp_3, mx_cmp_4, mx_u_s, mx_u_a, mx_u_k, mx_z_a, mx_z_s, mx_t_a, mx_t_2, mx_t_1, mx_t_0, mx_gd_T, mx_gd_t, mx_br_T, mx_br_F, mx_br_t, mx_br_f, mx_br_n, mx_cl_T, mx_cl_t, mx_re_T, mx_re_t, mx_rt_v, mx_rt_0, mx_cu_t, mx_w_id, mx_l_id, mx_b_0, mx_b_1, mx_b_r, mx_nl_0, mx_nl_1, mx_nl_2, mx_nl_n, mx_nl_l, mx_sw_n, mx_sw_h, mx_sw_m, Int.reduceLE, Int.reduceLT, Int.reduceEq, Int.reduceAdd, Int.reduceSub, Int.reduceMul, Int.reduceNeg, Int.reduceToNat, and_self, true_and, and_true, false_and, and_false, true_or, or_true, false_or, or_false, not_true_eq_false, not_false_eq_true, eq_self, rw_X12_can, c_canBe hS h0 h1 w h2 q, hS.e, mx_b_t c]
      rw [bz_t (by omega) h2 (by omega) c]; exact ih
    · simp (disch := omega) only [mx_vt_h, mx_vt_m, mx_cmp_0, mx_cmp_1, mx_cmp_2, mx_cmp_3, mx_cmp_4, mx_u_s, mx_u_a, mx_u_k, mx_z_a, mx_z_s, mx_t_a, mx_t_2, mx_t_1, mx_t_0, mx_gd_T, mx_gd_t, mx_br_T, mx_br_F, mx_br_t, mx_br_f, mx_br_n, mx_cl_T, mx_cl_t, mx_re_T, mx_re_t, mx_rt_v, mx_rt_0, mx_cu_t, mx_w_id, mx_l_id, mx_b_0, mx_b_1, mx_b_r, mx_nl_0, mx_nl_1, mx_nl_2, mx_nl_n, mx_nl_l, mx_sw_n, mx_sw_h, mx_sw_m, Int.reduceLE, Int.reduceLT, Int.reduceEq, Int.reduceAdd, Int.reduceSub, Int.reduceMul, Int.reduceNeg, Int.reduceToNat, and_self, true_and, and_true, false_and, and_false, true_or, or_true, false_or, or_false, not_true_eq_false, not_false_eq_true, eq_self, rw_X12_can, c_canBe hS h0 h1 w h2 q, hS.e, mx_b_f c]
      rw [bz_f0 c]; exact ih
  · have e : b = 17 := by omega
    simp (disch := omega) only [mx_vt_h, mx_vt_m, mx_cmp_0, mx_cmp_1, mx_cmp_2, mx_cmp_3, mx_cmp_4, mx_u_s, mx_u_a, mx_u_k, mx_z_a, mx_z_s, mx_t_a, mx_t_2, mx_t_1, mx_t_0, mx_gd_T, mx_gd_t, mx_br_T, mx_br_F, mx_br_t, mx_br_f, mx_br_n, mx_cl_T, mx_cl_t, mx_re_T, mx_re_t, mx_rt_v, mx_rt_0, mx_cu_t, mx_w_id, mx_l_id, mx_b_0, mx_b_1, mx_b_r, mx_nl_0, mx_nl_1, mx_nl_2, mx_nl_n, mx_nl_l, mx_sw_n, mx_sw_h, mx_sw_m, Int.reduceLE, Int.reduceLT, Int.reduceEq, Int.reduceAdd, Int.reduceSub, Int.reduceMul, Int.reduceNeg, Int.reduceToNat, and_self, true_and, and_true, false_and, and_false, true_or, or_true, false_or, or_false, not_true_eq_false, not_false_eq_true, eq_self, rw_X12_can, e]
termination_by (17 - b).toNat
theorem c_can (hS : sh_M S) (w : vw (h 39)) {a : Int} : mx_M (d + 3) 186 [(2, 38), (0, a)] S h n = some (some (0, if 0 ≤ a ∧ a < h 39 0 then bz 2 17 (cb (h 39) a) else -1), S, h, n) := by
  have hN := w.N
  by_cases q : (0 ≤ a ∧ a < h 39 0)
  · rw [if_pos q]
    have := c_can_l (d := d) (n := n) hS q.1 (by omega) (w.n _ q.1 q.2) (b := 2) (by omega) (by omega)
    rw [bz_0 (by omega)] at this
    simp (disch := omega) only [mx_vt_h, mx_vt_m, mx_cmp_0, mx_cmp_1, mx_cmp_2, mx_cmp_3, mx_cmp_4, mx_u_s, mx_u_a, mx_u_k, mx_z_a, mx_z_s, mx_t_a, mx_t_2, mx_t_1, mx_t_0, mx_gd_T, mx_gd_t, mx_br_T, mx_br_F, mx_br_t, mx_br_f, mx_br_n, mx_cl_T, mx_cl_t, mx_re_T, mx_re_t, mx_rt_v, mx_rt_0, mx_cu_t, mx_w_id, mx_l_id, mx_b_0, mx_b_1, mx_b_r, mx_nl_0, mx_nl_1, mx_nl_2, mx_nl_n, mx_nl_l, mx_sw_n, mx_sw_h, mx_sw_m, Int.reduceLE, Int.reduceLT, Int.reduceEq, Int.reduceAdd, Int.reduceSub, Int.reduceMul, Int.reduceNeg, Int.reduceToNat, and_self, true_and, and_true, false_and, and_false, true_or, or_true, false_or, or_false, not_true_eq_false, not_false_eq_true, eq_self, rw_X12_can, c_isNote hS w, hS.e, mx_b_t q]
    exact this
  · rw [if_neg q]
    simp (disch := omega) only [mx_vt_h, mx_vt_m, mx_cmp_0, mx_cmp_1, mx_cmp_2, mx_cmp_3, mx_cmp_4, mx_u_s, mx_u_a, mx_u_k, mx_z_a, mx_z_s, mx_t_a, mx_t_2, mx_t_1, mx_t_0, mx_gd_T, mx_gd_t, mx_br_T, mx_br_F, mx_br_t, mx_br_f, mx_br_n, mx_cl_T, mx_cl_t, mx_re_T, mx_re_t, mx_rt_v, mx_rt_0, mx_cu_t, mx_w_id, mx_l_id, mx_b_0, mx_b_1, mx_b_r, mx_nl_0, mx_nl_1, mx_nl_2, mx_nl_n, mx_nl_l, mx_sw_n, mx_sw_h, mx_sw_m, Int.reduceLE, Int.reduceLT, Int.reduceEq, Int.reduceAdd, Int.reduceSub, Int.reduceMul, Int.reduceNeg, Int.reduceToNat, and_self, true_and, and_true, false_and, and_false, true_or, or_true, false_or, or_false, not_true_eq_false, not_false_eq_true, eq_self, rw_X12_can, c_isNote hS w, hS.e, mx_b_f q]
theorem c_worthNow (hS : sh_M S) (w : vw (h 39)) {a : Int} (b : bb (h 39) (h 43)) (h0 : 0 ≤ a) (h1 : a < h 39 0) : mx_M (d + 3) 191 [(2, 38), (0, a)] S h n = some (some (1, wn (h 39) (h 43) a), S, h, n) := by
  have hN := w.N
  have hw := (w.n _ h0 h1).e
  have hb := b _ h0 h1
  simp (disch := omega) only [mx_vt_h, mx_vt_m, mx_cmp_0, mx_cmp_1, mx_cmp_2, mx_cmp_3, mx_cmp_4, mx_u_s, mx_u_a, mx_u_k, mx_z_a, mx_z_s, mx_t_a, mx_t_2, mx_t_1, mx_t_0, mx_gd_T, mx_gd_t, mx_br_T, mx_br_F, mx_br_t, mx_br_f, mx_br_n, mx_cl_T, mx_cl_t, mx_re_T, mx_re_t, mx_rt_v, mx_rt_0, mx_cu_t, mx_w_id, mx_l_id, mx_b_0, mx_b_1, mx_b_r, mx_nl_0, mx_nl_1, mx_nl_2, mx_nl_n, mx_nl_l, mx_sw_n, mx_sw_h, mx_sw_m, Int.reduceLE, Int.reduceLT, Int.reduceEq, Int.reduceAdd, Int.reduceSub, Int.reduceMul, Int.reduceNeg, Int.reduceToNat, and_self, true_and, and_true, false_and, and_false, true_or, or_true, false_or, or_false, not_true_eq_false, not_false_eq_true, eq_self, rw_X12_worthNow, c_its hS, hS.e, c_worthBy hS _ _ (w.n _ h0 h1)]
  rfl
theorem wn_r {σ β : Int → Int} (w : vw σ) (b : bb σ β) {a : Int} (h0 : 0 ≤ a) (h1 : a < σ 0) : -6 ≤ wn σ β a ∧ wn σ β a < 34012224 :=
  wo_r (w.n _ h0 h1) (b _ h0 h1).1 (b _ h0 h1).2
theorem c_holdsNow (hS : sh_M S) (w : vw (h 39)) {l : Int} (b : bb (h 39) (h 43)) (h0 : 0 ≤ l) (h1 : l < h 39 1) : mx_M (d + 4) 192 [(2, 38), (0, l)] S h n = some (some (0, mx_b (hl (h 39) (h 43) l)), S, h, n) := by
  have hL := w.L
  have lw := w.l _ h0 h1
  have s := lw.s
  have x := lw.x
  have y := lw.y
  have z := lw.z
  have r1 := wn_r w b x.1 x.2
  have r2 := wn_r w b y.1 y.2
  unfold hl
  by_cases s0 : ln (h 39) l 0 = 0
  · rw [if_pos s0]
    (repeat' (first | (simp (disch := omega) only [mx_vt_h, mx_vt_m, mx_cmp_0, mx_cmp_1, mx_cmp_2, mx_cmp_3, mx_cmp_4, mx_u_s, mx_u_a, mx_u_k, mx_z_a, mx_z_s, mx_t_a, mx_t_2, mx_t_1, mx_t_0, mx_gd_T, mx_gd_t, mx_br_T, mx_br_F, mx_br_t, mx_br_f, mx_br_n, mx_cl_T, mx_cl_t, mx_re_T, mx_re_t, mx_rt_v, mx_rt_0, mx_cu_t, mx_w_id, mx_l_id, mx_b_0, mx_b_1, mx_b_r, mx_nl_0, mx_nl_1, mx_nl_2, mx_nl_n, mx_nl_l, mx_sw_n, mx_sw_h, mx_sw_m, Int.reduceLE, Int.reduceLT, Int.reduceEq, Int.reduceAdd, Int.reduceSub, Int.reduceMul, Int.reduceNeg, Int.reduceToNat, and_self, true_and, and_true, false_and, and_false, true_or, or_true, false_or, or_false, not_true_eq_false, not_false_eq_true, eq_self, rw_X12_holdsNow, rw_X12_holdsNow_1, c_of hS, hS.e, c_worthNow hS w b, s0]) | (refine mx_br_c (fun _ => ?_) (fun _ => ?_)) | (refine mx_W_b (fun _ => ?_) (fun _ => ?_))))
    all_goals (first | rfl | (rw [mx_b_t (by first | assumption | omega)]) | (rw [mx_b_f (by first | assumption | omega)]))
  · rw [if_neg s0]
    by_cases s1 : ln (h 39) l 0 = 1
    · rw [if_pos s1]
      (repeat' (first | (simp (disch := omega) only [mx_vt_h, mx_vt_m, mx_cmp_0, mx_cmp_1, mx_cmp_2, mx_cmp_3, mx_cmp_4, mx_u_s, mx_u_a, mx_u_k, mx_z_a, mx_z_s, mx_t_a, mx_t_2, mx_t_1, mx_t_0, mx_gd_T, mx_gd_t, mx_br_T, mx_br_F, mx_br_t, mx_br_f, mx_br_n, mx_cl_T, mx_cl_t, mx_re_T, mx_re_t, mx_rt_v, mx_rt_0, mx_cu_t, mx_w_id, mx_l_id, mx_b_0, mx_b_1, mx_b_r, mx_nl_0, mx_nl_1, mx_nl_2, mx_nl_n, mx_nl_l, mx_sw_n, mx_sw_h, mx_sw_m, Int.reduceLE, Int.reduceLT, Int.reduceEq, Int.reduceAdd, Int.reduceSub, Int.reduceMul, Int.reduceNeg, Int.reduceToNat, and_self, true_and, and_true, false_and, and_false, true_or, or_true, false_or, or_false, not_true_eq_false, not_false_eq_true, eq_self, rw_X12_holdsNow, rw_X12_holdsNow_1, c_of hS, hS.e, c_worthNow hS w b, s1]) | (refine mx_br_c (fun _ => ?_) (fun _ => ?_)) | (refine mx_W_b (fun _ => ?_) (fun _ => ?_))))
      all_goals (first | rfl | (rw [mx_b_t (by first | assumption | omega)]) | (rw [mx_b_f (by first | assumption | omega)]))
    · rw [if_neg s1]
      by_cases s2 : ln (h 39) l 0 = 2
      · have z2 := lw.z2 s2
        have r3 := wn_r w b z.1 z2
        rw [if_pos s2]
        (repeat' (first | (simp (disch := omega) only [mx_vt_h, mx_vt_m, mx_cmp_0, mx_cmp_1, mx_cmp_2, mx_cmp_3, mx_cmp_4, mx_u_s, mx_u_a, mx_u_k, mx_z_a, mx_z_s, mx_t_a, mx_t_2, mx_t_1, mx_t_0, mx_gd_T, mx_gd_t, mx_br_T, mx_br_F, mx_br_t, mx_br_f, mx_br_n, mx_cl_T, mx_cl_t, mx_re_T, mx_re_t, mx_rt_v, mx_rt_0, mx_cu_t, mx_w_id, mx_l_id, mx_b_0, mx_b_1, mx_b_r, mx_nl_0, mx_nl_1, mx_nl_2, mx_nl_n, mx_nl_l, mx_sw_n, mx_sw_h, mx_sw_m, Int.reduceLE, Int.reduceLT, Int.reduceEq, Int.reduceAdd, Int.reduceSub, Int.reduceMul, Int.reduceNeg, Int.reduceToNat, and_self, true_and, and_true, false_and, and_false, true_or, or_true, false_or, or_false, not_true_eq_false, not_false_eq_true, eq_self, rw_X12_holdsNow, rw_X12_holdsNow_1, c_of hS, hS.e, c_worthNow hS w b, s2]) | (refine mx_br_c (fun _ => ?_) (fun _ => ?_)) | (refine mx_W_b (fun _ => ?_) (fun _ => ?_))))
        all_goals (first | rfl | (rw [mx_b_t (by first | assumption | omega)]) | (rw [mx_b_f (by first | assumption | omega)]))
      · rw [if_neg s2]
        have s3 : ln (h 39) l 0 = 3 := by omega
        have z3 := lw.z3 s3
        (repeat' (first | (simp (disch := omega) only [mx_vt_h, mx_vt_m, mx_cmp_0, mx_cmp_1, mx_cmp_2, mx_cmp_3, mx_cmp_4, mx_u_s, mx_u_a, mx_u_k, mx_z_a, mx_z_s, mx_t_a, mx_t_2, mx_t_1, mx_t_0, mx_gd_T, mx_gd_t, mx_br_T, mx_br_F, mx_br_t, mx_br_f, mx_br_n, mx_cl_T, mx_cl_t, mx_re_T, mx_re_t, mx_rt_v, mx_rt_0, mx_cu_t, mx_w_id, mx_l_id, mx_b_0, mx_b_1, mx_b_r, mx_nl_0, mx_nl_1, mx_nl_2, mx_nl_n, mx_nl_l, mx_sw_n, mx_sw_h, mx_sw_m, Int.reduceLE, Int.reduceLT, Int.reduceEq, Int.reduceAdd, Int.reduceSub, Int.reduceMul, Int.reduceNeg, Int.reduceToNat, and_self, true_and, and_true, false_and, and_false, true_or, or_true, false_or, or_false, not_true_eq_false, not_false_eq_true, eq_self, rw_X12_holdsNow, rw_X12_holdsNow_1, c_of hS, hS.e, c_worthNow hS w b, s3]) | (refine mx_br_c (fun _ => ?_) (fun _ => ?_)) | (refine mx_W_b (fun _ => ?_) (fun _ => ?_))))
        all_goals (first | rfl | (rw [mx_b_t (by first | assumption | omega)]) | (rw [mx_b_f (by first | assumption | omega)]))
theorem c_holdAll_l (hS : sh_M S) (w : vw (h 39)) {x k : Int} (b : bb (h 39) (h 43)) (h0 : 0 ≤ k) (h1 : k ≤ h 39 1) : mx_ex (d + 5) 193 2 [some (2, 38), some (0, x), some (0, k)] [] S h n = some (some (0, mx_b (hs (h 39) (h 43) x k)), S, h, n) := by
  have hL := w.L
  rw [rh_X12_holdAll_2]
  by_cases q : k < h 39 1
  · have ih := c_holdAll_l hS w b (x := x) (k := k + 1) (by omega) (by omega)
    by_cases t : bt x k.toNat
    · by_cases g : hl (h 39) (h 43) k
      · have e : hs (h 39) (h 43) x (k + 1) ↔ hs (h 39) (h 43) x k := by
          constructor
          · intro f j j1 j2 j3
            by_cases e : j = k
            · rw [e]; exact g
            · exact f j (by omega) j2 j3
          · intro f j j1 j2 j3; exact f j (by omega) j2 j3
        rw [mx_b_i e] at ih
        simp (disch := omega) only [mx_vt_h, mx_vt_m, mx_cmp_0, mx_cmp_1, mx_cmp_2, mx_cmp_3, mx_cmp_4, mx_u_s, mx_u_a, mx_u_k, mx_z_a, mx_z_s, mx_t_a, mx_t_2, mx_t_1, mx_t_0, mx_gd_T, mx_gd_t, mx_br_T, mx_br_F, mx_br_t, mx_br_f, mx_br_n, mx_cl_T, mx_cl_t, mx_re_T, mx_re_t, mx_rt_v, mx_rt_0, mx_cu_t, mx_w_id, mx_l_id, mx_b_0, mx_b_1, mx_b_r, mx_nl_0, mx_nl_1, mx_nl_2, mx_nl_n, mx_nl_l, mx_sw_n, mx_sw_h, mx_sw_m, Int.reduceLE, Int.reduceLT, Int.reduceEq, Int.reduceAdd, Int.reduceSub, Int.reduceMul, Int.reduceNeg, Int.reduceToNat, and_self, true_and, and_true, false_and, and_false, true_or, or_true, false_or, or_false, not_true_eq_false, not_false_eq_true, eq_self, rw_X12_holdAll, hS.e, bt_tst, c_holdsNow hS w b, mx_b_t g, mx_b_t t]
        exact ih
      · simp (disch := omega) only [mx_vt_h, mx_vt_m, mx_cmp_0, mx_cmp_1, mx_cmp_2, mx_cmp_3, mx_cmp_4, mx_u_s, mx_u_a, mx_u_k, mx_z_a, mx_z_s, mx_t_a, mx_t_2, mx_t_1, mx_t_0, mx_gd_T, mx_gd_t, mx_br_T, mx_br_F, mx_br_t, mx_br_f, mx_br_n, mx_cl_T, mx_cl_t, mx_re_T, mx_re_t, mx_rt_v, mx_rt_0, mx_cu_t, mx_w_id, mx_l_id, mx_b_0, mx_b_1, mx_b_r, mx_nl_0, mx_nl_1, mx_nl_2, mx_nl_n, mx_nl_l, mx_sw_n, mx_sw_h, mx_sw_m, Int.reduceLE, Int.reduceLT, Int.reduceEq, Int.reduceAdd, Int.reduceSub, Int.reduceMul, Int.reduceNeg, Int.reduceToNat, and_self, true_and, and_true, false_and, and_false, true_or, or_true, false_or, or_false, not_true_eq_false, not_false_eq_true, eq_self, rw_X12_holdAll, hS.e, bt_tst, c_holdsNow hS w b, mx_b_f g, mx_b_t t]
        rw [mx_b_f (fun f => g (f k (by omega) q t))]
    · have e : hs (h 39) (h 43) x (k + 1) ↔ hs (h 39) (h 43) x k := by
        constructor
        · intro f j j1 j2 j3
          by_cases e : j = k
          · rw [e] at j3; exact absurd j3 t
          · exact f j (by omega) j2 j3
        · intro f j j1 j2 j3; exact f j (by omega) j2 j3
      rw [mx_b_i e] at ih
      simp (disch := omega) only [mx_vt_h, mx_vt_m, mx_cmp_0, mx_cmp_1, mx_cmp_2, mx_cmp_3, mx_cmp_4, mx_u_s, mx_u_a, mx_u_k, mx_z_a, mx_z_s, mx_t_a, mx_t_2, mx_t_1, mx_t_0, mx_gd_T, mx_gd_t, mx_br_T, mx_br_F, mx_br_t, mx_br_f, mx_br_n, mx_cl_T, mx_cl_t, mx_re_T, mx_re_t, mx_rt_v, mx_rt_0, mx_cu_t, mx_w_id, mx_l_id, mx_b_0, mx_b_1, mx_b_r, mx_nl_0, mx_nl_1, mx_nl_2, mx_nl_n, mx_nl_l, mx_sw_n, mx_sw_h, mx_sw_m, Int.reduceLE, Int.reduceLT, Int.reduceEq, Int.reduceAdd, Int.reduceSub, Int.reduceMul, Int.reduceNeg, Int.reduceToNat, and_self, true_and, and_true, false_and, and_false, true_or, or_true, false_or, or_false, not_true_eq_false, not_false_eq_true, eq_self, rw_X12_holdAll, hS.e, bt_tst, mx_b_f t]
      exact ih
  · simp (disch := omega) only [mx_vt_h, mx_vt_m, mx_cmp_0, mx_cmp_1, mx_cmp_2, mx_cmp_3, mx_cmp_4, mx_u_s, mx_u_a, mx_u_k, mx_z_a, mx_z_s, mx_t_a, mx_t_2, mx_t_1, mx_t_0, mx_gd_T, mx_gd_t, mx_br_T, mx_br_F, mx_br_t, mx_br_f, mx_br_n, mx_cl_T, mx_cl_t, mx_re_T, mx_re_t, mx_rt_v, mx_rt_0, mx_cu_t, mx_w_id, mx_l_id, mx_b_0, mx_b_1, mx_b_r, mx_nl_0, mx_nl_1, mx_nl_2, mx_nl_n, mx_nl_l, mx_sw_n, mx_sw_h, mx_sw_m, Int.reduceLE, Int.reduceLT, Int.reduceEq, Int.reduceAdd, Int.reduceSub, Int.reduceMul, Int.reduceNeg, Int.reduceToNat, and_self, true_and, and_true, false_and, and_false, true_or, or_true, false_or, or_false, not_true_eq_false, not_false_eq_true, eq_self, rw_X12_holdAll, hS.e]
    rw [mx_b_t (c := hs (h 39) (h 43) x k) (fun j j1 j2 _ => absurd j1 (by omega))]
termination_by (h 39 1 - k).toNat
theorem c_holdAll (hS : sh_M S) (w : vw (h 39)) {x : Int} (b : bb (h 39) (h 43)) : mx_M (d + 5) 193 [(2, 38), (0, x)] S h n = some (some (0, mx_b (hs (h 39) (h 43) x 0)), S, h, n) := by
  have hL := w.L
  have ih := c_holdAll_l (d := d) (n := n) hS w b (x := x) (k := 0) (by omega) (by omega)
  simp (disch := omega) only [mx_vt_h, mx_vt_m, mx_cmp_0, mx_cmp_1, mx_cmp_2, mx_cmp_3, mx_cmp_4, mx_u_s, mx_u_a, mx_u_k, mx_z_a, mx_z_s, mx_t_a, mx_t_2, mx_t_1, mx_t_0, mx_gd_T, mx_gd_t, mx_br_T, mx_br_F, mx_br_t, mx_br_f, mx_br_n, mx_cl_T, mx_cl_t, mx_re_T, mx_re_t, mx_rt_v, mx_rt_0, mx_cu_t, mx_w_id, mx_l_id, mx_b_0, mx_b_1, mx_b_r, mx_nl_0, mx_nl_1, mx_nl_2, mx_nl_n, mx_nl_l, mx_sw_n, mx_sw_h, mx_sw_m, Int.reduceLE, Int.reduceLT, Int.reduceEq, Int.reduceAdd, Int.reduceSub, Int.reduceMul, Int.reduceNeg, Int.reduceToNat, and_self, true_and, and_true, false_and, and_false, true_or, or_true, false_or, or_false, not_true_eq_false, not_false_eq_true, eq_self, rw_X12_holdAll]
  exact ih
def mg (σ : Int → Int) (e b k : Int) : Prop := ∀ a, 0 ≤ a → a < k → it σ a 1 = e → cb σ a b
theorem c_may1_i (hS : sh_M S) (w : vw (h 39)) {e b k : Int} {l2 : Option mx_V} (h2 : 2 ≤ b) (h3 : b ≤ 16) (k0 : 0 ≤ k) (k1 : k ≤ h 39 0) {X : mx_R}
    (hX : ∀ l5, mx_ex (d + 3) 194 85 [some (2, 38), some (0, e), l2, some (0, b), some (0, mx_b (mg (h 39) e b (h 39 0))), l5] [] S h n = X) :
    mx_ex (d + 3) 194 35 [some (2, 38), some (0, e), l2, some (0, b), some (0, mx_b (mg (h 39) e b k)), some (0, k)] [] S h n = X := by
  have hN := w.N
  rw [rh_X12_may1_35]
  by_cases q : k < h 39 0
  · by_cases g : mg (h 39) e b k
    · have ih := c_may1_i hS w (e := e) (k := k + 1) h2 h3 (by omega) (by omega) hX
      rw [mx_b_t g]
      by_cases c1 : it (h 39) k 1 = e
      · by_cases c2 : cb (h 39) k b
        · have g2 : mg (h 39) e b (k + 1) := by
            intro a a0 a1 a2
            by_cases r : a = k
            · rw [r]; exact c2
            · exact g a a0 (by omega) a2
          rw [mx_b_t g2] at ih
          simp (disch := omega) only [mx_vt_h, mx_vt_m, mx_cmp_0, mx_cmp_1, mx_cmp_2, mx_cmp_3, mx_cmp_4, mx_u_s, mx_u_a, mx_u_k, mx_z_a, mx_z_s, mx_t_a, mx_t_2, mx_t_1, mx_t_0, mx_gd_T, mx_gd_t, mx_br_T, mx_br_F, mx_br_t, mx_br_f, mx_br_n, mx_cl_T, mx_cl_t, mx_re_T, mx_re_t, mx_rt_v, mx_rt_0, mx_cu_t, mx_w_id, mx_l_id, mx_b_0, mx_b_1, mx_b_r, mx_nl_0, mx_nl_1, mx_nl_2, mx_nl_n, mx_nl_l, mx_sw_n, mx_sw_h, mx_sw_m, Int.reduceLE, Int.reduceLT, Int.reduceEq, Int.reduceAdd, Int.reduceSub, Int.reduceMul, Int.reduceNeg, Int.reduceToNat, and_self, true_and, and_true, false_and, and_false, true_or, or_true, false_or, or_false, not_true_eq_false, not_false_eq_true, eq_self, rw_X12_may1, hS.e, c_its hS, c_canBe hS _ _ (w.n _ k0 q), mx_b_t c2, c1]
          exact ih
        · have g2 : ¬ mg (h 39) e b (k + 1) := fun f => c2 (f k k0 (by omega) c1)
          rw [mx_b_f g2] at ih
          simp (disch := omega) only [mx_vt_h, mx_vt_m, mx_cmp_0, mx_cmp_1, mx_cmp_2, mx_cmp_3, mx_cmp_4, mx_u_s, mx_u_a, mx_u_k, mx_z_a, mx_z_s, mx_t_a, mx_t_2, mx_t_1, mx_t_0, mx_gd_T, mx_gd_t, mx_br_T, mx_br_F, mx_br_t, mx_br_f, mx_br_n, mx_cl_T, mx_cl_t, mx_re_T, mx_re_t, mx_rt_v, mx_rt_0, mx_cu_t, mx_w_id, mx_l_id, mx_b_0, mx_b_1, mx_b_r, mx_nl_0, mx_nl_1, mx_nl_2, mx_nl_n, mx_nl_l, mx_sw_n, mx_sw_h, mx_sw_m, Int.reduceLE, Int.reduceLT, Int.reduceEq, Int.reduceAdd, Int.reduceSub, Int.reduceMul, Int.reduceNeg, Int.reduceToNat, and_self, true_and, and_true, false_and, and_false, true_or, or_true, false_or, or_false, not_true_eq_false, not_false_eq_true, eq_self, rw_X12_may1, hS.e, c_its hS, c_canBe hS _ _ (w.n _ k0 q), mx_b_f c2, c1]
          exact ih
      · have g2 : mg (h 39) e b (k + 1) := by
          intro a a0 a1 a2
          by_cases r : a = k
          · rw [r] at a2; exact absurd a2 c1
          · exact g a a0 (by omega) a2
        rw [mx_b_t g2] at ih
        simp (disch := omega) only [mx_vt_h, mx_vt_m, mx_cmp_0, mx_cmp_1, mx_cmp_2, mx_cmp_3, mx_cmp_4, mx_u_s, mx_u_a, mx_u_k, mx_z_a, mx_z_s, mx_t_a, mx_t_2, mx_t_1, mx_t_0, mx_gd_T, mx_gd_t, mx_br_T, mx_br_F, mx_br_t, mx_br_f, mx_br_n, mx_cl_T, mx_cl_t, mx_re_T, mx_re_t, mx_rt_v, mx_rt_0, mx_cu_t, mx_w_id, mx_l_id, mx_b_0, mx_b_1, mx_b_r, mx_nl_0, mx_nl_1, mx_nl_2, mx_nl_n, mx_nl_l, mx_sw_n, mx_sw_h, mx_sw_m, Int.reduceLE, Int.reduceLT, Int.reduceEq, Int.reduceAdd, Int.reduceSub, Int.reduceMul, Int.reduceNeg, Int.reduceToNat, and_self, true_and, and_true, false_and, and_false, true_or, or_true, false_or, or_false, not_true_eq_false, not_false_eq_true, eq_self, rw_X12_may1, hS.e, c_its hS]
        exact ih
    · have g2 : ¬ mg (h 39) e b (h 39 0) := fun f => g (fun a a0 a1 a2 => f a a0 (by omega) a2)
      rw [mx_b_f g2] at hX
      rw [mx_b_f g]
      simp (disch := omega) only [mx_vt_h, mx_vt_m, mx_cmp_0, mx_cmp_1, mx_cmp_2, mx_cmp_3, mx_cmp_4, mx_u_s, mx_u_a, mx_u_k, mx_z_a, mx_z_s, mx_t_a, mx_t_2, mx_t_1, mx_t_0, mx_gd_T, mx_gd_t, mx_br_T, mx_br_F, mx_br_t, mx_br_f, mx_br_n, mx_cl_T, mx_cl_t, mx_re_T, mx_re_t, mx_rt_v, mx_rt_0, mx_cu_t, mx_w_id, mx_l_id, mx_b_0, mx_b_1, mx_b_r, mx_nl_0, mx_nl_1, mx_nl_2, mx_nl_n, mx_nl_l, mx_sw_n, mx_sw_h, mx_sw_m, Int.reduceLE, Int.reduceLT, Int.reduceEq, Int.reduceAdd, Int.reduceSub, Int.reduceMul, Int.reduceNeg, Int.reduceToNat, and_self, true_and, and_true, false_and, and_false, true_or, or_true, false_or, or_false, not_true_eq_false, not_false_eq_true, eq_self, rw_X12_may1, hS.e, hX]
  · have e1 : k = h 39 0 := by omega
    rw [← e1] at hX
    simp (disch := omega) only [mx_vt_h, mx_vt_m, mx_cmp_0, mx_cmp_1, mx_cmp_2, mx_cmp_3, mx_cmp_4, mx_u_s, mx_u_a, mx_u_k, mx_z_a, mx_z_s, mx_t_a, mx_t_2, mx_t_1, mx_t_0, mx_gd_T, mx_gd_t, mx_br_T, mx_br_F, mx_br_t, mx_br_f, mx_br_n, mx_cl_T, mx_cl_t, mx_re_T, mx_re_t, mx_rt_v, mx_rt_0, mx_cu_t, mx_w_id, mx_l_id, mx_b_0, mx_b_1, mx_b_r, mx_nl_0, mx_nl_1, mx_nl_2, mx_nl_n, mx_nl_l, mx_sw_n, mx_sw_h, mx_sw_m, Int.reduceLE, Int.reduceLT, Int.reduceEq, Int.reduceAdd, Int.reduceSub, Int.reduceMul, Int.reduceNeg, Int.reduceToNat, and_self, true_and, and_true, false_and, and_false, true_or, or_true, false_or, or_false, not_true_eq_false, not_false_eq_true, eq_self, rw_X12_may1, hS.e, hX]
termination_by (h 39 0 - k).toNat
theorem c_may1_l (hS : sh_M S) (w : vw (h 39)) {e b : Int} {l4 l5 : Option mx_V} (e0 : 0 ≤ e) (e1 : e ≤ 2) (h2 : h 39 (3 + 2 * e) ≤ b) (h3 : b ≤ h 39 (3 + 2 * e + 1) + 1) :
    mx_ex (d + 3) 194 13 [some (2, 38), some (0, e), some (0, bz (h 39 (3 + 2 * e)) b (mb (h 39) e)), some (0, b), l4, l5] [] S h n = some (some (0, bz (h 39 (3 + 2 * e)) (h 39 (3 + 2 * e + 1) + 1) (mb (h 39) e)), S, h, n) := by
  have hE := w.e e e0 e1
  have hN := w.N
  rw [rh_X12_may1_13]
  by_cases q : b ≤ h 39 (3 + 2 * e + 1)
  · have ih := fun l4 l5 => c_may1_l (l4 := l4) (l5 := l5) hS w e0 e1 (b := b + 1) (by omega) (by omega)
    simp (disch := omega) only [mx_vt_h, mx_vt_m, mx_cmp_0, mx_cmp_1, mx_cmp_2, mx_cmp_3, mx_cmp_4, mx_u_s, mx_u_a, mx_u_k, mx_z_a, mx_z_s, mx_t_a, mx_t_2, mx_t_1, mx_t_0, mx_gd_T, mx_gd_t, mx_br_T, mx_br_F, mx_br_t, mx_br_f, mx_br_n, mx_cl_T, mx_cl_t, mx_re_T, mx_re_t, mx_rt_v, mx_rt_0, mx_cu_t, mx_w_id, mx_l_id, mx_b_0, mx_b_1, mx_b_r, mx_nl_0, mx_nl_1, mx_nl_2, mx_nl_n, mx_nl_l, mx_sw_n, mx_sw_h, mx_sw_m, Int.reduceLE, Int.reduceLT, Int.reduceEq, Int.reduceAdd, Int.reduceSub, Int.reduceMul, Int.reduceNeg, Int.reduceToNat, and_self, true_and, and_true, false_and, and_false, true_or, or_true, false_or, or_false, not_true_eq_false, not_false_eq_true, eq_self, rw_X12_may1, hS.e]
    have l := fun hX => c_may1_i (d := d) (n := n) (l2 := some (0, bz (h 39 (3 + 2 * e)) b (mb (h 39) e))) (e := e) (k := 0) hS w (by omega) (by omega) (by omega) (by omega) (b := b) (X := some (some (0, bz (h 39 (3 + 2 * e)) (h 39 (3 + 2 * e + 1) + 1) (mb (h 39) e)), S, h, n)) hX
    rw [mx_b_t (c := mg (h 39) e b 0) (fun a a0 a1 _ => absurd a1 (by omega))] at l
    apply l
    intro l5
    by_cases g : mg (h 39) e b (h 39 0)
    · have g2 : mb (h 39) e b := ⟨h2, q, g⟩
      rw [mx_b_t g]
      simp (disch := omega) only [mx_vt_h, mx_vt_m, mx_cmp_0, mx_cmp_1, mx_cmp_2, mx_cmp_3, mx_cmp_4, mx_u_s, mx_u_a, mx_u_k, mx_z_a, mx_z_s, mx_t_a, mx_t_2, mx_t_1, mx_t_0, mx_gd_T, mx_gd_t, mx_br_T, mx_br_F, mx_br_t, mx_br_f, mx_br_n, mx_cl_T, mx_cl_t, mx_re_T, mx_re_t, mx_rt_v, mx_rt_0, mx_cu_t, mx_w_id, mx_l_id, mx_b_0, mx_b_1, mx_b_r, mx_nl_0, mx_nl_1, mx_nl_2, mx_nl_n, mx_nl_l, mx_sw_n, mx_sw_h, mx_sw_m, Int.reduceLE, Int.reduceLT, Int.reduceEq, Int.reduceAdd, Int.reduceSub, Int.reduceMul, Int.reduceNeg, Int.reduceToNat, and_self, true_and, and_true, false_and, and_false, true_or, or_true, false_or, or_false, not_true_eq_false, not_false_eq_true, eq_self, rw_X12_may1, hS.e]
      rw [bz_t (by omega) h2 (by omega) g2]
      exact ih _ _
    · have g2 : ¬ mb (h 39) e b := fun f => g f.2.2
      rw [mx_b_f g]
      simp (disch := omega) only [mx_vt_h, mx_vt_m, mx_cmp_0, mx_cmp_1, mx_cmp_2, mx_cmp_3, mx_cmp_4, mx_u_s, mx_u_a, mx_u_k, mx_z_a, mx_z_s, mx_t_a, mx_t_2, mx_t_1, mx_t_0, mx_gd_T, mx_gd_t, mx_br_T, mx_br_F, mx_br_t, mx_br_f, mx_br_n, mx_cl_T, mx_cl_t, mx_re_T, mx_re_t, mx_rt_v, mx_rt_0, mx_cu_t, mx_w_id, mx_l_id, mx_b_0, mx_b_1, mx_b_r, mx_nl_0, mx_nl_1, mx_nl_2, mx_nl_n, mx_nl_l, mx_sw_n, mx_sw_h, mx_sw_m, Int.reduceLE, Int.reduceLT, Int.reduceEq, Int.reduceAdd, Int.reduceSub, Int.reduceMul, Int.reduceNeg, Int.reduceToNat, and_self, true_and, and_true, false_and, and_false, true_or, or_true, false_or, or_false, not_true_eq_false, not_false_eq_true, eq_self, rw_X12_may1, hS.e]
      rw [bz_f0 g2]
      exact ih _ _
  · have e2 : b = h 39 (3 + 2 * e + 1) + 1 := by omega
    simp (disch := omega) only [mx_vt_h, mx_vt_m, mx_cmp_0, mx_cmp_1, mx_cmp_2, mx_cmp_3, mx_cmp_4, mx_u_s, mx_u_a, mx_u_k, mx_z_a, mx_z_s, mx_t_a, mx_t_2, mx_t_1, mx_t_0, mx_gd_T, mx_gd_t, mx_br_T, mx_br_F, mx_br_t, mx_br_f, mx_br_n, mx_cl_T, mx_cl_t, mx_re_T, mx_re_t, mx_rt_v, mx_rt_0, mx_cu_t, mx_w_id, mx_l_id, mx_b_0, mx_b_1, mx_b_r, mx_nl_0, mx_nl_1, mx_nl_2, mx_nl_n, mx_nl_l, mx_sw_n, mx_sw_h, mx_sw_m, Int.reduceLE, Int.reduceLT, Int.reduceEq, Int.reduceAdd, Int.reduceSub, Int.reduceMul, Int.reduceNeg, Int.reduceToNat, and_self, true_and, and_true, false_and, and_false, true_or, or_true, false_or, or_false, not_true_eq_false, not_false_eq_true, eq_self, rw_X12_may1, hS.e]
    rw [e2]
termination_by (h 39 (3 + 2 * e + 1) + 1 - b).toNat
theorem bz_mb {σ : Int → Int} (w : vw σ) {e : Int} (e0 : 0 ≤ e) (e1 : e ≤ 2) : bz (σ (3 + 2 * e)) (σ (3 + 2 * e + 1) + 1) (mb σ e) = bz 2 17 (mb σ e) := by
  have hE := w.e e e0 e1
  unfold bz; apply bm_c
  intro k hk
  constructor
  · rintro ⟨a, b, c⟩; exact ⟨by omega, by omega, c⟩
  · rintro ⟨a, b, c⟩; exact ⟨c.1, by have := c.2.1; omega, c⟩
theorem c_may1 (hS : sh_M S) (w : vw (h 39)) {e : Int} (e0 : 0 ≤ e) (e1 : e ≤ 2) : mx_M (d + 3) 194 [(2, 38), (0, e)] S h n = some (some (0, bz 2 17 (mb (h 39) e)), S, h, n) := by
  have hE := w.e e e0 e1
  have ih := fun l4 l5 => c_may1_l (d := d) (n := n) (l4 := l4) (l5 := l5) (b := h 39 (3 + 2 * e)) hS w e0 e1 (by omega) (by omega)
  rw [bz_0 (by omega), bz_mb w e0 e1] at ih
  simp (disch := omega) only [mx_vt_h, mx_vt_m, mx_cmp_0, mx_cmp_1, mx_cmp_2, mx_cmp_3, mx_cmp_4, mx_u_s, mx_u_a, mx_u_k, mx_z_a, mx_z_s, mx_t_a, mx_t_2, mx_t_1, mx_t_0, mx_gd_T, mx_gd_t, mx_br_T, mx_br_F, mx_br_t, mx_br_f, mx_br_n, mx_cl_T, mx_cl_t, mx_re_T, mx_re_t, mx_rt_v, mx_rt_0, mx_cu_t, mx_w_id, mx_l_id, mx_b_0, mx_b_1, mx_b_r, mx_nl_0, mx_nl_1, mx_nl_2, mx_nl_n, mx_nl_l, mx_sw_n, mx_sw_h, mx_sw_m, Int.reduceLE, Int.reduceLT, Int.reduceEq, Int.reduceAdd, Int.reduceSub, Int.reduceMul, Int.reduceNeg, Int.reduceToNat, and_self, true_and, and_true, false_and, and_false, true_or, or_true, false_or, or_false, not_true_eq_false, not_false_eq_true, eq_self, rw_X12_may1, hS.e]
  exact ih _ _
end
