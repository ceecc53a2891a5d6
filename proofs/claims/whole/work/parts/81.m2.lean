/-! The reference: worth, bases, lines -/
theorem wv_S {σ : Int → Int} {a b i : Int} (h : 0 ≤ i) : wv σ a b (i + 1).toNat = wv σ a b i.toNat * bs σ a i b + it σ a (4 + pl σ a i) := by
  have e : (i + 1).toNat = i.toNat + 1 := by omega
  have e2 : ((i.toNat : Nat) : Int) = i := by omega
  rw [e]; simp only [wv, e2]
section
variable {d : Nat} {S h : mx_H} {n : Int}
theorem c_worthBy_l (hS : sh_M S) {a b i : Int} {l7 : Option mx_V} (h0 : 0 ≤ a) (h1 : a ≤ 5) (w : nw (h 39) a) (h2 : 2 ≤ b) (h3 : b ≤ 16) (hi : 0 ≤ i) (hn : i ≤ it (h 39) a 3) :
    mx_ex (d + 2) 183 52 [some (2, 38), some (0, a), some (0, b), some (0, it (h 39) a 3), some (1, wv (h 39) a b i.toNat), none, some (0, i), l7] [] S h n = some (some (1, wv (h 39) a b (it (h 39) a 3).toNat), S, h, n) := by
  have hw := w.n
  rw [rh_X12_worthBy_52]
  by_cases q : i < it (h 39) a 3
  · have hp := pl_r (σ := h 39) (a := a) hi q
    have hs := w.s _ hp.1 hp.2
    have hv := wv_6 w h2 h3 (k := i.toNat) (by omega)
    have hv2 := wv_6 w h2 h3 (k := (i + 1).toNat) (by omega)
    have hb := bs_r (σ := h 39) (a := a) (i := i) h2 h3
    rw [wv_S hi] at hv2
    have ih := fun l7 => c_worthBy_l (l7 := l7) hS h0 h1 w h2 h3 (i := i + 1) (by omega) (by omega)
    rw [wv_S hi] at ih
    by_cases q4 : it (h 39) a 0 = 4
    · have e : pl (h 39) a i = it (h 39) a 3 - 1 - i := by unfold pl; rw [if_pos q4]
      rw [e] at hv2 hp hs ih
      simp (disch := omega) only [mx_vt_h, mx_vt_m, mx_cmp_0, mx_cmp_1, mx_cmp_2, mx_cmp_3, mx_cmp_4, mx_u_s, mx_u_a, mx_u_k, mx_z_a, mx_z_s, mx_t_a, mx_t_2, mx_t_1, mx_t_0, mx_gd_T, mx_gd_t, mx_br_T, mx_br_F, mx_br_t, mx_br_f, mx_br_n, mx_cl_T, mx_cl_t, mx_re_T, mx_re_t, mx_rt_v, mx_rt_0, mx_cu_t, mx_w_id, mx_l_id, mx_b_0, mx_b_1, mx_b_r, mx_nl_0, mx_nl_1, mx_nl_2, mx_nl_n, mx_nl_l, mx_sw_n, mx_sw_h, mx_sw_m, Int.reduceLE, Int.reduceLT, Int.reduceEq, Int.reduceAdd, Int.reduceSub, Int.reduceMul, Int.reduceNeg, Int.reduceToNat, and_self, true_and, and_true, false_and, and_false, true_or, or_true, false_or, or_false, not_true_eq_false, not_false_eq_true, eq_self, rw_X12_worthBy, rw_X12_worthBy_1, c_its hS, c_baseAt hS, hS.e]
      exact ih _
    · have e : pl (h 39) a i = i := by unfold pl; rw [if_neg q4]
      rw [e] at hv2 hp hs ih
      simp (disch := omega) only [mx_vt_h, mx_vt_m, mx_cmp_0, mx_cmp_1, mx_cmp_2, mx_cmp_3, mx_cmp_4, mx_u_s, mx_u_a, mx_u_k, mx_z_a, mx_z_s, mx_t_a, mx_t_2, mx_t_1, mx_t_0, mx_gd_T, mx_gd_t, mx_br_T, mx_br_F, mx_br_t, mx_br_f, mx_br_n, mx_cl_T, mx_cl_t, mx_re_T, mx_re_t, mx_rt_v, mx_rt_0, mx_cu_t, mx_w_id, mx_l_id, mx_b_0, mx_b_1, mx_b_r, mx_nl_0, mx_nl_1, mx_nl_2, mx_nl_n, mx_nl_l, mx_sw_n, mx_sw_h, mx_sw_m, Int.reduceLE, Int.reduceLT, Int.reduceEq, Int.reduceAdd, Int.reduceSub, Int.reduceMul, Int.reduceNeg, Int.reduceToNat, and_self, true_and, and_true, false_and, and_false, true_or, or_true, false_or, or_false, not_true_eq_false, not_false_eq_true, eq_self, rw_X12_worthBy, rw_X12_worthBy_1, c_its hS, c_baseAt hS, hS.e]
      exact ih _
  · have e : i = it (h 39) a 3 := by omega
    simp (disch := omega) only [mx_vt_h, mx_vt_m, mx_cmp_0, mx_cmp_1, mx_cmp_2, mx_cmp_3, mx_cmp_4, mx_u_s, mx_u_a, mx_u_k, mx_z_a, mx_z_s, mx_t_a, mx_t_2, mx_t_1, mx_t_0, mx_gd_T, mx_gd_t, mx_br_T, mx_br_F, mx_br_t, mx_br_f, mx_br_n, mx_cl_T, mx_cl_t, mx_re_T, mx_re_t, mx_rt_v, mx_rt_0, mx_cu_t, mx_w_id, mx_l_id, mx_b_0, mx_b_1, mx_b_r, mx_nl_0, mx_nl_1, mx_nl_2, mx_nl_n, mx_nl_l, mx_sw_n, mx_sw_h, mx_sw_m, Int.reduceLE, Int.reduceLT, Int.reduceEq, Int.reduceAdd, Int.reduceSub, Int.reduceMul, Int.reduceNeg, Int.reduceToNat, and_self, true_and, and_true, false_and, and_false, true_or, or_true, false_or, or_false, not_true_eq_false, not_false_eq_true, eq_self, rw_X12_worthBy, rw_X12_worthBy_1, e]
termination_by (it (h 39) a 3 - i).toNat
theorem c_worthBy (hS : sh_M S) {a b : Int} (h0 : 0 ≤ a) (h1 : a ≤ 5) (w : nw (h 39) a) (h2 : 2 ≤ b) (h3 : b ≤ 16) :
    mx_M (d + 2) 183 [(2, 38), (0, a), (0, b)] S h n = some (some (1, wo (h 39) a b), S, h, n) := by
  have hw := w.n
  have ih := fun l7 => c_worthBy_l (d := d) (n := n) (l7 := l7) hS h0 h1 w h2 h3 (i := 0) (by omega) (by omega)
  simp only [Int.toNat_zero, wv] at ih
  unfold wo
  (repeat' (first | (simp (disch := omega) only [mx_vt_h, mx_vt_m, mx_cmp_0, mx_cmp_1, mx_cmp_2, mx_cmp_3, mx_cmp_4, mx_u_s, mx_u_a, mx_u_k, mx_z_a, mx_z_s, mx_t_a, mx_t_2, mx_t_1, mx_t_0, mx_gd_T, mx_gd_t, mx_br_T, mx_br_F, mx_br_t, mx_br_f, mx_br_n, mx_cl_T, mx_cl_t, mx_re_T, mx_re_t, mx_rt_v, mx_rt_0, mx_cu_t, mx_w_id, mx_l_id, mx_b_0, mx_b_1, mx_b_r, mx_nl_0, mx_nl_1, mx_nl_2, mx_nl_n, mx_nl_l, mx_sw_n, mx_sw_h, mx_sw_m, Int.reduceLE, Int.reduceLT, Int.reduceEq, Int.reduceAdd, Int.reduceSub, Int.reduceMul, Int.reduceNeg, Int.reduceToNat, and_self, true_and, and_true, false_and, and_false, true_or, or_true, false_or, or_false, not_true_eq_false, not_false_eq_true, eq_self, rw_X12_worthBy, rw_X12_worthBy_1, c_its hS, hS.e]) | (refine mx_br_c (fun _ => ?_) (fun _ => ?_)) | (refine mx_W_b (fun _ => ?_) (fun _ => ?_))))
  · rw [if_pos (by assumption)]
  · rw [if_neg (by omega), if_pos (by omega)]
  · rw [if_neg (by omega), if_neg (by omega)]; exact ih _
theorem c_canBe_l (hS : sh_M S) {a b i : Int} {l5 : Option mx_V} (h0 : 0 ≤ a) (h1 : a ≤ 5) (w : nw (h 39) a) (h2 : 2 ≤ b) (h3 : b ≤ 16) (hi : 0 ≤ i) (hn : i ≤ it (h 39) a 3) :
    mx_ex (d + 2) 184 29 [some (2, 38), some (0, a), some (0, b), some (0, mx_b (sk (h 39) a)), some (0, i), l5] [] S h n = some (some (0, mx_b (∀ k, i ≤ k → k < it (h 39) a 3 → cb1 (h 39) a b k)), S, h, n) := by
  have hw := w.n
  rw [rh_X12_canBe_29]
  by_cases q : i < it (h 39) a 3
  · have hs := w.s _ hi q
    have hb := bs_r (σ := h 39) (a := a) (i := i) h2 h3
    have ih := fun l5 => c_canBe_l (l5 := l5) hS h0 h1 w h2 h3 (i := i + 1) (by omega) (by omega)
    have key : cb1 (h 39) a b i → mx_b (∀ k, i + 1 ≤ k → k < it (h 39) a 3 → cb1 (h 39) a b k) = mx_b (∀ k, i ≤ k → k < it (h 39) a 3 → cb1 (h 39) a b k) := by
      intro c
      apply mx_b_i
      constructor
      · intro f k k1 k2
        by_cases e : k = i
        · rw [e]; exact c
        · exact f k (by omega) k2
      · intro f k k1 k2; exact f k (by omega) k2
    have kno : ¬ cb1 (h 39) a b i → mx_b (∀ k, i ≤ k → k < it (h 39) a 3 → cb1 (h 39) a b k) = 0 := fun c => mx_b_f (fun f => c (f i (by omega) q))
    by_cases c1 : sk (h 39) a
    · rw [mx_b_t c1] at ih ⊢
      by_cases c2 : it (h 39) a (4 + i) = 1
      · simp (disch := omega) only [mx_vt_h, mx_vt_m, mx_cmp_0, mx_cmp_1, mx_cmp_2, mx_cmp_3, mx_cmp_4, mx_u_s, mx_u_a, mx_u_k, mx_z_a, mx_z_s, mx_t_a, mx_t_2, mx_t_1, mx_t_0, mx_gd_T, mx_gd_t, mx_br_T, mx_br_F, mx_br_t, mx_br_f, mx_br_n, mx_cl_T, mx_cl_t, mx_re_T, mx_re_t, mx_rt_v, mx_rt_0, mx_cu_t, mx_w_id, mx_l_id, mx_b_0, mx_b_1, mx_b_r, mx_nl_0, mx_nl_1, mx_nl_2, mx_nl_n, mx_nl_l, mx_sw_n, mx_sw_h, mx_sw_m, Int.reduceLE, Int.reduceLT, Int.reduceEq, Int.reduceAdd, Int.reduceSub, Int.reduceMul, Int.reduceNeg, Int.reduceToNat, and_self, true_and, and_true, false_and, and_false, true_or, or_true, false_or, or_false, not_true_eq_false, not_false_eq_true, eq_self, rw_X12_canBe, c_its hS, c_baseAt hS, hS.e]
        rw [← key ⟨fun _ => c2, fun q => absurd c1 q⟩]; exact ih _
      · simp (disch := omega) only [mx_vt_h, mx_vt_m, mx_cmp_0, mx_cmp_1, mx_cmp_2, mx_cmp_3, mx_cmp_4, mx_u_s, mx_u_a, mx_u_k, mx_z_a, mx_z_s, mx_t_a, mx_t_2, mx_t_1, mx_t_0, mx_gd_T, mx_gd_t, mx_br_T, mx_br_F, mx_br_t, mx_br_f, mx_br_n, mx_cl_T, mx_cl_t, mx_re_T, mx_re_t, mx_rt_v, mx_rt_0, mx_cu_t, mx_w_id, mx_l_id, mx_b_0, mx_b_1, mx_b_r, mx_nl_0, mx_nl_1, mx_nl_2, mx_nl_n, mx_nl_l, mx_sw_n, mx_sw_h, mx_sw_m, Int.reduceLE, Int.reduceLT, Int.reduceEq, Int.reduceAdd, Int.reduceSub, Int.reduceMul, Int.reduceNeg, Int.reduceToNat, and_self, true_and, and_true, false_and, and_false, true_or, or_true, false_or, or_false, not_true_eq_false, not_false_eq_true, eq_self, rw_X12_canBe, c_its hS, c_baseAt hS, hS.e]
        rw [kno (fun q => c2 (q.1 c1))]
    · rw [mx_b_f c1] at ih ⊢
      by_cases c2 : it (h 39) a (4 + i) < bs (h 39) a i b
      · simp (disch := omega) only [mx_vt_h, mx_vt_m, mx_cmp_0, mx_cmp_1, mx_cmp_2, mx_cmp_3, mx_cmp_4, mx_u_s, mx_u_a, mx_u_k, mx_z_a, mx_z_s, mx_t_a, mx_t_2, mx_t_1, mx_t_0, mx_gd_T, mx_gd_t, mx_br_T, mx_br_F, mx_br_t, mx_br_f, mx_br_n, mx_cl_T, mx_cl_t, mx_re_T, mx_re_t, mx_rt_v, mx_rt_0, mx_cu_t, mx_w_id, mx_l_id, mx_b_0, mx_b_1, mx_b_r, mx_nl_0, mx_nl_1, mx_nl_2, mx_nl_n, mx_nl_l, mx_sw_n, mx_sw_h, mx_sw_m, Int.reduceLE, Int.reduceLT, Int.reduceEq, Int.reduceAdd, Int.reduceSub, Int.reduceMul, Int.reduceNeg, Int.reduceToNat, and_self, true_and, and_true, false_and, and_false, true_or, or_true, false_or, or_false, not_true_eq_false, not_false_eq_true, eq_self, rw_X12_canBe, c_its hS, c_baseAt hS, hS.e]
        rw [← key ⟨fun q => absurd q c1, fun _ => c2⟩]; exact ih _
      · simp (disch := omega) only [mx_vt_h, mx_vt_m, mx_cmp_0, mx_cmp_1, mx_cmp_2, mx_cmp_3, mx_cmp_4, mx_u_s, mx_u_a, mx_u_k, mx_z_a, mx_z_s, mx_t_a, mx_t_2, mx_t_1, mx_t_0, mx_gd_T, mx_gd_t, mx_br_T, mx_br_F, mx_br_t, mx_br_f, mx_br_n, mx_cl_T, mx_cl_t, mx_re_T, mx_re_t, mx_rt_v, mx_rt_0, mx_cu_t, mx_w_id, mx_l_id, mx_b_0, mx_b_1, mx_b_r, mx_nl_0, mx_nl_1, mx_nl_2, mx_nl_n, mx_nl_l, mx_sw_n, mx_sw_h, mx_sw_m, Int.reduceLE, Int.reduceLT, Int.reduceEq, Int.reduceAdd, Int.reduceSub, Int.reduceMul, Int.reduceNeg, Int.reduceToNat, and_self, true_and, and_true, false_and, and_false, true_or, or_true, false_or, or_false, not_true_eq_false, not_false_eq_true, eq_self, rw_X12_canBe, c_its hS, c_baseAt hS, hS.e]
        rw [kno (fun q => c2 (q.2 c1))]
  · have e : i = it (h 39) a 3 := by omega
    simp (disch := omega) only [mx_vt_h, mx_vt_m, mx_cmp_0, mx_cmp_1, mx_cmp_2, mx_cmp_3, mx_cmp_4, mx_u_s, mx_u_a, mx_u_k, mx_z_a, mx_z_s, mx_t_a, mx_t_2, mx_t_1, mx_t_0, mx_gd_T, mx_gd_t, mx_br_T, mx_br_F, mx_br_t, mx_br_f, mx_br_n, mx_cl_T, mx_cl_t, mx_re_T, mx_re_t, mx_rt_v, mx_rt_0, mx_cu_t, mx_w_id, mx_l_id, mx_b_0, mx_b_1, mx_b_r, mx_nl_0, mx_nl_1, mx_nl_2, mx_nl_n, mx_nl_l, mx_sw_n, mx_sw_h, mx_sw_m, Int.reduceLE, Int.reduceLT, Int.reduceEq, Int.reduceAdd, Int.reduceSub, Int.reduceMul, Int.reduceNeg, Int.reduceToNat, and_self, true_and, and_true, false_and, and_false, true_or, or_true, false_or, or_false, not_true_eq_false, not_false_eq_true, eq_self, rw_X12_canBe, c_its hS, hS.e, e]
    rw [mx_b_t (fun k h1 h2 => absurd h1 (by omega))]
termination_by (it (h 39) a 3 - i).toNat
theorem c_canBe (hS : sh_M S) {a b : Int} (h0 : 0 ≤ a) (h1 : a ≤ 5) (w : nw (h 39) a) (h2 : 2 ≤ b) (h3 : b ≤ 16) :
    mx_M (d + 2) 184 [(2, 38), (0, a), (0, b)] S h n = some (some (0, mx_b (cb (h 39) a b)), S, h, n) := by
  have hw := w.n
  have ih := fun l5 => c_canBe_l (d := d) (n := n) (l5 := l5) hS h0 h1 w h2 h3 (i := 0) (by omega) (by omega)
  unfold cb
  (repeat' (first | (simp (disch := omega) only [mx_vt_h, mx_vt_m, mx_cmp_0, mx_cmp_1, mx_cmp_2, mx_cmp_3, mx_cmp_4, mx_u_s, mx_u_a, mx_u_k, mx_z_a, mx_z_s, mx_t_a, mx_t_2, mx_t_1, mx_t_0, mx_gd_T, mx_gd_t, mx_br_T, mx_br_F, mx_br_t, mx_br_f, mx_br_n, mx_cl_T, mx_cl_t, mx_re_T, mx_re_t, mx_rt_v, mx_rt_0, mx_cu_t, mx_w_id, mx_l_id, mx_b_0, mx_b_1, mx_b_r, mx_nl_0, mx_nl_1, mx_nl_2, mx_nl_n, mx_nl_l, mx_sw_n, mx_sw_h, mx_sw_m, Int.reduceLE, Int.reduceLT, Int.reduceEq, Int.reduceAdd, Int.reduceSub, Int.reduceMul, Int.reduceNeg, Int.reduceToNat, and_self, true_and, and_true, false_and, and_false, true_or, or_true, false_or, or_false, not_true_eq_false, not_false_eq_true, eq_self, rw_X12_canBe, c_its hS, hS.e]) | (refine mx_br_c (fun _ => ?_) (fun _ => ?_)) | (refine mx_W_b (fun _ => ?_) (fun _ => ?_))))
  · rw [mx_b_t (c := sk (h 39) a) (Or.inl (by omega))] at ih; exact ih _
  · rw [mx_b_t (c := sk (h 39) a) (Or.inr (by omega))] at ih; exact ih _
  · rw [mx_b_f (c := sk (h 39) a) (by rintro (r | r) <;> omega)] at ih; exact ih _
end
