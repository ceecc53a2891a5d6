/-! signs -/
def cl (v : Int) : Int := if v < 0 then 0 else if 15 < v then 15 else v
theorem cl_r (v : Int) : 0 ≤ cl v ∧ cl v ≤ 15 := by unfold cl; split <;> (try split) <;> omega
theorem cl_f (v : Int) : (if (if v < 15 then v else 15) < 0 then (0 : Int) else (if v < 15 then v else 15)) = cl v := by
  unfold cl
  by_cases a : v < 0
  · rw [if_pos (show v < 15 by omega), if_pos a, if_pos a]
  · by_cases b : v < 15
    · rw [if_pos b, if_neg a, if_neg a, if_neg (by omega)]
    · rw [if_neg b, if_neg (by decide), if_neg a]
      by_cases c : 15 < v
      · rw [if_pos c]
      · rw [if_neg c]; omega
theorem cl_w (v : Int) : mx_w (cl v) = cl v := by
  have := cl_r v
  exact mx_w_id (by omega) (by omega)
section
variable {L : Nat} {x : Nat → Int32} {S T h g : mx_H} {n m c : Int} {d : Nat}
theorem c_sgn_l (s : shp S L) {a t i z p q k M I : Int} (tp : 1 ≤ S p (-2) ∧ S p (-2) ≤ 6) (eM : S p 2 = M) (tM : S M (-2) = 20) (lM : z ≤ S M (-1)) (tq : S q (-2) = 12) (eI : S q 1 = I) (tI : S I (-2) = 21) (lI : i + z ≤ S I (-1)) (i0 : 0 ≤ i ∧ i ≤ 40) (z0 : 0 ≤ z ∧ z ≤ 6) (k0 : 0 ≤ k ∧ k ≤ z) (M0 : 53 ≤ M) (ver : mx_w (h 3 5 + 1) = h 3 5 + 1) :
    mx_ex d 131 89 [some (2, 0), some (0, a), some (0, t), some (0, i), some (0, z), some (2, p), some (2, q), some (0, k)] [] S (fo h M 0 (fun j => cl (h I (i + j))) k) n = some (some (0, z), S, mx_u (fo h M 0 (fun j => cl (h I (i + j))) z) 3 5 (h 3 5 + 1), n) := by
  have hX := s.x.e
  have hF := s.f.e
  have MI : ¬ I = M := fun e => by rw [e] at tI; omega
  rw [rh_X11_signs_89]
  by_cases u : k < z
  · have ih := c_sgn_l s (a := a) (t := t) (k := k + 1) tp eM tM lM tq eI tI lI i0 z0 (by omega) M0 ver
    rw [← fo_s0 k0.1] at ih
    have e : fo h M 0 (fun j => cl (h I (i + j))) k I (i + k) = h I (i + k) := by rw [fo_o MI]
    simp (disch := omega) only [mx_vt_h, mx_vt_m, mx_cmp_0, mx_cmp_1, mx_cmp_2, mx_cmp_3, mx_cmp_4, mx_u_s, mx_u_a, mx_u_k, mx_z_a, mx_z_s, mx_t_a, mx_t_2, mx_t_1, mx_t_0, mx_gd_T, mx_gd_t, mx_br_T, mx_br_F, mx_br_t, mx_br_f, mx_br_n, mx_cl_T, mx_cl_t, mx_re_T, mx_re_t, mx_rt_v, mx_rt_0, mx_cu_t, mx_w_id, mx_l_id, mx_b_0, mx_b_1, mx_b_r, mx_nl_0, mx_nl_1, mx_nl_2, mx_nl_n, mx_nl_l, mx_sw_n, mx_sw_h, mx_sw_m, Int.reduceLE, Int.reduceLT, Int.reduceEq, Int.reduceAdd, Int.reduceSub, Int.reduceMul, Int.reduceNeg, Int.reduceToNat, and_self, true_and, and_true, false_and, and_false, true_or, or_true, false_or, or_false, not_true_eq_false, not_false_eq_true, eq_self, rw_X11_signs, rw_X11_signs_1, eM, tM, tq, eI, tI, e, cl_f, cl_w]
    exact ih
  · have ek : k = z := by omega
    subst ek
    have e : fo h M 0 (fun j => cl (h I (i + j))) k 3 5 = h 3 5 := by rw [fo_o (by omega)]
    simp (disch := omega) only [mx_vt_h, mx_vt_m, mx_cmp_0, mx_cmp_1, mx_cmp_2, mx_cmp_3, mx_cmp_4, mx_u_s, mx_u_a, mx_u_k, mx_z_a, mx_z_s, mx_t_a, mx_t_2, mx_t_1, mx_t_0, mx_gd_T, mx_gd_t, mx_br_T, mx_br_F, mx_br_t, mx_br_f, mx_br_n, mx_cl_T, mx_cl_t, mx_re_T, mx_re_t, mx_rt_v, mx_rt_0, mx_cu_t, mx_w_id, mx_l_id, mx_b_0, mx_b_1, mx_b_r, mx_nl_0, mx_nl_1, mx_nl_2, mx_nl_n, mx_nl_l, mx_sw_n, mx_sw_h, mx_sw_m, Int.reduceLE, Int.reduceLT, Int.reduceEq, Int.reduceAdd, Int.reduceSub, Int.reduceMul, Int.reduceNeg, Int.reduceToNat, and_self, true_and, and_true, false_and, and_false, true_or, or_true, false_or, or_false, not_true_eq_false, not_false_eq_true, eq_self, rw_X11_signs, rw_X11_signs_1, hX, hF, e, ver]
termination_by (z - k).toNat
decreasing_by omega
theorem c_sgM_l (hM : sh_M S) {a t i z k : Int} {l6 l7 : Option mx_V} (a0 : 0 ≤ a ∧ a ≤ 5) (t0 : 0 ≤ t ∧ t ≤ 3) (i0 : 0 ≤ i ∧ i + z ≤ 40) (z0 : 0 ≤ z ∧ z ≤ 6) (k0 : 0 ≤ k ∧ k ≤ z) :
    mx_ex d 226 86 [some (2, 38), some (0, a), some (0, t), some (0, i), some (0, z), some (0, k), l6, l7] [] S (fo h 39 (9 + 10 * a + 4) (fun j => cl (h 49 (40 * t + i + j))) k) n = some (some (0, z), S, fo h 39 (9 + 10 * a + 4) (fun j => cl (h 49 (40 * t + i + j))) z, n) := by
  have hM1 := hM.e
  rw [rh_X12_signs_86]
  by_cases u : k < z
  · have ih := fun l6 l7 => c_sgM_l hM (k := k + 1) (l6 := l6) (l7 := l7) a0 t0 i0 z0 (by omega)
    rw [← fo_s k0.1] at ih
    have e : fo h 39 (9 + 10 * a + 4) (fun j => cl (h 49 (40 * t + i + j))) k 49 (40 * t + i + k) = h 49 (40 * t + i + k) := by rw [fo_o (by decide)]
    by_cases b : h 49 (40 * t + i + k) < 0
    · have ec : cl (h 49 (40 * t + i + k)) = 0 := by unfold cl; rw [if_pos b]
      rw [ec] at ih
      simp (disch := omega) only [mx_vt_h, mx_vt_m, mx_cmp_0, mx_cmp_1, mx_cmp_2, mx_cmp_3, mx_cmp_4, mx_u_s, mx_u_a, mx_u_k, mx_z_a, mx_z_s, mx_t_a, mx_t_2, mx_t_1, mx_t_0, mx_gd_T, mx_gd_t, mx_br_T, mx_br_F, mx_br_t, mx_br_f, mx_br_n, mx_cl_T, mx_cl_t, mx_re_T, mx_re_t, mx_rt_v, mx_rt_0, mx_cu_t, mx_w_id, mx_l_id, mx_b_0, mx_b_1, mx_b_r, mx_nl_0, mx_nl_1, mx_nl_2, mx_nl_n, mx_nl_l, mx_sw_n, mx_sw_h, mx_sw_m, Int.reduceLE, Int.reduceLT, Int.reduceEq, Int.reduceAdd, Int.reduceSub, Int.reduceMul, Int.reduceNeg, Int.reduceToNat, and_self, true_and, and_true, false_and, and_false, true_or, or_true, false_or, or_false, not_true_eq_false, not_false_eq_true, eq_self, rw_X12_signs, rw_X12_signs_1, hM1, e]
      exact ih _ _
    · by_cases b2 : 15 < h 49 (40 * t + i + k)
      · have ec : cl (h 49 (40 * t + i + k)) = 15 := by unfold cl; rw [if_neg b, if_pos b2]
        rw [ec] at ih
        simp (disch := omega) only [mx_vt_h, mx_vt_m, mx_cmp_0, mx_cmp_1, mx_cmp_2, mx_cmp_3, mx_cmp_4, mx_u_s, mx_u_a, mx_u_k, mx_z_a, mx_z_s, mx_t_a, mx_t_2, mx_t_1, mx_t_0, mx_gd_T, mx_gd_t, mx_br_T, mx_br_F, mx_br_t, mx_br_f, mx_br_n, mx_cl_T, mx_cl_t, mx_re_T, mx_re_t, mx_rt_v, mx_rt_0, mx_cu_t, mx_w_id, mx_l_id, mx_b_0, mx_b_1, mx_b_r, mx_nl_0, mx_nl_1, mx_nl_2, mx_nl_n, mx_nl_l, mx_sw_n, mx_sw_h, mx_sw_m, Int.reduceLE, Int.reduceLT, Int.reduceEq, Int.reduceAdd, Int.reduceSub, Int.reduceMul, Int.reduceNeg, Int.reduceToNat, and_self, true_and, and_true, false_and, and_false, true_or, or_true, false_or, or_false, not_true_eq_false, not_false_eq_true, eq_self, rw_X12_signs, rw_X12_signs_1, hM1, e]
        exact ih _ _
      · have ec : cl (h 49 (40 * t + i + k)) = h 49 (40 * t + i + k) := by unfold cl; rw [if_neg b, if_neg b2]
        rw [ec] at ih
        simp (disch := omega) only [mx_vt_h, mx_vt_m, mx_cmp_0, mx_cmp_1, mx_cmp_2, mx_cmp_3, mx_cmp_4, mx_u_s, mx_u_a, mx_u_k, mx_z_a, mx_z_s, mx_t_a, mx_t_2, mx_t_1, mx_t_0, mx_gd_T, mx_gd_t, mx_br_T, mx_br_F, mx_br_t, mx_br_f, mx_br_n, mx_cl_T, mx_cl_t, mx_re_T, mx_re_t, mx_rt_v, mx_rt_0, mx_cu_t, mx_w_id, mx_l_id, mx_b_0, mx_b_1, mx_b_r, mx_nl_0, mx_nl_1, mx_nl_2, mx_nl_n, mx_nl_l, mx_sw_n, mx_sw_h, mx_sw_m, Int.reduceLE, Int.reduceLT, Int.reduceEq, Int.reduceAdd, Int.reduceSub, Int.reduceMul, Int.reduceNeg, Int.reduceToNat, and_self, true_and, and_true, false_and, and_false, true_or, or_true, false_or, or_false, not_true_eq_false, not_false_eq_true, eq_self, rw_X12_signs, rw_X12_signs_1, hM1, e]
        exact ih _ _
  · have ek : k = z := by omega
    subst ek
    simp (disch := omega) only [mx_vt_h, mx_vt_m, mx_cmp_0, mx_cmp_1, mx_cmp_2, mx_cmp_3, mx_cmp_4, mx_u_s, mx_u_a, mx_u_k, mx_z_a, mx_z_s, mx_t_a, mx_t_2, mx_t_1, mx_t_0, mx_gd_T, mx_gd_t, mx_br_T, mx_br_F, mx_br_t, mx_br_f, mx_br_n, mx_cl_T, mx_cl_t, mx_re_T, mx_re_t, mx_rt_v, mx_rt_0, mx_cu_t, mx_w_id, mx_l_id, mx_b_0, mx_b_1, mx_b_r, mx_nl_0, mx_nl_1, mx_nl_2, mx_nl_n, mx_nl_l, mx_sw_n, mx_sw_h, mx_sw_m, Int.reduceLE, Int.reduceLT, Int.reduceEq, Int.reduceAdd, Int.reduceSub, Int.reduceMul, Int.reduceNeg, Int.reduceToNat, and_self, true_and, and_true, false_and, and_false, true_or, or_true, false_or, or_false, not_true_eq_false, not_false_eq_true, eq_self, rw_X12_signs, rw_X12_signs_1]
termination_by (z - k).toNat
decreasing_by omega
theorem a_signs {a t i z : Int} (hc : c ≤ 599) (i1 : -2147483648 ≤ i) (i2 : i ≤ 2147483647) : ag L x 131 226 [(0, a), (0, t), (0, i), (0, z)] 0 c := by
  intro d S h n v
  have hX := v.s.x.e
  have hF := v.s.f.e
  have hM := v.s.m
  have w := v.t.w
  have hN := w.N
  by_cases qa : 0 ≤ a ∧ a < h 39 0
  · have ra := v.nr qa
    have wa := v.nw qa
    have pa := ra.p0
    have ka := wa.k
    have la := wa.n
    have ta := ra.t
    have qM := ra.q
    have lM := ra.l
    have M0 := ra.q0
    have ci := fun k k0 k1 => c_its (d := d + 11) (n := n) (h := h) (a := a) (k := k) hM (by omega) (by omega) k0 k1
    by_cases qt : 0 ≤ t ∧ t ≤ 3
    · by_cases qz : 0 ≤ z ∧ z ≤ it (h 39) a 3
      · have z6 : 0 ≤ z ∧ z ≤ 6 := by omega
        rcases v.b.s t qt.1 qt.2 with ⟨h1, h2⟩ | ⟨r, ri⟩
        · refine ag_p v hc (y := -11) ?_ ?_
          · simp (disch := omega) only [mx_vt_h, mx_vt_m, mx_cmp_0, mx_cmp_1, mx_cmp_2, mx_cmp_3, mx_cmp_4, mx_u_s, mx_u_a, mx_u_k, mx_z_a, mx_z_s, mx_t_a, mx_t_2, mx_t_1, mx_t_0, mx_gd_T, mx_gd_t, mx_br_T, mx_br_F, mx_br_t, mx_br_f, mx_br_n, mx_cl_T, mx_cl_t, mx_re_T, mx_re_t, mx_rt_v, mx_rt_0, mx_cu_t, mx_w_id, mx_l_id, mx_b_0, mx_b_1, mx_b_r, mx_nl_0, mx_nl_1, mx_nl_2, mx_nl_n, mx_nl_l, mx_sw_n, mx_sw_h, mx_sw_m, Int.reduceLE, Int.reduceLT, Int.reduceEq, Int.reduceAdd, Int.reduceSub, Int.reduceMul, Int.reduceNeg, Int.reduceToNat, and_self, true_and, and_true, false_and, and_false, true_or, or_true, false_or, or_false, not_true_eq_false, not_false_eq_true, eq_self, rw_X11_signs, rw_X11_signs_1, hX, hF, v.na1 qa, ta, qM, lM, c_xSh, mx_b_t qt, c_within, mx_b_t qz, h2]
          · simp (disch := omega) only [mx_vt_h, mx_vt_m, mx_cmp_0, mx_cmp_1, mx_cmp_2, mx_cmp_3, mx_cmp_4, mx_u_s, mx_u_a, mx_u_k, mx_z_a, mx_z_s, mx_t_a, mx_t_2, mx_t_1, mx_t_0, mx_gd_T, mx_gd_t, mx_br_T, mx_br_F, mx_br_t, mx_br_f, mx_br_n, mx_cl_T, mx_cl_t, mx_re_T, mx_re_t, mx_rt_v, mx_rt_0, mx_cu_t, mx_w_id, mx_l_id, mx_b_0, mx_b_1, mx_b_r, mx_nl_0, mx_nl_1, mx_nl_2, mx_nl_n, mx_nl_l, mx_sw_n, mx_sw_h, mx_sw_m, Int.reduceLE, Int.reduceLT, Int.reduceEq, Int.reduceAdd, Int.reduceSub, Int.reduceMul, Int.reduceNeg, Int.reduceToNat, and_self, true_and, and_true, false_and, and_false, true_or, or_true, false_or, or_false, not_true_eq_false, not_false_eq_true, eq_self, rw_X12_signs, rw_X12_signs_1, hM.e, c_isNote hM w, mx_b_t qa, c_mSh, mx_b_t qt, c_in, mx_b_t z6, ci, h1]
        · have rp := r.p
          have rs := r.s0
          have rz := r.z0
          have rI := r.i
          by_cases s0 : h 47 t = 0
          · have rss := r.s
            rw [s0] at rss
            by_cases qi : 0 ≤ i ∧ i ≤ h 48 t - z
            · have ver := v.ver
              have ih := c_sgn_l (d := d + 12) (n := n) (h := h) (a := a) (t := t) (i := i) (z := z) (p := S 7 a) (q := S 32 t) (k := 0) v.s (by omega) rfl qM (by omega) r.t rfl r.q (by rw [r.l]; omega) (by omega) (by omega) (by omega) M0 ver
              rw [fo_0] at ih
              simp (disch := omega) only [mx_vt_h, mx_vt_m, mx_cmp_0, mx_cmp_1, mx_cmp_2, mx_cmp_3, mx_cmp_4, mx_u_s, mx_u_a, mx_u_k, mx_z_a, mx_z_s, mx_t_a, mx_t_2, mx_t_1, mx_t_0, mx_gd_T, mx_gd_t, mx_br_T, mx_br_F, mx_br_t, mx_br_f, mx_br_n, mx_cl_T, mx_cl_t, mx_re_T, mx_re_t, mx_rt_v, mx_rt_0, mx_cu_t, mx_w_id, mx_l_id, mx_b_0, mx_b_1, mx_b_r, mx_nl_0, mx_nl_1, mx_nl_2, mx_nl_n, mx_nl_l, mx_sw_n, mx_sw_h, mx_sw_m, Int.reduceLE, Int.reduceLT, Int.reduceEq, Int.reduceAdd, Int.reduceSub, Int.reduceMul, Int.reduceNeg, Int.reduceToNat, and_self, true_and, and_true, false_and, and_false, true_or, or_true, false_or, or_false, not_true_eq_false, not_false_eq_true, eq_self, rw_X11_signs, rw_X11_signs_1, hX, hF, v.na1 qa, ta, qM, lM, c_xSh, mx_b_t qt, c_within, mx_b_t qz, r.t, rss, r.q, r.l, mx_b_t qi, ih]
              refine mx_W_s ?_
              obtain ⟨g1, eg⟩ : ∃ g1, id (mx_u (fo h (S (S 7 a) 2) 0 (fun j => cl (h (S (S 32 t) 1) (i + j))) z) 3 5 (h 3 5 + 1) = g1) := ⟨_, rfl⟩
              have eg : mx_u (fo h (S (S 7 a) 2) 0 (fun j => cl (h (S (S 32 t) 1) (i + j))) z) 3 5 (h 3 5 + 1) = g1 := eg
              try rw [eg]
              have G1 : ∀ b, ¬ b = 3 → ¬ b = S (S 7 a) 2 → g1 b = h b := fun b b0 b1 => by rw [← eg, mx_u_a b0, fo_o b1]
              have e39 : g1 39 = h 39 := G1 39 (by decide) (by omega)
              have e49 : g1 49 = h 49 := G1 49 (by decide) (by omega)
              have e47 : g1 47 = h 47 := G1 47 (by decide) (by omega)
              have e48 : g1 48 = h 48 := G1 48 (by decide) (by omega)
              have ih2 := fun l6 l7 => c_sgM_l (d := d + 12) (n := n) (h := g1) (a := a) (t := t) (i := i) (z := z) (k := 0) (l6 := l6) (l7 := l7) hM (by omega) qt (by omega) z6 (by omega)
              rw [fo_0] at ih2
              have ci2 := fun k k0 k1 => c_its (d := d + 11) (n := n) (h := g1) (a := a) (k := k) hM (by omega) (by omega) k0 k1
              have cn2 := c_isNote (d := d + 10) (n := n) (h := g1) (v := a) hM (by rw [e39]; exact w)
              rw [e39] at cn2 ci2
              simp (disch := omega) only [mx_vt_h, mx_vt_m, mx_cmp_0, mx_cmp_1, mx_cmp_2, mx_cmp_3, mx_cmp_4, mx_u_s, mx_u_a, mx_u_k, mx_z_a, mx_z_s, mx_t_a, mx_t_2, mx_t_1, mx_t_0, mx_gd_T, mx_gd_t, mx_br_T, mx_br_F, mx_br_t, mx_br_f, mx_br_n, mx_cl_T, mx_cl_t, mx_re_T, mx_re_t, mx_rt_v, mx_rt_0, mx_cu_t, mx_w_id, mx_l_id, mx_b_0, mx_b_1, mx_b_r, mx_nl_0, mx_nl_1, mx_nl_2, mx_nl_n, mx_nl_l, mx_sw_n, mx_sw_h, mx_sw_m, Int.reduceLE, Int.reduceLT, Int.reduceEq, Int.reduceAdd, Int.reduceSub, Int.reduceMul, Int.reduceNeg, Int.reduceToNat, and_self, true_and, and_true, false_and, and_false, true_or, or_true, false_or, or_false, not_true_eq_false, not_false_eq_true, eq_self, rw_X12_signs, rw_X12_signs_1, hM.e, cn2, mx_b_t qa, c_mSh, mx_b_t qt, c_in, mx_b_t z6, ci2, e47, e48, s0, ih2]
              refine mx_W_s ⟨⟨_, rfl, rfl⟩, ?_⟩
              have ff : ∀ j, 0 ≤ j → j < z → h (S (S 32 t) 1) (i + j) = h 49 (40 * t + i + j) := fun j j0 j1 => by
                have := ri (i + j) (by omega) (by omega)
                rw [this]; exact congrArg _ (by omega)
              obtain ⟨G, eG⟩ : ∃ G, id (fo g1 39 (9 + 10 * a + 4) (fun j => cl (g1 49 (40 * t + i + j))) z = G) := ⟨_, rfl⟩
              have eG : fo g1 39 (9 + 10 * a + 4) (fun j => cl (g1 49 (40 * t + i + j))) z = G := eG
              try rw [eG]
              have Go : ∀ b, ¬ b = 39 → G b = g1 b := fun b q => by rw [← eG, fo_o q]
              have Gs : ∀ k, 0 ≤ k → k < z → it (G 39) a (4 + k) = cl (h 49 (40 * t + i + k)) := fun k k0 k1 => by
                unfold it; rw [← eG, fo_i (by omega) (by omega), e49]
                exact congrArg (fun y => cl (h 49 y)) (by omega)
              have Ge : ∀ k, k < 9 + 10 * a + 4 ∨ 9 + 10 * a + 4 + z ≤ k → G 39 k = h 39 k := fun k q => by rw [← eG, fo_e q, e39]
              have Gi : ∀ k, 0 ≤ k → k ≤ 3 → it (G 39) a k = it (h 39) a k := fun k k0 k1 => Ge _ (by omega)
              have Gt : ∀ k, z ≤ k → k ≤ 5 → it (G 39) a (4 + k) = it (h 39) a (4 + k) := fun k k0 k1 => Ge _ (by omega)
              have wa2 : nw (G 39) a := by
                refine nw.mk (by rw [Gi 0 (by decide) (by decide)]; exact ka) (by rw [Gi 1 (by decide) (by decide)]; exact wa.e) (by rw [Gi 2 (by decide) (by decide)]; exact wa.p) (by rw [Gi 3 (by decide) (by decide)]; exact la) ?_
                rw [Gi 3 (by decide) (by decide)]
                intro k k0 k1
                by_cases u : k < z
                · rw [Gs k k0 u]; exact cl_r _
                · rw [Gt k (by omega) (by omega)]; exact wa.s k k0 k1
              have so : ∀ k, k < 9 ∨ 69 ≤ k → G 39 k = h 39 k := fun k q => Ge k (by omega)
              have si : ∀ j k, ¬ j = a → 0 ≤ j → 0 ≤ k → k ≤ 9 → it (G 39) j k = it (h 39) j k := fun j k e j0 k0 k1 => Ge _ (by omega)
              have w2 : vw (G 39) := by
                refine vw.mk (by rw [so 0 (by decide)]; exact hN) (by rw [so 1 (by decide)]; exact w.L) (fun e e0 e1 => by rw [so _ (by omega), so _ (by omega)]; exact w.e e e0 e1) (fun j j0 j1 => ?_) (fun l l0 l1 => ?_)
                · rw [so 0 (by decide)] at j1
                  by_cases e : j = a
                  · rw [e]; exact wa2
                  · have wj := w.n j j0 j1
                    exact nw_c wj (fun k k0 k1 _ => si j k e j0 k0 k1) (by rw [si j 1 e j0 (by decide) (by decide)]; exact wj.e)
                · rw [so 1 (by decide)] at l1
                  rw [so 0 (by decide)]
                  exact lw_c (w.l l l0 l1) (fun k k0 k1 => so _ (by omega))
              have gM : ∀ k, 0 ≤ k → k < it (h 39) a 3 → G (S (S 7 a) 2) k = it (G 39) a (4 + k) := fun k k0 k1 => by
                rw [Go _ (by omega), ← eg, mx_u_a (by omega)]
                by_cases u : k < z
                · rw [fo_i (by omega) (by omega), Gs k k0 u, Int.sub_zero, ff k k0 u]
                · rw [fo_e (by omega), Gt k (by omega) (by omega)]; exact ra.s k k0 k1
              have pM : ¬ S 7 a = S (S 7 a) 2 := fun e => by rw [← e] at qM; omega
              have gp : G (S 7 a) = h (S 7 a) := by rw [Go _ (by omega), G1 _ (by omega) pM]
              refine v.V1 hc qa w2 rfl so si (nr.mk (by rw [Gi 0 (by decide) (by decide)]; exact ta) (by rw [gp]; exact ra.n) (by rw [gp, Gi 2 (by decide) (by decide)]; exact ra.a) (by rw [gp, Gi 1 (by decide) (by decide)]; exact ra.e) qM (by rw [Gi 3 (by decide) (by decide)]; exact lM) (fun k k0 k1 => by rw [Gi 3 (by decide) (by decide)] at k1; exact gM k k0 k1) pa ra.p1 M0 ra.q1) (fun b b0 b1 b2 => by rw [Go b b1, G1 b b2 (by omega)]) (fun k q => by rw [Go 3 (by decide), ← eg, mx_u_k q, fo_o (by omega)]) (fun b b0 b1 b2 => by rw [Go b (by omega), G1 b (by omega) b2]) (by rw [Go 3 (by decide), ← eg, mx_u_s])
            · refine ag_p v hc (y := -12) ?_ ?_
              · simp (disch := omega) only [mx_vt_h, mx_vt_m, mx_cmp_0, mx_cmp_1, mx_cmp_2, mx_cmp_3, mx_cmp_4, mx_u_s, mx_u_a, mx_u_k, mx_z_a, mx_z_s, mx_t_a, mx_t_2, mx_t_1, mx_t_0, mx_gd_T, mx_gd_t, mx_br_T, mx_br_F, mx_br_t, mx_br_f, mx_br_n, mx_cl_T, mx_cl_t, mx_re_T, mx_re_t, mx_rt_v, mx_rt_0, mx_cu_t, mx_w_id, mx_l_id, mx_b_0, mx_b_1, mx_b_r, mx_nl_0, mx_nl_1, mx_nl_2, mx_nl_n, mx_nl_l, mx_sw_n, mx_sw_h, mx_sw_m, Int.reduceLE, Int.reduceLT, Int.reduceEq, Int.reduceAdd, Int.reduceSub, Int.reduceMul, Int.reduceNeg, Int.reduceToNat, and_self, true_and, and_true, false_and, and_false, true_or, or_true, false_or, or_false, not_true_eq_false, not_false_eq_true, eq_self, rw_X11_signs, rw_X11_signs_1, hX, hF, v.na1 qa, ta, qM, lM, c_xSh, mx_b_t qt, c_within, mx_b_t qz, r.t, rss, r.q, r.l, mx_b_f qi]
              · by_cases u : i < 0
                · simp (disch := omega) only [mx_vt_h, mx_vt_m, mx_cmp_0, mx_cmp_1, mx_cmp_2, mx_cmp_3, mx_cmp_4, mx_u_s, mx_u_a, mx_u_k, mx_z_a, mx_z_s, mx_t_a, mx_t_2, mx_t_1, mx_t_0, mx_gd_T, mx_gd_t, mx_br_T, mx_br_F, mx_br_t, mx_br_f, mx_br_n, mx_cl_T, mx_cl_t, mx_re_T, mx_re_t, mx_rt_v, mx_rt_0, mx_cu_t, mx_w_id, mx_l_id, mx_b_0, mx_b_1, mx_b_r, mx_nl_0, mx_nl_1, mx_nl_2, mx_nl_n, mx_nl_l, mx_sw_n, mx_sw_h, mx_sw_m, Int.reduceLE, Int.reduceLT, Int.reduceEq, Int.reduceAdd, Int.reduceSub, Int.reduceMul, Int.reduceNeg, Int.reduceToNat, and_self, true_and, and_true, false_and, and_false, true_or, or_true, false_or, or_false, not_true_eq_false, not_false_eq_true, eq_self, rw_X12_signs, rw_X12_signs_1, hM.e, c_isNote hM w, mx_b_t qa, c_mSh, mx_b_t qt, c_in, mx_b_t z6, ci, s0]
                · simp (disch := omega) only [mx_vt_h, mx_vt_m, mx_cmp_0, mx_cmp_1, mx_cmp_2, mx_cmp_3, mx_cmp_4, mx_u_s, mx_u_a, mx_u_k, mx_z_a, mx_z_s, mx_t_a, mx_t_2, mx_t_1, mx_t_0, mx_gd_T, mx_gd_t, mx_br_T, mx_br_F, mx_br_t, mx_br_f, mx_br_n, mx_cl_T, mx_cl_t, mx_re_T, mx_re_t, mx_rt_v, mx_rt_0, mx_cu_t, mx_w_id, mx_l_id, mx_b_0, mx_b_1, mx_b_r, mx_nl_0, mx_nl_1, mx_nl_2, mx_nl_n, mx_nl_l, mx_sw_n, mx_sw_h, mx_sw_m, Int.reduceLE, Int.reduceLT, Int.reduceEq, Int.reduceAdd, Int.reduceSub, Int.reduceMul, Int.reduceNeg, Int.reduceToNat, and_self, true_and, and_true, false_and, and_false, true_or, or_true, false_or, or_false, not_true_eq_false, not_false_eq_true, eq_self, rw_X12_signs, rw_X12_signs_1, hM.e, c_isNote hM w, mx_b_t qa, c_mSh, mx_b_t qt, c_in, mx_b_t z6, ci, s0]
          · refine ag_p v hc (y := -13) ?_ ?_
            · simp (disch := omega) only [mx_vt_h, mx_vt_m, mx_cmp_0, mx_cmp_1, mx_cmp_2, mx_cmp_3, mx_cmp_4, mx_u_s, mx_u_a, mx_u_k, mx_z_a, mx_z_s, mx_t_a, mx_t_2, mx_t_1, mx_t_0, mx_gd_T, mx_gd_t, mx_br_T, mx_br_F, mx_br_t, mx_br_f, mx_br_n, mx_cl_T, mx_cl_t, mx_re_T, mx_re_t, mx_rt_v, mx_rt_0, mx_cu_t, mx_w_id, mx_l_id, mx_b_0, mx_b_1, mx_b_r, mx_nl_0, mx_nl_1, mx_nl_2, mx_nl_n, mx_nl_l, mx_sw_n, mx_sw_h, mx_sw_m, Int.reduceLE, Int.reduceLT, Int.reduceEq, Int.reduceAdd, Int.reduceSub, Int.reduceMul, Int.reduceNeg, Int.reduceToNat, and_self, true_and, and_true, false_and, and_false, true_or, or_true, false_or, or_false, not_true_eq_false, not_false_eq_true, eq_self, rw_X11_signs, rw_X11_signs_1, hX, hF, v.na1 qa, ta, qM, lM, c_xSh, mx_b_t qt, c_within, mx_b_t qz, r.t, r.s]
            · simp (disch := omega) only [mx_vt_h, mx_vt_m, mx_cmp_0, mx_cmp_1, mx_cmp_2, mx_cmp_3, mx_cmp_4, mx_u_s, mx_u_a, mx_u_k, mx_z_a, mx_z_s, mx_t_a, mx_t_2, mx_t_1, mx_t_0, mx_gd_T, mx_gd_t, mx_br_T, mx_br_F, mx_br_t, mx_br_f, mx_br_n, mx_cl_T, mx_cl_t, mx_re_T, mx_re_t, mx_rt_v, mx_rt_0, mx_cu_t, mx_w_id, mx_l_id, mx_b_0, mx_b_1, mx_b_r, mx_nl_0, mx_nl_1, mx_nl_2, mx_nl_n, mx_nl_l, mx_sw_n, mx_sw_h, mx_sw_m, Int.reduceLE, Int.reduceLT, Int.reduceEq, Int.reduceAdd, Int.reduceSub, Int.reduceMul, Int.reduceNeg, Int.reduceToNat, and_self, true_and, and_true, false_and, and_false, true_or, or_true, false_or, or_false, not_true_eq_false, not_false_eq_true, eq_self, rw_X12_signs, rw_X12_signs_1, hM.e, c_isNote hM w, mx_b_t qa, c_mSh, mx_b_t qt, c_in, mx_b_t z6, ci]
      · refine ag_p v hc (y := -1) ?_ ?_
        · simp (disch := omega) only [mx_vt_h, mx_vt_m, mx_cmp_0, mx_cmp_1, mx_cmp_2, mx_cmp_3, mx_cmp_4, mx_u_s, mx_u_a, mx_u_k, mx_z_a, mx_z_s, mx_t_a, mx_t_2, mx_t_1, mx_t_0, mx_gd_T, mx_gd_t, mx_br_T, mx_br_F, mx_br_t, mx_br_f, mx_br_n, mx_cl_T, mx_cl_t, mx_re_T, mx_re_t, mx_rt_v, mx_rt_0, mx_cu_t, mx_w_id, mx_l_id, mx_b_0, mx_b_1, mx_b_r, mx_nl_0, mx_nl_1, mx_nl_2, mx_nl_n, mx_nl_l, mx_sw_n, mx_sw_h, mx_sw_m, Int.reduceLE, Int.reduceLT, Int.reduceEq, Int.reduceAdd, Int.reduceSub, Int.reduceMul, Int.reduceNeg, Int.reduceToNat, and_self, true_and, and_true, false_and, and_false, true_or, or_true, false_or, or_false, not_true_eq_false, not_false_eq_true, eq_self, rw_X11_signs, rw_X11_signs_1, hX, hF, v.na1 qa, ta, qM, lM, c_xSh, mx_b_t qt, c_within, mx_b_f qz]
        · by_cases z6 : 0 ≤ z ∧ z ≤ 6
          · simp (disch := omega) only [mx_vt_h, mx_vt_m, mx_cmp_0, mx_cmp_1, mx_cmp_2, mx_cmp_3, mx_cmp_4, mx_u_s, mx_u_a, mx_u_k, mx_z_a, mx_z_s, mx_t_a, mx_t_2, mx_t_1, mx_t_0, mx_gd_T, mx_gd_t, mx_br_T, mx_br_F, mx_br_t, mx_br_f, mx_br_n, mx_cl_T, mx_cl_t, mx_re_T, mx_re_t, mx_rt_v, mx_rt_0, mx_cu_t, mx_w_id, mx_l_id, mx_b_0, mx_b_1, mx_b_r, mx_nl_0, mx_nl_1, mx_nl_2, mx_nl_n, mx_nl_l, mx_sw_n, mx_sw_h, mx_sw_m, Int.reduceLE, Int.reduceLT, Int.reduceEq, Int.reduceAdd, Int.reduceSub, Int.reduceMul, Int.reduceNeg, Int.reduceToNat, and_self, true_and, and_true, false_and, and_false, true_or, or_true, false_or, or_false, not_true_eq_false, not_false_eq_true, eq_self, rw_X12_signs, rw_X12_signs_1, hM.e, c_isNote hM w, mx_b_t qa, c_mSh, mx_b_t qt, c_in, mx_b_t z6, ci]
          · simp (disch := omega) only [mx_vt_h, mx_vt_m, mx_cmp_0, mx_cmp_1, mx_cmp_2, mx_cmp_3, mx_cmp_4, mx_u_s, mx_u_a, mx_u_k, mx_z_a, mx_z_s, mx_t_a, mx_t_2, mx_t_1, mx_t_0, mx_gd_T, mx_gd_t, mx_br_T, mx_br_F, mx_br_t, mx_br_f, mx_br_n, mx_cl_T, mx_cl_t, mx_re_T, mx_re_t, mx_rt_v, mx_rt_0, mx_cu_t, mx_w_id, mx_l_id, mx_b_0, mx_b_1, mx_b_r, mx_nl_0, mx_nl_1, mx_nl_2, mx_nl_n, mx_nl_l, mx_sw_n, mx_sw_h, mx_sw_m, Int.reduceLE, Int.reduceLT, Int.reduceEq, Int.reduceAdd, Int.reduceSub, Int.reduceMul, Int.reduceNeg, Int.reduceToNat, and_self, true_and, and_true, false_and, and_false, true_or, or_true, false_or, or_false, not_true_eq_false, not_false_eq_true, eq_self, rw_X12_signs, rw_X12_signs_1, hM.e, c_isNote hM w, mx_b_t qa, c_mSh, mx_b_t qt, c_in, mx_b_f z6]
    · refine ag_p v hc (y := -1) ?_ ?_
      · simp (disch := omega) only [mx_vt_h, mx_vt_m, mx_cmp_0, mx_cmp_1, mx_cmp_2, mx_cmp_3, mx_cmp_4, mx_u_s, mx_u_a, mx_u_k, mx_z_a, mx_z_s, mx_t_a, mx_t_2, mx_t_1, mx_t_0, mx_gd_T, mx_gd_t, mx_br_T, mx_br_F, mx_br_t, mx_br_f, mx_br_n, mx_cl_T, mx_cl_t, mx_re_T, mx_re_t, mx_rt_v, mx_rt_0, mx_cu_t, mx_w_id, mx_l_id, mx_b_0, mx_b_1, mx_b_r, mx_nl_0, mx_nl_1, mx_nl_2, mx_nl_n, mx_nl_l, mx_sw_n, mx_sw_h, mx_sw_m, Int.reduceLE, Int.reduceLT, Int.reduceEq, Int.reduceAdd, Int.reduceSub, Int.reduceMul, Int.reduceNeg, Int.reduceToNat, and_self, true_and, and_true, false_and, and_false, true_or, or_true, false_or, or_false, not_true_eq_false, not_false_eq_true, eq_self, rw_X11_signs, rw_X11_signs_1, hX, hF, v.na1 qa, c_xSh, mx_b_f qt]
      · simp (disch := omega) only [mx_vt_h, mx_vt_m, mx_cmp_0, mx_cmp_1, mx_cmp_2, mx_cmp_3, mx_cmp_4, mx_u_s, mx_u_a, mx_u_k, mx_z_a, mx_z_s, mx_t_a, mx_t_2, mx_t_1, mx_t_0, mx_gd_T, mx_gd_t, mx_br_T, mx_br_F, mx_br_t, mx_br_f, mx_br_n, mx_cl_T, mx_cl_t, mx_re_T, mx_re_t, mx_rt_v, mx_rt_0, mx_cu_t, mx_w_id, mx_l_id, mx_b_0, mx_b_1, mx_b_r, mx_nl_0, mx_nl_1, mx_nl_2, mx_nl_n, mx_nl_l, mx_sw_n, mx_sw_h, mx_sw_m, Int.reduceLE, Int.reduceLT, Int.reduceEq, Int.reduceAdd, Int.reduceSub, Int.reduceMul, Int.reduceNeg, Int.reduceToNat, and_self, true_and, and_true, false_and, and_false, true_or, or_true, false_or, or_false, not_true_eq_false, not_false_eq_true, eq_self, rw_X12_signs, rw_X12_signs_1, hM.e, c_isNote hM w, mx_b_t qa, c_mSh, mx_b_f qt]
  · refine ag_p v hc (y := -1) ?_ ?_
    · simp (disch := omega) only [mx_vt_h, mx_vt_m, mx_cmp_0, mx_cmp_1, mx_cmp_2, mx_cmp_3, mx_cmp_4, mx_u_s, mx_u_a, mx_u_k, mx_z_a, mx_z_s, mx_t_a, mx_t_2, mx_t_1, mx_t_0, mx_gd_T, mx_gd_t, mx_br_T, mx_br_F, mx_br_t, mx_br_f, mx_br_n, mx_cl_T, mx_cl_t, mx_re_T, mx_re_t, mx_rt_v, mx_rt_0, mx_cu_t, mx_w_id, mx_l_id, mx_b_0, mx_b_1, mx_b_r, mx_nl_0, mx_nl_1, mx_nl_2, mx_nl_n, mx_nl_l, mx_sw_n, mx_sw_h, mx_sw_m, Int.reduceLE, Int.reduceLT, Int.reduceEq, Int.reduceAdd, Int.reduceSub, Int.reduceMul, Int.reduceNeg, Int.reduceToNat, and_self, true_and, and_true, false_and, and_false, true_or, or_true, false_or, or_false, not_true_eq_false, not_false_eq_true, eq_self, rw_X11_signs, rw_X11_signs_1, hX, hF, v.na0 qa]
    · simp (disch := omega) only [mx_vt_h, mx_vt_m, mx_cmp_0, mx_cmp_1, mx_cmp_2, mx_cmp_3, mx_cmp_4, mx_u_s, mx_u_a, mx_u_k, mx_z_a, mx_z_s, mx_t_a, mx_t_2, mx_t_1, mx_t_0, mx_gd_T, mx_gd_t, mx_br_T, mx_br_F, mx_br_t, mx_br_f, mx_br_n, mx_cl_T, mx_cl_t, mx_re_T, mx_re_t, mx_rt_v, mx_rt_0, mx_cu_t, mx_w_id, mx_l_id, mx_b_0, mx_b_1, mx_b_r, mx_nl_0, mx_nl_1, mx_nl_2, mx_nl_n, mx_nl_l, mx_sw_n, mx_sw_h, mx_sw_m, Int.reduceLE, Int.reduceLT, Int.reduceEq, Int.reduceAdd, Int.reduceSub, Int.reduceMul, Int.reduceNeg, Int.reduceToNat, and_self, true_and, and_true, false_and, and_false, true_or, or_true, false_or, or_false, not_true_eq_false, not_false_eq_true, eq_self, rw_X12_signs, rw_X12_signs_1, hM.e, c_isNote hM w, mx_b_f qa]
end
