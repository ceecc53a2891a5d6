/-! The reference: fewest lines, mending, evenings for a note -/
section
variable {d : Nat} {S h : mx_H} {n : Int} {Q : Option mx_V → mx_H → mx_H → Int → Prop}
theorem pcn_e {y : Int} (x0 : 0 ≤ y) (x1 : y ≤ 63) : mx_w (mx_w (mx_w (mx_w (mx_w (mx_w (0 + mx_and (mx_shr y 0) 1) + mx_and (mx_shr y 1) 1) + mx_and (mx_shr y 2) 1) + mx_and (mx_shr y 3) 1) + mx_and (mx_shr y 4) 1) + mx_and (mx_shr y 5) 1) = pcn y := by
  have key : ∀ k : Fin 64, mx_w (mx_w (mx_w (mx_w (mx_w (mx_w (0 + mx_and (mx_shr (k.val : Int) 0) 1) + mx_and (mx_shr (k.val : Int) 1) 1) + mx_and (mx_shr (k.val : Int) 2) 1) + mx_and (mx_shr (k.val : Int) 3) 1) + mx_and (mx_shr (k.val : Int) 4) 1) + mx_and (mx_shr (k.val : Int) 5) 1) = ((bcA k.val : Nat) : Int) := by decide +kernel
  have := key ⟨y.toNat, by omega⟩
  simp only at this
  have e : ((y.toNat : Nat) : Int) = y := by omega
  rw [e] at this
  exact this
theorem c_manyM {y : Int} (x0 : 0 ≤ y) (x1 : y ≤ 63) : mx_M d 203 [(0, y), (0, 6)] S h n = some (some (0, pcn y), S, h, n) := by
  rw [← pcn_e x0 x1]
  simp (disch := omega) only [rw_X12_many, rh_X12_many_4, mx_br_t, mx_br_f, mx_nl_0, mx_nl_n, show mx_w (0 + 1) = 1 from rfl, show mx_w (1 + 1) = 2 from rfl, show mx_w (2 + 1) = 3 from rfl, show mx_w (3 + 1) = 4 from rfl, show mx_w (4 + 1) = 5 from rfl, show mx_w (5 + 1) = 6 from rfl]
/-- the best set of those below k -/
def fk (σ : Int → Int) (k b : Int) : Prop := (b = -1 ∧ ∀ y, 0 ≤ y → y < k → ew σ y) ∨ (0 ≤ b ∧ b < k ∧ ¬ ew σ b ∧ ∀ y, 0 ≤ y → y < k → ¬ ew σ y → pcn b < pcn y ∨ pcn b = pcn y ∧ b ≤ y)
theorem c_proof_l (hS : sh_M S) (w : vw (h 39)) {k b : Int} {l3 : Option mx_V} (hn : ¬ ew (h 39) (aL (h 39 1))) (k0 : 0 ≤ k) (k1 : k ≤ aL (h 39 1) + 1) {g : mx_H} (f : ∀ a, a < 43 ∨ 45 < a → g a = h a) (q : fk (h 39) k b)
    (hX : ∀ g s, (∀ a, a < 43 ∨ 45 < a → g a = h a) → fb (h 39) s → Q (some (0, s)) S g n) :
    mx_W (mx_ex (d + 8) 204 16 [some (2, 38), some (0, b), some (0, k), l3] [] S g n) Q := by
  have hL := w.L
  have ar := aL_r hL.1 hL.2
  have g39 := f 39 (by decide)
  have g391 : g 39 1 = h 39 1 := by rw [g39]
  have wg : vw (g 39) := by rw [g39]; exact w
  have ea : mx_shl 1 (h 39 1) = aL (h 39 1) + 1 := by unfold aL; omega
  rw [rh_X12_proof_16]
  by_cases z : k ≤ aL (h 39 1)
  · have c1 := c_manyM (d := d + 7) (S := S) (h := g) (n := n) k0 (by omega)
    have next : ∀ g2 l3 b, (∀ a, a < 43 ∨ 45 < a → g2 a = h a) → fk (h 39) (k + 1) b → mx_W (mx_ex (d + 8) 204 16 [some (2, 38), some (0, b), some (0, k + 1), l3] [] S g2 n) Q :=
      fun g2 l3 b f2 q2 => c_proof_l hS w hn (k := k + 1) (l3 := l3) (by omega) (by omega) f2 q2 hX
    have ask : ∀ L, L = [some (2, 38), some (0, b), some (0, k), some (0, 1)] → (ew (h 39) k → fk (h 39) (k + 1) b) → (¬ ew (h 39) k → fk (h 39) (k + 1) k) → mx_W (mx_rt (mx_M (d + 7) 197 [(2, 38), (0, k)] S g n) (d + 8) 204 62 L []) Q := by
      intro L hl h1 h2
      subst hl
      refine mx_W_r (c_hasW hS wg ?_)
      intro g2 f2
      have F2 : ∀ a, a < 43 ∨ 45 < a → g2 a = h a := fun a y => by rw [f2 a y]; exact f a y
      rw [g39]
      show mx_W (mx_ex _ _ _ _ [_] _ _ _) _
      by_cases e : ew (h 39) k
      · simp (disch := omega) only [mx_vt_h, mx_vt_m, mx_cmp_0, mx_cmp_1, mx_cmp_2, mx_cmp_3, mx_cmp_4, mx_u_s, mx_u_a, mx_u_k, mx_z_a, mx_z_s, mx_t_a, mx_t_2, mx_t_1, mx_t_0, mx_gd_T, mx_gd_t, mx_br_T, mx_br_F, mx_br_t, mx_br_f, mx_br_n, mx_cl_T, mx_cl_t, mx_re_T, mx_re_t, mx_rt_v, mx_rt_0, mx_cu_t, mx_w_id, mx_l_id, mx_b_0, mx_b_1, mx_b_r, mx_nl_0, mx_nl_1, mx_nl_2, mx_nl_n, mx_nl_l, mx_sw_n, mx_sw_h, mx_sw_m, Int.reduceLE, Int.reduceLT, Int.reduceEq, Int.reduceAdd, Int.reduceSub, Int.reduceMul, Int.reduceNeg, Int.reduceToNat, and_self, true_and, and_true, false_and, and_false, true_or, or_true, false_or, or_false, not_true_eq_false, not_false_eq_true, eq_self, rw_X12_proof, mx_b_t e]
        exact next g2 _ _ F2 (h1 e)
      · simp (disch := omega) only [mx_vt_h, mx_vt_m, mx_cmp_0, mx_cmp_1, mx_cmp_2, mx_cmp_3, mx_cmp_4, mx_u_s, mx_u_a, mx_u_k, mx_z_a, mx_z_s, mx_t_a, mx_t_2, mx_t_1, mx_t_0, mx_gd_T, mx_gd_t, mx_br_T, mx_br_F, mx_br_t, mx_br_f, mx_br_n, mx_cl_T, mx_cl_t, mx_re_T, mx_re_t, mx_rt_v, mx_rt_0, mx_cu_t, mx_w_id, mx_l_id, mx_b_0, mx_b_1, mx_b_r, mx_nl_0, mx_nl_1, mx_nl_2, mx_nl_n, mx_nl_l, mx_sw_n, mx_sw_h, mx_sw_m, Int.reduceLE, Int.reduceLT, Int.reduceEq, Int.reduceAdd, Int.reduceSub, Int.reduceMul, Int.reduceNeg, Int.reduceToNat, and_self, true_and, and_true, false_and, and_false, true_or, or_true, false_or, or_false, not_true_eq_false, not_false_eq_true, eq_self, rw_X12_proof, mx_b_f e]
        exact next g2 _ _ F2 (h2 e)
    rcases q with ⟨qb, qe⟩ | ⟨b0, b1, bn, bm⟩
    · subst qb
      simp (disch := omega) only [mx_vt_h, mx_vt_m, mx_cmp_0, mx_cmp_1, mx_cmp_2, mx_cmp_3, mx_cmp_4, mx_u_s, mx_u_a, mx_u_k, mx_z_a, mx_z_s, mx_t_a, mx_t_2, mx_t_1, mx_t_0, mx_gd_T, mx_gd_t, mx_br_T, mx_br_F, mx_br_t, mx_br_f, mx_br_n, mx_cl_T, mx_cl_t, mx_re_T, mx_re_t, mx_rt_v, mx_rt_0, mx_cu_t, mx_w_id, mx_l_id, mx_b_0, mx_b_1, mx_b_r, mx_nl_0, mx_nl_1, mx_nl_2, mx_nl_n, mx_nl_l, mx_sw_n, mx_sw_h, mx_sw_m, Int.reduceLE, Int.reduceLT, Int.reduceEq, Int.reduceAdd, Int.reduceSub, Int.reduceMul, Int.reduceNeg, Int.reduceToNat, and_self, true_and, and_true, false_and, and_false, true_or, or_true, false_or, or_false, not_true_eq_false, not_false_eq_true, eq_self, rw_X12_proof, hS.e, g391, ea]
      refine ask _ rfl (fun e => Or.inl ⟨rfl, fun y y0 y1 => ?_⟩) (fun e => Or.inr ⟨k0, by omega, e, fun y y0 y1 yn => ?_⟩)
      · by_cases c : y = k
        · rw [c]; exact e
        · exact qe y y0 (by omega)
      · by_cases c : y = k
        · right; rw [c]; exact ⟨rfl, Int.le_refl _⟩
        · exact absurd (qe y y0 (by omega)) yn
    · have c2 := c_manyM (d := d + 7) (S := S) (h := g) (n := n) b0 (by omega)
      by_cases lt : pcn k < pcn b
      · simp (disch := omega) only [mx_vt_h, mx_vt_m, mx_cmp_0, mx_cmp_1, mx_cmp_2, mx_cmp_3, mx_cmp_4, mx_u_s, mx_u_a, mx_u_k, mx_z_a, mx_z_s, mx_t_a, mx_t_2, mx_t_1, mx_t_0, mx_gd_T, mx_gd_t, mx_br_T, mx_br_F, mx_br_t, mx_br_f, mx_br_n, mx_cl_T, mx_cl_t, mx_re_T, mx_re_t, mx_rt_v, mx_rt_0, mx_cu_t, mx_w_id, mx_l_id, mx_b_0, mx_b_1, mx_b_r, mx_nl_0, mx_nl_1, mx_nl_2, mx_nl_n, mx_nl_l, mx_sw_n, mx_sw_h, mx_sw_m, Int.reduceLE, Int.reduceLT, Int.reduceEq, Int.reduceAdd, Int.reduceSub, Int.reduceMul, Int.reduceNeg, Int.reduceToNat, and_self, true_and, and_true, false_and, and_false, true_or, or_true, false_or, or_false, not_true_eq_false, not_false_eq_true, eq_self, rw_X12_proof, hS.e, g391, ea, c1, c2, lt]
        refine ask _ rfl (fun e => Or.inr ⟨b0, by omega, bn, fun y y0 y1 yn => ?_⟩) (fun e => Or.inr ⟨k0, by omega, e, fun y y0 y1 yn => ?_⟩)
        · by_cases c : y = k
          · rw [c] at yn; exact absurd e yn
          · exact bm y y0 (by omega) yn
        · by_cases c : y = k
          · right; rw [c]; exact ⟨rfl, Int.le_refl _⟩
          · have := bm y y0 (by omega) yn; left; omega
      · have nx := fun l3 => next g l3 b f (Or.inr ⟨b0, by omega, bn, fun y y0 y1 yn => by
          by_cases c : y = k
          · rw [c]; omega
          · exact bm y y0 (by omega) yn⟩)
        simp (disch := omega) only [mx_vt_h, mx_vt_m, mx_cmp_0, mx_cmp_1, mx_cmp_2, mx_cmp_3, mx_cmp_4, mx_u_s, mx_u_a, mx_u_k, mx_z_a, mx_z_s, mx_t_a, mx_t_2, mx_t_1, mx_t_0, mx_gd_T, mx_gd_t, mx_br_T, mx_br_F, mx_br_t, mx_br_f, mx_br_n, mx_cl_T, mx_cl_t, mx_re_T, mx_re_t, mx_rt_v, mx_rt_0, mx_cu_t, mx_w_id, mx_l_id, mx_b_0, mx_b_1, mx_b_r, mx_nl_0, mx_nl_1, mx_nl_2, mx_nl_n, mx_nl_l, mx_sw_n, mx_sw_h, mx_sw_m, Int.reduceLE, Int.reduceLT, Int.reduceEq, Int.reduceAdd, Int.reduceSub, Int.reduceMul, Int.reduceNeg, Int.reduceToNat, and_self, true_and, and_true, false_and, and_false, true_or, or_true, false_or, or_false, not_true_eq_false, not_false_eq_true, eq_self, rw_X12_proof, hS.e, g391, ea, c1, c2, lt]
        exact nx _
  · have e : k = aL (h 39 1) + 1 := by omega
    subst e
    simp (disch := omega) only [mx_vt_h, mx_vt_m, mx_cmp_0, mx_cmp_1, mx_cmp_2, mx_cmp_3, mx_cmp_4, mx_u_s, mx_u_a, mx_u_k, mx_z_a, mx_z_s, mx_t_a, mx_t_2, mx_t_1, mx_t_0, mx_gd_T, mx_gd_t, mx_br_T, mx_br_F, mx_br_t, mx_br_f, mx_br_n, mx_cl_T, mx_cl_t, mx_re_T, mx_re_t, mx_rt_v, mx_rt_0, mx_cu_t, mx_w_id, mx_l_id, mx_b_0, mx_b_1, mx_b_r, mx_nl_0, mx_nl_1, mx_nl_2, mx_nl_n, mx_nl_l, mx_sw_n, mx_sw_h, mx_sw_m, Int.reduceLE, Int.reduceLT, Int.reduceEq, Int.reduceAdd, Int.reduceSub, Int.reduceMul, Int.reduceNeg, Int.reduceToNat, and_self, true_and, and_true, false_and, and_false, true_or, or_true, false_or, or_false, not_true_eq_false, not_false_eq_true, eq_self, rw_X12_proof, hS.e, g391, ea]
    refine mx_W_s ?_
    rcases q with ⟨qb, qe⟩ | ⟨b0, b1, bn, bm⟩
    · exact absurd (qe _ ar.1 (by omega)) hn
    · exact hX g b f (fb.mk ⟨b0, by omega⟩ bn (fun y y0 y1 yn => bm y y0 (by omega) yn))
termination_by (aL (h 39 1) + 1 - k).toNat
decreasing_by omega
theorem c_proofM (hS : sh_M S) (w : vw (h 39)) (hX : ∀ g s, (∀ a, a < 43 ∨ 45 < a → g a = h a) → ¬ ew (h 39) 63 → fb (h 39) s → Q (some (0, s)) S g n) (hY : ∀ g, (∀ a, a < 43 ∨ 45 < a → g a = h a) → ew (h 39) 63 → Q (some (0, -3)) S g n) :
    mx_W (mx_M (d + 8) 204 [(2, 38)] S h n) Q := by
  have hL := w.L
  have ar := aL_r hL.1 hL.2
  simp (disch := omega) only [mx_vt_h, mx_vt_m, mx_cmp_0, mx_cmp_1, mx_cmp_2, mx_cmp_3, mx_cmp_4, mx_u_s, mx_u_a, mx_u_k, mx_z_a, mx_z_s, mx_t_a, mx_t_2, mx_t_1, mx_t_0, mx_gd_T, mx_gd_t, mx_br_T, mx_br_F, mx_br_t, mx_br_f, mx_br_n, mx_cl_T, mx_cl_t, mx_re_T, mx_re_t, mx_rt_v, mx_rt_0, mx_cu_t, mx_w_id, mx_l_id, mx_b_0, mx_b_1, mx_b_r, mx_nl_0, mx_nl_1, mx_nl_2, mx_nl_n, mx_nl_l, mx_sw_n, mx_sw_h, mx_sw_m, Int.reduceLE, Int.reduceLT, Int.reduceEq, Int.reduceAdd, Int.reduceSub, Int.reduceMul, Int.reduceNeg, Int.reduceToNat, and_self, true_and, and_true, false_and, and_false, true_or, or_true, false_or, or_false, not_true_eq_false, not_false_eq_true, eq_self, rw_X12_proof, hS.e]
  refine mx_W_r (c_hasW hS w ?_)
  intro g f
  show mx_W (mx_ex _ _ _ _ [_] _ _ _) _
  by_cases e : ew (h 39) 63
  · have hY := hY g f e
    simp (disch := omega) only [mx_vt_h, mx_vt_m, mx_cmp_0, mx_cmp_1, mx_cmp_2, mx_cmp_3, mx_cmp_4, mx_u_s, mx_u_a, mx_u_k, mx_z_a, mx_z_s, mx_t_a, mx_t_2, mx_t_1, mx_t_0, mx_gd_T, mx_gd_t, mx_br_T, mx_br_F, mx_br_t, mx_br_f, mx_br_n, mx_cl_T, mx_cl_t, mx_re_T, mx_re_t, mx_rt_v, mx_rt_0, mx_cu_t, mx_w_id, mx_l_id, mx_b_0, mx_b_1, mx_b_r, mx_nl_0, mx_nl_1, mx_nl_2, mx_nl_n, mx_nl_l, mx_sw_n, mx_sw_h, mx_sw_m, Int.reduceLE, Int.reduceLT, Int.reduceEq, Int.reduceAdd, Int.reduceSub, Int.reduceMul, Int.reduceNeg, Int.reduceToNat, and_self, true_and, and_true, false_and, and_false, true_or, or_true, false_or, or_false, not_true_eq_false, not_false_eq_true, eq_self, rw_X12_proof, mx_b_t e]
    exact mx_W_s hY
  · have ih := fun l3 => c_proof_l (d := d) (n := n) (Q := Q) (l3 := l3) (k := 0) (b := -1) hS w (fun z => e ((ew_a w).mp z)) (by decide) (by omega) f (Or.inl ⟨rfl, fun y y0 y1 => by omega⟩) (fun g s f b => hX g s f e b)
    simp (disch := omega) only [mx_vt_h, mx_vt_m, mx_cmp_0, mx_cmp_1, mx_cmp_2, mx_cmp_3, mx_cmp_4, mx_u_s, mx_u_a, mx_u_k, mx_z_a, mx_z_s, mx_t_a, mx_t_2, mx_t_1, mx_t_0, mx_gd_T, mx_gd_t, mx_br_T, mx_br_F, mx_br_t, mx_br_f, mx_br_n, mx_cl_T, mx_cl_t, mx_re_T, mx_re_t, mx_rt_v, mx_rt_0, mx_cu_t, mx_w_id, mx_l_id, mx_b_0, mx_b_1, mx_b_r, mx_nl_0, mx_nl_1, mx_nl_2, mx_nl_n, mx_nl_l, mx_sw_n, mx_sw_h, mx_sw_m, Int.reduceLE, Int.reduceLT, Int.reduceEq, Int.reduceAdd, Int.reduceSub, Int.reduceMul, Int.reduceNeg, Int.reduceToNat, and_self, true_and, and_true, false_and, and_false, true_or, or_true, false_or, or_false, not_true_eq_false, not_false_eq_true, eq_self, rw_X12_proof, mx_b_f e]
    exact ih _
theorem c_which_l (hS : sh_M S) {σ : Int → Int} (w : vw σ) (hσ : h 39 = σ) {a t e : Int} {l5 : Option mx_V} (a0 : 0 ≤ a) (a1 : a < σ 0) (t0 : 0 ≤ t) (t1 : t ≤ 3) (e0 : 0 ≤ e) (e1 : e ≤ 2) {g : mx_H} (f : ∀ a, ¬ a = 39 → a < 43 ∨ 45 < a → g a = h a) (g39 : g 39 = mv σ a e)
    (hX : ∀ g, (∀ a, a < 43 ∨ 45 < a → g a = h a) → Q (some (0, wh σ a 3)) S g n) :
    mx_W (mx_ex (d + 8) 206 22 [some (2, 38), some (0, a), some (0, it σ a 1), some (0, wh σ a t), some (0, t), l5] [] S g n) Q := by
  have hN := w.N
  have wg : vw (g 39) := by rw [g39]; exact mv_w w a0 (by omega) e0 e1
  have ag : a < g 39 0 := by rw [g39, mv_o (by omega)]; exact a1
  rw [rh_X12_which_22]
  by_cases q : t ≤ 2
  · have cm := c_move (d := d + 5) (n := n) hS wg a0 ag t0 q
    let g1 := mx_u g 39 (9 + 10 * a + 1) t
    have G1 : g1 39 = mv σ a t := by simp only [g1]; rw [u_mv, g39, mv_m]
    have wg1 : vw (g1 39) := by rw [G1]; exact mv_w w a0 (by omega) t0 q
    have hc := fun R hX => c_hasW (d := d) (n := n) (Q := R) (x := 63) hS wg1 hX
    rw [G1] at hc
    simp only [g1] at hc
    simp (disch := omega) only [mx_vt_h, mx_vt_m, mx_cmp_0, mx_cmp_1, mx_cmp_2, mx_cmp_3, mx_cmp_4, mx_u_s, mx_u_a, mx_u_k, mx_z_a, mx_z_s, mx_t_a, mx_t_2, mx_t_1, mx_t_0, mx_gd_T, mx_gd_t, mx_br_T, mx_br_F, mx_br_t, mx_br_f, mx_br_n, mx_cl_T, mx_cl_t, mx_re_T, mx_re_t, mx_rt_v, mx_rt_0, mx_cu_t, mx_w_id, mx_l_id, mx_b_0, mx_b_1, mx_b_r, mx_nl_0, mx_nl_1, mx_nl_2, mx_nl_n, mx_nl_l, mx_sw_n, mx_sw_h, mx_sw_m, Int.reduceLE, Int.reduceLT, Int.reduceEq, Int.reduceAdd, Int.reduceSub, Int.reduceMul, Int.reduceNeg, Int.reduceToNat, and_self, true_and, and_true, false_and, and_false, true_or, or_true, false_or, or_false, not_true_eq_false, not_false_eq_true, eq_self, rw_X12_which, hS.e, cm]
    refine mx_W_r (hc _ ?_)
    intro g2 f2
    show mx_W (mx_ex _ _ _ _ [_, _] _ _ _) _
    have F2 : ∀ a, ¬ a = 39 → a < 43 ∨ 45 < a → g2 a = h a := fun b x y => by rw [f2 b y, mx_u_a x]; exact f b x y
    have G2 : g2 39 = mv σ a t := by rw [f2 39 (by decide)]; exact G1
    have ih := fun l5 => c_which_l hS w hσ (t := t + 1) (e := t) (l5 := l5) a0 a1 (by omega) (by omega) t0 q F2 G2 hX
    by_cases y : ew (mv σ a t) 63
    · simp (disch := omega) only [mx_vt_h, mx_vt_m, mx_cmp_0, mx_cmp_1, mx_cmp_2, mx_cmp_3, mx_cmp_4, mx_u_s, mx_u_a, mx_u_k, mx_z_a, mx_z_s, mx_t_a, mx_t_2, mx_t_1, mx_t_0, mx_gd_T, mx_gd_t, mx_br_T, mx_br_F, mx_br_t, mx_br_f, mx_br_n, mx_cl_T, mx_cl_t, mx_re_T, mx_re_t, mx_rt_v, mx_rt_0, mx_cu_t, mx_w_id, mx_l_id, mx_b_0, mx_b_1, mx_b_r, mx_nl_0, mx_nl_1, mx_nl_2, mx_nl_n, mx_nl_l, mx_sw_n, mx_sw_h, mx_sw_m, Int.reduceLE, Int.reduceLT, Int.reduceEq, Int.reduceAdd, Int.reduceSub, Int.reduceMul, Int.reduceNeg, Int.reduceToNat, and_self, true_and, and_true, false_and, and_false, true_or, or_true, false_or, or_false, not_true_eq_false, not_false_eq_true, eq_self, rw_X12_which, mx_b_t y]
      rw [wh_t t0 q y]; exact ih _
    · have z : mx_or (wh σ a t) 0 = wh σ a (t + 1) := by rw [← wh_f y]; unfold wh; exact bm_or0 (by decide)
      simp (disch := omega) only [mx_vt_h, mx_vt_m, mx_cmp_0, mx_cmp_1, mx_cmp_2, mx_cmp_3, mx_cmp_4, mx_u_s, mx_u_a, mx_u_k, mx_z_a, mx_z_s, mx_t_a, mx_t_2, mx_t_1, mx_t_0, mx_gd_T, mx_gd_t, mx_br_T, mx_br_F, mx_br_t, mx_br_f, mx_br_n, mx_cl_T, mx_cl_t, mx_re_T, mx_re_t, mx_rt_v, mx_rt_0, mx_cu_t, mx_w_id, mx_l_id, mx_b_0, mx_b_1, mx_b_r, mx_nl_0, mx_nl_1, mx_nl_2, mx_nl_n, mx_nl_l, mx_sw_n, mx_sw_h, mx_sw_m, Int.reduceLE, Int.reduceLT, Int.reduceEq, Int.reduceAdd, Int.reduceSub, Int.reduceMul, Int.reduceNeg, Int.reduceToNat, and_self, true_and, and_true, false_and, and_false, true_or, or_true, false_or, or_false, not_true_eq_false, not_false_eq_true, eq_self, rw_X12_which, mx_b_f y]
      rw [z]; exact ih _
  · have e3 : t = 3 := by omega
    subst e3
    have he := (w.n a a0 a1).e
    have cm := c_move (d := d + 5) (n := n) hS wg a0 ag he.1 he.2
    simp (disch := omega) only [mx_vt_h, mx_vt_m, mx_cmp_0, mx_cmp_1, mx_cmp_2, mx_cmp_3, mx_cmp_4, mx_u_s, mx_u_a, mx_u_k, mx_z_a, mx_z_s, mx_t_a, mx_t_2, mx_t_1, mx_t_0, mx_gd_T, mx_gd_t, mx_br_T, mx_br_F, mx_br_t, mx_br_f, mx_br_n, mx_cl_T, mx_cl_t, mx_re_T, mx_re_t, mx_rt_v, mx_rt_0, mx_cu_t, mx_w_id, mx_l_id, mx_b_0, mx_b_1, mx_b_r, mx_nl_0, mx_nl_1, mx_nl_2, mx_nl_n, mx_nl_l, mx_sw_n, mx_sw_h, mx_sw_m, Int.reduceLE, Int.reduceLT, Int.reduceEq, Int.reduceAdd, Int.reduceSub, Int.reduceMul, Int.reduceNeg, Int.reduceToNat, and_self, true_and, and_true, false_and, and_false, true_or, or_true, false_or, or_false, not_true_eq_false, not_false_eq_true, eq_self, rw_X12_which, hS.e, cm]
    refine mx_W_s (hX _ (fun b y => ?_))
    by_cases c : b = 39
    · rw [c, u_mv, g39, mv_m, mv_s, hσ]
    · rw [mx_u_a c]; exact f b c y
termination_by (3 - t).toNat
decreasing_by omega
theorem c_whichM (hS : sh_M S) (w : vw (h 39)) {a : Int} (a0 : 0 ≤ a) (a1 : a < h 39 0) (hX : ∀ g, (∀ a, a < 43 ∨ 45 < a → g a = h a) → Q (some (0, wh (h 39) a 3)) S g n) :
    mx_W (mx_M (d + 8) 206 [(2, 38), (0, a)] S h n) Q := by
  have hN := w.N
  have he := (w.n a a0 a1).e
  have ih := fun l5 => c_which_l (d := d) (n := n) (Q := Q) (h := h) (g := h) (t := 0) (e := it (h 39) a 1) (l5 := l5) hS w rfl a0 a1 (by decide) (by decide) he.1 he.2 (fun _ _ _ => rfl) mv_s.symm hX
  rw [wh_0] at ih
  simp (disch := omega) only [mx_vt_h, mx_vt_m, mx_cmp_0, mx_cmp_1, mx_cmp_2, mx_cmp_3, mx_cmp_4, mx_u_s, mx_u_a, mx_u_k, mx_z_a, mx_z_s, mx_t_a, mx_t_2, mx_t_1, mx_t_0, mx_gd_T, mx_gd_t, mx_br_T, mx_br_F, mx_br_t, mx_br_f, mx_br_n, mx_cl_T, mx_cl_t, mx_re_T, mx_re_t, mx_rt_v, mx_rt_0, mx_cu_t, mx_w_id, mx_l_id, mx_b_0, mx_b_1, mx_b_r, mx_nl_0, mx_nl_1, mx_nl_2, mx_nl_n, mx_nl_l, mx_sw_n, mx_sw_h, mx_sw_m, Int.reduceLE, Int.reduceLT, Int.reduceEq, Int.reduceAdd, Int.reduceSub, Int.reduceMul, Int.reduceNeg, Int.reduceToNat, and_self, true_and, and_true, false_and, and_false, true_or, or_true, false_or, or_false, not_true_eq_false, not_false_eq_true, eq_self, rw_X12_which, hS.e, c_isNote hS w, mx_b_t (c := 0 ≤ a ∧ a < h 39 0) ⟨a0, a1⟩, c_its hS]
  exact ih _
theorem c_mend_l (hS : sh_M S) (w : vw (h 39)) {k t : Int} {l3 l4 l5 l6 l7 l8 : Option mx_V} (k0 : 0 ≤ k) (k1 : k ≤ h 39 0 * 96) (t0 : 0 ≤ t) (t1 : t ≤ 2) {g : mx_H} (f : ∀ a, a < 43 ∨ 45 < a → g a = h a) (no : ∀ u, u < k → ¬ mk (h 39) u)
    (hN : ∀ g, (∀ a, a < 43 ∨ 45 < a → g a = h a) → (∀ u, ¬ mk (h 39) u) → Q (some (0, -3)) S g n)
    (hF : ∀ g u, (∀ a, a < 43 ∨ 45 < a → g a = h a) → mk (h 39) u → (∀ v, v < u → ¬ mk (h 39) v) → Q (some (0, if t = 0 then u / 96 else if t = 1 then u / 16 % 6 else u % 16)) S g n) :
    mx_W (mx_ex (d + 8) 205 25 [some (2, 38), some (0, t), some (0, k), l3, l4, l5, l6, l7, l8] [] S g n) Q := by
  have hN' := w.N
  have g39 := f 39 (by decide)
  have g390 : g 39 0 = h 39 0 := by rw [g39]
  have wg : vw (g 39) := by rw [g39]; exact w
  rw [rh_X12_mended_25]
  by_cases q : k < h 39 0 * 96
  · have next : ∀ g l3 l4 l5 l6 l7 l8, (∀ a, a < 43 ∨ 45 < a → g a = h a) → ¬ mk (h 39) k → mx_W (mx_ex (d + 8) 205 25 [some (2, 38), some (0, t), some (0, k + 1), l3, l4, l5, l6, l7, l8] [] S g n) Q :=
      fun g l3 l4 l5 l6 l7 l8 f y => c_mend_l hS w (k := k + 1) (by omega) (by omega) t0 t1 f (fun u hu => by
        by_cases c : u = k
        · rw [c]; exact y
        · exact no u (by omega)) hN hF
    have d1 : Int.tdiv k 96 = k / 96 := Int.tdiv_eq_ediv_of_nonneg k0
    have d2 : Int.tdiv k 16 = k / 16 := Int.tdiv_eq_ediv_of_nonneg k0
    have d3 : Int.tmod (k / 16) 6 = k / 16 % 6 := Int.tmod_eq_emod_of_nonneg (by omega)
    have d4 : Int.tmod k 16 = k % 16 := Int.tmod_eq_emod_of_nonneg k0
    have a0 : 0 ≤ k / 96 := by omega
    have a1 : k / 96 < h 39 0 := by omega
    have na := w.n _ a0 a1
    have nag := wg.n (k / 96) a0 (by rw [g390]; exact a1)
    have hn := na.n
    have ip := c_isPlace (d := d + 6) (n := n) (p := k / 16 % 6) hS a0 (by omega) nag
    have e1 : k % 96 / 16 = k / 16 % 6 := by omega
    have e2 : k % 96 % 16 = k % 16 := by omega
    rw [g39] at ip
    by_cases p1 : 0 ≤ k / 16 % 6 ∧ k / 16 % 6 < it (h 39) (k / 96) 3
    · rw [mx_b_t p1] at ip
      have ci := c_its (d := d + 7) (h := g) (n := n) hS (a := k / 96) (k := 4 + k / 16 % 6) a0 (by omega) (by omega) (by omega)
      rw [g39] at ci
      by_cases c : it (h 39) (k / 96) (4 + k / 16 % 6) = k % 16
      · have nx := fun l3 l4 l5 l6 l7 l8 => next g l3 l4 l5 l6 l7 l8 f (fun z => z.2.2.n (by rw [e1, e2]; exact c))
        simp (disch := omega) only [mx_vt_h, mx_vt_m, mx_cmp_0, mx_cmp_1, mx_cmp_2, mx_cmp_3, mx_cmp_4, mx_u_s, mx_u_a, mx_u_k, mx_z_a, mx_z_s, mx_t_a, mx_t_2, mx_t_1, mx_t_0, mx_gd_T, mx_gd_t, mx_br_T, mx_br_F, mx_br_t, mx_br_f, mx_br_n, mx_cl_T, mx_cl_t, mx_re_T, mx_re_t, mx_rt_v, mx_rt_0, mx_cu_t, mx_w_id, mx_l_id, mx_b_0, mx_b_1, mx_b_r, mx_nl_0, mx_nl_1, mx_nl_2, mx_nl_n, mx_nl_l, mx_sw_n, mx_sw_h, mx_sw_m, Int.reduceLE, Int.reduceLT, Int.reduceEq, Int.reduceAdd, Int.reduceSub, Int.reduceMul, Int.reduceNeg, Int.reduceToNat, and_self, true_and, and_true, false_and, and_false, true_or, or_true, false_or, or_false, not_true_eq_false, not_false_eq_true, eq_self, rw_X12_mended, rw_X12_mended_1, hS.e, g390, d1, d2, d3, d4, ip, ci, c]
        exact nx _ _ _ _ _ _
      · have ca := c_alter (d := d + 5) (h := g) (n := n) hS wg a0 (by rw [g390]; exact a1) p1.1 (by rw [g39]; exact p1.2) (s := k % 16) (by omega) (by omega)
        rw [g39] at ca
        let g1 := mx_u g 39 (9 + 10 * (k / 96) + 4 + k / 16 % 6) (k % 16)
        have G1 : g1 39 = al (h 39) (k / 96) (k / 16 % 6) (k % 16) := by simp only [g1]; rw [u_al, g39]
        have wa := al_w w a0 a1 p1.1 p1.2 (s := k % 16) (by omega) (by omega)
        have wg1 : vw (g1 39) := by rw [G1]; exact wa
        have hc := fun R hX => c_hasW (d := d) (n := n) (Q := R) (x := 63) hS wg1 hX
        rw [G1] at hc
        simp only [g1] at hc
        simp (disch := omega) only [mx_vt_h, mx_vt_m, mx_cmp_0, mx_cmp_1, mx_cmp_2, mx_cmp_3, mx_cmp_4, mx_u_s, mx_u_a, mx_u_k, mx_z_a, mx_z_s, mx_t_a, mx_t_2, mx_t_1, mx_t_0, mx_gd_T, mx_gd_t, mx_br_T, mx_br_F, mx_br_t, mx_br_f, mx_br_n, mx_cl_T, mx_cl_t, mx_re_T, mx_re_t, mx_rt_v, mx_rt_0, mx_cu_t, mx_w_id, mx_l_id, mx_b_0, mx_b_1, mx_b_r, mx_nl_0, mx_nl_1, mx_nl_2, mx_nl_n, mx_nl_l, mx_sw_n, mx_sw_h, mx_sw_m, Int.reduceLE, Int.reduceLT, Int.reduceEq, Int.reduceAdd, Int.reduceSub, Int.reduceMul, Int.reduceNeg, Int.reduceToNat, and_self, true_and, and_true, false_and, and_false, true_or, or_true, false_or, or_false, not_true_eq_false, not_false_eq_true, eq_self, rw_X12_mended, rw_X12_mended_1, hS.e, g390, d1, d2, d3, d4, ip, ci, c, ca]
        refine mx_W_r (hc _ ?_)
        intro g2 f2
        show mx_W (mx_ex _ _ _ _ [_] _ _ _) _
        have G2 : g2 39 = al (h 39) (k / 96) (k / 16 % 6) (k % 16) := by rw [f2 39 (by decide)]; exact G1
        have wg2 : vw (g2 39) := by rw [G2]; exact wa
        have ws := na.s _ p1.1 p1.2
        have cb := c_alter (d := d + 5) (h := g2) (n := n) (a := k / 96) (p := k / 16 % 6) hS wg2 a0 (by rw [G2, al_o (by omega)]; exact a1) p1.1 (by rw [G2, al_k (by omega) (by omega) (by decide) (by decide) (by omega)]; exact p1.2) ws.1 ws.2
        have back : ∀ a, a < 43 ∨ 45 < a → mx_u g2 39 (9 + 10 * (k / 96) + 4 + k / 16 % 6) (it (h 39) (k / 96) (4 + k / 16 % 6)) a = h a := by
          intro b y
          by_cases c : b = 39
          · rw [c, u_al, G2, al_m, al_e]
          · rw [mx_u_a c, f2 b y, mx_u_a c]; exact f b y
        by_cases e : ew (al (h 39) (k / 96) (k / 16 % 6) (k % 16)) 63
        · have mm : mk (h 39) k := ⟨k0, a1, by unfold ml; rw [e1, e2]; exact md.mk p1 (by omega) c e⟩
          have hF := hF _ k back mm no
          by_cases c0 : t = 0
          · subst c0
            rw [if_pos rfl] at hF
            simp (disch := omega) only [mx_vt_h, mx_vt_m, mx_cmp_0, mx_cmp_1, mx_cmp_2, mx_cmp_3, mx_cmp_4, mx_u_s, mx_u_a, mx_u_k, mx_z_a, mx_z_s, mx_t_a, mx_t_2, mx_t_1, mx_t_0, mx_gd_T, mx_gd_t, mx_br_T, mx_br_F, mx_br_t, mx_br_f, mx_br_n, mx_cl_T, mx_cl_t, mx_re_T, mx_re_t, mx_rt_v, mx_rt_0, mx_cu_t, mx_w_id, mx_l_id, mx_b_0, mx_b_1, mx_b_r, mx_nl_0, mx_nl_1, mx_nl_2, mx_nl_n, mx_nl_l, mx_sw_n, mx_sw_h, mx_sw_m, Int.reduceLE, Int.reduceLT, Int.reduceEq, Int.reduceAdd, Int.reduceSub, Int.reduceMul, Int.reduceNeg, Int.reduceToNat, and_self, true_and, and_true, false_and, and_false, true_or, or_true, false_or, or_false, not_true_eq_false, not_false_eq_true, eq_self, rw_X12_mended, rw_X12_mended_1, hS.e, mx_b_t e, cb]
            exact mx_W_s hF
          · rw [if_neg c0] at hF
            by_cases c1 : t = 1
            · subst c1
              rw [if_pos rfl] at hF
              simp (disch := omega) only [mx_vt_h, mx_vt_m, mx_cmp_0, mx_cmp_1, mx_cmp_2, mx_cmp_3, mx_cmp_4, mx_u_s, mx_u_a, mx_u_k, mx_z_a, mx_z_s, mx_t_a, mx_t_2, mx_t_1, mx_t_0, mx_gd_T, mx_gd_t, mx_br_T, mx_br_F, mx_br_t, mx_br_f, mx_br_n, mx_cl_T, mx_cl_t, mx_re_T, mx_re_t, mx_rt_v, mx_rt_0, mx_cu_t, mx_w_id, mx_l_id, mx_b_0, mx_b_1, mx_b_r, mx_nl_0, mx_nl_1, mx_nl_2, mx_nl_n, mx_nl_l, mx_sw_n, mx_sw_h, mx_sw_m, Int.reduceLE, Int.reduceLT, Int.reduceEq, Int.reduceAdd, Int.reduceSub, Int.reduceMul, Int.reduceNeg, Int.reduceToNat, and_self, true_and, and_true, false_and, and_false, true_or, or_true, false_or, or_false, not_true_eq_false, not_false_eq_true, eq_self, rw_X12_mended, rw_X12_mended_1, hS.e, mx_b_t e, cb]
              exact mx_W_s hF
            · rw [if_neg c1] at hF
              simp (disch := omega) only [mx_vt_h, mx_vt_m, mx_cmp_0, mx_cmp_1, mx_cmp_2, mx_cmp_3, mx_cmp_4, mx_u_s, mx_u_a, mx_u_k, mx_z_a, mx_z_s, mx_t_a, mx_t_2, mx_t_1, mx_t_0, mx_gd_T, mx_gd_t, mx_br_T, mx_br_F, mx_br_t, mx_br_f, mx_br_n, mx_cl_T, mx_cl_t, mx_re_T, mx_re_t, mx_rt_v, mx_rt_0, mx_cu_t, mx_w_id, mx_l_id, mx_b_0, mx_b_1, mx_b_r, mx_nl_0, mx_nl_1, mx_nl_2, mx_nl_n, mx_nl_l, mx_sw_n, mx_sw_h, mx_sw_m, Int.reduceLE, Int.reduceLT, Int.reduceEq, Int.reduceAdd, Int.reduceSub, Int.reduceMul, Int.reduceNeg, Int.reduceToNat, and_self, true_and, and_true, false_and, and_false, true_or, or_true, false_or, or_false, not_true_eq_false, not_false_eq_true, eq_self, rw_X12_mended, rw_X12_mended_1, hS.e, mx_b_t e, cb]
              exact mx_W_s hF
        · have nx := fun l3 l4 l5 l6 l7 l8 => next _ l3 l4 l5 l6 l7 l8 back (fun z => e (by have := z.2.2.e; rw [e1, e2] at this; exact this))
          simp (disch := omega) only [mx_vt_h, mx_vt_m, mx_cmp_0, mx_cmp_1, mx_cmp_2, mx_cmp_3, mx_cmp_4, mx_u_s, mx_u_a, mx_u_k, mx_z_a, mx_z_s, mx_t_a, mx_t_2, mx_t_1, mx_t_0, mx_gd_T, mx_gd_t, mx_br_T, mx_br_F, mx_br_t, mx_br_f, mx_br_n, mx_cl_T, mx_cl_t, mx_re_T, mx_re_t, mx_rt_v, mx_rt_0, mx_cu_t, mx_w_id, mx_l_id, mx_b_0, mx_b_1, mx_b_r, mx_nl_0, mx_nl_1, mx_nl_2, mx_nl_n, mx_nl_l, mx_sw_n, mx_sw_h, mx_sw_m, Int.reduceLE, Int.reduceLT, Int.reduceEq, Int.reduceAdd, Int.reduceSub, Int.reduceMul, Int.reduceNeg, Int.reduceToNat, and_self, true_and, and_true, false_and, and_false, true_or, or_true, false_or, or_false, not_true_eq_false, not_false_eq_true, eq_self, rw_X12_mended, rw_X12_mended_1, hS.e, mx_b_f e, cb]
          exact nx _ _ _ _ _ _
    · rw [mx_b_f p1] at ip
      have nx := fun l3 l4 l5 l6 l7 l8 => next g l3 l4 l5 l6 l7 l8 f (fun z => p1 (by have := z.2.2.p; rw [e1] at this; exact this))
      simp (disch := omega) only [mx_vt_h, mx_vt_m, mx_cmp_0, mx_cmp_1, mx_cmp_2, mx_cmp_3, mx_cmp_4, mx_u_s, mx_u_a, mx_u_k, mx_z_a, mx_z_s, mx_t_a, mx_t_2, mx_t_1, mx_t_0, mx_gd_T, mx_gd_t, mx_br_T, mx_br_F, mx_br_t, mx_br_f, mx_br_n, mx_cl_T, mx_cl_t, mx_re_T, mx_re_t, mx_rt_v, mx_rt_0, mx_cu_t, mx_w_id, mx_l_id, mx_b_0, mx_b_1, mx_b_r, mx_nl_0, mx_nl_1, mx_nl_2, mx_nl_n, mx_nl_l, mx_sw_n, mx_sw_h, mx_sw_m, Int.reduceLE, Int.reduceLT, Int.reduceEq, Int.reduceAdd, Int.reduceSub, Int.reduceMul, Int.reduceNeg, Int.reduceToNat, and_self, true_and, and_true, false_and, and_false, true_or, or_true, false_or, or_false, not_true_eq_false, not_false_eq_true, eq_self, rw_X12_mended, rw_X12_mended_1, hS.e, g390, d1, d2, d3, d4, ip]
      exact nx _ _ _ _ _ _
  · have e : k = h 39 0 * 96 := by omega
    subst e
    simp (disch := omega) only [mx_vt_h, mx_vt_m, mx_cmp_0, mx_cmp_1, mx_cmp_2, mx_cmp_3, mx_cmp_4, mx_u_s, mx_u_a, mx_u_k, mx_z_a, mx_z_s, mx_t_a, mx_t_2, mx_t_1, mx_t_0, mx_gd_T, mx_gd_t, mx_br_T, mx_br_F, mx_br_t, mx_br_f, mx_br_n, mx_cl_T, mx_cl_t, mx_re_T, mx_re_t, mx_rt_v, mx_rt_0, mx_cu_t, mx_w_id, mx_l_id, mx_b_0, mx_b_1, mx_b_r, mx_nl_0, mx_nl_1, mx_nl_2, mx_nl_n, mx_nl_l, mx_sw_n, mx_sw_h, mx_sw_m, Int.reduceLE, Int.reduceLT, Int.reduceEq, Int.reduceAdd, Int.reduceSub, Int.reduceMul, Int.reduceNeg, Int.reduceToNat, and_self, true_and, and_true, false_and, and_false, true_or, or_true, false_or, or_false, not_true_eq_false, not_false_eq_true, eq_self, rw_X12_mended, rw_X12_mended_1, hS.e, g390]
    exact mx_W_s (hN g f (fun u z => no u (by have := z.2.1; omega) z))
termination_by (h 39 0 * 96 - k).toNat
decreasing_by omega
end
