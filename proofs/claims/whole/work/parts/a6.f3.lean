/-! judge: one row -/
def bqr (σ R : Int → Int) : Nat → Int → Int
  | 0 => fun _ => 0
  | i + 1 => fun e => if e = it σ i 1 then R (3 * i + 1) else bqr σ R i e
/-- a row is right, those ahead of it being so -/
def okr (σ R : Int → Int) (i : Nat) : Prop :=
  (i : Int) < σ 0 ∧ R (3 * i) = i ∧ (σ (3 + 2 * it σ i 1) ≤ R (3 * i + 1) ∧ R (3 * i + 1) ≤ σ (3 + 2 * it σ i 1 + 1)) ∧ (bqr σ R i (it σ i 1) = 0 ∨ bqr σ R i (it σ i 1) = R (3 * i + 1)) ∧ cb σ i (R (3 * i + 1)) ∧ wo σ i (R (3 * i + 1)) = R (3 * i + 2)
section
variable {L : Nat} {x : Nat → Int32} {S T h g : mx_H} {n m c : Int} {d : Nat}
theorem c_irr (s : shp S L) {σ R : Int → Int} {i : Nat} (r : rr S h n 3 σ) (w : vw σ) (i5 : (i : Int) ≤ 5) (R0 : h 30 (i * 3) = R (3 * i)) (R1 : h 30 (i * 3 + 1) = R (3 * i + 1)) (R2 : h 30 (i * 3 + 2) = R (3 * i + 2)) (b : ∀ e, 0 ≤ e → e ≤ 2 → h 31 e = bqr σ R i e) :
    ∃ g, mx_M (d + 4) 143 [(2, 0), (0, i)] S h n = some (some (0, mx_b (okr σ R i)), S, g, n) ∧ (∀ b, ¬ b = 31 → g b = h b) ∧ (okr σ R i → ∀ e, 0 ≤ e → e ≤ 2 → g 31 e = bqr σ R (i + 1) e) := by
  have hX := s.x.e
  have hF := s.f.e
  have hN := w.N
  have i0 : (0 : Int) ≤ i := by omega
  by_cases q1 : (i : Int) < σ 0
  · have na : mx_M (d + 3) 90 [(2, 3), (0, i)] S h n = some (some (2, S 7 i), S, h, n) := c_noteAt1 (d := d + 3) (n := n) s.f.v r w i0 q1
    have n1 : nr S h n (S 7 i) σ i := r.n i i0 q1
    have wi := w.n i i0 q1
    have ki := wi.k
    have ei := wi.e
    have p0 := n1.p0
    have t1 := n1.t
    have lo : h 4 (it σ i 1) = σ (3 + 2 * it σ i 1) := r.lo _ ei.1 ei.2
    have hi : h 5 (it σ i 1) = σ (3 + 2 * it σ i 1 + 1) := r.hi _ ei.1 ei.2
    have we := w.e _ ei.1 ei.2
    by_cases q2 : R (3 * i) = i
    · by_cases q3 : σ (3 + 2 * it σ i 1) ≤ R (3 * i + 1)
      · by_cases q4 : R (3 * i + 1) ≤ σ (3 + 2 * it σ i 1 + 1)
        · have be := b _ ei.1 ei.2
          by_cases q5 : bqr σ R i (it σ i 1) = 0 ∨ bqr σ R i (it σ i 1) = R (3 * i + 1)
          · have o1 : ∀ q, ¬ q = 31 → mx_u h 31 (it σ i 1) (R (3 * i + 1)) q = h q := fun q z => mx_u_a z
            have n2 : nr S (mx_u h 31 (it σ i 1) (R (3 * i + 1))) n (S 7 i) σ i := n1.gg (fun _ _ _ => rfl) (fun q a _ => o1 q (by omega)) (Int.le_refl _)
            have cc := fun m pc L st => c_canV (d := d + 2) (n := n) (m := m) (pc := pc) (L := L) (st := st) n2 wi (b := R (3 * i + 1)) (by omega) (by omega)
            have cw := fun m pc L st => c_worthV (d := d + 2) (n := n) (m := m) (pc := pc) (L := L) (st := st) n2 wi (b := R (3 * i + 1)) (by omega) (by omega) rfl
            simp only [t1] at cc cw
            refine ⟨mx_u h 31 (it σ i 1) (R (3 * i + 1)), ?_, o1, ?_⟩
            · by_cases q6 : cb σ i (R (3 * i + 1))
              · by_cases q7 : wo σ i (R (3 * i + 1)) = R (3 * i + 2)
                · rw [mx_b_t ⟨q1, q2, ⟨q3, q4⟩, q5, q6, q7⟩]
                  rcases q5 with q5 | q5
                  · simp (disch := omega) only [mx_vt_h, mx_vt_m, mx_cmp_0, mx_cmp_1, mx_cmp_2, mx_cmp_3, mx_cmp_4, mx_u_s, mx_u_a, mx_u_k, mx_z_a, mx_z_s, mx_t_a, mx_t_2, mx_t_1, mx_t_0, mx_gd_T, mx_gd_t, mx_br_T, mx_br_F, mx_br_t, mx_br_f, mx_br_n, mx_cl_T, mx_cl_t, mx_re_T, mx_re_t, mx_rt_v, mx_rt_0, mx_cu_t, mx_w_id, mx_l_id, mx_b_0, mx_b_1, mx_b_r, mx_nl_0, mx_nl_1, mx_nl_2, mx_nl_n, mx_nl_l, mx_sw_n, mx_sw_h, mx_sw_m, Int.reduceLE, Int.reduceLT, Int.reduceEq, Int.reduceAdd, Int.reduceSub, Int.reduceMul, Int.reduceNeg, Int.reduceToNat, and_self, true_and, and_true, false_and, and_false, true_or, or_true, false_or, or_false, not_true_eq_false, not_false_eq_true, eq_self, rw_X11_isRightRow, rw_X11_isRightRow_1, hX, hF, na, R0, R1, R2, q2, t1, n1.e, lo, hi, be, q5, cc, mx_b_t q6, cw, q7]
                  · by_cases z0 : R (3 * i + 1) = 0
                    · omega
                    · simp (disch := omega) only [mx_vt_h, mx_vt_m, mx_cmp_0, mx_cmp_1, mx_cmp_2, mx_cmp_3, mx_cmp_4, mx_u_s, mx_u_a, mx_u_k, mx_z_a, mx_z_s, mx_t_a, mx_t_2, mx_t_1, mx_t_0, mx_gd_T, mx_gd_t, mx_br_T, mx_br_F, mx_br_t, mx_br_f, mx_br_n, mx_cl_T, mx_cl_t, mx_re_T, mx_re_t, mx_rt_v, mx_rt_0, mx_cu_t, mx_w_id, mx_l_id, mx_b_0, mx_b_1, mx_b_r, mx_nl_0, mx_nl_1, mx_nl_2, mx_nl_n, mx_nl_l, mx_sw_n, mx_sw_h, mx_sw_m, Int.reduceLE, Int.reduceLT, Int.reduceEq, Int.reduceAdd, Int.reduceSub, Int.reduceMul, Int.reduceNeg, Int.reduceToNat, and_self, true_and, and_true, false_and, and_false, true_or, or_true, false_or, or_false, not_true_eq_false, not_false_eq_true, eq_self, rw_X11_isRightRow, rw_X11_isRightRow_1, hX, hF, na, R0, R1, R2, q2, t1, n1.e, lo, hi, be, q5, cc, mx_b_t q6, cw, q7]
                · rw [mx_b_f (fun z => q7 z.2.2.2.2.2)]
                  rcases q5 with q5 | q5
                  · simp (disch := omega) only [mx_vt_h, mx_vt_m, mx_cmp_0, mx_cmp_1, mx_cmp_2, mx_cmp_3, mx_cmp_4, mx_u_s, mx_u_a, mx_u_k, mx_z_a, mx_z_s, mx_t_a, mx_t_2, mx_t_1, mx_t_0, mx_gd_T, mx_gd_t, mx_br_T, mx_br_F, mx_br_t, mx_br_f, mx_br_n, mx_cl_T, mx_cl_t, mx_re_T, mx_re_t, mx_rt_v, mx_rt_0, mx_cu_t, mx_w_id, mx_l_id, mx_b_0, mx_b_1, mx_b_r, mx_nl_0, mx_nl_1, mx_nl_2, mx_nl_n, mx_nl_l, mx_sw_n, mx_sw_h, mx_sw_m, Int.reduceLE, Int.reduceLT, Int.reduceEq, Int.reduceAdd, Int.reduceSub, Int.reduceMul, Int.reduceNeg, Int.reduceToNat, and_self, true_and, and_true, false_and, and_false, true_or, or_true, false_or, or_false, not_true_eq_false, not_false_eq_true, eq_self, rw_X11_isRightRow, rw_X11_isRightRow_1, hX, hF, na, R0, R1, R2, q2, t1, n1.e, lo, hi, be, q5, cc, mx_b_t q6, cw, q7]
                  · simp (disch := omega) only [mx_vt_h, mx_vt_m, mx_cmp_0, mx_cmp_1, mx_cmp_2, mx_cmp_3, mx_cmp_4, mx_u_s, mx_u_a, mx_u_k, mx_z_a, mx_z_s, mx_t_a, mx_t_2, mx_t_1, mx_t_0, mx_gd_T, mx_gd_t, mx_br_T, mx_br_F, mx_br_t, mx_br_f, mx_br_n, mx_cl_T, mx_cl_t, mx_re_T, mx_re_t, mx_rt_v, mx_rt_0, mx_cu_t, mx_w_id, mx_l_id, mx_b_0, mx_b_1, mx_b_r, mx_nl_0, mx_nl_1, mx_nl_2, mx_nl_n, mx_nl_l, mx_sw_n, mx_sw_h, mx_sw_m, Int.reduceLE, Int.reduceLT, Int.reduceEq, Int.reduceAdd, Int.reduceSub, Int.reduceMul, Int.reduceNeg, Int.reduceToNat, and_self, true_and, and_true, false_and, and_false, true_or, or_true, false_or, or_false, not_true_eq_false, not_false_eq_true, eq_self, rw_X11_isRightRow, rw_X11_isRightRow_1, hX, hF, na, R0, R1, R2, q2, t1, n1.e, lo, hi, be, q5, cc, mx_b_t q6, cw, q7]
              · rw [mx_b_f (fun z => q6 z.2.2.2.2.1)]
                rcases q5 with q5 | q5
                · simp (disch := omega) only [mx_vt_h, mx_vt_m, mx_cmp_0, mx_cmp_1, mx_cmp_2, mx_cmp_3, mx_cmp_4, mx_u_s, mx_u_a, mx_u_k, mx_z_a, mx_z_s, mx_t_a, mx_t_2, mx_t_1, mx_t_0, mx_gd_T, mx_gd_t, mx_br_T, mx_br_F, mx_br_t, mx_br_f, mx_br_n, mx_cl_T, mx_cl_t, mx_re_T, mx_re_t, mx_rt_v, mx_rt_0, mx_cu_t, mx_w_id, mx_l_id, mx_b_0, mx_b_1, mx_b_r, mx_nl_0, mx_nl_1, mx_nl_2, mx_nl_n, mx_nl_l, mx_sw_n, mx_sw_h, mx_sw_m, Int.reduceLE, Int.reduceLT, Int.reduceEq, Int.reduceAdd, Int.reduceSub, Int.reduceMul, Int.reduceNeg, Int.reduceToNat, and_self, true_and, and_true, false_and, and_false, true_or, or_true, false_or, or_false, not_true_eq_false, not_false_eq_true, eq_self, rw_X11_isRightRow, rw_X11_isRightRow_1, hX, hF, na, R0, R1, R2, q2, t1, n1.e, lo, hi, be, q5, cc, mx_b_f q6]
                · simp (disch := omega) only [mx_vt_h, mx_vt_m, mx_cmp_0, mx_cmp_1, mx_cmp_2, mx_cmp_3, mx_cmp_4, mx_u_s, mx_u_a, mx_u_k, mx_z_a, mx_z_s, mx_t_a, mx_t_2, mx_t_1, mx_t_0, mx_gd_T, mx_gd_t, mx_br_T, mx_br_F, mx_br_t, mx_br_f, mx_br_n, mx_cl_T, mx_cl_t, mx_re_T, mx_re_t, mx_rt_v, mx_rt_0, mx_cu_t, mx_w_id, mx_l_id, mx_b_0, mx_b_1, mx_b_r, mx_nl_0, mx_nl_1, mx_nl_2, mx_nl_n, mx_nl_l, mx_sw_n, mx_sw_h, mx_sw_m, Int.reduceLE, Int.reduceLT, Int.reduceEq, Int.reduceAdd, Int.reduceSub, Int.reduceMul, Int.reduceNeg, Int.reduceToNat, and_self, true_and, and_true, false_and, and_false, true_or, or_true, false_or, or_false, not_true_eq_false, not_false_eq_true, eq_self, rw_X11_isRightRow, rw_X11_isRightRow_1, hX, hF, na, R0, R1, R2, q2, t1, n1.e, lo, hi, be, q5, cc, mx_b_f q6]
            · intro _ e e0 e1
              simp only [bqr]
              by_cases z : e = it σ i 1
              · rw [if_pos z, z, mx_u_s]
              · rw [if_neg z, mx_u_k z]; exact b e e0 e1
          · refine ⟨h, ?_, fun _ _ => rfl, fun z => absurd z.2.2.2.1 q5⟩
            rw [mx_b_f (fun z => q5 z.2.2.2.1)]
            have q51 : ¬ bqr σ R i (it σ i 1) = 0 := fun z => q5 (Or.inl z)
            have q52 : ¬ bqr σ R i (it σ i 1) = R (3 * i + 1) := fun z => q5 (Or.inr z)
            simp (disch := omega) only [mx_vt_h, mx_vt_m, mx_cmp_0, mx_cmp_1, mx_cmp_2, mx_cmp_3, mx_cmp_4, mx_u_s, mx_u_a, mx_u_k, mx_z_a, mx_z_s, mx_t_a, mx_t_2, mx_t_1, mx_t_0, mx_gd_T, mx_gd_t, mx_br_T, mx_br_F, mx_br_t, mx_br_f, mx_br_n, mx_cl_T, mx_cl_t, mx_re_T, mx_re_t, mx_rt_v, mx_rt_0, mx_cu_t, mx_w_id, mx_l_id, mx_b_0, mx_b_1, mx_b_r, mx_nl_0, mx_nl_1, mx_nl_2, mx_nl_n, mx_nl_l, mx_sw_n, mx_sw_h, mx_sw_m, Int.reduceLE, Int.reduceLT, Int.reduceEq, Int.reduceAdd, Int.reduceSub, Int.reduceMul, Int.reduceNeg, Int.reduceToNat, and_self, true_and, and_true, false_and, and_false, true_or, or_true, false_or, or_false, not_true_eq_false, not_false_eq_true, eq_self, rw_X11_isRightRow, rw_X11_isRightRow_1, hX, hF, na, R0, R1, R2, q2, t1, n1.e, lo, hi, be]
        · refine ⟨h, ?_, fun _ _ => rfl, fun z => absurd z.2.2.1.2 q4⟩
          rw [mx_b_f (fun z => q4 z.2.2.1.2)]
          simp (disch := omega) only [mx_vt_h, mx_vt_m, mx_cmp_0, mx_cmp_1, mx_cmp_2, mx_cmp_3, mx_cmp_4, mx_u_s, mx_u_a, mx_u_k, mx_z_a, mx_z_s, mx_t_a, mx_t_2, mx_t_1, mx_t_0, mx_gd_T, mx_gd_t, mx_br_T, mx_br_F, mx_br_t, mx_br_f, mx_br_n, mx_cl_T, mx_cl_t, mx_re_T, mx_re_t, mx_rt_v, mx_rt_0, mx_cu_t, mx_w_id, mx_l_id, mx_b_0, mx_b_1, mx_b_r, mx_nl_0, mx_nl_1, mx_nl_2, mx_nl_n, mx_nl_l, mx_sw_n, mx_sw_h, mx_sw_m, Int.reduceLE, Int.reduceLT, Int.reduceEq, Int.reduceAdd, Int.reduceSub, Int.reduceMul, Int.reduceNeg, Int.reduceToNat, and_self, true_and, and_true, false_and, and_false, true_or, or_true, false_or, or_false, not_true_eq_false, not_false_eq_true, eq_self, rw_X11_isRightRow, rw_X11_isRightRow_1, hX, hF, na, R0, R1, R2, q2, t1, n1.e, lo, hi]
      · refine ⟨h, ?_, fun _ _ => rfl, fun z => absurd z.2.2.1.1 q3⟩
        rw [mx_b_f (fun z => q3 z.2.2.1.1)]
        simp (disch := omega) only [mx_vt_h, mx_vt_m, mx_cmp_0, mx_cmp_1, mx_cmp_2, mx_cmp_3, mx_cmp_4, mx_u_s, mx_u_a, mx_u_k, mx_z_a, mx_z_s, mx_t_a, mx_t_2, mx_t_1, mx_t_0, mx_gd_T, mx_gd_t, mx_br_T, mx_br_F, mx_br_t, mx_br_f, mx_br_n, mx_cl_T, mx_cl_t, mx_re_T, mx_re_t, mx_rt_v, mx_rt_0, mx_cu_t, mx_w_id, mx_l_id, mx_b_0, mx_b_1, mx_b_r, mx_nl_0, mx_nl_1, mx_nl_2, mx_nl_n, mx_nl_l, mx_sw_n, mx_sw_h, mx_sw_m, Int.reduceLE, Int.reduceLT, Int.reduceEq, Int.reduceAdd, Int.reduceSub, Int.reduceMul, Int.reduceNeg, Int.reduceToNat, and_self, true_and, and_true, false_and, and_false, true_or, or_true, false_or, or_false, not_true_eq_false, not_false_eq_true, eq_self, rw_X11_isRightRow, rw_X11_isRightRow_1, hX, hF, na, R0, R1, R2, q2, t1, n1.e, lo, hi]
    · refine ⟨h, ?_, fun _ _ => rfl, fun z => absurd z.2.1 q2⟩
      rw [mx_b_f (fun z => q2 z.2.1)]
      simp (disch := omega) only [mx_vt_h, mx_vt_m, mx_cmp_0, mx_cmp_1, mx_cmp_2, mx_cmp_3, mx_cmp_4, mx_u_s, mx_u_a, mx_u_k, mx_z_a, mx_z_s, mx_t_a, mx_t_2, mx_t_1, mx_t_0, mx_gd_T, mx_gd_t, mx_br_T, mx_br_F, mx_br_t, mx_br_f, mx_br_n, mx_cl_T, mx_cl_t, mx_re_T, mx_re_t, mx_rt_v, mx_rt_0, mx_cu_t, mx_w_id, mx_l_id, mx_b_0, mx_b_1, mx_b_r, mx_nl_0, mx_nl_1, mx_nl_2, mx_nl_n, mx_nl_l, mx_sw_n, mx_sw_h, mx_sw_m, Int.reduceLE, Int.reduceLT, Int.reduceEq, Int.reduceAdd, Int.reduceSub, Int.reduceMul, Int.reduceNeg, Int.reduceToNat, and_self, true_and, and_true, false_and, and_false, true_or, or_true, false_or, or_false, not_true_eq_false, not_false_eq_true, eq_self, rw_X11_isRightRow, rw_X11_isRightRow_1, hX, hF, na, R0, q2]
  · refine ⟨h, ?_, fun _ _ => rfl, fun z => absurd z.1 q1⟩
    rw [mx_b_f (fun z => q1 z.1)]
    have na := c_noteAt (d := d + 3) (n := n) (i := i) s.f.v r w
    rw [if_neg (fun z => q1 z.2)] at na
    simp (disch := omega) only [mx_vt_h, mx_vt_m, mx_cmp_0, mx_cmp_1, mx_cmp_2, mx_cmp_3, mx_cmp_4, mx_u_s, mx_u_a, mx_u_k, mx_z_a, mx_z_s, mx_t_a, mx_t_2, mx_t_1, mx_t_0, mx_gd_T, mx_gd_t, mx_br_T, mx_br_F, mx_br_t, mx_br_f, mx_br_n, mx_cl_T, mx_cl_t, mx_re_T, mx_re_t, mx_rt_v, mx_rt_0, mx_cu_t, mx_w_id, mx_l_id, mx_b_0, mx_b_1, mx_b_r, mx_nl_0, mx_nl_1, mx_nl_2, mx_nl_n, mx_nl_l, mx_sw_n, mx_sw_h, mx_sw_m, Int.reduceLE, Int.reduceLT, Int.reduceEq, Int.reduceAdd, Int.reduceSub, Int.reduceMul, Int.reduceNeg, Int.reduceToNat, and_self, true_and, and_true, false_and, and_false, true_or, or_true, false_or, or_false, not_true_eq_false, not_false_eq_true, eq_self, rw_X11_isRightRow, rw_X11_isRightRow_1, hX, hF, na]
theorem c_irM (hM : sh_M S) {i : Nat} (w : vw (h 39)) (i5 : (i : Int) ≤ 5) (b : ∀ e, 0 ≤ e → e ≤ 2 → h 43 e = bqr (h 39) (h 46) i e) :
    ∃ g, mx_M (d + 4) 223 [(2, 38), (0, i)] S h n = some (some (0, mx_b (okr (h 39) (h 46) i)), S, g, n) ∧ (∀ b, ¬ b = 43 → g b = h b) ∧ (okr (h 39) (h 46) i → ∀ e, 0 ≤ e → e ≤ 2 → g 43 e = bqr (h 39) (h 46) (i + 1) e) := by
  have hM1 := hM.e
  have hN := w.N
  have i0 : (0 : Int) ≤ i := by omega
  have cn := c_isNote (d := d + 2) (n := n) (h := h) (v := i) hM w
  by_cases q1 : (i : Int) < h 39 0
  · rw [mx_b_t ⟨i0, q1⟩] at cn
    have wi := w.n i i0 q1
    have ei := wi.e
    have we := w.e _ ei.1 ei.2
    have ci := c_its (d := d + 3) (n := n) (h := h) (a := i) (k := 1) hM i0 (by omega) (by decide) (by omega)
    by_cases q2 : h 46 (3 * i) = i
    · by_cases q8 : 2 ≤ h 46 (3 * i + 1) ∧ h 46 (3 * i + 1) ≤ 16
      · have be := b _ ei.1 ei.2
        have cc := c_canBe (d := d + 1) (n := n) (h := h) (a := i) (b := h 46 (3 * i + 1)) hM i0 (by omega) wi q8.1 q8.2
        have o1 : ∀ q, ¬ q = 43 → mx_u h 43 (it (h 39) i 1) (h 46 (3 * i + 1)) q = h q := fun q z => mx_u_a z
        have cw := c_worthBy (d := d + 1) (n := n) (h := mx_u h 43 (it (h 39) i 1) (h 46 (3 * i + 1))) (a := i) (b := h 46 (3 * i + 1)) hM i0 (by omega) (by rw [o1 39 (by decide)]; exact wi) q8.1 q8.2
        rw [o1 39 (by decide)] at cw
        refine ⟨mx_u h 43 (it (h 39) i 1) (h 46 (3 * i + 1)), ?_, o1, ?_⟩
        · by_cases q3 : h 39 (3 + 2 * it (h 39) i 1) ≤ h 46 (3 * i + 1) ∧ h 46 (3 * i + 1) ≤ h 39 (3 + 2 * it (h 39) i 1 + 1)
          · by_cases q5 : bqr (h 39) (h 46) i (it (h 39) i 1) = 0 ∨ bqr (h 39) (h 46) i (it (h 39) i 1) = h 46 (3 * i + 1)
            · by_cases q6 : cb (h 39) i (h 46 (3 * i + 1))
              · by_cases q7 : wo (h 39) i (h 46 (3 * i + 1)) = h 46 (3 * i + 2)
                · rw [mx_b_t ⟨q1, q2, q3, q5, q6, q7⟩]
                  rcases q5 with q5 | q5
                  · simp (disch := omega) only [mx_vt_h, mx_vt_m, mx_cmp_0, mx_cmp_1, mx_cmp_2, mx_cmp_3, mx_cmp_4, mx_u_s, mx_u_a, mx_u_k, mx_z_a, mx_z_s, mx_t_a, mx_t_2, mx_t_1, mx_t_0, mx_gd_T, mx_gd_t, mx_br_T, mx_br_F, mx_br_t, mx_br_f, mx_br_n, mx_cl_T, mx_cl_t, mx_re_T, mx_re_t, mx_rt_v, mx_rt_0, mx_cu_t, mx_w_id, mx_l_id, mx_b_0, mx_b_1, mx_b_r, mx_nl_0, mx_nl_1, mx_nl_2, mx_nl_n, mx_nl_l, mx_sw_n, mx_sw_h, mx_sw_m, Int.reduceLE, Int.reduceLT, Int.reduceEq, Int.reduceAdd, Int.reduceSub, Int.reduceMul, Int.reduceNeg, Int.reduceToNat, and_self, true_and, and_true, false_and, and_false, true_or, or_true, false_or, or_false, not_true_eq_false, not_false_eq_true, eq_self, rw_X12_isRight, rw_X12_isRight_1, hM1, cn, q2, ci, c_in, mx_b_t q3, be, q5, cc, mx_b_t q6, cw, q7]
                  · by_cases z0 : h 46 (3 * i + 1) = 0
                    · omega
                    · simp (disch := omega) only [mx_vt_h, mx_vt_m, mx_cmp_0, mx_cmp_1, mx_cmp_2, mx_cmp_3, mx_cmp_4, mx_u_s, mx_u_a, mx_u_k, mx_z_a, mx_z_s, mx_t_a, mx_t_2, mx_t_1, mx_t_0, mx_gd_T, mx_gd_t, mx_br_T, mx_br_F, mx_br_t, mx_br_f, mx_br_n, mx_cl_T, mx_cl_t, mx_re_T, mx_re_t, mx_rt_v, mx_rt_0, mx_cu_t, mx_w_id, mx_l_id, mx_b_0, mx_b_1, mx_b_r, mx_nl_0, mx_nl_1, mx_nl_2, mx_nl_n, mx_nl_l, mx_sw_n, mx_sw_h, mx_sw_m, Int.reduceLE, Int.reduceLT, Int.reduceEq, Int.reduceAdd, Int.reduceSub, Int.reduceMul, Int.reduceNeg, Int.reduceToNat, and_self, true_and, and_true, false_and, and_false, true_or, or_true, false_or, or_false, not_true_eq_false, not_false_eq_true, eq_self, rw_X12_isRight, rw_X12_isRight_1, hM1, cn, q2, ci, c_in, mx_b_t q3, be, q5, cc, mx_b_t q6, cw, q7]
                · rw [mx_b_f (fun z => q7 z.2.2.2.2.2)]
                  have q7' : ¬ h 46 (3 * i + 2) = wo (h 39) i (h 46 (3 * i + 1)) := fun z => q7 z.symm
                  rcases q5 with q5 | q5
                  · simp (disch := omega) only [mx_vt_h, mx_vt_m, mx_cmp_0, mx_cmp_1, mx_cmp_2, mx_cmp_3, mx_cmp_4, mx_u_s, mx_u_a, mx_u_k, mx_z_a, mx_z_s, mx_t_a, mx_t_2, mx_t_1, mx_t_0, mx_gd_T, mx_gd_t, mx_br_T, mx_br_F, mx_br_t, mx_br_f, mx_br_n, mx_cl_T, mx_cl_t, mx_re_T, mx_re_t, mx_rt_v, mx_rt_0, mx_cu_t, mx_w_id, mx_l_id, mx_b_0, mx_b_1, mx_b_r, mx_nl_0, mx_nl_1, mx_nl_2, mx_nl_n, mx_nl_l, mx_sw_n, mx_sw_h, mx_sw_m, Int.reduceLE, Int.reduceLT, Int.reduceEq, Int.reduceAdd, Int.reduceSub, Int.reduceMul, Int.reduceNeg, Int.reduceToNat, and_self, true_and, and_true, false_and, and_false, true_or, or_true, false_or, or_false, not_true_eq_false, not_false_eq_true, eq_self, rw_X12_isRight, rw_X12_isRight_1, hM1, cn, q2, ci, c_in, mx_b_t q3, be, q5, cc, mx_b_t q6, cw, q7']
                  · by_cases z0 : h 46 (3 * i + 1) = 0
                    · omega
                    · simp (disch := omega) only [mx_vt_h, mx_vt_m, mx_cmp_0, mx_cmp_1, mx_cmp_2, mx_cmp_3, mx_cmp_4, mx_u_s, mx_u_a, mx_u_k, mx_z_a, mx_z_s, mx_t_a, mx_t_2, mx_t_1, mx_t_0, mx_gd_T, mx_gd_t, mx_br_T, mx_br_F, mx_br_t, mx_br_f, mx_br_n, mx_cl_T, mx_cl_t, mx_re_T, mx_re_t, mx_rt_v, mx_rt_0, mx_cu_t, mx_w_id, mx_l_id, mx_b_0, mx_b_1, mx_b_r, mx_nl_0, mx_nl_1, mx_nl_2, mx_nl_n, mx_nl_l, mx_sw_n, mx_sw_h, mx_sw_m, Int.reduceLE, Int.reduceLT, Int.reduceEq, Int.reduceAdd, Int.reduceSub, Int.reduceMul, Int.reduceNeg, Int.reduceToNat, and_self, true_and, and_true, false_and, and_false, true_or, or_true, false_or, or_false, not_true_eq_false, not_false_eq_true, eq_self, rw_X12_isRight, rw_X12_isRight_1, hM1, cn, q2, ci, c_in, mx_b_t q3, be, q5, cc, mx_b_t q6, cw, q7']
              · rw [mx_b_f (fun z => q6 z.2.2.2.2.1)]
                rcases q5 with q5 | q5
                · simp (disch := omega) only [mx_vt_h, mx_vt_m, mx_cmp_0, mx_cmp_1, mx_cmp_2, mx_cmp_3, mx_cmp_4, mx_u_s, mx_u_a, mx_u_k, mx_z_a, mx_z_s, mx_t_a, mx_t_2, mx_t_1, mx_t_0, mx_gd_T, mx_gd_t, mx_br_T, mx_br_F, mx_br_t, mx_br_f, mx_br_n, mx_cl_T, mx_cl_t, mx_re_T, mx_re_t, mx_rt_v, mx_rt_0, mx_cu_t, mx_w_id, mx_l_id, mx_b_0, mx_b_1, mx_b_r, mx_nl_0, mx_nl_1, mx_nl_2, mx_nl_n, mx_nl_l, mx_sw_n, mx_sw_h, mx_sw_m, Int.reduceLE, Int.reduceLT, Int.reduceEq, Int.reduceAdd, Int.reduceSub, Int.reduceMul, Int.reduceNeg, Int.reduceToNat, and_self, true_and, and_true, false_and, and_false, true_or, or_true, false_or, or_false, not_true_eq_false, not_false_eq_true, eq_self, rw_X12_isRight, rw_X12_isRight_1, hM1, cn, q2, ci, c_in, mx_b_t q3, be, q5, cc, mx_b_f q6]
                · by_cases z0 : h 46 (3 * i + 1) = 0
                  · omega
                  · simp (disch := omega) only [mx_vt_h, mx_vt_m, mx_cmp_0, mx_cmp_1, mx_cmp_2, mx_cmp_3, mx_cmp_4, mx_u_s, mx_u_a, mx_u_k, mx_z_a, mx_z_s, mx_t_a, mx_t_2, mx_t_1, mx_t_0, mx_gd_T, mx_gd_t, mx_br_T, mx_br_F, mx_br_t, mx_br_f, mx_br_n, mx_cl_T, mx_cl_t, mx_re_T, mx_re_t, mx_rt_v, mx_rt_0, mx_cu_t, mx_w_id, mx_l_id, mx_b_0, mx_b_1, mx_b_r, mx_nl_0, mx_nl_1, mx_nl_2, mx_nl_n, mx_nl_l, mx_sw_n, mx_sw_h, mx_sw_m, Int.reduceLE, Int.reduceLT, Int.reduceEq, Int.reduceAdd, Int.reduceSub, Int.reduceMul, Int.reduceNeg, Int.reduceToNat, and_self, true_and, and_true, false_and, and_false, true_or, or_true, false_or, or_false, not_true_eq_false, not_false_eq_true, eq_self, rw_X12_isRight, rw_X12_isRight_1, hM1, cn, q2, ci, c_in, mx_b_t q3, be, q5, cc, mx_b_f q6]
            · rw [mx_b_f (fun z => q5 z.2.2.2.1)]
              have q51 : ¬ bqr (h 39) (h 46) i (it (h 39) i 1) = 0 := fun z => q5 (Or.inl z)
              have q52 : ¬ bqr (h 39) (h 46) i (it (h 39) i 1) = h 46 (3 * i + 1) := fun z => q5 (Or.inr z)
              simp (disch := omega) only [mx_vt_h, mx_vt_m, mx_cmp_0, mx_cmp_1, mx_cmp_2, mx_cmp_3, mx_cmp_4, mx_u_s, mx_u_a, mx_u_k, mx_z_a, mx_z_s, mx_t_a, mx_t_2, mx_t_1, mx_t_0, mx_gd_T, mx_gd_t, mx_br_T, mx_br_F, mx_br_t, mx_br_f, mx_br_n, mx_cl_T, mx_cl_t, mx_re_T, mx_re_t, mx_rt_v, mx_rt_0, mx_cu_t, mx_w_id, mx_l_id, mx_b_0, mx_b_1, mx_b_r, mx_nl_0, mx_nl_1, mx_nl_2, mx_nl_n, mx_nl_l, mx_sw_n, mx_sw_h, mx_sw_m, Int.reduceLE, Int.reduceLT, Int.reduceEq, Int.reduceAdd, Int.reduceSub, Int.reduceMul, Int.reduceNeg, Int.reduceToNat, and_self, true_and, and_true, false_and, and_false, true_or, or_true, false_or, or_false, not_true_eq_false, not_false_eq_true, eq_self, rw_X12_isRight, rw_X12_isRight_1, hM1, cn, q2, ci, c_in, mx_b_t q3, be]
          · rw [mx_b_f (fun z => q3 z.2.2.1)]
            simp (disch := omega) only [mx_vt_h, mx_vt_m, mx_cmp_0, mx_cmp_1, mx_cmp_2, mx_cmp_3, mx_cmp_4, mx_u_s, mx_u_a, mx_u_k, mx_z_a, mx_z_s, mx_t_a, mx_t_2, mx_t_1, mx_t_0, mx_gd_T, mx_gd_t, mx_br_T, mx_br_F, mx_br_t, mx_br_f, mx_br_n, mx_cl_T, mx_cl_t, mx_re_T, mx_re_t, mx_rt_v, mx_rt_0, mx_cu_t, mx_w_id, mx_l_id, mx_b_0, mx_b_1, mx_b_r, mx_nl_0, mx_nl_1, mx_nl_2, mx_nl_n, mx_nl_l, mx_sw_n, mx_sw_h, mx_sw_m, Int.reduceLE, Int.reduceLT, Int.reduceEq, Int.reduceAdd, Int.reduceSub, Int.reduceMul, Int.reduceNeg, Int.reduceToNat, and_self, true_and, and_true, false_and, and_false, true_or, or_true, false_or, or_false, not_true_eq_false, not_false_eq_true, eq_self, rw_X12_isRight, rw_X12_isRight_1, hM1, cn, q2, ci, c_in, mx_b_f q3]
        · intro _ e e0 e1
          simp only [bqr]
          by_cases z : e = it (h 39) i 1
          · rw [if_pos z, z, mx_u_s]
          · rw [if_neg z, mx_u_k z]; exact b e e0 e1
      · refine ⟨h, ?_, fun _ _ => rfl, fun z => absurd z.2.2.1 (by omega)⟩
        rw [mx_b_f (fun z => by have := z.2.2.1; omega)]
        by_cases q9 : h 46 (3 * i + 1) < 2
        · simp (disch := omega) only [mx_vt_h, mx_vt_m, mx_cmp_0, mx_cmp_1, mx_cmp_2, mx_cmp_3, mx_cmp_4, mx_u_s, mx_u_a, mx_u_k, mx_z_a, mx_z_s, mx_t_a, mx_t_2, mx_t_1, mx_t_0, mx_gd_T, mx_gd_t, mx_br_T, mx_br_F, mx_br_t, mx_br_f, mx_br_n, mx_cl_T, mx_cl_t, mx_re_T, mx_re_t, mx_rt_v, mx_rt_0, mx_cu_t, mx_w_id, mx_l_id, mx_b_0, mx_b_1, mx_b_r, mx_nl_0, mx_nl_1, mx_nl_2, mx_nl_n, mx_nl_l, mx_sw_n, mx_sw_h, mx_sw_m, Int.reduceLE, Int.reduceLT, Int.reduceEq, Int.reduceAdd, Int.reduceSub, Int.reduceMul, Int.reduceNeg, Int.reduceToNat, and_self, true_and, and_true, false_and, and_false, true_or, or_true, false_or, or_false, not_true_eq_false, not_false_eq_true, eq_self, rw_X12_isRight, rw_X12_isRight_1, hM1, cn, q2]
        · simp (disch := omega) only [mx_vt_h, mx_vt_m, mx_cmp_0, mx_cmp_1, mx_cmp_2, mx_cmp_3, mx_cmp_4, mx_u_s, mx_u_a, mx_u_k, mx_z_a, mx_z_s, mx_t_a, mx_t_2, mx_t_1, mx_t_0, mx_gd_T, mx_gd_t, mx_br_T, mx_br_F, mx_br_t, mx_br_f, mx_br_n, mx_cl_T, mx_cl_t, mx_re_T, mx_re_t, mx_rt_v, mx_rt_0, mx_cu_t, mx_w_id, mx_l_id, mx_b_0, mx_b_1, mx_b_r, mx_nl_0, mx_nl_1, mx_nl_2, mx_nl_n, mx_nl_l, mx_sw_n, mx_sw_h, mx_sw_m, Int.reduceLE, Int.reduceLT, Int.reduceEq, Int.reduceAdd, Int.reduceSub, Int.reduceMul, Int.reduceNeg, Int.reduceToNat, and_self, true_and, and_true, false_and, and_false, true_or, or_true, false_or, or_false, not_true_eq_false, not_false_eq_true, eq_self, rw_X12_isRight, rw_X12_isRight_1, hM1, cn, q2]
    · refine ⟨h, ?_, fun _ _ => rfl, fun z => absurd z.2.1 q2⟩
      rw [mx_b_f (fun z => q2 z.2.1)]
      simp (disch := omega) only [mx_vt_h, mx_vt_m, mx_cmp_0, mx_cmp_1, mx_cmp_2, mx_cmp_3, mx_cmp_4, mx_u_s, mx_u_a, mx_u_k, mx_z_a, mx_z_s, mx_t_a, mx_t_2, mx_t_1, mx_t_0, mx_gd_T, mx_gd_t, mx_br_T, mx_br_F, mx_br_t, mx_br_f, mx_br_n, mx_cl_T, mx_cl_t, mx_re_T, mx_re_t, mx_rt_v, mx_rt_0, mx_cu_t, mx_w_id, mx_l_id, mx_b_0, mx_b_1, mx_b_r, mx_nl_0, mx_nl_1, mx_nl_2, mx_nl_n, mx_nl_l, mx_sw_n, mx_sw_h, mx_sw_m, Int.reduceLE, Int.reduceLT, Int.reduceEq, Int.reduceAdd, Int.reduceSub, Int.reduceMul, Int.reduceNeg, Int.reduceToNat, and_self, true_and, and_true, false_and, and_false, true_or, or_true, false_or, or_false, not_true_eq_false, not_false_eq_true, eq_self, rw_X12_isRight, rw_X12_isRight_1, hM1, cn, q2]
  · rw [mx_b_f (fun z => q1 z.2)] at cn
    refine ⟨h, ?_, fun _ _ => rfl, fun z => absurd z.1 q1⟩
    rw [mx_b_f (fun z => q1 z.1)]
    simp (disch := omega) only [mx_vt_h, mx_vt_m, mx_cmp_0, mx_cmp_1, mx_cmp_2, mx_cmp_3, mx_cmp_4, mx_u_s, mx_u_a, mx_u_k, mx_z_a, mx_z_s, mx_t_a, mx_t_2, mx_t_1, mx_t_0, mx_gd_T, mx_gd_t, mx_br_T, mx_br_F, mx_br_t, mx_br_f, mx_br_n, mx_cl_T, mx_cl_t, mx_re_T, mx_re_t, mx_rt_v, mx_rt_0, mx_cu_t, mx_w_id, mx_l_id, mx_b_0, mx_b_1, mx_b_r, mx_nl_0, mx_nl_1, mx_nl_2, mx_nl_n, mx_nl_l, mx_sw_n, mx_sw_h, mx_sw_m, Int.reduceLE, Int.reduceLT, Int.reduceEq, Int.reduceAdd, Int.reduceSub, Int.reduceMul, Int.reduceNeg, Int.reduceToNat, and_self, true_and, and_true, false_and, and_false, true_or, or_true, false_or, or_false, not_true_eq_false, not_false_eq_true, eq_self, rw_X12_isRight, rw_X12_isRight_1, hM1, cn]
end
