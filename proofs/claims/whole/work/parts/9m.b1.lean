/-! Sheets and shelves -/
theorem nr.g3 {S T h g : mx_H} {N M p i : Int} {σ : Int → Int} (r : nr S h N p σ i) (k : 0 ≤ it σ i 0 ∧ it σ i 0 ≤ 5) (sS : ∀ a, 53 ≤ a → a < N → T a = S a) (hh : ∀ a, 53 ≤ a → a < N → ¬ S a (-2) = 21 → g a = h a) (le : N ≤ M) : nr T g M p σ i := by
  have rt := r.t
  have rq := r.q
  have e1 := sS p r.p0 r.p1
  have e2 := hh p r.p0 r.p1 (by omega)
  have q : T p 2 = S p 2 := by rw [e1]
  have e3 := sS _ r.q0 r.q1
  have e4 := hh _ r.q0 r.q1 (by omega)
  refine nr.mk (by rw [e1]; exact r.t) (by rw [e2]; exact r.n) (by rw [e2]; exact r.a) (by rw [e2]; exact r.e) (by rw [q, e3]; exact r.q) (by rw [q, e3]; exact r.l) (fun k a b => by rw [q, e4]; exact r.s k a b) r.p0 (by have := r.p1; omega) (by rw [q]; exact r.q0) (by rw [q]; have := r.q1; omega)
section
variable {L : Nat} {x : Nat → Int32} {S T h g : mx_H} {n m c : Int} {d : Nat}
/-- sheets and shelves alone have changed -/
theorem Inv.B (v : Inv L x S h n c) (hc : c ≤ 599) (sf : ∀ a k, ok a k → T a k = S a k) (sn : ∀ a, a < 0 → T a = S a) (s7 : T 7 = S 7) (s21 : T 21 = S 21) (sS : ∀ a, 53 ≤ a → a < n → T a = S a)
    (f : ∀ a, a < 53 → ¬ a = 33 → ¬ a = 34 → ¬ (47 ≤ a ∧ a ≤ 51) → g a = h a) (hh : ∀ a, 53 ≤ a → a < n → ¬ S a (-2) = 21 → g a = h a) (b : shs T g m) (l : slv T g m) (le : n ≤ m) (lm : m ≤ n + 24) : Inv L x T g m (c + 1) := by
  have e0 := f 0 (by decide) (by decide) (by decide) (by decide)
  have e38 := f 38 (by decide) (by decide) (by decide) (by decide)
  have e39 := f 39 (by decide) (by decide) (by decide) (by decide)
  have e40 := f 40 (by decide) (by decide) (by decide) (by decide)
  have ff : ∀ a, a < 33 → g a = h a := fun a y => f a (by omega) (by omega) (by omega) (by omega)
  refine Inv.mk (v.s.gg sf sn) (fun a z => by rw [ff a (by omega)]; exact v.g a z) (by have := v.n; omega) (by have := v.c; omega) ?_ ?_ ?_ ?_ b l ?_ ?_
  · refine stt.mk (by rw [e39]; exact v.t.w) ?_ ?_ (by rw [e0, e39]; exact v.t.u)
    · rw [e39]
      have r := v.t.r
      refine rr.mk (by rw [ff 3 (by decide)]; exact r.c) (by rw [ff 3 (by decide)]; exact r.L) (fun e a b => by rw [ff _ (by decide)]; exact r.lo e a b) (fun e a b => by rw [ff _ (by decide)]; exact r.hi e a b) (fun l k a b x y => by rw [ff _ (by decide)]; exact r.l l k a b x y) (fun i a b => ?_)
      have := (r.n i a b).g3 (v.t.w.n i a b).k sS hh le
      show CRoomNumbersLaw_law_r7303_6997d3.nr T g m (T 7 i) (h 39) i
      rw [s7]; exact this
    · intro i j i0 i1 j0 j1 q
      rw [e39] at i1 j1
      have ni := v.nr ⟨i0, i1⟩
      have nj := v.nr ⟨j0, j1⟩
      rw [s7, sS _ ni.p0 ni.p1, sS _ nj.p0 nj.p1]
      exact v.t.d i j i0 i1 j0 j1 q
  · refine v.k.g2 e40 (by rw [e0]) (by rw [e0]) (by rw [e38]) (fun q => ?_) (fun q => ?_)
    · have r := v.k.r q
      refine rr.mk (by rw [ff 17 (by decide)]; exact r.c) (by rw [ff 17 (by decide)]; exact r.L) (fun e a b => by rw [ff _ (by decide)]; exact r.lo e a b) (fun e a b => by rw [ff _ (by decide)]; exact r.hi e a b) (fun l k a b x y => by rw [ff _ (by decide)]; exact r.l l k a b x y) (fun i a b => ?_)
      have := (r.n i a b).g3 ((v.k.w q).n i a b).k sS hh le
      show CRoomNumbersLaw_law_r7303_6997d3.nr T g m (T 21 i) (h 40) i
      rw [s21]; exact this
    · intro i j i0 i1 j0 j1
      rw [e39] at i1
      rw [e40] at j1
      have ni := v.nr ⟨i0, i1⟩
      have nj : CRoomNumbersLaw_law_r7303_6997d3.nr S h n (S 21 j) (h 40) j := (v.k.r q).n j j0 j1
      rw [s7, s21, sS _ ni.p0 ni.p1, sS _ nj.p0 nj.p1]
      exact v.k.d q i j i0 i1 j0 j1
  · exact v.p.gg (by rw [e0]) (by rw [e38]) (ff 1 (by decide)) (f 42 (by decide) (by decide) (by decide) (by decide))
  · exact v.r.gg (by rw [e0]) (by rw [e38]) (ff 30 (by decide)) (f 46 (by decide) (by decide) (by decide) (by decide))
  · exact v.i.gg (f 36 (by decide) (by decide) (by decide) (by decide)) (by rw [e38]) (f 37 (by decide) (by decide) (by decide) (by decide)) (f 52 (by decide) (by decide) (by decide) (by decide))
  · exact (v.f.gg (ff 2 (by decide)) (ff 15 (by decide)) (ff 16 (by decide)) (by rw [ff 3 (by decide)]) e39).cc
theorem a_alterRow {i k : Int} {y : Int} (hc : c ≤ 599) : ag L x 129 222 [(0, i), (0, k), (1, y)] 1 c := by
  intro d S h n v
  have hX := v.s.x.e
  have hM := v.s.m.e
  have r := v.r.r
  by_cases q : (0 ≤ i ∧ i ≤ h 38 15 - 1) ∧ 0 ≤ k ∧ k ≤ 2
  · have rt := v.r.t (i * 3 + k) (by omega) (by omega)
    have e : 3 * i + k = i * 3 + k := by omega
    simp (disch := omega) only [mx_vt_h, mx_vt_m, mx_cmp_0, mx_cmp_1, mx_cmp_2, mx_cmp_3, mx_cmp_4, mx_u_s, mx_u_a, mx_u_k, mx_z_a, mx_z_s, mx_t_a, mx_t_2, mx_t_1, mx_t_0, mx_gd_T, mx_gd_t, mx_br_T, mx_br_F, mx_br_t, mx_br_f, mx_br_n, mx_cl_T, mx_cl_t, mx_re_T, mx_re_t, mx_rt_v, mx_rt_0, mx_cu_t, mx_w_id, mx_l_id, mx_b_0, mx_b_1, mx_b_r, mx_nl_0, mx_nl_1, mx_nl_2, mx_nl_n, mx_nl_l, mx_sw_n, mx_sw_h, mx_sw_m, Int.reduceLE, Int.reduceLT, Int.reduceEq, Int.reduceAdd, Int.reduceSub, Int.reduceMul, Int.reduceNeg, Int.reduceToNat, and_self, true_and, and_true, false_and, and_false, true_or, or_true, false_or, or_false, not_true_eq_false, not_false_eq_true, eq_self, rw_X11_alterRow, hX, c_hasRow v, mx_b_t q, rt]
    refine mx_W_s ?_
    have v1 : Inv L x S (mx_u h 30 (i * 3 + k) y) n c ∨ True := Or.inr trivial
    have ir : mx_M (d + 11) 220 [(2, 38), (0, i), (0, k)] S (mx_u h 30 (i * 3 + k) y) n = some (some (0, 1), S, mx_u h 30 (i * 3 + k) y, n) := by
      simp (disch := omega) only [mx_vt_h, mx_vt_m, mx_cmp_0, mx_cmp_1, mx_cmp_2, mx_cmp_3, mx_cmp_4, mx_u_s, mx_u_a, mx_u_k, mx_z_a, mx_z_s, mx_t_a, mx_t_2, mx_t_1, mx_t_0, mx_gd_T, mx_gd_t, mx_br_T, mx_br_F, mx_br_t, mx_br_f, mx_br_n, mx_cl_T, mx_cl_t, mx_re_T, mx_re_t, mx_rt_v, mx_rt_0, mx_cu_t, mx_w_id, mx_l_id, mx_b_0, mx_b_1, mx_b_r, mx_nl_0, mx_nl_1, mx_nl_2, mx_nl_n, mx_nl_l, mx_sw_n, mx_sw_h, mx_sw_m, Int.reduceLE, Int.reduceLT, Int.reduceEq, Int.reduceAdd, Int.reduceSub, Int.reduceMul, Int.reduceNeg, Int.reduceToNat, and_self, true_and, and_true, false_and, and_false, true_or, or_true, false_or, or_false, not_true_eq_false, not_false_eq_true, eq_self, rw_X12_isRow, hM, c_in, mx_b_t q.1, mx_b_t q.2]
    simp (disch := omega) only [mx_vt_h, mx_vt_m, mx_cmp_0, mx_cmp_1, mx_cmp_2, mx_cmp_3, mx_cmp_4, mx_u_s, mx_u_a, mx_u_k, mx_z_a, mx_z_s, mx_t_a, mx_t_2, mx_t_1, mx_t_0, mx_gd_T, mx_gd_t, mx_br_T, mx_br_F, mx_br_t, mx_br_f, mx_br_n, mx_cl_T, mx_cl_t, mx_re_T, mx_re_t, mx_rt_v, mx_rt_0, mx_cu_t, mx_w_id, mx_l_id, mx_b_0, mx_b_1, mx_b_r, mx_nl_0, mx_nl_1, mx_nl_2, mx_nl_n, mx_nl_l, mx_sw_n, mx_sw_h, mx_sw_m, Int.reduceLE, Int.reduceLT, Int.reduceEq, Int.reduceAdd, Int.reduceSub, Int.reduceMul, Int.reduceNeg, Int.reduceToNat, and_self, true_and, and_true, false_and, and_false, true_or, or_true, false_or, or_false, not_true_eq_false, not_false_eq_true, eq_self, rw_X12_alterRow, hM, ir, e]
    refine mx_W_s ⟨⟨_, rfl, rfl⟩, ?_⟩
    have f : ∀ a, ¬ a = 30 → ¬ a = 46 → mx_u (mx_u h 30 (i * 3 + k) y) 46 (i * 3 + k) y a = h a := fun a u w => by rw [mx_u_a w, mx_u_a u]
    refine Inv.w (Inv.mk v.s (fun a z => by rw [f a (by omega) (by omega)]; exact v.g a z) v.n v.c ?_ ?_ ?_ ?_ ?_ ?_ ?_ ?_) hc
    · exact v.t.gg (f 39 (by decide) (by decide)) (by rw [f 0 (by decide) (by decide)]) (by rw [f 3 (by decide) (by decide)]) (by rw [f 3 (by decide) (by decide)]) (f 4 (by decide) (by decide)) (f 5 (by decide) (by decide)) (f 6 (by decide) (by decide)) rfl (fun _ _ _ => rfl) (fun a _ _ => f a (by omega) (by omega)) (Int.le_refl _)
    · exact v.k.gg v.t (f 39 (by decide) (by decide)) (f 40 (by decide) (by decide)) (by rw [f 0 (by decide) (by decide)]) (by rw [f 0 (by decide) (by decide)]) (by rw [f 38 (by decide) (by decide)]) (by rw [f 17 (by decide) (by decide)]) (by rw [f 17 (by decide) (by decide)]) (f 18 (by decide) (by decide)) (f 19 (by decide) (by decide)) (f 20 (by decide) (by decide)) rfl rfl (fun _ _ _ => rfl) (fun a _ _ => f a (by omega) (by omega)) (Int.le_refl _)
    · exact v.p.gg (by rw [f 0 (by decide) (by decide)]) (by rw [f 38 (by decide) (by decide)]) (f 1 (by decide) (by decide)) (f 42 (by decide) (by decide))
    · refine rws.mk (by rw [f 0 (by decide) (by decide), f 38 (by decide) (by decide)]; exact v.r.c) (by rw [f 38 (by decide) (by decide)]; exact v.r.r) ?_
      intro j j0 j1
      rw [f 38 (by decide) (by decide)] at j1
      by_cases z : j = i * 3 + k
      · subst z; simp (disch := omega) only [mx_u_a, mx_u_s]
      · simp (disch := omega) only [mx_u_a, mx_u_k]; exact v.r.t j j0 j1
    · exact v.b.gg (f 47 (by decide) (by decide)) (f 48 (by decide) (by decide)) (f 49 (by decide) (by decide)) rfl (fun _ _ _ => rfl) (fun a _ _ _ => f a (by omega) (by omega)) (Int.le_refl _)
    · exact v.l.gg (f 33 (by decide) (by decide)) (f 34 (by decide) (by decide)) (f 50 (by decide) (by decide)) (f 51 (by decide) (by decide)) rfl (fun _ _ _ => rfl) (fun a _ _ _ => f a (by omega) (by omega)) (Int.le_refl _)
    · exact v.i.gg (f 36 (by decide) (by decide)) (by rw [f 38 (by decide) (by decide)]) (f 37 (by decide) (by decide)) (f 52 (by decide) (by decide))
    · exact v.f.gg (f 2 (by decide) (by decide)) (f 15 (by decide) (by decide)) (f 16 (by decide) (by decide)) (by rw [f 3 (by decide) (by decide)]) (f 39 (by decide) (by decide))
  · refine ag_p v hc (y := -1000000000000) ?_ ?_
    · simp (disch := omega) only [mx_vt_h, mx_vt_m, mx_cmp_0, mx_cmp_1, mx_cmp_2, mx_cmp_3, mx_cmp_4, mx_u_s, mx_u_a, mx_u_k, mx_z_a, mx_z_s, mx_t_a, mx_t_2, mx_t_1, mx_t_0, mx_gd_T, mx_gd_t, mx_br_T, mx_br_F, mx_br_t, mx_br_f, mx_br_n, mx_cl_T, mx_cl_t, mx_re_T, mx_re_t, mx_rt_v, mx_rt_0, mx_cu_t, mx_w_id, mx_l_id, mx_b_0, mx_b_1, mx_b_r, mx_nl_0, mx_nl_1, mx_nl_2, mx_nl_n, mx_nl_l, mx_sw_n, mx_sw_h, mx_sw_m, Int.reduceLE, Int.reduceLT, Int.reduceEq, Int.reduceAdd, Int.reduceSub, Int.reduceMul, Int.reduceNeg, Int.reduceToNat, and_self, true_and, and_true, false_and, and_false, true_or, or_true, false_or, or_false, not_true_eq_false, not_false_eq_true, eq_self, rw_X11_alterRow, hX, c_hasRow v, mx_b_f q]
    · simp (disch := omega) only [mx_vt_h, mx_vt_m, mx_cmp_0, mx_cmp_1, mx_cmp_2, mx_cmp_3, mx_cmp_4, mx_u_s, mx_u_a, mx_u_k, mx_z_a, mx_z_s, mx_t_a, mx_t_2, mx_t_1, mx_t_0, mx_gd_T, mx_gd_t, mx_br_T, mx_br_F, mx_br_t, mx_br_f, mx_br_n, mx_cl_T, mx_cl_t, mx_re_T, mx_re_t, mx_rt_v, mx_rt_0, mx_cu_t, mx_w_id, mx_l_id, mx_b_0, mx_b_1, mx_b_r, mx_nl_0, mx_nl_1, mx_nl_2, mx_nl_n, mx_nl_l, mx_sw_n, mx_sw_h, mx_sw_m, Int.reduceLE, Int.reduceLT, Int.reduceEq, Int.reduceAdd, Int.reduceSub, Int.reduceMul, Int.reduceNeg, Int.reduceToNat, and_self, true_and, and_true, false_and, and_false, true_or, or_true, false_or, or_false, not_true_eq_false, not_false_eq_true, eq_self, rw_X12_alterRow, hM, c_isRow v, mx_b_f q]
theorem a_item {a s i : Int} (hc : c ≤ 599) : ag L x 134 230 [(0, a), (0, s), (0, i)] 0 c := by
  intro d S h n v
  have hX := v.s.x.e
  have hM := v.s.m.e
  by_cases q : 0 ≤ a ∧ a ≤ 3
  · by_cases s0 : 0 ≤ s ∧ s ≤ 3
    · rcases v.b.s a q.1 q.2 with ⟨h1, h2⟩ | ⟨r, ri⟩
      · refine ag_p v hc (y := -11) ?_ ?_
        · simp (disch := omega) only [mx_vt_h, mx_vt_m, mx_cmp_0, mx_cmp_1, mx_cmp_2, mx_cmp_3, mx_cmp_4, mx_u_s, mx_u_a, mx_u_k, mx_z_a, mx_z_s, mx_t_a, mx_t_2, mx_t_1, mx_t_0, mx_gd_T, mx_gd_t, mx_br_T, mx_br_F, mx_br_t, mx_br_f, mx_br_n, mx_cl_T, mx_cl_t, mx_re_T, mx_re_t, mx_rt_v, mx_rt_0, mx_cu_t, mx_w_id, mx_l_id, mx_b_0, mx_b_1, mx_b_r, mx_nl_0, mx_nl_1, mx_nl_2, mx_nl_n, mx_nl_l, mx_sw_n, mx_sw_h, mx_sw_m, Int.reduceLE, Int.reduceLT, Int.reduceEq, Int.reduceAdd, Int.reduceSub, Int.reduceMul, Int.reduceNeg, Int.reduceToNat, and_self, true_and, and_true, false_and, and_false, true_or, or_true, false_or, or_false, not_true_eq_false, not_false_eq_true, eq_self, rw_X11_item, hX, c_xSh, mx_b_t q, c_within, mx_b_t s0, h2]
        · simp (disch := omega) only [mx_vt_h, mx_vt_m, mx_cmp_0, mx_cmp_1, mx_cmp_2, mx_cmp_3, mx_cmp_4, mx_u_s, mx_u_a, mx_u_k, mx_z_a, mx_z_s, mx_t_a, mx_t_2, mx_t_1, mx_t_0, mx_gd_T, mx_gd_t, mx_br_T, mx_br_F, mx_br_t, mx_br_f, mx_br_n, mx_cl_T, mx_cl_t, mx_re_T, mx_re_t, mx_rt_v, mx_rt_0, mx_cu_t, mx_w_id, mx_l_id, mx_b_0, mx_b_1, mx_b_r, mx_nl_0, mx_nl_1, mx_nl_2, mx_nl_n, mx_nl_l, mx_sw_n, mx_sw_h, mx_sw_m, Int.reduceLE, Int.reduceLT, Int.reduceEq, Int.reduceAdd, Int.reduceSub, Int.reduceMul, Int.reduceNeg, Int.reduceToNat, and_self, true_and, and_true, false_and, and_false, true_or, or_true, false_or, or_false, not_true_eq_false, not_false_eq_true, eq_self, rw_X12_item, hM, c_mSh, mx_b_t q, c_in, mx_b_t s0, h1]
      · have hp := r.p
        have hs := r.s0
        have hz := r.z0
        have hi := r.i
        by_cases z : h 47 a = s
        · by_cases i0 : 0 ≤ i ∧ i ≤ h 48 a - 1
          · have rj := ri i i0.1 (by omega)
            refine ag_p v hc (y := mx_w (h 49 (40 * a + i))) ?_ ?_
            · simp (disch := omega) only [mx_vt_h, mx_vt_m, mx_cmp_0, mx_cmp_1, mx_cmp_2, mx_cmp_3, mx_cmp_4, mx_u_s, mx_u_a, mx_u_k, mx_z_a, mx_z_s, mx_t_a, mx_t_2, mx_t_1, mx_t_0, mx_gd_T, mx_gd_t, mx_br_T, mx_br_F, mx_br_t, mx_br_f, mx_br_n, mx_cl_T, mx_cl_t, mx_re_T, mx_re_t, mx_rt_v, mx_rt_0, mx_cu_t, mx_w_id, mx_l_id, mx_b_0, mx_b_1, mx_b_r, mx_nl_0, mx_nl_1, mx_nl_2, mx_nl_n, mx_nl_l, mx_sw_n, mx_sw_h, mx_sw_m, Int.reduceLE, Int.reduceLT, Int.reduceEq, Int.reduceAdd, Int.reduceSub, Int.reduceMul, Int.reduceNeg, Int.reduceToNat, and_self, true_and, and_true, false_and, and_false, true_or, or_true, false_or, or_false, not_true_eq_false, not_false_eq_true, eq_self, rw_X11_item, hX, c_xSh, mx_b_t q, c_within, mx_b_t s0, r.t, r.s, z, r.q, r.l, mx_b_t i0, rj]
            · simp (disch := omega) only [mx_vt_h, mx_vt_m, mx_cmp_0, mx_cmp_1, mx_cmp_2, mx_cmp_3, mx_cmp_4, mx_u_s, mx_u_a, mx_u_k, mx_z_a, mx_z_s, mx_t_a, mx_t_2, mx_t_1, mx_t_0, mx_gd_T, mx_gd_t, mx_br_T, mx_br_F, mx_br_t, mx_br_f, mx_br_n, mx_cl_T, mx_cl_t, mx_re_T, mx_re_t, mx_rt_v, mx_rt_0, mx_cu_t, mx_w_id, mx_l_id, mx_b_0, mx_b_1, mx_b_r, mx_nl_0, mx_nl_1, mx_nl_2, mx_nl_n, mx_nl_l, mx_sw_n, mx_sw_h, mx_sw_m, Int.reduceLE, Int.reduceLT, Int.reduceEq, Int.reduceAdd, Int.reduceSub, Int.reduceMul, Int.reduceNeg, Int.reduceToNat, and_self, true_and, and_true, false_and, and_false, true_or, or_true, false_or, or_false, not_true_eq_false, not_false_eq_true, eq_self, rw_X12_item, hM, c_mSh, mx_b_t q, c_in, mx_b_t s0, z, mx_b_t i0]
          · refine ag_p v hc (y := -12) ?_ ?_
            · simp (disch := omega) only [mx_vt_h, mx_vt_m, mx_cmp_0, mx_cmp_1, mx_cmp_2, mx_cmp_3, mx_cmp_4, mx_u_s, mx_u_a, mx_u_k, mx_z_a, mx_z_s, mx_t_a, mx_t_2, mx_t_1, mx_t_0, mx_gd_T, mx_gd_t, mx_br_T, mx_br_F, mx_br_t, mx_br_f, mx_br_n, mx_cl_T, mx_cl_t, mx_re_T, mx_re_t, mx_rt_v, mx_rt_0, mx_cu_t, mx_w_id, mx_l_id, mx_b_0, mx_b_1, mx_b_r, mx_nl_0, mx_nl_1, mx_nl_2, mx_nl_n, mx_nl_l, mx_sw_n, mx_sw_h, mx_sw_m, Int.reduceLE, Int.reduceLT, Int.reduceEq, Int.reduceAdd, Int.reduceSub, Int.reduceMul, Int.reduceNeg, Int.reduceToNat, and_self, true_and, and_true, false_and, and_false, true_or, or_true, false_or, or_false, not_true_eq_false, not_false_eq_true, eq_self, rw_X11_item, hX, c_xSh, mx_b_t q, c_within, mx_b_t s0, r.t, r.s, z, r.q, r.l, mx_b_f i0]
            · simp (disch := omega) only [mx_vt_h, mx_vt_m, mx_cmp_0, mx_cmp_1, mx_cmp_2, mx_cmp_3, mx_cmp_4, mx_u_s, mx_u_a, mx_u_k, mx_z_a, mx_z_s, mx_t_a, mx_t_2, mx_t_1, mx_t_0, mx_gd_T, mx_gd_t, mx_br_T, mx_br_F, mx_br_t, mx_br_f, mx_br_n, mx_cl_T, mx_cl_t, mx_re_T, mx_re_t, mx_rt_v, mx_rt_0, mx_cu_t, mx_w_id, mx_l_id, mx_b_0, mx_b_1, mx_b_r, mx_nl_0, mx_nl_1, mx_nl_2, mx_nl_n, mx_nl_l, mx_sw_n, mx_sw_h, mx_sw_m, Int.reduceLE, Int.reduceLT, Int.reduceEq, Int.reduceAdd, Int.reduceSub, Int.reduceMul, Int.reduceNeg, Int.reduceToNat, and_self, true_and, and_true, false_and, and_false, true_or, or_true, false_or, or_false, not_true_eq_false, not_false_eq_true, eq_self, rw_X12_item, hM, c_mSh, mx_b_t q, c_in, mx_b_t s0, z, mx_b_f i0]
        · refine ag_p v hc (y := -13) ?_ ?_
          · simp (disch := omega) only [mx_vt_h, mx_vt_m, mx_cmp_0, mx_cmp_1, mx_cmp_2, mx_cmp_3, mx_cmp_4, mx_u_s, mx_u_a, mx_u_k, mx_z_a, mx_z_s, mx_t_a, mx_t_2, mx_t_1, mx_t_0, mx_gd_T, mx_gd_t, mx_br_T, mx_br_F, mx_br_t, mx_br_f, mx_br_n, mx_cl_T, mx_cl_t, mx_re_T, mx_re_t, mx_rt_v, mx_rt_0, mx_cu_t, mx_w_id, mx_l_id, mx_b_0, mx_b_1, mx_b_r, mx_nl_0, mx_nl_1, mx_nl_2, mx_nl_n, mx_nl_l, mx_sw_n, mx_sw_h, mx_sw_m, Int.reduceLE, Int.reduceLT, Int.reduceEq, Int.reduceAdd, Int.reduceSub, Int.reduceMul, Int.reduceNeg, Int.reduceToNat, and_self, true_and, and_true, false_and, and_false, true_or, or_true, false_or, or_false, not_true_eq_false, not_false_eq_true, eq_self, rw_X11_item, hX, c_xSh, mx_b_t q, c_within, mx_b_t s0, r.t, r.s, z]
          · simp (disch := omega) only [mx_vt_h, mx_vt_m, mx_cmp_0, mx_cmp_1, mx_cmp_2, mx_cmp_3, mx_cmp_4, mx_u_s, mx_u_a, mx_u_k, mx_z_a, mx_z_s, mx_t_a, mx_t_2, mx_t_1, mx_t_0, mx_gd_T, mx_gd_t, mx_br_T, mx_br_F, mx_br_t, mx_br_f, mx_br_n, mx_cl_T, mx_cl_t, mx_re_T, mx_re_t, mx_rt_v, mx_rt_0, mx_cu_t, mx_w_id, mx_l_id, mx_b_0, mx_b_1, mx_b_r, mx_nl_0, mx_nl_1, mx_nl_2, mx_nl_n, mx_nl_l, mx_sw_n, mx_sw_h, mx_sw_m, Int.reduceLE, Int.reduceLT, Int.reduceEq, Int.reduceAdd, Int.reduceSub, Int.reduceMul, Int.reduceNeg, Int.reduceToNat, and_self, true_and, and_true, false_and, and_false, true_or, or_true, false_or, or_false, not_true_eq_false, not_false_eq_true, eq_self, rw_X12_item, hM, c_mSh, mx_b_t q, c_in, mx_b_t s0, z]
    · refine ag_p v hc (y := -1) ?_ ?_
      · simp (disch := omega) only [mx_vt_h, mx_vt_m, mx_cmp_0, mx_cmp_1, mx_cmp_2, mx_cmp_3, mx_cmp_4, mx_u_s, mx_u_a, mx_u_k, mx_z_a, mx_z_s, mx_t_a, mx_t_2, mx_t_1, mx_t_0, mx_gd_T, mx_gd_t, mx_br_T, mx_br_F, mx_br_t, mx_br_f, mx_br_n, mx_cl_T, mx_cl_t, mx_re_T, mx_re_t, mx_rt_v, mx_rt_0, mx_cu_t, mx_w_id, mx_l_id, mx_b_0, mx_b_1, mx_b_r, mx_nl_0, mx_nl_1, mx_nl_2, mx_nl_n, mx_nl_l, mx_sw_n, mx_sw_h, mx_sw_m, Int.reduceLE, Int.reduceLT, Int.reduceEq, Int.reduceAdd, Int.reduceSub, Int.reduceMul, Int.reduceNeg, Int.reduceToNat, and_self, true_and, and_true, false_and, and_false, true_or, or_true, false_or, or_false, not_true_eq_false, not_false_eq_true, eq_self, rw_X11_item, c_xSh, mx_b_t q, c_within, mx_b_f s0]
      · simp (disch := omega) only [mx_vt_h, mx_vt_m, mx_cmp_0, mx_cmp_1, mx_cmp_2, mx_cmp_3, mx_cmp_4, mx_u_s, mx_u_a, mx_u_k, mx_z_a, mx_z_s, mx_t_a, mx_t_2, mx_t_1, mx_t_0, mx_gd_T, mx_gd_t, mx_br_T, mx_br_F, mx_br_t, mx_br_f, mx_br_n, mx_cl_T, mx_cl_t, mx_re_T, mx_re_t, mx_rt_v, mx_rt_0, mx_cu_t, mx_w_id, mx_l_id, mx_b_0, mx_b_1, mx_b_r, mx_nl_0, mx_nl_1, mx_nl_2, mx_nl_n, mx_nl_l, mx_sw_n, mx_sw_h, mx_sw_m, Int.reduceLE, Int.reduceLT, Int.reduceEq, Int.reduceAdd, Int.reduceSub, Int.reduceMul, Int.reduceNeg, Int.reduceToNat, and_self, true_and, and_true, false_and, and_false, true_or, or_true, false_or, or_false, not_true_eq_false, not_false_eq_true, eq_self, rw_X12_item, c_mSh, mx_b_t q, c_in, mx_b_f s0]
  · refine ag_p v hc (y := -1) ?_ ?_
    · simp (disch := omega) only [mx_vt_h, mx_vt_m, mx_cmp_0, mx_cmp_1, mx_cmp_2, mx_cmp_3, mx_cmp_4, mx_u_s, mx_u_a, mx_u_k, mx_z_a, mx_z_s, mx_t_a, mx_t_2, mx_t_1, mx_t_0, mx_gd_T, mx_gd_t, mx_br_T, mx_br_F, mx_br_t, mx_br_f, mx_br_n, mx_cl_T, mx_cl_t, mx_re_T, mx_re_t, mx_rt_v, mx_rt_0, mx_cu_t, mx_w_id, mx_l_id, mx_b_0, mx_b_1, mx_b_r, mx_nl_0, mx_nl_1, mx_nl_2, mx_nl_n, mx_nl_l, mx_sw_n, mx_sw_h, mx_sw_m, Int.reduceLE, Int.reduceLT, Int.reduceEq, Int.reduceAdd, Int.reduceSub, Int.reduceMul, Int.reduceNeg, Int.reduceToNat, and_self, true_and, and_true, false_and, and_false, true_or, or_true, false_or, or_false, not_true_eq_false, not_false_eq_true, eq_self, rw_X11_item, c_xSh, mx_b_f q]
    · simp (disch := omega) only [mx_vt_h, mx_vt_m, mx_cmp_0, mx_cmp_1, mx_cmp_2, mx_cmp_3, mx_cmp_4, mx_u_s, mx_u_a, mx_u_k, mx_z_a, mx_z_s, mx_t_a, mx_t_2, mx_t_1, mx_t_0, mx_gd_T, mx_gd_t, mx_br_T, mx_br_F, mx_br_t, mx_br_f, mx_br_n, mx_cl_T, mx_cl_t, mx_re_T, mx_re_t, mx_rt_v, mx_rt_0, mx_cu_t, mx_w_id, mx_l_id, mx_b_0, mx_b_1, mx_b_r, mx_nl_0, mx_nl_1, mx_nl_2, mx_nl_n, mx_nl_l, mx_sw_n, mx_sw_h, mx_sw_m, Int.reduceLE, Int.reduceLT, Int.reduceEq, Int.reduceAdd, Int.reduceSub, Int.reduceMul, Int.reduceNeg, Int.reduceToNat, and_self, true_and, and_true, false_and, and_false, true_or, or_true, false_or, or_false, not_true_eq_false, not_false_eq_true, eq_self, rw_X12_item, c_mSh, mx_b_f q]
end
