/-! The signs of a note told -/
def qn (t : Int → Int) (N q : Int) : Nat → Int
  | 0 => q
  | i + 1 => tpl t N (tpl t N (qn t N q i))
/-- the first k signs, each with a comma behind it -/
def mG (t : Int → Int) (N q : Int) (k : Nat) : Prop := ∀ j, j < k → tnu t N 0 15 (qn t N q j) ∧ tby t N 44 (tpl t N (qn t N q j))
/-- k signs and one more, no comma behind it -/
def mA (t : Int → Int) (N q : Int) (k : Nat) : Prop := k ≤ 5 ∧ mG t N q k ∧ tnu t N 0 15 (qn t N q k) ∧ ¬ tby t N 44 (tpl t N (qn t N q k))
/-- a fault behind k signs -/
def mB (t : Int → Int) (N q : Int) (k : Nat) : Prop := k ≤ 6 ∧ mG t N q k ∧ (k = 6 ∨ ¬ tnu t N 0 15 (qn t N q k))
theorem m_x {t : Int → Int} {N q : Int} : ∀ k : Nat, k ≤ 6 → (∃ j, mA t N q j) ∨ (∃ j, mB t N q j) ∨ mG t N q k := by
  intro k
  induction k with
  | zero => intro _; exact Or.inr (Or.inr (fun j h => by omega))
  | succ k ih =>
    intro hk
    rcases ih (by omega) with a | b | g
    · exact Or.inl a
    · exact Or.inr (Or.inl b)
    · by_cases u : tnu t N 0 15 (qn t N q k)
      · by_cases c : tby t N 44 (tpl t N (qn t N q k))
        · refine Or.inr (Or.inr (fun j h => ?_))
          by_cases e : j = k
          · rw [e]; exact ⟨u, c⟩
          · exact g j (by omega)
        · exact Or.inl ⟨k, by omega, g, u, c⟩
      · exact Or.inr (Or.inl ⟨k, by omega, g, Or.inr u⟩)
theorem m_d {t : Int → Int} {N q : Int} : (∃ j, mA t N q j) ∨ ∃ j, mB t N q j := by
  rcases m_x (t := t) (N := N) (q := q) 6 (by decide) with a | b | g
  · exact Or.inl a
  · exact Or.inr b
  · exact Or.inr ⟨6, by decide, g, Or.inl rfl⟩
section
variable {S h : mx_H} {n : Int} {d : Nat} {t : Int → Int} {N q : Int}
theorem c_mC_a {m : Nat} (A : mA t N q m) : ∀ (j : Nat) {i : Nat} {h : mx_H}, i + j = m → CX t N (qn t N q i) S h → (∀ k : Nat, k < i → h 28 k = tva t N (qn t N q k)) → ∃ g, mx_ex (d + 4) 64 2 [some (2, 22), some (0, (i : Int))] [] S h n = some (some (0, (m : Int) + 1), S, g, n) ∧ (∀ b, ¬ b = 22 → ¬ b = 28 → g b = h b) ∧ CX t N (tpl t N (qn t N q m)) S g ∧ ∀ k : Nat, k ≤ m → g 28 k = tva t N (qn t N q k) := by
  have m5 := A.1
  intro j
  induction j with
  | zero =>
    intro i h e X f
    have ei : i = m := by omega
    subst ei
    have u := A.2.2.1
    have u2 := u.2
    obtain ⟨g1, e1, f1, X1⟩ := X.u (d := d) (n := n) u
    have X2 : CX t N (tpl t N (qn t N q i)) S (mx_u g1 28 i (tva t N (qn t N q i))) := X1.go (mx_u_a (by decide)) (mx_u_a (by decide))
    have e2 := X2.b0 (d := d) (n := n) A.2.2.2
    refine ⟨mx_u g1 28 i (tva t N (qn t N q i)), ?_, fun b b0 b1 => by rw [mx_u_a b1, f1 b b0], X2, fun k hk => ?_⟩
    · rw [rh_X7_marksTold_2]
      simp (disch := omega) only [mx_vt_h, mx_vt_m, mx_cmp_0, mx_cmp_1, mx_cmp_2, mx_cmp_3, mx_cmp_4, mx_u_s, mx_u_a, mx_u_k, mx_z_a, mx_z_s, mx_t_a, mx_t_2, mx_t_1, mx_t_0, mx_gd_T, mx_gd_t, mx_br_T, mx_br_F, mx_br_t, mx_br_f, mx_br_n, mx_cl_T, mx_cl_t, mx_re_T, mx_re_t, mx_rt_v, mx_rt_0, mx_cu_t, mx_w_id, mx_l_id, mx_b_0, mx_b_1, mx_b_r, mx_nl_0, mx_nl_1, mx_nl_2, mx_nl_n, mx_nl_l, mx_sw_n, mx_sw_h, mx_sw_m, Int.reduceLE, Int.reduceLT, Int.reduceEq, Int.reduceAdd, Int.reduceSub, Int.reduceMul, Int.reduceNeg, Int.reduceToNat, and_self, true_and, and_true, false_and, and_false, true_or, or_true, false_or, or_false, not_true_eq_false, not_false_eq_true, eq_self, rw_X7_marksTold, X.s.e, e1, e2]
    · by_cases z : k = i
      · rw [z, mx_u_s]
      · rw [mx_u_k (by omega), f1 28 (by decide)]; exact f k (by omega)
  | succ j ih =>
    intro i h e X f
    have G := A.2.1 i (by omega)
    have u2 := G.1.2
    obtain ⟨g1, e1, f1, X1⟩ := X.u (d := d) (n := n) G.1
    have X2 : CX t N (tpl t N (qn t N q i)) S (mx_u g1 28 i (tva t N (qn t N q i))) := X1.go (mx_u_a (by decide)) (mx_u_a (by decide))
    obtain ⟨g2, e2, f2, X3⟩ := X2.b (d := d) (n := n) G.2
    obtain ⟨g, e3, f3, X4, k4⟩ := ih (i := i + 1) (h := g2) (by omega) X3 (fun k hk => by
      rw [f2 28 (by decide)]
      by_cases z : k = i
      · rw [z, mx_u_s]
      · rw [mx_u_k (by omega), f1 28 (by decide)]; exact f k (by omega))
    refine ⟨g, ?_, fun b b0 b1 => by rw [f3 b b0 b1, f2 b b0, mx_u_a b1, f1 b b0], X4, k4⟩
    have ei : ((i + 1 : Nat) : Int) = (i : Int) + 1 := by omega
    rw [ei] at e3
    rw [rh_X7_marksTold_2]
    simp (disch := omega) only [mx_vt_h, mx_vt_m, mx_cmp_0, mx_cmp_1, mx_cmp_2, mx_cmp_3, mx_cmp_4, mx_u_s, mx_u_a, mx_u_k, mx_z_a, mx_z_s, mx_t_a, mx_t_2, mx_t_1, mx_t_0, mx_gd_T, mx_gd_t, mx_br_T, mx_br_F, mx_br_t, mx_br_f, mx_br_n, mx_cl_T, mx_cl_t, mx_re_T, mx_re_t, mx_rt_v, mx_rt_0, mx_cu_t, mx_w_id, mx_l_id, mx_b_0, mx_b_1, mx_b_r, mx_nl_0, mx_nl_1, mx_nl_2, mx_nl_n, mx_nl_l, mx_sw_n, mx_sw_h, mx_sw_m, Int.reduceLE, Int.reduceLT, Int.reduceEq, Int.reduceAdd, Int.reduceSub, Int.reduceMul, Int.reduceNeg, Int.reduceToNat, and_self, true_and, and_true, false_and, and_false, true_or, or_true, false_or, or_false, not_true_eq_false, not_false_eq_true, eq_self, rw_X7_marksTold, X.s.e, e1, e2]
    exact e3
theorem c_mC_b {m : Nat} (B : mB t N q m) : ∀ (j : Nat) {i : Nat} {h : mx_H}, i + j = m → CX t N (qn t N q i) S h → ∃ g, mx_ex (d + 4) 64 2 [some (2, 22), some (0, (i : Int))] [] S h n = some (some (0, 0), S, g, n) ∧ (∀ b, ¬ b = 22 → ¬ b = 28 → g b = h b) ∧ CX t N (qn t N q m) S g := by
  have m6 := B.1
  intro j
  induction j with
  | zero =>
    intro i h e X
    have ei : i = m := by omega
    subst ei
    by_cases z : i = 6
    · refine ⟨h, ?_, fun _ _ _ => rfl, X⟩
      rw [rh_X7_marksTold_2]
      simp (disch := omega) only [mx_vt_h, mx_vt_m, mx_cmp_0, mx_cmp_1, mx_cmp_2, mx_cmp_3, mx_cmp_4, mx_u_s, mx_u_a, mx_u_k, mx_z_a, mx_z_s, mx_t_a, mx_t_2, mx_t_1, mx_t_0, mx_gd_T, mx_gd_t, mx_br_T, mx_br_F, mx_br_t, mx_br_f, mx_br_n, mx_cl_T, mx_cl_t, mx_re_T, mx_re_t, mx_rt_v, mx_rt_0, mx_cu_t, mx_w_id, mx_l_id, mx_b_0, mx_b_1, mx_b_r, mx_nl_0, mx_nl_1, mx_nl_2, mx_nl_n, mx_nl_l, mx_sw_n, mx_sw_h, mx_sw_m, Int.reduceLE, Int.reduceLT, Int.reduceEq, Int.reduceAdd, Int.reduceSub, Int.reduceMul, Int.reduceNeg, Int.reduceToNat, and_self, true_and, and_true, false_and, and_false, true_or, or_true, false_or, or_false, not_true_eq_false, not_false_eq_true, eq_self, rw_X7_marksTold]
    · have u : ¬ tnu t N 0 15 (qn t N q i) := by
        rcases B.2.2 with y | y
        · exact absurd y z
        · exact y
      have e1 := X.u0 (d := d) (n := n) u
      refine ⟨mx_u h 28 i (-1), ?_, fun b b0 b1 => by rw [mx_u_a b1], X.go (mx_u_a (by decide)) (mx_u_a (by decide))⟩
      rw [rh_X7_marksTold_2]
      simp (disch := omega) only [mx_vt_h, mx_vt_m, mx_cmp_0, mx_cmp_1, mx_cmp_2, mx_cmp_3, mx_cmp_4, mx_u_s, mx_u_a, mx_u_k, mx_z_a, mx_z_s, mx_t_a, mx_t_2, mx_t_1, mx_t_0, mx_gd_T, mx_gd_t, mx_br_T, mx_br_F, mx_br_t, mx_br_f, mx_br_n, mx_cl_T, mx_cl_t, mx_re_T, mx_re_t, mx_rt_v, mx_rt_0, mx_cu_t, mx_w_id, mx_l_id, mx_b_0, mx_b_1, mx_b_r, mx_nl_0, mx_nl_1, mx_nl_2, mx_nl_n, mx_nl_l, mx_sw_n, mx_sw_h, mx_sw_m, Int.reduceLE, Int.reduceLT, Int.reduceEq, Int.reduceAdd, Int.reduceSub, Int.reduceMul, Int.reduceNeg, Int.reduceToNat, and_self, true_and, and_true, false_and, and_false, true_or, or_true, false_or, or_false, not_true_eq_false, not_false_eq_true, eq_self, rw_X7_marksTold, X.s.e, e1]
  | succ j ih =>
    intro i h e X
    have G := B.2.1 i (by omega)
    have u2 := G.1.2
    obtain ⟨g1, e1, f1, X1⟩ := X.u (d := d) (n := n) G.1
    have X2 : CX t N (tpl t N (qn t N q i)) S (mx_u g1 28 i (tva t N (qn t N q i))) := X1.go (mx_u_a (by decide)) (mx_u_a (by decide))
    obtain ⟨g2, e2, f2, X3⟩ := X2.b (d := d) (n := n) G.2
    obtain ⟨g, e3, f3, X4⟩ := ih (i := i + 1) (h := g2) (by omega) X3
    refine ⟨g, ?_, fun b b0 b1 => by rw [f3 b b0 b1, f2 b b0, mx_u_a b1, f1 b b0], X4⟩
    have ei : ((i + 1 : Nat) : Int) = (i : Int) + 1 := by omega
    rw [ei] at e3
    rw [rh_X7_marksTold_2]
    simp (disch := omega) only [mx_vt_h, mx_vt_m, mx_cmp_0, mx_cmp_1, mx_cmp_2, mx_cmp_3, mx_cmp_4, mx_u_s, mx_u_a, mx_u_k, mx_z_a, mx_z_s, mx_t_a, mx_t_2, mx_t_1, mx_t_0, mx_gd_T, mx_gd_t, mx_br_T, mx_br_F, mx_br_t, mx_br_f, mx_br_n, mx_cl_T, mx_cl_t, mx_re_T, mx_re_t, mx_rt_v, mx_rt_0, mx_cu_t, mx_w_id, mx_l_id, mx_b_0, mx_b_1, mx_b_r, mx_nl_0, mx_nl_1, mx_nl_2, mx_nl_n, mx_nl_l, mx_sw_n, mx_sw_h, mx_sw_m, Int.reduceLE, Int.reduceLT, Int.reduceEq, Int.reduceAdd, Int.reduceSub, Int.reduceMul, Int.reduceNeg, Int.reduceToNat, and_self, true_and, and_true, false_and, and_false, true_or, or_true, false_or, or_false, not_true_eq_false, not_false_eq_true, eq_self, rw_X7_marksTold, X.s.e, e1, e2]
    exact e3
/-- the reference's row with i signs -/
def rwi (t : Int → Int) (N q : Int) (ρ : Int → Int) (T : Int) (i : Nat) : Int → Int := fun k => if T + 4 ≤ k ∧ k < T + 4 + i then tva t N (qn t N q (k - (T + 4)).toNat) else ρ k
theorem rwi_0 {ρ : Int → Int} {T : Int} : rwi t N q ρ T 0 = ρ := by
  funext k; unfold rwi; rw [if_neg (by omega)]
theorem rwi_s {ρ : Int → Int} {T : Int} {i : Nat} : rwu (rwi t N q ρ T i) (T + 4 + i) (tva t N (qn t N q i)) = rwi t N q ρ T (i + 1) := by
  funext k; unfold rwu rwi
  by_cases z : k = T + 4 + i
  · rw [if_pos z, if_pos (by omega)]
    have : (k - (T + 4)).toNat = i := by omega
    rw [this]
  · rw [if_neg z]
    by_cases y : T + 4 ≤ k ∧ k < T + 4 + i
    · rw [if_pos y, if_pos (by omega)]
    · rw [if_neg y, if_neg (by omega)]
theorem c_mM_a {m : Nat} (A : mA t N q m) {ρ : Int → Int} {T κ : Int} (T0 : 9 ≤ T ∧ T ≤ 59) (ρ0 : 0 ≤ ρ 0 ∧ ρ 0 ≤ 5) : ∀ (j : Nat) {i : Nat} {h : mx_H}, i + j = m → RX t N (qn t N q i) S h → h 39 = rwi t N q ρ T i → ∃ g, mx_ex (d + 4) 170 124 [some (2, 38), some (0, κ), some (0, T), some (0, (i : Int)), some (0, 1)] [] S h n = some (some (0, mx_b (tby t N 59 (tpl t N (qn t N q m)))), S, g, n) ∧ fR h g ∧ g 39 = rwu (rwu (rwi t N q ρ T (m + 1)) (T + 3) (m + 1)) 0 (ρ 0 + 1) ∧ (tby t N 59 (tpl t N (qn t N q m)) → RX t N (tpl t N (tpl t N (qn t N q m))) S g) ∧ (¬ tby t N 59 (tpl t N (qn t N q m)) → RX t N (tpl t N (qn t N q m)) S g) := by
  have m5 := A.1
  intro j
  induction j with
  | zero =>
    intro i h e X r
    have ei : i = m := by omega
    subst ei
    have u := A.2.2.1
    obtain ⟨g1, e1, f1, v1, X1⟩ := X.u (d := d) (n := n) (by decide) (by decide) u
    have X2 : RX t N (tpl t N (qn t N q i)) S (mx_u g1 39 (T + 4 + i) (tva t N (qn t N q i))) := X1.w
    have e2 := X2.y0 (d := d) (n := n) (by decide) A.2.2.2
    have w1 : mx_u g1 39 (T + 4 + i) (tva t N (qn t N q i)) 39 = rwi t N q ρ T (i + 1) := by rw [rwu_39, f1.1 39 (by decide), r]; exact rwi_s
    have X3 : RX t N (tpl t N (qn t N q i)) S (mx_u (mx_u (mx_u g1 39 (T + 4 + i) (tva t N (qn t N q i))) 39 (T + 3) (i + 1)) 39 0 (ρ 0 + 1)) := X2.w.w
    have w3 : mx_u (mx_u (mx_u g1 39 (T + 4 + i) (tva t N (qn t N q i))) 39 (T + 3) (i + 1)) 39 0 (ρ 0 + 1) 39 = rwu (rwu (rwi t N q ρ T (i + 1)) (T + 3) (i + 1)) 0 (ρ 0 + 1) := by rw [rwu_39, rwu_39, w1]
    have F3 : fR h (mx_u (mx_u (mx_u g1 39 (T + 4 + i) (tva t N (qn t N q i))) 39 (T + 3) (i + 1)) 39 0 (ρ 0 + 1)) := (f1.r).u.u.u
    have n0 : g1 39 0 = ρ 0 := by rw [f1.1 39 (by decide), r]; unfold rwi; rw [if_neg (by omega)]
    by_cases c : tby t N 59 (tpl t N (qn t N q i))
    · obtain ⟨g, e4, f4, _, X4⟩ := X3.y (d := d) (n := n) (by decide) c
      rw [mx_b_t c]
      refine ⟨g, ?_, F3.t f4.r, by rw [f4.1 39 (by decide)]; exact w3, fun _ => X4, fun y => absurd c y⟩
      rw [rh_X12_takesNote_124]
      simp (disch := omega) only [mx_vt_h, mx_vt_m, mx_cmp_0, mx_cmp_1, mx_cmp_2, mx_cmp_3, mx_cmp_4, mx_u_s, mx_u_a, mx_u_k, mx_z_a, mx_z_s, mx_t_a, mx_t_2, mx_t_1, mx_t_0, mx_gd_T, mx_gd_t, mx_br_T, mx_br_F, mx_br_t, mx_br_f, mx_br_n, mx_cl_T, mx_cl_t, mx_re_T, mx_re_t, mx_rt_v, mx_rt_0, mx_cu_t, mx_w_id, mx_l_id, mx_b_0, mx_b_1, mx_b_r, mx_nl_0, mx_nl_1, mx_nl_2, mx_nl_n, mx_nl_l, mx_sw_n, mx_sw_h, mx_sw_m, Int.reduceLE, Int.reduceLT, Int.reduceEq, Int.reduceAdd, Int.reduceSub, Int.reduceMul, Int.reduceNeg, Int.reduceToNat, and_self, true_and, and_true, false_and, and_false, true_or, or_true, false_or, or_false, not_true_eq_false, not_false_eq_true, eq_self, rw_X12_takesNote, rw_X12_takesNote_1, X.m.e, e1, v1, e2]
      rw [rh_X12_takesNote_124]
      simp (disch := omega) only [mx_vt_h, mx_vt_m, mx_cmp_0, mx_cmp_1, mx_cmp_2, mx_cmp_3, mx_cmp_4, mx_u_s, mx_u_a, mx_u_k, mx_z_a, mx_z_s, mx_t_a, mx_t_2, mx_t_1, mx_t_0, mx_gd_T, mx_gd_t, mx_br_T, mx_br_F, mx_br_t, mx_br_f, mx_br_n, mx_cl_T, mx_cl_t, mx_re_T, mx_re_t, mx_rt_v, mx_rt_0, mx_cu_t, mx_w_id, mx_l_id, mx_b_0, mx_b_1, mx_b_r, mx_nl_0, mx_nl_1, mx_nl_2, mx_nl_n, mx_nl_l, mx_sw_n, mx_sw_h, mx_sw_m, Int.reduceLE, Int.reduceLT, Int.reduceEq, Int.reduceAdd, Int.reduceSub, Int.reduceMul, Int.reduceNeg, Int.reduceToNat, and_self, true_and, and_true, false_and, and_false, true_or, or_true, false_or, or_false, not_true_eq_false, not_false_eq_true, eq_self, rw_X12_takesNote, rw_X12_takesNote_1, X.m.e, n0, e4]
    · have e4 := X3.y0 (d := d) (n := n) (by decide) c
      rw [mx_b_f c]
      refine ⟨_, ?_, F3, w3, fun y => absurd y c, fun _ => X3⟩
      rw [rh_X12_takesNote_124]
      simp (disch := omega) only [mx_vt_h, mx_vt_m, mx_cmp_0, mx_cmp_1, mx_cmp_2, mx_cmp_3, mx_cmp_4, mx_u_s, mx_u_a, mx_u_k, mx_z_a, mx_z_s, mx_t_a, mx_t_2, mx_t_1, mx_t_0, mx_gd_T, mx_gd_t, mx_br_T, mx_br_F, mx_br_t, mx_br_f, mx_br_n, mx_cl_T, mx_cl_t, mx_re_T, mx_re_t, mx_rt_v, mx_rt_0, mx_cu_t, mx_w_id, mx_l_id, mx_b_0, mx_b_1, mx_b_r, mx_nl_0, mx_nl_1, mx_nl_2, mx_nl_n, mx_nl_l, mx_sw_n, mx_sw_h, mx_sw_m, Int.reduceLE, Int.reduceLT, Int.reduceEq, Int.reduceAdd, Int.reduceSub, Int.reduceMul, Int.reduceNeg, Int.reduceToNat, and_self, true_and, and_true, false_and, and_false, true_or, or_true, false_or, or_false, not_true_eq_false, not_false_eq_true, eq_self, rw_X12_takesNote, rw_X12_takesNote_1, X.m.e, e1, v1, e2]
      rw [rh_X12_takesNote_124]
      simp (disch := omega) only [mx_vt_h, mx_vt_m, mx_cmp_0, mx_cmp_1, mx_cmp_2, mx_cmp_3, mx_cmp_4, mx_u_s, mx_u_a, mx_u_k, mx_z_a, mx_z_s, mx_t_a, mx_t_2, mx_t_1, mx_t_0, mx_gd_T, mx_gd_t, mx_br_T, mx_br_F, mx_br_t, mx_br_f, mx_br_n, mx_cl_T, mx_cl_t, mx_re_T, mx_re_t, mx_rt_v, mx_rt_0, mx_cu_t, mx_w_id, mx_l_id, mx_b_0, mx_b_1, mx_b_r, mx_nl_0, mx_nl_1, mx_nl_2, mx_nl_n, mx_nl_l, mx_sw_n, mx_sw_h, mx_sw_m, Int.reduceLE, Int.reduceLT, Int.reduceEq, Int.reduceAdd, Int.reduceSub, Int.reduceMul, Int.reduceNeg, Int.reduceToNat, and_self, true_and, and_true, false_and, and_false, true_or, or_true, false_or, or_false, not_true_eq_false, not_false_eq_true, eq_self, rw_X12_takesNote, rw_X12_takesNote_1, X.m.e, n0, e4]
  | succ j ih =>
    intro i h e X r
    have G := A.2.1 i (by omega)
    obtain ⟨g1, e1, f1, v1, X1⟩ := X.u (d := d) (n := n) (by decide) (by decide) G.1
    have X2 : RX t N (tpl t N (qn t N q i)) S (mx_u g1 39 (T + 4 + i) (tva t N (qn t N q i))) := X1.w
    obtain ⟨g2, e2, f2, _, X3⟩ := X2.y (d := d) (n := n) (by decide) G.2
    have w1 : mx_u g1 39 (T + 4 + i) (tva t N (qn t N q i)) 39 = rwi t N q ρ T (i + 1) := by rw [rwu_39, f1.1 39 (by decide), r]; exact rwi_s
    obtain ⟨g, e3, f3, w3, X4, X5⟩ := ih (i := i + 1) (h := g2) (by omega) X3 (by rw [f2.1 39 (by decide)]; exact w1)
    have F2 : fR h (mx_u g1 39 (T + 4 + i) (tva t N (qn t N q i))) := (f1.r).u
    refine ⟨g, ?_, (F2.t f2.r).t f3, w3, X4, X5⟩
    have ei : ((i + 1 : Nat) : Int) = (i : Int) + 1 := by omega
    rw [ei] at e3
    rw [rh_X12_takesNote_124]
    simp (disch := omega) only [mx_vt_h, mx_vt_m, mx_cmp_0, mx_cmp_1, mx_cmp_2, mx_cmp_3, mx_cmp_4, mx_u_s, mx_u_a, mx_u_k, mx_z_a, mx_z_s, mx_t_a, mx_t_2, mx_t_1, mx_t_0, mx_gd_T, mx_gd_t, mx_br_T, mx_br_F, mx_br_t, mx_br_f, mx_br_n, mx_cl_T, mx_cl_t, mx_re_T, mx_re_t, mx_rt_v, mx_rt_0, mx_cu_t, mx_w_id, mx_l_id, mx_b_0, mx_b_1, mx_b_r, mx_nl_0, mx_nl_1, mx_nl_2, mx_nl_n, mx_nl_l, mx_sw_n, mx_sw_h, mx_sw_m, Int.reduceLE, Int.reduceLT, Int.reduceEq, Int.reduceAdd, Int.reduceSub, Int.reduceMul, Int.reduceNeg, Int.reduceToNat, and_self, true_and, and_true, false_and, and_false, true_or, or_true, false_or, or_false, not_true_eq_false, not_false_eq_true, eq_self, rw_X12_takesNote, rw_X12_takesNote_1, X.m.e, e1, v1, e2]
    exact e3
theorem c_mM_b {m : Nat} (B : mB t N q m) {T κ : Int} (T0 : 9 ≤ T ∧ T ≤ 59) : ∀ (j : Nat) {i : Nat} {h : mx_H}, i + j = m → RX t N (qn t N q i) S h → ∃ g, mx_ex (d + 4) 170 124 [some (2, 38), some (0, κ), some (0, T), some (0, (i : Int)), some (0, 1)] [] S h n = some (some (0, 0), S, g, n) ∧ fR h g ∧ RX t N (qn t N q m) S g := by
  have m6 := B.1
  intro j
  induction j with
  | zero =>
    intro i h e X
    have ei : i = m := by omega
    subst ei
    by_cases z : i = 6
    · refine ⟨h, ?_, fR_0, X⟩
      rw [rh_X12_takesNote_124]
      simp (disch := omega) only [mx_vt_h, mx_vt_m, mx_cmp_0, mx_cmp_1, mx_cmp_2, mx_cmp_3, mx_cmp_4, mx_u_s, mx_u_a, mx_u_k, mx_z_a, mx_z_s, mx_t_a, mx_t_2, mx_t_1, mx_t_0, mx_gd_T, mx_gd_t, mx_br_T, mx_br_F, mx_br_t, mx_br_f, mx_br_n, mx_cl_T, mx_cl_t, mx_re_T, mx_re_t, mx_rt_v, mx_rt_0, mx_cu_t, mx_w_id, mx_l_id, mx_b_0, mx_b_1, mx_b_r, mx_nl_0, mx_nl_1, mx_nl_2, mx_nl_n, mx_nl_l, mx_sw_n, mx_sw_h, mx_sw_m, Int.reduceLE, Int.reduceLT, Int.reduceEq, Int.reduceAdd, Int.reduceSub, Int.reduceMul, Int.reduceNeg, Int.reduceToNat, and_self, true_and, and_true, false_and, and_false, true_or, or_true, false_or, or_false, not_true_eq_false, not_false_eq_true, eq_self, rw_X12_takesNote, rw_X12_takesNote_1]
    · have u : ¬ tnu t N 0 15 (qn t N q i) := by
        rcases B.2.2 with y | y
        · exact absurd y z
        · exact y
      have e1 := X.u0 (d := d) (n := n) (by decide) (by decide) u
      refine ⟨h, ?_, fR_0, X⟩
      rw [rh_X12_takesNote_124]
      simp (disch := omega) only [mx_vt_h, mx_vt_m, mx_cmp_0, mx_cmp_1, mx_cmp_2, mx_cmp_3, mx_cmp_4, mx_u_s, mx_u_a, mx_u_k, mx_z_a, mx_z_s, mx_t_a, mx_t_2, mx_t_1, mx_t_0, mx_gd_T, mx_gd_t, mx_br_T, mx_br_F, mx_br_t, mx_br_f, mx_br_n, mx_cl_T, mx_cl_t, mx_re_T, mx_re_t, mx_rt_v, mx_rt_0, mx_cu_t, mx_w_id, mx_l_id, mx_b_0, mx_b_1, mx_b_r, mx_nl_0, mx_nl_1, mx_nl_2, mx_nl_n, mx_nl_l, mx_sw_n, mx_sw_h, mx_sw_m, Int.reduceLE, Int.reduceLT, Int.reduceEq, Int.reduceAdd, Int.reduceSub, Int.reduceMul, Int.reduceNeg, Int.reduceToNat, and_self, true_and, and_true, false_and, and_false, true_or, or_true, false_or, or_false, not_true_eq_false, not_false_eq_true, eq_self, rw_X12_takesNote, rw_X12_takesNote_1, X.m.e, e1]
  | succ j ih =>
    intro i h e X
    have G := B.2.1 i (by omega)
    obtain ⟨g1, e1, f1, v1, X1⟩ := X.u (d := d) (n := n) (by decide) (by decide) G.1
    have X2 : RX t N (tpl t N (qn t N q i)) S (mx_u g1 39 (T + 4 + i) (tva t N (qn t N q i))) := X1.w
    obtain ⟨g2, e2, f2, _, X3⟩ := X2.y (d := d) (n := n) (by decide) G.2
    obtain ⟨g, e3, f3, X4⟩ := ih (i := i + 1) (h := g2) (by omega) X3
    have F2 : fR h (mx_u g1 39 (T + 4 + i) (tva t N (qn t N q i))) := (f1.r).u
    refine ⟨g, ?_, (F2.t f2.r).t f3, X4⟩
    have ei : ((i + 1 : Nat) : Int) = (i : Int) + 1 := by omega
    rw [ei] at e3
    rw [rh_X12_takesNote_124]
    simp (disch := omega) only [mx_vt_h, mx_vt_m, mx_cmp_0, mx_cmp_1, mx_cmp_2, mx_cmp_3, mx_cmp_4, mx_u_s, mx_u_a, mx_u_k, mx_z_a, mx_z_s, mx_t_a, mx_t_2, mx_t_1, mx_t_0, mx_gd_T, mx_gd_t, mx_br_T, mx_br_F, mx_br_t, mx_br_f, mx_br_n, mx_cl_T, mx_cl_t, mx_re_T, mx_re_t, mx_rt_v, mx_rt_0, mx_cu_t, mx_w_id, mx_l_id, mx_b_0, mx_b_1, mx_b_r, mx_nl_0, mx_nl_1, mx_nl_2, mx_nl_n, mx_nl_l, mx_sw_n, mx_sw_h, mx_sw_m, Int.reduceLE, Int.reduceLT, Int.reduceEq, Int.reduceAdd, Int.reduceSub, Int.reduceMul, Int.reduceNeg, Int.reduceToNat, and_self, true_and, and_true, false_and, and_false, true_or, or_true, false_or, or_false, not_true_eq_false, not_false_eq_true, eq_self, rw_X12_takesNote, rw_X12_takesNote_1, X.m.e, e1, v1, e2]
    exact e3
end
