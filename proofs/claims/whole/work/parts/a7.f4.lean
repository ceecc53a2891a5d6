/-! judge -/
def jP (σ R : Int → Int) (rows y : Int) : Prop :=
  (∃ j : Nat, (j : Int) < rows ∧ ¬ okr σ R j ∧ (∀ k : Nat, k < j → okr σ R k) ∧ y = j + 1) ∨
  ((∀ k : Nat, (k : Int) < rows → okr σ R k) ∧ ((rows < σ 0 ∧ y = 222) ∨ (σ 0 ≤ rows ∧ ((∃ l, 0 ≤ l ∧ l < σ 1 ∧ ¬ hl σ (bqr σ R rows.toNat) l ∧ (∀ k, 0 ≤ k → k < l → hl σ (bqr σ R rows.toNat) k) ∧ y = 300 + l) ∨ ((∀ l, 0 ≤ l → l < σ 1 → hl σ (bqr σ R rows.toNat) l) ∧ y = 0)))))
theorem jP_u {σ R : Int → Int} {rows y z : Int} (a : jP σ R rows y) (b : jP σ R rows z) : y = z := by
  rcases a with ⟨j, j0, j1, j2, j3⟩ | ⟨a0, a1⟩
  · rcases b with ⟨k, k0, k1, k2, k3⟩ | ⟨b0, b1⟩
    · have : j = k := by
        by_cases p : j < k
        · exact absurd (k2 j p) j1
        · by_cases q : k < j
          · exact absurd (j2 k q) k1
          · omega
      omega
    · exact absurd (b0 j j0) j1
  · rcases b with ⟨k, k0, k1, k2, k3⟩ | ⟨b0, b1⟩
    · exact absurd (a0 k k0) k1
    · rcases a1 with ⟨p, q⟩ | ⟨p, q⟩
      · rcases b1 with ⟨p', q'⟩ | ⟨p', q'⟩
        · omega
        · omega
      · rcases b1 with ⟨p', q'⟩ | ⟨p', q'⟩
        · omega
        · rcases q with ⟨l, l0, l1, l2, l3, l4⟩ | ⟨l0, l1⟩
          · rcases q' with ⟨k, k0, k1, k2, k3, k4⟩ | ⟨k0, k1⟩
            · have : l = k := by
                by_cases p : l < k
                · exact absurd (k3 l l0 p) l2
                · by_cases q : k < l
                  · exact absurd (l3 k k0 q) k2
                  · omega
              omega
            · exact absurd (k0 l l0 l1) l2
          · rcases q' with ⟨k, k0, k1, k2, k3, k4⟩ | ⟨k0, k1⟩
            · exact absurd (l0 k k0 k1) k2
            · omega
theorem bqr_r {σ R : Int → Int} (w : vw σ) : ∀ i : Nat, (∀ k : Nat, k < i → okr σ R k) → ∀ a : Nat, a < i → 2 ≤ bqr σ R i (it σ a 1) ∧ bqr σ R i (it σ a 1) ≤ 16 := by
  intro i
  induction i with
  | zero => intro _ a h; omega
  | succ i ih =>
    intro f a ha
    simp only [bqr]
    by_cases q : it σ a 1 = it σ i 1
    · rw [if_pos q]
      have o := f i (by omega)
      have wi := (w.n i (by omega) o.1).e
      have we := w.e _ wi.1 wi.2
      have o3 := o.2.2.1
      omega
    · rw [if_neg q]
      have : ¬ a = i := fun e => q (by rw [e])
      exact ih (fun k hk => f k (by omega)) a (by omega)
section
variable {L : Nat} {x : Nat → Int32} {S T h g : mx_H} {n m c : Int} {d : Nat}
/-- the program's lines -/
theorem c_jl_a (s : shp S L) {σ : Int → Int} {l : Int} (r : rr S h n 3 σ) (w : vw σ) (b : bb σ (h 31)) (l0 : 0 ≤ l ∧ l ≤ σ 1) (f : ∀ k, l ≤ k → k < σ 1 → hl σ (h 31) k) :
    mx_ex (d + 5) 130 56 [some (2, 0), some (0, l)] [] S h n = some (some (0, 0), S, h, n) := by
  have hX := s.x.e
  have hF := s.f.e
  have wL := w.L
  have r4 : h 3 4 = σ 1 := r.L
  rw [rh_X11_judge_56]
  by_cases q : l < σ 1
  · have ih := c_jl_a s (l := l + 1) r w b (by omega) (fun k a c => f k (by omega) c)
    have lh : mx_M (d + 4) 94 [(2, 3), (0, l), (2, 31)] S h n = some (some (0, mx_b (hl σ (h 31) l)), S, h, n) := c_lineHolds (d := d) (n := n) (B := 31) s.f.v r w l0.1 q b (by omega) (by omega)
    rw [mx_b_t (f l (by omega) q)] at lh
    simp (disch := omega) only [mx_vt_h, mx_vt_m, mx_cmp_0, mx_cmp_1, mx_cmp_2, mx_cmp_3, mx_cmp_4, mx_u_s, mx_u_a, mx_u_k, mx_z_a, mx_z_s, mx_t_a, mx_t_2, mx_t_1, mx_t_0, mx_gd_T, mx_gd_t, mx_br_T, mx_br_F, mx_br_t, mx_br_f, mx_br_n, mx_cl_T, mx_cl_t, mx_re_T, mx_re_t, mx_rt_v, mx_rt_0, mx_cu_t, mx_w_id, mx_l_id, mx_b_0, mx_b_1, mx_b_r, mx_nl_0, mx_nl_1, mx_nl_2, mx_nl_n, mx_nl_l, mx_sw_n, mx_sw_h, mx_sw_m, Int.reduceLE, Int.reduceLT, Int.reduceEq, Int.reduceAdd, Int.reduceSub, Int.reduceMul, Int.reduceNeg, Int.reduceToNat, and_self, true_and, and_true, false_and, and_false, true_or, or_true, false_or, or_false, not_true_eq_false, not_false_eq_true, eq_self, rw_X11_judge, hX, hF, r4, lh]
    exact ih
  · simp (disch := omega) only [mx_vt_h, mx_vt_m, mx_cmp_0, mx_cmp_1, mx_cmp_2, mx_cmp_3, mx_cmp_4, mx_u_s, mx_u_a, mx_u_k, mx_z_a, mx_z_s, mx_t_a, mx_t_2, mx_t_1, mx_t_0, mx_gd_T, mx_gd_t, mx_br_T, mx_br_F, mx_br_t, mx_br_f, mx_br_n, mx_cl_T, mx_cl_t, mx_re_T, mx_re_t, mx_rt_v, mx_rt_0, mx_cu_t, mx_w_id, mx_l_id, mx_b_0, mx_b_1, mx_b_r, mx_nl_0, mx_nl_1, mx_nl_2, mx_nl_n, mx_nl_l, mx_sw_n, mx_sw_h, mx_sw_m, Int.reduceLE, Int.reduceLT, Int.reduceEq, Int.reduceAdd, Int.reduceSub, Int.reduceMul, Int.reduceNeg, Int.reduceToNat, and_self, true_and, and_true, false_and, and_false, true_or, or_true, false_or, or_false, not_true_eq_false, not_false_eq_true, eq_self, rw_X11_judge, hX, hF, r4]
termination_by (σ 1 - l).toNat
decreasing_by omega
theorem c_jl_b (s : shp S L) {σ : Int → Int} {l k : Int} (r : rr S h n 3 σ) (w : vw σ) (b : bb σ (h 31)) (l0 : 0 ≤ l ∧ l ≤ k) (k0 : k < σ 1) (nk : ¬ hl σ (h 31) k) (f : ∀ j, l ≤ j → j < k → hl σ (h 31) j) :
    mx_ex (d + 5) 130 56 [some (2, 0), some (0, l)] [] S h n = some (some (0, 300 + k), S, h, n) := by
  have hX := s.x.e
  have hF := s.f.e
  have wL := w.L
  have r4 : h 3 4 = σ 1 := r.L
  have lh : mx_M (d + 4) 94 [(2, 3), (0, l), (2, 31)] S h n = some (some (0, mx_b (hl σ (h 31) l)), S, h, n) := c_lineHolds (d := d) (n := n) (B := 31) s.f.v r w l0.1 (by omega) b (by omega) (by omega)
  rw [rh_X11_judge_56]
  by_cases q : l = k
  · subst q
    rw [mx_b_f nk] at lh
    simp (disch := omega) only [mx_vt_h, mx_vt_m, mx_cmp_0, mx_cmp_1, mx_cmp_2, mx_cmp_3, mx_cmp_4, mx_u_s, mx_u_a, mx_u_k, mx_z_a, mx_z_s, mx_t_a, mx_t_2, mx_t_1, mx_t_0, mx_gd_T, mx_gd_t, mx_br_T, mx_br_F, mx_br_t, mx_br_f, mx_br_n, mx_cl_T, mx_cl_t, mx_re_T, mx_re_t, mx_rt_v, mx_rt_0, mx_cu_t, mx_w_id, mx_l_id, mx_b_0, mx_b_1, mx_b_r, mx_nl_0, mx_nl_1, mx_nl_2, mx_nl_n, mx_nl_l, mx_sw_n, mx_sw_h, mx_sw_m, Int.reduceLE, Int.reduceLT, Int.reduceEq, Int.reduceAdd, Int.reduceSub, Int.reduceMul, Int.reduceNeg, Int.reduceToNat, and_self, true_and, and_true, false_and, and_false, true_or, or_true, false_or, or_false, not_true_eq_false, not_false_eq_true, eq_self, rw_X11_judge, hX, hF, r4, lh]
  · have ih := c_jl_b s (l := l + 1) r w b (by omega) k0 nk (fun j a c => f j (by omega) c)
    rw [mx_b_t (f l (by omega) (by omega))] at lh
    simp (disch := omega) only [mx_vt_h, mx_vt_m, mx_cmp_0, mx_cmp_1, mx_cmp_2, mx_cmp_3, mx_cmp_4, mx_u_s, mx_u_a, mx_u_k, mx_z_a, mx_z_s, mx_t_a, mx_t_2, mx_t_1, mx_t_0, mx_gd_T, mx_gd_t, mx_br_T, mx_br_F, mx_br_t, mx_br_f, mx_br_n, mx_cl_T, mx_cl_t, mx_re_T, mx_re_t, mx_rt_v, mx_rt_0, mx_cu_t, mx_w_id, mx_l_id, mx_b_0, mx_b_1, mx_b_r, mx_nl_0, mx_nl_1, mx_nl_2, mx_nl_n, mx_nl_l, mx_sw_n, mx_sw_h, mx_sw_m, Int.reduceLE, Int.reduceLT, Int.reduceEq, Int.reduceAdd, Int.reduceSub, Int.reduceMul, Int.reduceNeg, Int.reduceToNat, and_self, true_and, and_true, false_and, and_false, true_or, or_true, false_or, or_false, not_true_eq_false, not_false_eq_true, eq_self, rw_X11_judge, hX, hF, r4, lh]
    exact ih
termination_by (k - l).toNat
decreasing_by omega
theorem c_jlM_a (hM : sh_M S) {l : Int} (w : vw (h 39)) (b : bb (h 39) (h 43)) (l0 : 0 ≤ l ∧ l ≤ h 39 1) (f : ∀ k, l ≤ k → k < h 39 1 → hl (h 39) (h 43) k) :
    mx_ex (d + 5) 224 67 [some (2, 38), some (0, l)] [] S h n = some (some (0, 0), S, h, n) := by
  have hM1 := hM.e
  have wL := w.L
  rw [rh_X12_judge_67]
  by_cases q : l < h 39 1
  · have ih := c_jlM_a hM (l := l + 1) w b (by omega) (fun k a c => f k (by omega) c)
    have lh := c_holdsNow (d := d) (n := n) hM w b l0.1 q
    rw [mx_b_t (f l (by omega) q)] at lh
    simp (disch := omega) only [mx_vt_h, mx_vt_m, mx_cmp_0, mx_cmp_1, mx_cmp_2, mx_cmp_3, mx_cmp_4, mx_u_s, mx_u_a, mx_u_k, mx_z_a, mx_z_s, mx_t_a, mx_t_2, mx_t_1, mx_t_0, mx_gd_T, mx_gd_t, mx_br_T, mx_br_F, mx_br_t, mx_br_f, mx_br_n, mx_cl_T, mx_cl_t, mx_re_T, mx_re_t, mx_rt_v, mx_rt_0, mx_cu_t, mx_w_id, mx_l_id, mx_b_0, mx_b_1, mx_b_r, mx_nl_0, mx_nl_1, mx_nl_2, mx_nl_n, mx_nl_l, mx_sw_n, mx_sw_h, mx_sw_m, Int.reduceLE, Int.reduceLT, Int.reduceEq, Int.reduceAdd, Int.reduceSub, Int.reduceMul, Int.reduceNeg, Int.reduceToNat, and_self, true_and, and_true, false_and, and_false, true_or, or_true, false_or, or_false, not_true_eq_false, not_false_eq_true, eq_self, rw_X12_judge, hM1, lh]
    exact ih
  · simp (disch := omega) only [mx_vt_h, mx_vt_m, mx_cmp_0, mx_cmp_1, mx_cmp_2, mx_cmp_3, mx_cmp_4, mx_u_s, mx_u_a, mx_u_k, mx_z_a, mx_z_s, mx_t_a, mx_t_2, mx_t_1, mx_t_0, mx_gd_T, mx_gd_t, mx_br_T, mx_br_F, mx_br_t, mx_br_f, mx_br_n, mx_cl_T, mx_cl_t, mx_re_T, mx_re_t, mx_rt_v, mx_rt_0, mx_cu_t, mx_w_id, mx_l_id, mx_b_0, mx_b_1, mx_b_r, mx_nl_0, mx_nl_1, mx_nl_2, mx_nl_n, mx_nl_l, mx_sw_n, mx_sw_h, mx_sw_m, Int.reduceLE, Int.reduceLT, Int.reduceEq, Int.reduceAdd, Int.reduceSub, Int.reduceMul, Int.reduceNeg, Int.reduceToNat, and_self, true_and, and_true, false_and, and_false, true_or, or_true, false_or, or_false, not_true_eq_false, not_false_eq_true, eq_self, rw_X12_judge, hM1]
termination_by (h 39 1 - l).toNat
decreasing_by omega
theorem c_jlM_b (hM : sh_M S) {l k : Int} (w : vw (h 39)) (b : bb (h 39) (h 43)) (l0 : 0 ≤ l ∧ l ≤ k) (k0 : k < h 39 1) (nk : ¬ hl (h 39) (h 43) k) (f : ∀ j, l ≤ j → j < k → hl (h 39) (h 43) j) :
    mx_ex (d + 5) 224 67 [some (2, 38), some (0, l)] [] S h n = some (some (0, 300 + k), S, h, n) := by
  have hM1 := hM.e
  have wL := w.L
  have lh := c_holdsNow (d := d) (n := n) (l := l) hM w b l0.1 (by omega)
  rw [rh_X12_judge_67]
  by_cases q : l = k
  · subst q
    rw [mx_b_f nk] at lh
    simp (disch := omega) only [mx_vt_h, mx_vt_m, mx_cmp_0, mx_cmp_1, mx_cmp_2, mx_cmp_3, mx_cmp_4, mx_u_s, mx_u_a, mx_u_k, mx_z_a, mx_z_s, mx_t_a, mx_t_2, mx_t_1, mx_t_0, mx_gd_T, mx_gd_t, mx_br_T, mx_br_F, mx_br_t, mx_br_f, mx_br_n, mx_cl_T, mx_cl_t, mx_re_T, mx_re_t, mx_rt_v, mx_rt_0, mx_cu_t, mx_w_id, mx_l_id, mx_b_0, mx_b_1, mx_b_r, mx_nl_0, mx_nl_1, mx_nl_2, mx_nl_n, mx_nl_l, mx_sw_n, mx_sw_h, mx_sw_m, Int.reduceLE, Int.reduceLT, Int.reduceEq, Int.reduceAdd, Int.reduceSub, Int.reduceMul, Int.reduceNeg, Int.reduceToNat, and_self, true_and, and_true, false_and, and_false, true_or, or_true, false_or, or_false, not_true_eq_false, not_false_eq_true, eq_self, rw_X12_judge, hM1, lh]
  · have ih := c_jlM_b hM (l := l + 1) w b (by omega) k0 nk (fun j a c => f j (by omega) c)
    rw [mx_b_t (f l (by omega) (by omega))] at lh
    simp (disch := omega) only [mx_vt_h, mx_vt_m, mx_cmp_0, mx_cmp_1, mx_cmp_2, mx_cmp_3, mx_cmp_4, mx_u_s, mx_u_a, mx_u_k, mx_z_a, mx_z_s, mx_t_a, mx_t_2, mx_t_1, mx_t_0, mx_gd_T, mx_gd_t, mx_br_T, mx_br_F, mx_br_t, mx_br_f, mx_br_n, mx_cl_T, mx_cl_t, mx_re_T, mx_re_t, mx_rt_v, mx_rt_0, mx_cu_t, mx_w_id, mx_l_id, mx_b_0, mx_b_1, mx_b_r, mx_nl_0, mx_nl_1, mx_nl_2, mx_nl_n, mx_nl_l, mx_sw_n, mx_sw_h, mx_sw_m, Int.reduceLE, Int.reduceLT, Int.reduceEq, Int.reduceAdd, Int.reduceSub, Int.reduceMul, Int.reduceNeg, Int.reduceToNat, and_self, true_and, and_true, false_and, and_false, true_or, or_true, false_or, or_false, not_true_eq_false, not_false_eq_true, eq_self, rw_X12_judge, hM1, lh]
    exact ih
termination_by (k - l).toNat
decreasing_by omega
/-- the first line that doesn't hold, or none -/
theorem jl_x {P : Int → Prop} {N : Int} : ∀ k : Nat, (k : Int) ≤ N → (∀ l : Int, 0 ≤ l → l < (k : Int) → P l) ∨ ∃ l : Int, 0 ≤ l ∧ l < (k : Int) ∧ ¬ P l ∧ ∀ j : Int, 0 ≤ j → j < l → P j := by
  intro k
  induction k with
  | zero => intro _; exact Or.inl (fun l a b => by omega)
  | succ k ih =>
    intro h
    rcases ih (by omega) with f | ⟨l, l0, l1, l2, l3⟩
    · by_cases q : P k
      · refine Or.inl (fun l a b => ?_)
        by_cases e : l = k
        · rw [e]; exact q
        · exact f l a (by omega)
      · exact Or.inr ⟨k, by omega, by omega, q, fun j a b => f j a b⟩
    · exact Or.inr ⟨l, l0, by omega, l2, l3⟩
def jQ (S h : mx_H) (n : Int) (σ R : Int → Int) (rows B : Int) : Option mx_V → mx_H → mx_H → Int → Prop := fun v S1 h1 n1 => ∃ y, v = some (0, y) ∧ jP σ R rows y ∧ S1 = S ∧ n1 = n ∧ ∀ b, ¬ b = B → h1 b = h b
theorem c_jr_l (s : shp S L) {σ R : Int → Int} {rows : Int} {i : Nat} {h g : mx_H} (r : rr S h n 3 σ) (w : vw σ) (c0 : h 0 10 = rows) (r6 : 0 ≤ rows ∧ rows ≤ 6) (hR : ∀ k, 0 ≤ k → k < 3 * rows → h 30 k = R k) (i0 : (i : Int) ≤ rows) (f : ∀ b, ¬ b = 31 → g b = h b) (b : ∀ e, 0 ≤ e → e ≤ 2 → g 31 e = bqr σ R i e) (ok : ∀ k : Nat, k < i → okr σ R k) :
    mx_W (mx_ex (d + 5) 130 10 [some (2, 0), some (0, i)] [] S g n) (jQ S h n σ R rows 31) := by
  have hX := s.x.e
  have hF := s.f.e
  have wN := w.N
  have wL := w.L
  have rg : rr S g n 3 σ := r.gg (by rw [f 3 (by decide)]) (by rw [f 3 (by decide)]) (f 4 (by decide)) (f 5 (by decide)) (f 6 (by decide)) rfl (fun _ _ _ => rfl) (fun q a _ => f q (by omega)) (Int.le_refl _)
  have g10 : g 0 10 = rows := by rw [f 0 (by decide)]; exact c0
  have g33 : g 3 3 = σ 0 := rg.c
  rw [rh_X11_judge_10]
  by_cases q : (i : Int) < rows
  · obtain ⟨g2, e, f2, b2⟩ := c_irr (d := d) (n := n) (h := g) (σ := σ) (R := R) (i := i) s rg w (by omega) (by rw [f 30 (by decide), hR _ (by omega) (by omega)]; exact congrArg R (by omega)) (by rw [f 30 (by decide), hR _ (by omega) (by omega)]; exact congrArg R (by omega)) (by rw [f 30 (by decide), hR _ (by omega) (by omega)]; exact congrArg R (by omega)) b
    by_cases o : okr σ R i
    · rw [mx_b_t o] at e
      have ih := c_jr_l s (i := i + 1) (g := g2) r w c0 r6 hR (by omega) (fun q z => by rw [f2 q z, f q z]) (b2 o) (fun k hk => by
        by_cases z : k = i
        · rw [z]; exact o
        · exact ok k (by omega))
      have ei : ((i + 1 : Nat) : Int) = (i : Int) + 1 := by omega
      rw [ei] at ih
      simp (disch := omega) only [mx_vt_h, mx_vt_m, mx_cmp_0, mx_cmp_1, mx_cmp_2, mx_cmp_3, mx_cmp_4, mx_u_s, mx_u_a, mx_u_k, mx_z_a, mx_z_s, mx_t_a, mx_t_2, mx_t_1, mx_t_0, mx_gd_T, mx_gd_t, mx_br_T, mx_br_F, mx_br_t, mx_br_f, mx_br_n, mx_cl_T, mx_cl_t, mx_re_T, mx_re_t, mx_rt_v, mx_rt_0, mx_cu_t, mx_w_id, mx_l_id, mx_b_0, mx_b_1, mx_b_r, mx_nl_0, mx_nl_1, mx_nl_2, mx_nl_n, mx_nl_l, mx_sw_n, mx_sw_h, mx_sw_m, Int.reduceLE, Int.reduceLT, Int.reduceEq, Int.reduceAdd, Int.reduceSub, Int.reduceMul, Int.reduceNeg, Int.reduceToNat, and_self, true_and, and_true, false_and, and_false, true_or, or_true, false_or, or_false, not_true_eq_false, not_false_eq_true, eq_self, rw_X11_judge, hX, g10, e]
      exact ih
    · rw [mx_b_f o] at e
      simp (disch := omega) only [mx_vt_h, mx_vt_m, mx_cmp_0, mx_cmp_1, mx_cmp_2, mx_cmp_3, mx_cmp_4, mx_u_s, mx_u_a, mx_u_k, mx_z_a, mx_z_s, mx_t_a, mx_t_2, mx_t_1, mx_t_0, mx_gd_T, mx_gd_t, mx_br_T, mx_br_F, mx_br_t, mx_br_f, mx_br_n, mx_cl_T, mx_cl_t, mx_re_T, mx_re_t, mx_rt_v, mx_rt_0, mx_cu_t, mx_w_id, mx_l_id, mx_b_0, mx_b_1, mx_b_r, mx_nl_0, mx_nl_1, mx_nl_2, mx_nl_n, mx_nl_l, mx_sw_n, mx_sw_h, mx_sw_m, Int.reduceLE, Int.reduceLT, Int.reduceEq, Int.reduceAdd, Int.reduceSub, Int.reduceMul, Int.reduceNeg, Int.reduceToNat, and_self, true_and, and_true, false_and, and_false, true_or, or_true, false_or, or_false, not_true_eq_false, not_false_eq_true, eq_self, rw_X11_judge, hX, g10, e]
      exact mx_W_s ⟨_, rfl, Or.inl ⟨i, q, o, ok, rfl⟩, rfl, rfl, fun q z => by rw [f2 q z, f q z]⟩
  · have ei : (i : Int) = rows := by omega
    have en : rows.toNat = i := by omega
    have all : ∀ k : Nat, (k : Int) < rows → okr σ R k := fun k hk => ok k (by omega)
    by_cases z : rows < σ 0
    · simp (disch := omega) only [mx_vt_h, mx_vt_m, mx_cmp_0, mx_cmp_1, mx_cmp_2, mx_cmp_3, mx_cmp_4, mx_u_s, mx_u_a, mx_u_k, mx_z_a, mx_z_s, mx_t_a, mx_t_2, mx_t_1, mx_t_0, mx_gd_T, mx_gd_t, mx_br_T, mx_br_F, mx_br_t, mx_br_f, mx_br_n, mx_cl_T, mx_cl_t, mx_re_T, mx_re_t, mx_rt_v, mx_rt_0, mx_cu_t, mx_w_id, mx_l_id, mx_b_0, mx_b_1, mx_b_r, mx_nl_0, mx_nl_1, mx_nl_2, mx_nl_n, mx_nl_l, mx_sw_n, mx_sw_h, mx_sw_m, Int.reduceLE, Int.reduceLT, Int.reduceEq, Int.reduceAdd, Int.reduceSub, Int.reduceMul, Int.reduceNeg, Int.reduceToNat, and_self, true_and, and_true, false_and, and_false, true_or, or_true, false_or, or_false, not_true_eq_false, not_false_eq_true, eq_self, rw_X11_judge, hX, hF, g10, g33]
      exact mx_W_s ⟨_, rfl, Or.inr ⟨all, Or.inl ⟨z, rfl⟩⟩, rfl, rfl, f⟩
    · have bbr : bb σ (g 31) := fun a a0 a1 => by
        have we := (w.n a a0 a1).e
        rw [b _ we.1 we.2]
        have := bqr_r w i ok a.toNat (by omega)
        have ea : ((a.toNat : Nat) : Int) = a := by omega
        rw [ea] at this; exact this
      have hq : ∀ l, 0 ≤ l → l < σ 1 → (hl σ (g 31) l ↔ hl σ (bqr σ R rows.toNat) l) := fun l a c => by rw [en, hl_c w b a c]
      have fin : mx_W (mx_ex (d + 5) 130 56 [some (2, 0), some (0, 0)] [] S g n) (jQ S h n σ R rows 31) := by
        rcases jl_x (P := hl σ (g 31)) (N := σ 1) (σ 1).toNat (by omega) with F | ⟨l, l0, l1, l2, l3⟩
        · rw [c_jl_a (l := 0) s rg w bbr (by omega) (fun k a c => F k a (by omega))]
          exact mx_W_s ⟨_, rfl, Or.inr ⟨all, Or.inr ⟨by omega, Or.inr ⟨fun l a c => (hq l a c).mp (F l a (by omega)), rfl⟩⟩⟩, rfl, rfl, f⟩
        · rw [c_jl_b (l := 0) s rg w bbr (k := l) (by omega) (by omega) l2 (fun j a c => l3 j a c)]
          exact mx_W_s ⟨_, rfl, Or.inr ⟨all, Or.inr ⟨by omega, Or.inl ⟨l, l0, by omega, fun z => l2 ((hq l l0 (by omega)).mpr z), fun k a c => (hq k a (by omega)).mp (l3 k a c), rfl⟩⟩⟩, rfl, rfl, f⟩
      simp (disch := omega) only [mx_vt_h, mx_vt_m, mx_cmp_0, mx_cmp_1, mx_cmp_2, mx_cmp_3, mx_cmp_4, mx_u_s, mx_u_a, mx_u_k, mx_z_a, mx_z_s, mx_t_a, mx_t_2, mx_t_1, mx_t_0, mx_gd_T, mx_gd_t, mx_br_T, mx_br_F, mx_br_t, mx_br_f, mx_br_n, mx_cl_T, mx_cl_t, mx_re_T, mx_re_t, mx_rt_v, mx_rt_0, mx_cu_t, mx_w_id, mx_l_id, mx_b_0, mx_b_1, mx_b_r, mx_nl_0, mx_nl_1, mx_nl_2, mx_nl_n, mx_nl_l, mx_sw_n, mx_sw_h, mx_sw_m, Int.reduceLE, Int.reduceLT, Int.reduceEq, Int.reduceAdd, Int.reduceSub, Int.reduceMul, Int.reduceNeg, Int.reduceToNat, and_self, true_and, and_true, false_and, and_false, true_or, or_true, false_or, or_false, not_true_eq_false, not_false_eq_true, eq_self, rw_X11_judge, hX, hF, g10, g33]
      exact fin
termination_by (rows - i).toNat
decreasing_by omega
theorem c_jrM_l (hM : sh_M S) {rows : Int} {i : Nat} {h g : mx_H} (w : vw (h 39)) (c0 : h 38 15 = rows) (r6 : 0 ≤ rows ∧ rows ≤ 6) (i0 : (i : Int) ≤ rows) (f : ∀ b, ¬ b = 43 → g b = h b) (b : ∀ e, 0 ≤ e → e ≤ 2 → g 43 e = bqr (h 39) (h 46) i e) (ok : ∀ k : Nat, k < i → okr (h 39) (h 46) k) :
    mx_W (mx_ex (d + 5) 224 22 [some (2, 38), some (0, i)] [] S g n) (jQ S h n (h 39) (h 46) rows 43) := by
  have hM1 := hM.e
  have wN := w.N
  have wL := w.L
  have e39 := f 39 (by decide)
  have e46 := f 46 (by decide)
  have g15 : g 38 15 = rows := by rw [f 38 (by decide)]; exact c0
  have wg : vw (g 39) := by rw [e39]; exact w
  rw [rh_X12_judge_22]
  by_cases q : (i : Int) < rows
  · obtain ⟨g2, e, f2, b2⟩ := c_irM (d := d) (n := n) (h := g) (i := i) hM wg (by omega) (by rw [e39, e46]; exact b)
    rw [e39, e46] at e b2
    by_cases o : okr (h 39) (h 46) i
    · rw [mx_b_t o] at e
      have ih := c_jrM_l hM (i := i + 1) (h := h) (g := g2) w c0 r6 (by omega) (fun q z => by rw [f2 q z, f q z]) (b2 o) (fun k hk => by
        by_cases z : k = i
        · rw [z]; exact o
        · exact ok k (by omega))
      have ei : ((i + 1 : Nat) : Int) = (i : Int) + 1 := by omega
      rw [ei] at ih
      simp (disch := omega) only [mx_vt_h, mx_vt_m, mx_cmp_0, mx_cmp_1, mx_cmp_2, mx_cmp_3, mx_cmp_4, mx_u_s, mx_u_a, mx_u_k, mx_z_a, mx_z_s, mx_t_a, mx_t_2, mx_t_1, mx_t_0, mx_gd_T, mx_gd_t, mx_br_T, mx_br_F, mx_br_t, mx_br_f, mx_br_n, mx_cl_T, mx_cl_t, mx_re_T, mx_re_t, mx_rt_v, mx_rt_0, mx_cu_t, mx_w_id, mx_l_id, mx_b_0, mx_b_1, mx_b_r, mx_nl_0, mx_nl_1, mx_nl_2, mx_nl_n, mx_nl_l, mx_sw_n, mx_sw_h, mx_sw_m, Int.reduceLE, Int.reduceLT, Int.reduceEq, Int.reduceAdd, Int.reduceSub, Int.reduceMul, Int.reduceNeg, Int.reduceToNat, and_self, true_and, and_true, false_and, and_false, true_or, or_true, false_or, or_false, not_true_eq_false, not_false_eq_true, eq_self, rw_X12_judge, hM1, g15, e]
      exact ih
    · rw [mx_b_f o] at e
      simp (disch := omega) only [mx_vt_h, mx_vt_m, mx_cmp_0, mx_cmp_1, mx_cmp_2, mx_cmp_3, mx_cmp_4, mx_u_s, mx_u_a, mx_u_k, mx_z_a, mx_z_s, mx_t_a, mx_t_2, mx_t_1, mx_t_0, mx_gd_T, mx_gd_t, mx_br_T, mx_br_F, mx_br_t, mx_br_f, mx_br_n, mx_cl_T, mx_cl_t, mx_re_T, mx_re_t, mx_rt_v, mx_rt_0, mx_cu_t, mx_w_id, mx_l_id, mx_b_0, mx_b_1, mx_b_r, mx_nl_0, mx_nl_1, mx_nl_2, mx_nl_n, mx_nl_l, mx_sw_n, mx_sw_h, mx_sw_m, Int.reduceLE, Int.reduceLT, Int.reduceEq, Int.reduceAdd, Int.reduceSub, Int.reduceMul, Int.reduceNeg, Int.reduceToNat, and_self, true_and, and_true, false_and, and_false, true_or, or_true, false_or, or_false, not_true_eq_false, not_false_eq_true, eq_self, rw_X12_judge, hM1, g15, e]
      exact mx_W_s ⟨_, rfl, Or.inl ⟨i, q, o, ok, by omega⟩, rfl, rfl, fun q z => by rw [f2 q z, f q z]⟩
  · have ei : (i : Int) = rows := by omega
    have en : rows.toNat = i := by omega
    have all : ∀ k : Nat, (k : Int) < rows → okr (h 39) (h 46) k := fun k hk => ok k (by omega)
    have g39 : g 39 0 = h 39 0 := by rw [e39]
    by_cases z : rows < h 39 0
    · simp (disch := omega) only [mx_vt_h, mx_vt_m, mx_cmp_0, mx_cmp_1, mx_cmp_2, mx_cmp_3, mx_cmp_4, mx_u_s, mx_u_a, mx_u_k, mx_z_a, mx_z_s, mx_t_a, mx_t_2, mx_t_1, mx_t_0, mx_gd_T, mx_gd_t, mx_br_T, mx_br_F, mx_br_t, mx_br_f, mx_br_n, mx_cl_T, mx_cl_t, mx_re_T, mx_re_t, mx_rt_v, mx_rt_0, mx_cu_t, mx_w_id, mx_l_id, mx_b_0, mx_b_1, mx_b_r, mx_nl_0, mx_nl_1, mx_nl_2, mx_nl_n, mx_nl_l, mx_sw_n, mx_sw_h, mx_sw_m, Int.reduceLE, Int.reduceLT, Int.reduceEq, Int.reduceAdd, Int.reduceSub, Int.reduceMul, Int.reduceNeg, Int.reduceToNat, and_self, true_and, and_true, false_and, and_false, true_or, or_true, false_or, or_false, not_true_eq_false, not_false_eq_true, eq_self, rw_X12_judge, hM1, g15, g39]
      exact mx_W_s ⟨_, rfl, Or.inr ⟨all, Or.inl ⟨z, rfl⟩⟩, rfl, rfl, f⟩
    · have bbr : bb (h 39) (g 43) := fun a a0 a1 => by
        have we := (w.n a a0 a1).e
        rw [b _ we.1 we.2]
        have := bqr_r w i ok a.toNat (by omega)
        have ea : ((a.toNat : Nat) : Int) = a := by omega
        rw [ea] at this; exact this
      have hq : ∀ l, 0 ≤ l → l < h 39 1 → (hl (h 39) (g 43) l ↔ hl (h 39) (bqr (h 39) (h 46) rows.toNat) l) := fun l a c => by rw [en, hl_c w b a c]
      have fin : mx_W (mx_ex (d + 5) 224 67 [some (2, 38), some (0, 0)] [] S g n) (jQ S h n (h 39) (h 46) rows 43) := by
        rcases jl_x (P := hl (h 39) (g 43)) (N := h 39 1) (h 39 1).toNat (by omega) with F | ⟨l, l0, l1, l2, l3⟩
        · rw [c_jlM_a (l := 0) hM wg (by rw [e39]; exact bbr) (by rw [e39]; omega) (fun k a c => by rw [e39] at c ⊢; exact F k a (by omega))]
          exact mx_W_s ⟨_, rfl, Or.inr ⟨all, Or.inr ⟨by omega, Or.inr ⟨fun l a c => (hq l a c).mp (F l a (by omega)), rfl⟩⟩⟩, rfl, rfl, f⟩
        · rw [c_jlM_b (l := 0) hM wg (by rw [e39]; exact bbr) (k := l) (by omega) (by rw [e39]; omega) (by rw [e39]; exact l2) (fun j a c => by rw [e39]; exact l3 j a c)]
          exact mx_W_s ⟨_, rfl, Or.inr ⟨all, Or.inr ⟨by omega, Or.inl ⟨l, l0, by omega, fun z => l2 ((hq l l0 (by omega)).mpr z), fun k a c => (hq k a (by omega)).mp (l3 k a c), rfl⟩⟩⟩, rfl, rfl, f⟩
      simp (disch := omega) only [mx_vt_h, mx_vt_m, mx_cmp_0, mx_cmp_1, mx_cmp_2, mx_cmp_3, mx_cmp_4, mx_u_s, mx_u_a, mx_u_k, mx_z_a, mx_z_s, mx_t_a, mx_t_2, mx_t_1, mx_t_0, mx_gd_T, mx_gd_t, mx_br_T, mx_br_F, mx_br_t, mx_br_f, mx_br_n, mx_cl_T, mx_cl_t, mx_re_T, mx_re_t, mx_rt_v, mx_rt_0, mx_cu_t, mx_w_id, mx_l_id, mx_b_0, mx_b_1, mx_b_r, mx_nl_0, mx_nl_1, mx_nl_2, mx_nl_n, mx_nl_l, mx_sw_n, mx_sw_h, mx_sw_m, Int.reduceLE, Int.reduceLT, Int.reduceEq, Int.reduceAdd, Int.reduceSub, Int.reduceMul, Int.reduceNeg, Int.reduceToNat, and_self, true_and, and_true, false_and, and_false, true_or, or_true, false_or, or_false, not_true_eq_false, not_false_eq_true, eq_self, rw_X12_judge, hM1, g15, g39]
      exact fin
termination_by (rows - i).toNat
decreasing_by omega
theorem c_jz_l (hM : sh_M S) {k : Int} {Q : Option mx_V → mx_H → mx_H → Int → Prop} (k0 : 0 ≤ k ∧ k ≤ 3) (hQ : mx_W (mx_ex d 224 22 [some (2, 38), some (0, 0)] [] S (fil h 43 0 3) n) Q) : mx_W (mx_ex d 224 2 [some (2, 38), some (0, k)] [] S (fil h 43 0 k) n) Q := by
  have hM1 := hM.e
  rw [rh_X12_judge_2]
  by_cases q : k < 3
  · have ih := c_jz_l hM (k := k + 1) (by omega) hQ
    rw [← fil_u k0.1] at ih
    simp (disch := omega) only [mx_vt_h, mx_vt_m, mx_cmp_0, mx_cmp_1, mx_cmp_2, mx_cmp_3, mx_cmp_4, mx_u_s, mx_u_a, mx_u_k, mx_z_a, mx_z_s, mx_t_a, mx_t_2, mx_t_1, mx_t_0, mx_gd_T, mx_gd_t, mx_br_T, mx_br_F, mx_br_t, mx_br_f, mx_br_n, mx_cl_T, mx_cl_t, mx_re_T, mx_re_t, mx_rt_v, mx_rt_0, mx_cu_t, mx_w_id, mx_l_id, mx_b_0, mx_b_1, mx_b_r, mx_nl_0, mx_nl_1, mx_nl_2, mx_nl_n, mx_nl_l, mx_sw_n, mx_sw_h, mx_sw_m, Int.reduceLE, Int.reduceLT, Int.reduceEq, Int.reduceAdd, Int.reduceSub, Int.reduceMul, Int.reduceNeg, Int.reduceToNat, and_self, true_and, and_true, false_and, and_false, true_or, or_true, false_or, or_false, not_true_eq_false, not_false_eq_true, eq_self, rw_X12_judge, hM1]
    exact ih
  · have e : k = 3 := by omega
    subst e
    simp (disch := omega) only [mx_vt_h, mx_vt_m, mx_cmp_0, mx_cmp_1, mx_cmp_2, mx_cmp_3, mx_cmp_4, mx_u_s, mx_u_a, mx_u_k, mx_z_a, mx_z_s, mx_t_a, mx_t_2, mx_t_1, mx_t_0, mx_gd_T, mx_gd_t, mx_br_T, mx_br_F, mx_br_t, mx_br_f, mx_br_n, mx_cl_T, mx_cl_t, mx_re_T, mx_re_t, mx_rt_v, mx_rt_0, mx_cu_t, mx_w_id, mx_l_id, mx_b_0, mx_b_1, mx_b_r, mx_nl_0, mx_nl_1, mx_nl_2, mx_nl_n, mx_nl_l, mx_sw_n, mx_sw_h, mx_sw_m, Int.reduceLE, Int.reduceLT, Int.reduceEq, Int.reduceAdd, Int.reduceSub, Int.reduceMul, Int.reduceNeg, Int.reduceToNat, and_self, true_and, and_true, false_and, and_false, true_or, or_true, false_or, or_false, not_true_eq_false, not_false_eq_true, eq_self, rw_X12_judge]
    exact hQ
termination_by (3 - k).toNat
decreasing_by omega
theorem a_judge (hc : c ≤ 599) : ag L x 130 224 [] 0 c := by
  intro d S h n v
  have hX := v.s.x.e
  have hM := v.s.m
  have w := v.t.w
  have rw6 := v.r.r
  have cf := c_fill (d := d + 11) (n := n) (h := h) (a := 31) (v := 0) (m := 3) (S := S) (by omega) (by omega) (by decide) (by decide)
  have ih := c_jr_l (d := d + 7) (n := n) (i := 0) (h := fil h 31 0 3) (g := fil h 31 0 3) (σ := h 39) (R := h 46) (rows := h 38 15) v.s (v.t.r.gg (by rw [fil_a (by decide)]) (by rw [fil_a (by decide)]) (fil_a (by decide)) (fil_a (by decide)) (fil_a (by decide)) rfl (fun _ _ _ => rfl) (fun q a _ => fil_a (by omega)) (Int.le_refl _)) w (by rw [fil_a (by decide)]; exact v.r.c) rw6 (fun k a b => by rw [fil_a (by decide)]; exact v.r.t k a b) (by omega) (fun _ _ => rfl) (fun e a b => by rw [fil_i a (by omega)]; rfl) (fun k hk => absurd hk (by omega))
  have e0 : ((0 : Nat) : Int) = 0 := rfl
  rw [e0] at ih
  simp (disch := omega) only [mx_vt_h, mx_vt_m, mx_cmp_0, mx_cmp_1, mx_cmp_2, mx_cmp_3, mx_cmp_4, mx_u_s, mx_u_a, mx_u_k, mx_z_a, mx_z_s, mx_t_a, mx_t_2, mx_t_1, mx_t_0, mx_gd_T, mx_gd_t, mx_br_T, mx_br_F, mx_br_t, mx_br_f, mx_br_n, mx_cl_T, mx_cl_t, mx_re_T, mx_re_t, mx_rt_v, mx_rt_0, mx_cu_t, mx_w_id, mx_l_id, mx_b_0, mx_b_1, mx_b_r, mx_nl_0, mx_nl_1, mx_nl_2, mx_nl_n, mx_nl_l, mx_sw_n, mx_sw_h, mx_sw_m, Int.reduceLE, Int.reduceLT, Int.reduceEq, Int.reduceAdd, Int.reduceSub, Int.reduceMul, Int.reduceNeg, Int.reduceToNat, and_self, true_and, and_true, false_and, and_false, true_or, or_true, false_or, or_false, not_true_eq_false, not_false_eq_true, eq_self, rw_X11_judge, hX, cf]
  refine mx_W_m ih ?_
  rintro vv S1 h1 n1 ⟨y, ey, py, rfl, rfl, f1⟩
  have F1 : ∀ b, ¬ b = 31 → h1 b = h b := fun b z => by rw [f1 b z, fil_a z]
  have v1 : Inv L x S1 h1 n1 c := v.m3 (fun a z _ => F1 a z)
  have e39 := F1 39 (by decide)
  have e46 := F1 46 (by decide)
  have e38 := F1 38 (by decide)
  have ih2 := c_jrM_l (d := d + 7) (n := n1) (S := S1) (i := 0) (h := fil h1 43 0 3) (g := fil h1 43 0 3) (rows := h 38 15) hM (by rw [fil_a (by decide), e39]; exact w) (by rw [fil_a (by decide), e38]) rw6 (by omega) (fun _ _ => rfl) (fun e a b => by rw [fil_i a (by omega)]; rfl) (fun k hk => absurd hk (by omega))
  rw [e0, fil_a (b := 39) (by decide), fil_a (b := 46) (by decide), e39, e46] at ih2
  have ih3 := c_jz_l (d := d + 12) (n := n1) (h := h1) (k := 0) hM (by decide) ih2
  rw [fil_0] at ih3
  simp (disch := omega) only [mx_vt_h, mx_vt_m, mx_cmp_0, mx_cmp_1, mx_cmp_2, mx_cmp_3, mx_cmp_4, mx_u_s, mx_u_a, mx_u_k, mx_z_a, mx_z_s, mx_t_a, mx_t_2, mx_t_1, mx_t_0, mx_gd_T, mx_gd_t, mx_br_T, mx_br_F, mx_br_t, mx_br_f, mx_br_n, mx_cl_T, mx_cl_t, mx_re_T, mx_re_t, mx_rt_v, mx_rt_0, mx_cu_t, mx_w_id, mx_l_id, mx_b_0, mx_b_1, mx_b_r, mx_nl_0, mx_nl_1, mx_nl_2, mx_nl_n, mx_nl_l, mx_sw_n, mx_sw_h, mx_sw_m, Int.reduceLE, Int.reduceLT, Int.reduceEq, Int.reduceAdd, Int.reduceSub, Int.reduceMul, Int.reduceNeg, Int.reduceToNat, and_self, true_and, and_true, false_and, and_false, true_or, or_true, false_or, or_false, not_true_eq_false, not_false_eq_true, eq_self, rw_X12_judge]
  refine mx_W_m ih3 ?_
  rintro vv2 S2 h2 n2 ⟨z, ez, pz, rfl, rfl, f2⟩
  refine ⟨⟨y, ey, by rw [ez, jP_u py pz]⟩, ?_⟩
  exact (v1.m (fun a q => by rw [f2 a (by omega), fil_a (by omega)])).w hc
end
