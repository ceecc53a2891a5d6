/-! The program's finder: what was found is kept; going to a world -/
theorem ct_x {σ : Int → Int} {x y : Int} (e : ∀ t, wi σ x t ↔ wi σ y t) : ∀ k, ct σ x k = ct σ y k := by
  intro k
  induction k with
  | zero => rfl
  | succ k ih => simp only [ct]; rw [ih, mx_b_i (e k)]
theorem cT_a {σ : Int → Int} (w : vw σ) {t : Int} : cT σ (aL (σ 1)) t = cT σ 63 t := by
  unfold cT; exact ct_x (fun t => wd_a w) _
/-- what the finder keeps is so -/
def fc (h : mx_H) (σ : Int → Int) : Prop := (h 2 13 = cT σ 63 4913) ∧ (∀ k, 0 ≤ k → k < 289 → h 15 k = bz 2 17 (wd σ 63 (k / 17) (k % 17))) ∧ (h 16 0 = bz 2 17 (fun b => ∃ u, 0 ≤ u ∧ u < 4913 ∧ wi σ 63 u ∧ u / 289 = b)) ∧ (h 16 1 = bz 2 17 (fun b => ∃ u, 0 ≤ u ∧ u < 4913 ∧ wi σ 63 u ∧ u / 17 % 17 = b)) ∧ (h 16 2 = bz 2 17 (fun b => ∃ u, 0 ≤ u ∧ u < 4913 ∧ wi σ 63 u ∧ u % 17 = b))
theorem fc.mk {h : mx_H} {σ : Int → Int} (x0 : h 2 13 = cT σ 63 4913) (x1 : ∀ k, 0 ≤ k → k < 289 → h 15 k = bz 2 17 (wd σ 63 (k / 17) (k % 17))) (x2 : h 16 0 = bz 2 17 (fun b => ∃ u, 0 ≤ u ∧ u < 4913 ∧ wi σ 63 u ∧ u / 289 = b)) (x3 : h 16 1 = bz 2 17 (fun b => ∃ u, 0 ≤ u ∧ u < 4913 ∧ wi σ 63 u ∧ u / 17 % 17 = b)) (x4 : h 16 2 = bz 2 17 (fun b => ∃ u, 0 ≤ u ∧ u < 4913 ∧ wi σ 63 u ∧ u % 17 = b)) : fc h σ := (And.intro x0 (And.intro x1 (And.intro x2 (And.intro x3 x4))))
theorem fc.n {h : mx_H} {σ : Int → Int} (q : fc h σ) : h 2 13 = cT σ 63 4913 := (And.left q)
theorem fc.t {h : mx_H} {σ : Int → Int} (q : fc h σ) : ∀ k, 0 ≤ k → k < 289 → h 15 k = bz 2 17 (wd σ 63 (k / 17) (k % 17)) := (And.left (And.right q))
theorem fc.s0 {h : mx_H} {σ : Int → Int} (q : fc h σ) : h 16 0 = bz 2 17 (fun b => ∃ u, 0 ≤ u ∧ u < 4913 ∧ wi σ 63 u ∧ u / 289 = b) := (And.left (And.right (And.right q)))
theorem fc.s1 {h : mx_H} {σ : Int → Int} (q : fc h σ) : h 16 1 = bz 2 17 (fun b => ∃ u, 0 ≤ u ∧ u < 4913 ∧ wi σ 63 u ∧ u / 17 % 17 = b) := (And.left (And.right (And.right (And.right q))))
theorem fc.s2 {h : mx_H} {σ : Int → Int} (q : fc h σ) : h 16 2 = bz 2 17 (fun b => ∃ u, 0 ≤ u ∧ u < 4913 ∧ wi σ 63 u ∧ u % 17 = b) := (And.right (And.right (And.right (And.right q))))
/-- what calls of the finder leave alone -/
def fr (h g : mx_H) : Prop := (∀ a, ¬ a = 2 → a < 8 ∨ 16 < a → g a = h a) ∧ (∀ k, ¬ k = 13 → ¬ k = 14 → g 2 k = h 2 k)
theorem fr.mk {h g : mx_H} (x0 : ∀ a, ¬ a = 2 → a < 8 ∨ 16 < a → g a = h a) (x1 : ∀ k, ¬ k = 13 → ¬ k = 14 → g 2 k = h 2 k) : fr h g := (And.intro x0 x1)
theorem fr.f {h g : mx_H} (q : fr h g) : ∀ a, ¬ a = 2 → a < 8 ∨ 16 < a → g a = h a := (And.left q)
theorem fr.f2 {h g : mx_H} (q : fr h g) : ∀ k, ¬ k = 13 → ¬ k = 14 → g 2 k = h 2 k := (And.right q)
theorem fr.t {h g k : mx_H} (a : fr h g) (b : fr g k) : fr h k := fr.mk (fun x y z => by rw [b.f x y z]; exact a.f x y z) (fun x y z => by rw [b.f2 x y z]; exact a.f2 x y z)
theorem fr_0 {h : mx_H} : fr h h := fr.mk (fun _ _ _ => rfl) (fun _ _ _ => rfl)
/-- rows of the table that belong to no base -/
def hz (h : mx_H) : Prop := ∀ k, 0 ≤ k → k < 289 → (k < 34 ∨ k % 17 < 2) → h 15 k = 0
theorem fc_z {h : mx_H} {σ : Int → Int} (w : vw σ) (f : fc h σ) : hz h := by
  intro k k0 k1 q
  rw [f.t k k0 k1, bz_e0]
  intro e _ _ p
  have := wd_r w p; omega
theorem kc_0 {P : Int → Prop} {b : Int} (b0 : 2 ≤ b) : kc P (b + 1 - 2).toNat = kc P (b - 2).toNat + mx_b (P b) := by
  have e : (b + 1 - 2).toNat = (b - 2).toNat + 1 := by omega
  have e2 : (((b - 2).toNat : Nat) : Int) + 2 = b := by omega
  rw [e]; simp only [kc, e2]
theorem kc_m {P : Int → Prop} {k : Nat} : ∀ j : Nat, kc P k ≤ kc P (k + j) := by
  intro j
  induction j with
  | zero => exact Int.le_refl _
  | succ j ih =>
    have := mx_b_rr (P ((k + j : Nat) + 2))
    have e : kc P (k + (j + 1)) = kc P (k + j) + mx_b (P ((k + j : Nat) + 2)) := rfl
    rw [e]; omega
section
variable {d : Nat} {S h : mx_H} {n N : Int} {σ : Int → Int} {Q : Option mx_V → mx_H → mx_H → Int → Prop}
theorem c_bat_l {P : Int → Prop} {k b : Int} {l1 : Option mx_V} (b0 : 2 ≤ b) (b1 : b ≤ 17) (k0 : kc P (b - 2).toNat ≤ k) (k1 : k < kc P 15) : ∃ e, 2 ≤ e ∧ e ≤ 16 ∧ P e ∧ kc P (e - 2).toNat = k ∧ mx_ex d 151 4 [some (0, bz 2 17 P), l1, some (0, k - kc P (b - 2).toNat), some (0, b)] [] S h n = some (some (0, e), S, h, n) := by
  by_cases c : b ≤ 16
  · have r := kc_r (P := P) (b - 2).toNat
    have r2 := kc_r (P := P) 15
    rw [rh_X11_baseAt_4]
    by_cases p : P b
    · by_cases z : k = kc P (b - 2).toNat
      · have z2 : k - kc P (b - 2).toNat = 0 := by omega
        refine ⟨b, b0, c, p, z.symm, ?_⟩
        simp (disch := omega) only [mx_vt_h, mx_vt_m, mx_cmp_0, mx_cmp_1, mx_cmp_2, mx_cmp_3, mx_cmp_4, mx_u_s, mx_u_a, mx_u_k, mx_z_a, mx_z_s, mx_t_a, mx_t_2, mx_t_1, mx_t_0, mx_gd_T, mx_gd_t, mx_br_T, mx_br_F, mx_br_t, mx_br_f, mx_br_n, mx_cl_T, mx_cl_t, mx_re_T, mx_re_t, mx_rt_v, mx_rt_0, mx_cu_t, mx_w_id, mx_l_id, mx_b_0, mx_b_1, mx_b_r, mx_nl_0, mx_nl_1, mx_nl_2, mx_nl_n, mx_nl_l, mx_sw_n, mx_sw_h, mx_sw_m, Int.reduceLE, Int.reduceLT, Int.reduceEq, Int.reduceAdd, Int.reduceSub, Int.reduceMul, Int.reduceNeg, Int.reduceToNat, and_self, true_and, and_true, false_and, and_false, true_or, or_true, false_or, or_false, not_true_eq_false, not_false_eq_true, eq_self, rw_X11_baseAt, bz_tst, mx_b_t p, z2]
      · have s := kc_0 (P := P) b0
        rw [mx_b_t p] at s
        obtain ⟨e, e0, e1, e2, e3, e4⟩ := c_bat_l (P := P) (k := k) (b := b + 1) (l1 := mx_nl l1) (by omega) (by omega) (by omega) k1
        refine ⟨e, e0, e1, e2, e3, ?_⟩
        have a1 : k - kc P (b + 1 - 2).toNat = k - kc P (b - 2).toNat + -1 := by omega
        rw [a1] at e4
        simp (disch := omega) only [mx_vt_h, mx_vt_m, mx_cmp_0, mx_cmp_1, mx_cmp_2, mx_cmp_3, mx_cmp_4, mx_u_s, mx_u_a, mx_u_k, mx_z_a, mx_z_s, mx_t_a, mx_t_2, mx_t_1, mx_t_0, mx_gd_T, mx_gd_t, mx_br_T, mx_br_F, mx_br_t, mx_br_f, mx_br_n, mx_cl_T, mx_cl_t, mx_re_T, mx_re_t, mx_rt_v, mx_rt_0, mx_cu_t, mx_w_id, mx_l_id, mx_b_0, mx_b_1, mx_b_r, mx_nl_0, mx_nl_1, mx_nl_2, mx_nl_n, mx_nl_l, mx_sw_n, mx_sw_h, mx_sw_m, Int.reduceLE, Int.reduceLT, Int.reduceEq, Int.reduceAdd, Int.reduceSub, Int.reduceMul, Int.reduceNeg, Int.reduceToNat, and_self, true_and, and_true, false_and, and_false, true_or, or_true, false_or, or_false, not_true_eq_false, not_false_eq_true, eq_self, rw_X11_baseAt, bz_tst, mx_b_t p]
        exact e4
    · have s := kc_0 (P := P) b0
      rw [mx_b_f p] at s
      obtain ⟨e, e0, e1, e2, e3, e4⟩ := c_bat_l (P := P) (k := k) (b := b + 1) (l1 := l1) (by omega) (by omega) (by omega) k1
      refine ⟨e, e0, e1, e2, e3, ?_⟩
      have a1 : k - kc P (b + 1 - 2).toNat = k - kc P (b - 2).toNat := by omega
      rw [a1] at e4
      simp (disch := omega) only [mx_vt_h, mx_vt_m, mx_cmp_0, mx_cmp_1, mx_cmp_2, mx_cmp_3, mx_cmp_4, mx_u_s, mx_u_a, mx_u_k, mx_z_a, mx_z_s, mx_t_a, mx_t_2, mx_t_1, mx_t_0, mx_gd_T, mx_gd_t, mx_br_T, mx_br_F, mx_br_t, mx_br_f, mx_br_n, mx_cl_T, mx_cl_t, mx_re_T, mx_re_t, mx_rt_v, mx_rt_0, mx_cu_t, mx_w_id, mx_l_id, mx_b_0, mx_b_1, mx_b_r, mx_nl_0, mx_nl_1, mx_nl_2, mx_nl_n, mx_nl_l, mx_sw_n, mx_sw_h, mx_sw_m, Int.reduceLE, Int.reduceLT, Int.reduceEq, Int.reduceAdd, Int.reduceSub, Int.reduceMul, Int.reduceNeg, Int.reduceToNat, and_self, true_and, and_true, false_and, and_false, true_or, or_true, false_or, or_false, not_true_eq_false, not_false_eq_true, eq_self, rw_X11_baseAt, bz_tst, mx_b_f p]
      exact e4
  · have e : (b - 2).toNat = 15 := by omega
    rw [e] at k0; omega
termination_by (17 - b).toNat
/-- baseAt -/
theorem c_bat {P : Int → Prop} {k : Int} (k0 : 0 ≤ k) (k1 : k < kc P 15) : ∃ e, 2 ≤ e ∧ e ≤ 16 ∧ P e ∧ kc P (e - 2).toNat = k ∧ mx_M d 151 [(0, bz 2 17 P), (0, k)] S h n = some (some (0, e), S, h, n) := by
  obtain ⟨e, e0, e1, e2, e3, e4⟩ := c_bat_l (d := d) (S := S) (h := h) (n := n) (P := P) (k := k) (b := 2) (l1 := some (0, k)) (by decide) (by decide) (by simpa [kc] using k0) k1
  refine ⟨e, e0, e1, e2, e3, ?_⟩
  have z : k - kc P (2 - 2 : Int).toNat = k := by simp [kc]
  rw [z] at e4
  simp (disch := omega) only [mx_vt_h, mx_vt_m, mx_cmp_0, mx_cmp_1, mx_cmp_2, mx_cmp_3, mx_cmp_4, mx_u_s, mx_u_a, mx_u_k, mx_z_a, mx_z_s, mx_t_a, mx_t_2, mx_t_1, mx_t_0, mx_gd_T, mx_gd_t, mx_br_T, mx_br_F, mx_br_t, mx_br_f, mx_br_n, mx_cl_T, mx_cl_t, mx_re_T, mx_re_t, mx_rt_v, mx_rt_0, mx_cu_t, mx_w_id, mx_l_id, mx_b_0, mx_b_1, mx_b_r, mx_nl_0, mx_nl_1, mx_nl_2, mx_nl_n, mx_nl_l, mx_sw_n, mx_sw_h, mx_sw_m, Int.reduceLE, Int.reduceLT, Int.reduceEq, Int.reduceAdd, Int.reduceSub, Int.reduceMul, Int.reduceNeg, Int.reduceToNat, and_self, true_and, and_true, false_and, and_false, true_or, or_true, false_or, or_false, not_true_eq_false, not_false_eq_true, eq_self, rw_X11_baseAt]
  exact e4
theorem c_ref (hS : sh_F S) (w : vw σ) (r : rr S h N 3 σ) (o : ro h) (z : hz h) (hc : h 2 14 = h 3 5 → fc h σ)
    (hX : ∀ g, fr h g → fc g σ → g 2 14 = h 3 5 → Q none S g n) : mx_W (mx_M (d + 5) 22 [(2, 2)] S h n) Q := by
  by_cases q : h 2 14 = h 3 5
  · simp (disch := omega) only [mx_vt_h, mx_vt_m, mx_cmp_0, mx_cmp_1, mx_cmp_2, mx_cmp_3, mx_cmp_4, mx_u_s, mx_u_a, mx_u_k, mx_z_a, mx_z_s, mx_t_a, mx_t_2, mx_t_1, mx_t_0, mx_gd_T, mx_gd_t, mx_br_T, mx_br_F, mx_br_t, mx_br_f, mx_br_n, mx_cl_T, mx_cl_t, mx_re_T, mx_re_t, mx_rt_v, mx_rt_0, mx_cu_t, mx_w_id, mx_l_id, mx_b_0, mx_b_1, mx_b_r, mx_nl_0, mx_nl_1, mx_nl_2, mx_nl_n, mx_nl_l, mx_sw_n, mx_sw_h, mx_sw_m, Int.reduceLE, Int.reduceLT, Int.reduceEq, Int.reduceAdd, Int.reduceSub, Int.reduceMul, Int.reduceNeg, Int.reduceToNat, and_self, true_and, and_true, false_and, and_false, true_or, or_true, false_or, or_false, not_true_eq_false, not_false_eq_true, eq_self, rw_X2_refresh, hS.e, q]
    exact mx_W_s (hX h fr_0 (hc q) q)
  · have r1 : rr S (mx_u h 2 14 (h 3 5)) N 3 σ := r.m (fun a x => mx_u_a (by omega))
    simp (disch := omega) only [mx_vt_h, mx_vt_m, mx_cmp_0, mx_cmp_1, mx_cmp_2, mx_cmp_3, mx_cmp_4, mx_u_s, mx_u_a, mx_u_k, mx_z_a, mx_z_s, mx_t_a, mx_t_2, mx_t_1, mx_t_0, mx_gd_T, mx_gd_t, mx_br_T, mx_br_F, mx_br_t, mx_br_f, mx_br_n, mx_cl_T, mx_cl_t, mx_re_T, mx_re_t, mx_rt_v, mx_rt_0, mx_cu_t, mx_w_id, mx_l_id, mx_b_0, mx_b_1, mx_b_r, mx_nl_0, mx_nl_1, mx_nl_2, mx_nl_n, mx_nl_l, mx_sw_n, mx_sw_h, mx_sw_m, Int.reduceLE, Int.reduceLT, Int.reduceEq, Int.reduceAdd, Int.reduceSub, Int.reduceMul, Int.reduceNeg, Int.reduceToNat, and_self, true_and, and_true, false_and, and_false, true_or, or_true, false_or, or_false, not_true_eq_false, not_false_eq_true, eq_self, rw_X2_refresh, hS.e]
    refine mx_W_r (c_load hS w r1 ?_)
    intro g f t cn
    show mx_W (mx_ex _ _ _ _ [] _ _ _) _
    have rg : rr S g N 3 σ := r1.m (fun a x => f a (by omega) (by omega) (by omega) (by omega))
    have og : ro g := ro.mk (by rw [f (-3) (by decide) (by decide) (by decide) (by decide), f (-4) (by decide) (by decide) (by decide) (by decide), mx_u_a (by decide), mx_u_a (by decide)]; exact o.e)
    have ca := c_allLines (d := d + 4) (S := S) (h := g) (n := n) hS.v w rg.L
    simp (disch := omega) only [mx_vt_h, mx_vt_m, mx_cmp_0, mx_cmp_1, mx_cmp_2, mx_cmp_3, mx_cmp_4, mx_u_s, mx_u_a, mx_u_k, mx_z_a, mx_z_s, mx_t_a, mx_t_2, mx_t_1, mx_t_0, mx_gd_T, mx_gd_t, mx_br_T, mx_br_F, mx_br_t, mx_br_f, mx_br_n, mx_cl_T, mx_cl_t, mx_re_T, mx_re_t, mx_rt_v, mx_rt_0, mx_cu_t, mx_w_id, mx_l_id, mx_b_0, mx_b_1, mx_b_r, mx_nl_0, mx_nl_1, mx_nl_2, mx_nl_n, mx_nl_l, mx_sw_n, mx_sw_h, mx_sw_m, Int.reduceLE, Int.reduceLT, Int.reduceEq, Int.reduceAdd, Int.reduceSub, Int.reduceMul, Int.reduceNeg, Int.reduceToNat, and_self, true_and, and_true, false_and, and_false, true_or, or_true, false_or, or_false, not_true_eq_false, not_false_eq_true, eq_self, rw_X2_refresh, hS.e, ca]
    refine mx_W_r (c_lim hS w rg.r t og cn ?_)
    intro g2 Λ f2 m u
    show mx_W (mx_ex _ _ _ _ [] _ _ _) _
    simp (disch := omega) only [mx_vt_h, mx_vt_m, mx_cmp_0, mx_cmp_1, mx_cmp_2, mx_cmp_3, mx_cmp_4, mx_u_s, mx_u_a, mx_u_k, mx_z_a, mx_z_s, mx_t_a, mx_t_2, mx_t_1, mx_t_0, mx_gd_T, mx_gd_t, mx_br_T, mx_br_F, mx_br_t, mx_br_f, mx_br_n, mx_cl_T, mx_cl_t, mx_re_T, mx_re_t, mx_rt_v, mx_rt_0, mx_cu_t, mx_w_id, mx_l_id, mx_b_0, mx_b_1, mx_b_r, mx_nl_0, mx_nl_1, mx_nl_2, mx_nl_n, mx_nl_l, mx_sw_n, mx_sw_h, mx_sw_m, Int.reduceLE, Int.reduceLT, Int.reduceEq, Int.reduceAdd, Int.reduceSub, Int.reduceMul, Int.reduceNeg, Int.reduceToNat, and_self, true_and, and_true, false_and, and_false, true_or, or_true, false_or, or_false, not_true_eq_false, not_false_eq_true, eq_self, rw_X2_refresh, hS.e]
    refine mx_W_r (c_fillW hS w (rg.r.m f2.f) (t.m f2.f) m u ?_)
    intro g3 f3
    show mx_W (mx_ex _ _ _ _ [] _ _ _) _
    simp (disch := omega) only [mx_vt_h, mx_vt_m, mx_cmp_0, mx_cmp_1, mx_cmp_2, mx_cmp_3, mx_cmp_4, mx_u_s, mx_u_a, mx_u_k, mx_z_a, mx_z_s, mx_t_a, mx_t_2, mx_t_1, mx_t_0, mx_gd_T, mx_gd_t, mx_br_T, mx_br_F, mx_br_t, mx_br_f, mx_br_n, mx_cl_T, mx_cl_t, mx_re_T, mx_re_t, mx_rt_v, mx_rt_0, mx_cu_t, mx_w_id, mx_l_id, mx_b_0, mx_b_1, mx_b_r, mx_nl_0, mx_nl_1, mx_nl_2, mx_nl_n, mx_nl_l, mx_sw_n, mx_sw_h, mx_sw_m, Int.reduceLE, Int.reduceLT, Int.reduceEq, Int.reduceAdd, Int.reduceSub, Int.reduceMul, Int.reduceNeg, Int.reduceToNat, and_self, true_and, and_true, false_and, and_false, true_or, or_true, false_or, or_false, not_true_eq_false, not_false_eq_true, eq_self, rw_X2_refresh]
    refine mx_W_s (hX g3 (fr.mk ?_ ?_) (fc.mk ?_ ?_ ?_ ?_ ?_) ?_)
    · intro a x y
      rw [f3.f a x (by omega) (by omega) (by omega), f2.f a (by omega) (by omega), f a (by omega) (by omega) (by omega) (by omega), mx_u_a x]
    · intro k x y
      rw [f3.f2 k x, f2.f 2 (by decide) (by decide), f 2 (by decide) (by decide) (by decide) (by decide), mx_u_k y]
    · rw [f3.n, cT_a w]
    · intro k k0 k1
      by_cases y : k < 34 ∨ k % 17 < 2
      · rw [f3.z k y, f2.f 15 (by decide) (by decide), f 15 (by decide) (by decide) (by decide) (by decide), mx_u_a (by decide), z k k0 k1 y, eq_comm, bz_e0]
        intro e _ _ p
        have := wd_r w p; omega
      · have := f3.t (k / 17) (k % 17) (by omega) (by omega) (by omega) (by omega) (by omega)
        have e : k / 17 * 17 + k % 17 = k := by omega
        rw [e] at this
        rw [this]; exact bz_c (fun e _ _ => wd_a w)
    · rw [f3.s0]; exact bz_c (fun b _ _ => ⟨fun ⟨u, a, b, c, e⟩ => ⟨u, a, b, (wd_a w).mp c, e⟩, fun ⟨u, a, b, c, e⟩ => ⟨u, a, b, (wd_a w).mpr c, e⟩⟩)
    · rw [f3.s1]; exact bz_c (fun b _ _ => ⟨fun ⟨u, a, b, c, e⟩ => ⟨u, a, b, (wd_a w).mp c, e⟩, fun ⟨u, a, b, c, e⟩ => ⟨u, a, b, (wd_a w).mpr c, e⟩⟩)
    · rw [f3.s2]; exact bz_c (fun b _ _ => ⟨fun ⟨u, a, b, c, e⟩ => ⟨u, a, b, (wd_a w).mp c, e⟩, fun ⟨u, a, b, c, e⟩ => ⟨u, a, b, (wd_a w).mpr c, e⟩⟩)
    · rw [f3.f2 14 (by decide), f2.f 2 (by decide) (by decide), f 2 (by decide) (by decide) (by decide) (by decide), mx_u_s]
theorem c_howMany (hS : sh_F S) (w : vw σ) (r : rr S h N 3 σ) (o : ro h) (z : hz h) (hc : h 2 14 = h 3 5 → fc h σ)
    (hX : ∀ g, fr h g → fc g σ → g 2 14 = h 3 5 → Q (some (0, cT σ 63 4913)) S g n) : mx_W (mx_M (d + 6) 13 [(2, 2)] S h n) Q := by
  simp (disch := omega) only [mx_vt_h, mx_vt_m, mx_cmp_0, mx_cmp_1, mx_cmp_2, mx_cmp_3, mx_cmp_4, mx_u_s, mx_u_a, mx_u_k, mx_z_a, mx_z_s, mx_t_a, mx_t_2, mx_t_1, mx_t_0, mx_gd_T, mx_gd_t, mx_br_T, mx_br_F, mx_br_t, mx_br_f, mx_br_n, mx_cl_T, mx_cl_t, mx_re_T, mx_re_t, mx_rt_v, mx_rt_0, mx_cu_t, mx_w_id, mx_l_id, mx_b_0, mx_b_1, mx_b_r, mx_nl_0, mx_nl_1, mx_nl_2, mx_nl_n, mx_nl_l, mx_sw_n, mx_sw_h, mx_sw_m, Int.reduceLE, Int.reduceLT, Int.reduceEq, Int.reduceAdd, Int.reduceSub, Int.reduceMul, Int.reduceNeg, Int.reduceToNat, and_self, true_and, and_true, false_and, and_false, true_or, or_true, false_or, or_false, not_true_eq_false, not_false_eq_true, eq_self, rw_X2_howMany, hS.e]
  refine mx_W_r (c_ref hS w r o z hc ?_)
  intro g f c v
  have hX := hX g f c v
  rw [← c.n] at hX
  show mx_W (mx_ex _ _ _ _ [] _ _ _) _
  simp (disch := omega) only [mx_vt_h, mx_vt_m, mx_cmp_0, mx_cmp_1, mx_cmp_2, mx_cmp_3, mx_cmp_4, mx_u_s, mx_u_a, mx_u_k, mx_z_a, mx_z_s, mx_t_a, mx_t_2, mx_t_1, mx_t_0, mx_gd_T, mx_gd_t, mx_br_T, mx_br_F, mx_br_t, mx_br_f, mx_br_n, mx_cl_T, mx_cl_t, mx_re_T, mx_re_t, mx_rt_v, mx_rt_0, mx_cu_t, mx_w_id, mx_l_id, mx_b_0, mx_b_1, mx_b_r, mx_nl_0, mx_nl_1, mx_nl_2, mx_nl_n, mx_nl_l, mx_sw_n, mx_sw_h, mx_sw_m, Int.reduceLE, Int.reduceLT, Int.reduceEq, Int.reduceAdd, Int.reduceSub, Int.reduceMul, Int.reduceNeg, Int.reduceToNat, and_self, true_and, and_true, false_and, and_false, true_or, or_true, false_or, or_false, not_true_eq_false, not_false_eq_true, eq_self, rw_X2_howMany, hS.e]
  exact mx_W_s hX
theorem c_seen (hS : sh_F S) (w : vw σ) (r : rr S h N 3 σ) (o : ro h) (z : hz h) (hc : h 2 14 = h 3 5 → fc h σ) {e : Int} (e0 : 0 ≤ e) (e1 : e ≤ 2)
    (hX : ∀ g, fr h g → fc g σ → g 2 14 = h 3 5 → Q (some (0, g 16 e)) S g n) : mx_W (mx_M (d + 6) 14 [(2, 2), (0, e)] S h n) Q := by
  simp (disch := omega) only [mx_vt_h, mx_vt_m, mx_cmp_0, mx_cmp_1, mx_cmp_2, mx_cmp_3, mx_cmp_4, mx_u_s, mx_u_a, mx_u_k, mx_z_a, mx_z_s, mx_t_a, mx_t_2, mx_t_1, mx_t_0, mx_gd_T, mx_gd_t, mx_br_T, mx_br_F, mx_br_t, mx_br_f, mx_br_n, mx_cl_T, mx_cl_t, mx_re_T, mx_re_t, mx_rt_v, mx_rt_0, mx_cu_t, mx_w_id, mx_l_id, mx_b_0, mx_b_1, mx_b_r, mx_nl_0, mx_nl_1, mx_nl_2, mx_nl_n, mx_nl_l, mx_sw_n, mx_sw_h, mx_sw_m, Int.reduceLE, Int.reduceLT, Int.reduceEq, Int.reduceAdd, Int.reduceSub, Int.reduceMul, Int.reduceNeg, Int.reduceToNat, and_self, true_and, and_true, false_and, and_false, true_or, or_true, false_or, or_false, not_true_eq_false, not_false_eq_true, eq_self, rw_X2_basesSeen, hS.e]
  refine mx_W_r (c_ref hS w r o z hc ?_)
  intro g f c v
  have hX := hX g f c v
  show mx_W (mx_ex _ _ _ _ [] _ _ _) _
  simp (disch := omega) only [mx_vt_h, mx_vt_m, mx_cmp_0, mx_cmp_1, mx_cmp_2, mx_cmp_3, mx_cmp_4, mx_u_s, mx_u_a, mx_u_k, mx_z_a, mx_z_s, mx_t_a, mx_t_2, mx_t_1, mx_t_0, mx_gd_T, mx_gd_t, mx_br_T, mx_br_F, mx_br_t, mx_br_f, mx_br_n, mx_cl_T, mx_cl_t, mx_re_T, mx_re_t, mx_rt_v, mx_rt_0, mx_cu_t, mx_w_id, mx_l_id, mx_b_0, mx_b_1, mx_b_r, mx_nl_0, mx_nl_1, mx_nl_2, mx_nl_n, mx_nl_l, mx_sw_n, mx_sw_h, mx_sw_m, Int.reduceLE, Int.reduceLT, Int.reduceEq, Int.reduceAdd, Int.reduceSub, Int.reduceMul, Int.reduceNeg, Int.reduceToNat, and_self, true_and, and_true, false_and, and_false, true_or, or_true, false_or, or_false, not_true_eq_false, not_false_eq_true, eq_self, rw_X2_basesSeen, hS.e]
  exact mx_W_s hX
theorem c_goTo_l (hS : sh_F S) (w : vw σ) (c : fc h σ) {k t : Int} {l1 l4 : Option mx_V} (t0 : 0 ≤ t) (t1 : t ≤ 289) (k0 : cT σ 63 (17 * t) ≤ k) (k1 : k < cT σ 63 4913)
    (hT : ∀ g u, fr h g → fc g σ → g 2 14 = h 2 14 → 0 ≤ u → u < 4913 → wi σ 63 u → cT σ 63 u = k → g 8 0 = u / 289 → g 8 1 = u / 17 % 17 → g 8 2 = u % 17 → Q (some (0, 1)) S g n) :
    mx_W (mx_ex (d + 1) 15 22 [some (2, 2), l1, some (0, k - cT σ 63 (17 * t)), some (0, t), l4] [] S h n) Q := by
  by_cases q : t < 289
  · have e17 := cT_17 w (x := 63) (b := t / 17) (c := t % 17) (by omega) (by omega) (by omega)
    have et : t / 17 * 289 + t % 17 * 17 = 17 * t := by omega
    rw [et] at e17
    have r1 := cT_r (σ := σ) (x := 63) (t := 17 * t) (by omega)
    have r2 := kc_r (P := wd σ 63 (t / 17) (t % 17)) 15
    have h15 := c.t t t0 q
    rw [rh_X2_goTo_22]
    by_cases y : k - cT σ 63 (17 * t) < kc (wd σ 63 (t / 17) (t % 17)) 15
    · obtain ⟨e, e0, e1, e2, e3, e4⟩ := c_bat (d := d) (S := S) (h := mx_u (mx_u h 8 0 (Int.tdiv t 17)) 8 1 (Int.tmod t 17)) (n := n) (P := wd σ 63 (t / 17) (t % 17)) (k := k - cT σ 63 (17 * t)) (by omega) y
      have d1 : Int.tdiv t 17 = t / 17 := Int.tdiv_eq_ediv_of_nonneg t0
      have d2 : Int.tmod t 17 = t % 17 := Int.tmod_eq_emod_of_nonneg t0
      rw [d1, d2] at e4
      simp (disch := omega) only [mx_vt_h, mx_vt_m, mx_cmp_0, mx_cmp_1, mx_cmp_2, mx_cmp_3, mx_cmp_4, mx_u_s, mx_u_a, mx_u_k, mx_z_a, mx_z_s, mx_t_a, mx_t_2, mx_t_1, mx_t_0, mx_gd_T, mx_gd_t, mx_br_T, mx_br_F, mx_br_t, mx_br_f, mx_br_n, mx_cl_T, mx_cl_t, mx_re_T, mx_re_t, mx_rt_v, mx_rt_0, mx_cu_t, mx_w_id, mx_l_id, mx_b_0, mx_b_1, mx_b_r, mx_nl_0, mx_nl_1, mx_nl_2, mx_nl_n, mx_nl_l, mx_sw_n, mx_sw_h, mx_sw_m, Int.reduceLE, Int.reduceLT, Int.reduceEq, Int.reduceAdd, Int.reduceSub, Int.reduceMul, Int.reduceNeg, Int.reduceToNat, and_self, true_and, and_true, false_and, and_false, true_or, or_true, false_or, or_false, not_true_eq_false, not_false_eq_true, eq_self, rw_X2_goTo, hS.e, h15, c_bc, d1, d2, e4]
      have ec := cT_p w (x := 63) (b := t / 17) (c := t % 17) (by omega) (by omega) (by omega) (e - 2).toNat (by omega)
      have ee : t / 17 * 289 + t % 17 * 17 + 2 + (((e - 2).toNat : Nat) : Int) = 17 * t + e := by omega
      rw [ee, et] at ec
      have f8 : ∀ a, ¬ a = 8 → mx_u (mx_u (mx_u h 8 0 (t / 17)) 8 1 (t % 17)) 8 2 e a = h a := fun a x => by rw [mx_u_a x, mx_u_a x, mx_u_a x]
      refine mx_W_s (hT _ (17 * t + e) (fr.mk (fun a x y => f8 a (by omega)) (fun k x y => by rw [f8 2 (by decide)])) (fc.mk (by rw [f8 2 (by decide)]; exact c.n) (fun k a b => by rw [f8 15 (by decide)]; exact c.t k a b) (by rw [f8 16 (by decide)]; exact c.s0) (by rw [f8 16 (by decide)]; exact c.s1) (by rw [f8 16 (by decide)]; exact c.s2)) (by rw [f8 2 (by decide)]) (by omega) (by omega) ?_ (by omega) ?_ ?_ ?_)
      · unfold wi
        have h1 : (17 * t + e) / 289 = t / 17 := by omega
        have h2 : (17 * t + e) / 17 % 17 = t % 17 := by omega
        have h3 : (17 * t + e) % 17 = e := by omega
        rw [h1, h2, h3]; exact e2
      · rw [mx_u_k (by decide), mx_u_k (by decide), mx_u_s]; omega
      · rw [mx_u_k (by decide), mx_u_s]; omega
      · rw [mx_u_s]; omega
    · have e4 : 17 * (t + 1) = 17 * t + 17 := by omega
      have kk : cT σ 63 (17 * (t + 1)) ≤ k := by rw [e4, e17]; omega
      have ih := fun l1 l4 => c_goTo_l hS w c (k := k) (t := t + 1) (l1 := l1) (l4 := l4) (by omega) (by omega) kk k1 hT
      have r4 := cT_r (σ := σ) (x := 63) (t := 4913) (by omega)
      have e5 : k - cT σ 63 (17 * (t + 1)) = k - cT σ 63 (17 * t) - kc (wd σ 63 (t / 17) (t % 17)) 15 := by rw [e4, e17]; omega
      rw [e5] at ih
      simp (disch := omega) only [mx_vt_h, mx_vt_m, mx_cmp_0, mx_cmp_1, mx_cmp_2, mx_cmp_3, mx_cmp_4, mx_u_s, mx_u_a, mx_u_k, mx_z_a, mx_z_s, mx_t_a, mx_t_2, mx_t_1, mx_t_0, mx_gd_T, mx_gd_t, mx_br_T, mx_br_F, mx_br_t, mx_br_f, mx_br_n, mx_cl_T, mx_cl_t, mx_re_T, mx_re_t, mx_rt_v, mx_rt_0, mx_cu_t, mx_w_id, mx_l_id, mx_b_0, mx_b_1, mx_b_r, mx_nl_0, mx_nl_1, mx_nl_2, mx_nl_n, mx_nl_l, mx_sw_n, mx_sw_h, mx_sw_m, Int.reduceLE, Int.reduceLT, Int.reduceEq, Int.reduceAdd, Int.reduceSub, Int.reduceMul, Int.reduceNeg, Int.reduceToNat, and_self, true_and, and_true, false_and, and_false, true_or, or_true, false_or, or_false, not_true_eq_false, not_false_eq_true, eq_self, rw_X2_goTo, hS.e, h15, c_bc]
      exact ih _ _
  · have e : 17 * t = 4913 := by omega
    rw [e] at k0; omega
termination_by (289 - t).toNat
decreasing_by omega
/-- goTo -/
theorem c_goTo (hS : sh_F S) (w : vw σ) (r : rr S h N 3 σ) (o : ro h) (z : hz h) (hc : h 2 14 = h 3 5 → fc h σ) {k : Int}
    (hF : ∀ g, fr h g → fc g σ → g 2 14 = h 3 5 → (k < 0 ∨ cT σ 63 4913 ≤ k) → Q (some (0, 0)) S g n)
    (hT : ∀ g u, fr h g → fc g σ → g 2 14 = h 3 5 → 0 ≤ u → u < 4913 → wi σ 63 u → cT σ 63 u = k → g 8 0 = u / 289 → g 8 1 = u / 17 % 17 → g 8 2 = u % 17 → Q (some (0, 1)) S g n) :
    mx_W (mx_M (d + 6) 15 [(2, 2), (0, k)] S h n) Q := by
  simp (disch := omega) only [mx_vt_h, mx_vt_m, mx_cmp_0, mx_cmp_1, mx_cmp_2, mx_cmp_3, mx_cmp_4, mx_u_s, mx_u_a, mx_u_k, mx_z_a, mx_z_s, mx_t_a, mx_t_2, mx_t_1, mx_t_0, mx_gd_T, mx_gd_t, mx_br_T, mx_br_F, mx_br_t, mx_br_f, mx_br_n, mx_cl_T, mx_cl_t, mx_re_T, mx_re_t, mx_rt_v, mx_rt_0, mx_cu_t, mx_w_id, mx_l_id, mx_b_0, mx_b_1, mx_b_r, mx_nl_0, mx_nl_1, mx_nl_2, mx_nl_n, mx_nl_l, mx_sw_n, mx_sw_h, mx_sw_m, Int.reduceLE, Int.reduceLT, Int.reduceEq, Int.reduceAdd, Int.reduceSub, Int.reduceMul, Int.reduceNeg, Int.reduceToNat, and_self, true_and, and_true, false_and, and_false, true_or, or_true, false_or, or_false, not_true_eq_false, not_false_eq_true, eq_self, rw_X2_goTo, hS.e]
  refine mx_W_r (c_ref hS w r o z hc ?_)
  intro g f c v
  have hF := hF g f c v
  have hn := c.n
  show mx_W (mx_ex _ _ _ _ [] _ _ _) _
  by_cases q : k < 0
  · simp (disch := omega) only [mx_vt_h, mx_vt_m, mx_cmp_0, mx_cmp_1, mx_cmp_2, mx_cmp_3, mx_cmp_4, mx_u_s, mx_u_a, mx_u_k, mx_z_a, mx_z_s, mx_t_a, mx_t_2, mx_t_1, mx_t_0, mx_gd_T, mx_gd_t, mx_br_T, mx_br_F, mx_br_t, mx_br_f, mx_br_n, mx_cl_T, mx_cl_t, mx_re_T, mx_re_t, mx_rt_v, mx_rt_0, mx_cu_t, mx_w_id, mx_l_id, mx_b_0, mx_b_1, mx_b_r, mx_nl_0, mx_nl_1, mx_nl_2, mx_nl_n, mx_nl_l, mx_sw_n, mx_sw_h, mx_sw_m, Int.reduceLE, Int.reduceLT, Int.reduceEq, Int.reduceAdd, Int.reduceSub, Int.reduceMul, Int.reduceNeg, Int.reduceToNat, and_self, true_and, and_true, false_and, and_false, true_or, or_true, false_or, or_false, not_true_eq_false, not_false_eq_true, eq_self, rw_X2_goTo, hS.e, hn]
    exact mx_W_s (hF (Or.inl q))
  · by_cases y : k < cT σ 63 4913
    · have ih := fun l1 l4 => c_goTo_l (d := d + 5) (n := n) (Q := Q) (k := k) (t := 0) (l1 := l1) (l4 := l4) hS w c (by decide) (by decide) (by rw [Int.mul_zero, cT_0]; omega) y (fun g2 u f2 c2 v2 => hT g2 u (f.t f2) c2 (by rw [v2]; exact v))
      rw [Int.mul_zero, cT_0, Int.sub_zero] at ih
      simp (disch := omega) only [mx_vt_h, mx_vt_m, mx_cmp_0, mx_cmp_1, mx_cmp_2, mx_cmp_3, mx_cmp_4, mx_u_s, mx_u_a, mx_u_k, mx_z_a, mx_z_s, mx_t_a, mx_t_2, mx_t_1, mx_t_0, mx_gd_T, mx_gd_t, mx_br_T, mx_br_F, mx_br_t, mx_br_f, mx_br_n, mx_cl_T, mx_cl_t, mx_re_T, mx_re_t, mx_rt_v, mx_rt_0, mx_cu_t, mx_w_id, mx_l_id, mx_b_0, mx_b_1, mx_b_r, mx_nl_0, mx_nl_1, mx_nl_2, mx_nl_n, mx_nl_l, mx_sw_n, mx_sw_h, mx_sw_m, Int.reduceLE, Int.reduceLT, Int.reduceEq, Int.reduceAdd, Int.reduceSub, Int.reduceMul, Int.reduceNeg, Int.reduceToNat, and_self, true_and, and_true, false_and, and_false, true_or, or_true, false_or, or_false, not_true_eq_false, not_false_eq_true, eq_self, rw_X2_goTo, hS.e, hn]
      exact ih _ _
    · simp (disch := omega) only [mx_vt_h, mx_vt_m, mx_cmp_0, mx_cmp_1, mx_cmp_2, mx_cmp_3, mx_cmp_4, mx_u_s, mx_u_a, mx_u_k, mx_z_a, mx_z_s, mx_t_a, mx_t_2, mx_t_1, mx_t_0, mx_gd_T, mx_gd_t, mx_br_T, mx_br_F, mx_br_t, mx_br_f, mx_br_n, mx_cl_T, mx_cl_t, mx_re_T, mx_re_t, mx_rt_v, mx_rt_0, mx_cu_t, mx_w_id, mx_l_id, mx_b_0, mx_b_1, mx_b_r, mx_nl_0, mx_nl_1, mx_nl_2, mx_nl_n, mx_nl_l, mx_sw_n, mx_sw_h, mx_sw_m, Int.reduceLE, Int.reduceLT, Int.reduceEq, Int.reduceAdd, Int.reduceSub, Int.reduceMul, Int.reduceNeg, Int.reduceToNat, and_self, true_and, and_true, false_and, and_false, true_or, or_true, false_or, or_false, not_true_eq_false, not_false_eq_true, eq_self, rw_X2_goTo, hS.e, hn]
      exact mx_W_s (hF (Or.inr (by omega)))
end
