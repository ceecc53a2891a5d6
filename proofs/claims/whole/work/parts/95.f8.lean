/-! The program's finder: its tables read from the notes -/
theorem nr.m {S h g : mx_H} {N p i : Int} {σ : Int → Int} (r : nr S h N p σ i) (f : ∀ a, 53 ≤ a → g a = h a) : nr S g N p σ i :=
  nr.mk r.t (by rw [f p r.p0]; exact r.n) (by rw [f p r.p0]; exact r.a) (by rw [f p r.p0]; exact r.e) r.q r.l (fun k a b => by rw [f _ r.q0]; exact r.s k a b) r.p0 r.p1 r.q0 r.q1
theorem rr.m {S h g : mx_H} {N v : Int} {σ : Int → Int} (r : rr S h N v σ) (f : ∀ a, (v ≤ a ∧ a ≤ v + 4) ∨ 53 ≤ a → g a = h a) : rr S g N v σ :=
  rr.mk (by rw [f v (by omega)]; exact r.c) (by rw [f v (by omega)]; exact r.L) (fun e a b => by rw [f _ (by omega)]; exact r.lo e a b) (fun e a b => by rw [f _ (by omega)]; exact r.hi e a b)
    (fun l k a b x y => by rw [f _ (by omega)]; exact r.l l k a b x y) (fun i a b => (r.n i a b).m (fun a h => f a (Or.inr h)))
/-- what readNote leaves, once the worths below b are written -/
def rn (h g : mx_H) (σ : Int → Int) (i b : Int) : Prop := (∀ a, ¬ a = 9 → ¬ a = 10 → ¬ a = 11 → g a = h a) ∧ (g 9 i = it σ i 1) ∧ (∀ k, ¬ k = i → g 9 k = h 9 k) ∧ (g 10 i = bz 2 17 (cb σ i)) ∧ (∀ k, ¬ k = i → g 10 k = h 10 k) ∧ (∀ k, 2 ≤ k → k < b → g 11 (i * 17 + k) = wo σ i k) ∧ (∀ k, k < i * 17 + 2 ∨ i * 17 + b ≤ k → g 11 k = h 11 k)
theorem rn.mk {h g : mx_H} {σ : Int → Int} {i b : Int} (x0 : ∀ a, ¬ a = 9 → ¬ a = 10 → ¬ a = 11 → g a = h a) (x1 : g 9 i = it σ i 1) (x2 : ∀ k, ¬ k = i → g 9 k = h 9 k) (x3 : g 10 i = bz 2 17 (cb σ i)) (x4 : ∀ k, ¬ k = i → g 10 k = h 10 k) (x5 : ∀ k, 2 ≤ k → k < b → g 11 (i * 17 + k) = wo σ i k) (x6 : ∀ k, k < i * 17 + 2 ∨ i * 17 + b ≤ k → g 11 k = h 11 k) : rn h g σ i b := (And.intro x0 (And.intro x1 (And.intro x2 (And.intro x3 (And.intro x4 (And.intro x5 x6))))))
theorem rn.f {h g : mx_H} {σ : Int → Int} {i b : Int} (q : rn h g σ i b) : ∀ a, ¬ a = 9 → ¬ a = 10 → ¬ a = 11 → g a = h a := (And.left q)
theorem rn.e {h g : mx_H} {σ : Int → Int} {i b : Int} (q : rn h g σ i b) : g 9 i = it σ i 1 := (And.left (And.right q))
theorem rn.e2 {h g : mx_H} {σ : Int → Int} {i b : Int} (q : rn h g σ i b) : ∀ k, ¬ k = i → g 9 k = h 9 k := (And.left (And.right (And.right q)))
theorem rn.c {h g : mx_H} {σ : Int → Int} {i b : Int} (q : rn h g σ i b) : g 10 i = bz 2 17 (cb σ i) := (And.left (And.right (And.right (And.right q))))
theorem rn.c2 {h g : mx_H} {σ : Int → Int} {i b : Int} (q : rn h g σ i b) : ∀ k, ¬ k = i → g 10 k = h 10 k := (And.left (And.right (And.right (And.right (And.right q)))))
theorem rn.w {h g : mx_H} {σ : Int → Int} {i b : Int} (q : rn h g σ i b) : ∀ k, 2 ≤ k → k < b → g 11 (i * 17 + k) = wo σ i k := (And.left (And.right (And.right (And.right (And.right (And.right q))))))
theorem rn.w2 {h g : mx_H} {σ : Int → Int} {i b : Int} (q : rn h g σ i b) : ∀ k, k < i * 17 + 2 ∨ i * 17 + b ≤ k → g 11 k = h 11 k := (And.right (And.right (And.right (And.right (And.right (And.right q))))))
section
variable {d : Nat} {S h : mx_H} {n N p i : Int} {σ : Int → Int} {Q : Option mx_V → mx_H → mx_H → Int → Prop}
theorem c_rn_l (hS : sh_F S) (r : nr S h N p σ i) (w : nw σ i) (i0 : 0 ≤ i) (i1 : i ≤ 5) {b : Int} (b0 : 2 ≤ b) (b1 : b ≤ 17) {g : mx_H} (f : rn h g σ i b)
    (hX : ∀ g, rn h g σ i 17 → Q none S g n) :
    mx_W (mx_ex (d + 3) 24 27 [some (2, 2), some (2, p), some (0, i), some (0, b)] [] S g n) Q := by
  have rg : nr S g N p σ i := r.m (fun a h => f.f a (by omega) (by omega) (by omega))
  rw [rh_X2_readNote_27]
  by_cases q : b ≤ 16
  · simp (disch := omega) only [mx_vt_h, mx_vt_m, mx_cmp_0, mx_cmp_1, mx_cmp_2, mx_cmp_3, mx_cmp_4, mx_u_s, mx_u_a, mx_u_k, mx_z_a, mx_z_s, mx_t_a, mx_t_2, mx_t_1, mx_t_0, mx_gd_T, mx_gd_t, mx_br_T, mx_br_F, mx_br_t, mx_br_f, mx_br_n, mx_cl_T, mx_cl_t, mx_re_T, mx_re_t, mx_rt_v, mx_rt_0, mx_cu_t, mx_w_id, mx_l_id, mx_b_0, mx_b_1, mx_b_r, mx_nl_0, mx_nl_1, mx_nl_2, mx_nl_n, mx_nl_l, mx_sw_n, mx_sw_h, mx_sw_m, Int.reduceLE, Int.reduceLT, Int.reduceEq, Int.reduceAdd, Int.reduceSub, Int.reduceMul, Int.reduceNeg, Int.reduceToNat, and_self, true_and, and_true, false_and, and_false, true_or, or_true, false_or, or_false, not_true_eq_false, not_false_eq_true, eq_self, rw_X2_readNote, hS.e, c_worthV rg w b0 q rfl]
    refine c_rn_l hS r w i0 i1 (b := b + 1) (by omega) (by omega) (rn.mk ?_ ?_ ?_ ?_ ?_ ?_ ?_) hX
    · intro a h1 h2 h3; rw [mx_u_a h3]; exact f.f a h1 h2 h3
    · rw [mx_u_a (by decide)]; exact f.e
    · intro k hk; rw [mx_u_a (by decide)]; exact f.e2 k hk
    · rw [mx_u_a (by decide)]; exact f.c
    · intro k hk; rw [mx_u_a (by decide)]; exact f.c2 k hk
    · intro k k0 k1
      by_cases e : k = b
      · rw [e, mx_u_s]
      · rw [mx_u_k (by omega)]; exact f.w k k0 (by omega)
    · intro k hk; rw [mx_u_k (by omega)]; exact f.w2 k (by omega)
  · have e : b = 17 := by omega
    subst e
    simp (disch := omega) only [mx_vt_h, mx_vt_m, mx_cmp_0, mx_cmp_1, mx_cmp_2, mx_cmp_3, mx_cmp_4, mx_u_s, mx_u_a, mx_u_k, mx_z_a, mx_z_s, mx_t_a, mx_t_2, mx_t_1, mx_t_0, mx_gd_T, mx_gd_t, mx_br_T, mx_br_F, mx_br_t, mx_br_f, mx_br_n, mx_cl_T, mx_cl_t, mx_re_T, mx_re_t, mx_rt_v, mx_rt_0, mx_cu_t, mx_w_id, mx_l_id, mx_b_0, mx_b_1, mx_b_r, mx_nl_0, mx_nl_1, mx_nl_2, mx_nl_n, mx_nl_l, mx_sw_n, mx_sw_h, mx_sw_m, Int.reduceLE, Int.reduceLT, Int.reduceEq, Int.reduceAdd, Int.reduceSub, Int.reduceMul, Int.reduceNeg, Int.reduceToNat, and_self, true_and, and_true, false_and, and_false, true_or, or_true, false_or, or_false, not_true_eq_false, not_false_eq_true, eq_self, rw_X2_readNote]
    exact mx_W_s (hX g f)
termination_by (17 - b).toNat
theorem c_rn (hS : sh_F S) (r : nr S h N p σ i) (w : nw σ i) (i0 : 0 ≤ i) (i1 : i ≤ 5)
    (hX : ∀ g, rn h g σ i 17 → Q none S g n) :
    mx_W (mx_M (d + 3) 24 [(2, 2), (2, p)] S h n) Q := by
  have hk := w.k
  have hp := r.p0
  have r1 : nr S (mx_u h 9 i (it σ i 1)) N p σ i := r.m (fun a h => mx_u_a (by omega))
  have ih := c_rn_l (d := d) (n := n) (Q := Q) (b := 2) (g := mx_u (mx_u h 9 i (it σ i 1)) 10 i (bz 2 17 (cb σ i))) hS r w i0 i1 (by decide) (by decide) (rn.mk ?_ ?_ ?_ ?_ ?_ ?_ ?_) hX
  · simp (disch := omega) only [mx_vt_h, mx_vt_m, mx_cmp_0, mx_cmp_1, mx_cmp_2, mx_cmp_3, mx_cmp_4, mx_u_s, mx_u_a, mx_u_k, mx_z_a, mx_z_s, mx_t_a, mx_t_2, mx_t_1, mx_t_0, mx_gd_T, mx_gd_t, mx_br_T, mx_br_F, mx_br_t, mx_br_f, mx_br_n, mx_cl_T, mx_cl_t, mx_re_T, mx_re_t, mx_rt_v, mx_rt_0, mx_cu_t, mx_w_id, mx_l_id, mx_b_0, mx_b_1, mx_b_r, mx_nl_0, mx_nl_1, mx_nl_2, mx_nl_n, mx_nl_l, mx_sw_n, mx_sw_h, mx_sw_m, Int.reduceLE, Int.reduceLT, Int.reduceEq, Int.reduceAdd, Int.reduceSub, Int.reduceMul, Int.reduceNeg, Int.reduceToNat, and_self, true_and, and_true, false_and, and_false, true_or, or_true, false_or, or_false, not_true_eq_false, not_false_eq_true, eq_self, rw_X2_readNote, hS.e, r.t, r.n, r.e, c_basesItCanBeIn r1 w]
    exact ih
  · intro a h1 h2 h3; rw [mx_u_a h2, mx_u_a h1]
  · rw [mx_u_a (by decide), mx_u_s]
  · intro k hk; rw [mx_u_a (by decide), mx_u_k hk]
  · rw [mx_u_s]
  · intro k hk; rw [mx_u_k hk, mx_u_a (by decide)]
  · intro k k0 k1; omega
  · intro k hk; rw [mx_u_a (by decide), mx_u_a (by decide)]
/-- the tables tell the notes below i -/
def tk (h g : mx_H) (σ : Int → Int) (i : Int) : Prop := (∀ a, ¬ a = 9 → ¬ a = 10 → ¬ a = 11 → g a = h a) ∧ (∀ k, 0 ≤ k → k < i → g 9 k = it σ k 1) ∧ (∀ k, 0 ≤ k → k < i → g 10 k = bz 2 17 (cb σ k)) ∧ (∀ k b, 0 ≤ k → k < i → 2 ≤ b → b ≤ 16 → g 11 (k * 17 + b) = wo σ k b)
theorem tk.mk {h g : mx_H} {σ : Int → Int} {i : Int} (x0 : ∀ a, ¬ a = 9 → ¬ a = 10 → ¬ a = 11 → g a = h a) (x1 : ∀ k, 0 ≤ k → k < i → g 9 k = it σ k 1) (x2 : ∀ k, 0 ≤ k → k < i → g 10 k = bz 2 17 (cb σ k)) (x3 : ∀ k b, 0 ≤ k → k < i → 2 ≤ b → b ≤ 16 → g 11 (k * 17 + b) = wo σ k b) : tk h g σ i := (And.intro x0 (And.intro x1 (And.intro x2 x3)))
theorem tk.f {h g : mx_H} {σ : Int → Int} {i : Int} (q : tk h g σ i) : ∀ a, ¬ a = 9 → ¬ a = 10 → ¬ a = 11 → g a = h a := (And.left q)
theorem tk.e {h g : mx_H} {σ : Int → Int} {i : Int} (q : tk h g σ i) : ∀ k, 0 ≤ k → k < i → g 9 k = it σ k 1 := (And.left (And.right q))
theorem tk.c {h g : mx_H} {σ : Int → Int} {i : Int} (q : tk h g σ i) : ∀ k, 0 ≤ k → k < i → g 10 k = bz 2 17 (cb σ k) := (And.left (And.right (And.right q)))
theorem tk.w {h g : mx_H} {σ : Int → Int} {i : Int} (q : tk h g σ i) : ∀ k b, 0 ≤ k → k < i → 2 ≤ b → b ≤ 16 → g 11 (k * 17 + b) = wo σ k b := (And.right (And.right (And.right q)))
theorem tk_s {g k : mx_H} {i : Int} (i0 : 0 ≤ i) (a : tk h g σ i) (b : rn g k σ i 17) : tk h k σ (i + 1) := by
  refine tk.mk (fun x h1 h2 h3 => by rw [b.f x h1 h2 h3]; exact a.f x h1 h2 h3) ?_ ?_ ?_
  · intro j j0 j1
    by_cases e : j = i
    · rw [e]; exact b.e
    · rw [b.e2 j e]; exact a.e j j0 (by omega)
  · intro j j0 j1
    by_cases e : j = i
    · rw [e]; exact b.c
    · rw [b.c2 j e]; exact a.c j j0 (by omega)
  · intro j x j0 j1 x0 x1
    by_cases e : j = i
    · rw [e]; exact b.w x x0 (by omega)
    · rw [b.w2 _ (by omega)]; exact a.w j x j0 (by omega) x0 x1
theorem c_load_l (hS : sh_F S) (w : vw σ) (r : rr S h N 3 σ) {i : Int} {l2 : Option mx_V} (i0 : 0 ≤ i) (i1 : i ≤ σ 0) {g : mx_H} (f : tk h g σ i)
    (hY : ∀ g l2, tk h g σ (σ 0) → mx_W (mx_rt (mx_M (d + 3) 25 [(2, 2)] S g n) (d + 4) 23 41 [some (2, 2), some (0, σ 0), l2] []) Q) :
    mx_W (mx_ex (d + 4) 23 2 [some (2, 2), some (0, i), l2] [] S g n) Q := by
  have hN := w.N
  have rg : rr S g N 3 σ := r.m (fun a h => f.f a (by omega) (by omega) (by omega))
  have gc := rg.c
  rw [rh_X2_load_2]
  by_cases q : i < σ 0
  · have rg7 : nr S g N (S 7 i) σ i := rg.n i i0 q
    have hp := rg7.p0
    have c1 : mx_M (d + 3) 90 [(2, 3), (0, i)] S g n = some (some (2, S 7 i), S, g, n) := c_noteAt1 hS.v rg w i0 q
    simp (disch := omega) only [mx_vt_h, mx_vt_m, mx_cmp_0, mx_cmp_1, mx_cmp_2, mx_cmp_3, mx_cmp_4, mx_u_s, mx_u_a, mx_u_k, mx_z_a, mx_z_s, mx_t_a, mx_t_2, mx_t_1, mx_t_0, mx_gd_T, mx_gd_t, mx_br_T, mx_br_F, mx_br_t, mx_br_f, mx_br_n, mx_cl_T, mx_cl_t, mx_re_T, mx_re_t, mx_rt_v, mx_rt_0, mx_cu_t, mx_w_id, mx_l_id, mx_b_0, mx_b_1, mx_b_r, mx_nl_0, mx_nl_1, mx_nl_2, mx_nl_n, mx_nl_l, mx_sw_n, mx_sw_h, mx_sw_m, Int.reduceLE, Int.reduceLT, Int.reduceEq, Int.reduceAdd, Int.reduceSub, Int.reduceMul, Int.reduceNeg, Int.reduceToNat, and_self, true_and, and_true, false_and, and_false, true_or, or_true, false_or, or_false, not_true_eq_false, not_false_eq_true, eq_self, rw_X2_load, hS.e, gc, c1]
    refine mx_W_r (c_rn hS rg7 (w.n i i0 q) i0 (by omega) ?_)
    intro g2 f2
    show mx_W (mx_ex _ _ _ _ [] _ _ _) _
    simp (disch := omega) only [mx_vt_h, mx_vt_m, mx_cmp_0, mx_cmp_1, mx_cmp_2, mx_cmp_3, mx_cmp_4, mx_u_s, mx_u_a, mx_u_k, mx_z_a, mx_z_s, mx_t_a, mx_t_2, mx_t_1, mx_t_0, mx_gd_T, mx_gd_t, mx_br_T, mx_br_F, mx_br_t, mx_br_f, mx_br_n, mx_cl_T, mx_cl_t, mx_re_T, mx_re_t, mx_rt_v, mx_rt_0, mx_cu_t, mx_w_id, mx_l_id, mx_b_0, mx_b_1, mx_b_r, mx_nl_0, mx_nl_1, mx_nl_2, mx_nl_n, mx_nl_l, mx_sw_n, mx_sw_h, mx_sw_m, Int.reduceLE, Int.reduceLT, Int.reduceEq, Int.reduceAdd, Int.reduceSub, Int.reduceMul, Int.reduceNeg, Int.reduceToNat, and_self, true_and, and_true, false_and, and_false, true_or, or_true, false_or, or_false, not_true_eq_false, not_false_eq_true, eq_self, rw_X2_load]
    exact c_load_l hS w r (i := i + 1) (by omega) (by omega) (tk_s i0 f f2) hY
  · have e : i = σ 0 := by omega
    subst e
    simp (disch := omega) only [mx_vt_h, mx_vt_m, mx_cmp_0, mx_cmp_1, mx_cmp_2, mx_cmp_3, mx_cmp_4, mx_u_s, mx_u_a, mx_u_k, mx_z_a, mx_z_s, mx_t_a, mx_t_2, mx_t_1, mx_t_0, mx_gd_T, mx_gd_t, mx_br_T, mx_br_F, mx_br_t, mx_br_f, mx_br_n, mx_cl_T, mx_cl_t, mx_re_T, mx_re_t, mx_rt_v, mx_rt_0, mx_cu_t, mx_w_id, mx_l_id, mx_b_0, mx_b_1, mx_b_r, mx_nl_0, mx_nl_1, mx_nl_2, mx_nl_n, mx_nl_l, mx_sw_n, mx_sw_h, mx_sw_m, Int.reduceLE, Int.reduceLT, Int.reduceEq, Int.reduceAdd, Int.reduceSub, Int.reduceMul, Int.reduceNeg, Int.reduceToNat, and_self, true_and, and_true, false_and, and_false, true_or, or_true, false_or, or_false, not_true_eq_false, not_false_eq_true, eq_self, rw_X2_load, hS.e, gc]
    exact hY g _ f
termination_by (σ 0 - i).toNat
theorem tc_or {l : Int} (w : vw σ) (l0 : 0 ≤ l) (l1 : l < σ 1) :
    (ln σ l 0 = 3 → mx_shl 1 (it σ (ln σ l 1) 1) = tt σ l) ∧ (¬ ln σ l 0 = 3 → ¬ ln σ l 0 = 2 → mx_or (mx_shl 1 (it σ (ln σ l 1) 1)) (mx_shl 1 (it σ (ln σ l 2) 1)) = tt σ l) ∧
    (ln σ l 0 = 2 → mx_or (mx_or (mx_shl 1 (it σ (ln σ l 1) 1)) (mx_shl 1 (it σ (ln σ l 2) 1))) (mx_shl 1 (it σ (ln σ l 3) 1)) = tt σ l) := by
  have lw := w.l l l0 l1
  have ex := (w.n _ lw.x.1 lw.x.2).e
  have ey := (w.n _ lw.y.1 lw.y.2).e
  have one : ∀ e : Int, 0 ≤ e → e ≤ 2 → mx_shl 1 e = bm (fun k => e = k) 3 := by
    intro e e0 e1
    have : e = 0 ∨ e = 1 ∨ e = 2 := by omega
    have v0 : mx_shl 1 0 = 1 := by decide
    have v1 : mx_shl 1 1 = 2 := by decide
    have v2 : mx_shl 1 2 = 4 := by decide
    rcases this with q | q | q <;> subst q <;> simp [bm, mx_if, v0, v1, v2]
  refine ⟨fun s => ?_, fun s s2 => ?_, fun s => ?_⟩
  · rw [one _ ex.1 ex.2]; unfold tt
    refine bm_c (fun k _ => ⟨fun q => Or.inl q, fun q => ?_⟩)
    rcases q with q | q | q
    · exact q
    · exact absurd s q.1
    · omega
  · rw [one _ ex.1 ex.2, bm_or (by decide) ey.1 (by simp; omega)]; unfold tt
    refine bm_c (fun k _ => ⟨fun q => ?_, fun q => ?_⟩)
    · rcases q with q | q
      · exact Or.inl q
      · exact Or.inr (Or.inl ⟨s, q⟩)
    · rcases q with q | q | q
      · exact Or.inl q
      · exact Or.inr q.2
      · exact absurd q.1 s2
  · have ez := (w.n _ lw.z.1 (lw.z2 s)).e
    rw [one _ ex.1 ex.2, bm_or (by decide) ey.1 (by simp; omega), bm_or (by decide) ez.1 (by simp; omega)]; unfold tt
    refine bm_c (fun k _ => ⟨fun q => ?_, fun q => ?_⟩)
    · rcases q with (q | q) | q
      · exact Or.inl q
      · exact Or.inr (Or.inl ⟨by omega, q⟩)
      · exact Or.inr (Or.inr ⟨s, q⟩)
    · rcases q with q | q | q
      · exact Or.inl (Or.inl q)
      · exact Or.inl (Or.inr q.2)
      · exact Or.inr q.2
def tm (h g : mx_H) (σ : Int → Int) (i : Int) : Prop := (∀ a, ¬ a = 12 → g a = h a) ∧ (∀ l, 0 ≤ l → l < i → g 12 l = tt σ l)
theorem tm.mk {h g : mx_H} {σ : Int → Int} {i : Int} (x0 : ∀ a, ¬ a = 12 → g a = h a) (x1 : ∀ l, 0 ≤ l → l < i → g 12 l = tt σ l) : tm h g σ i := (And.intro x0 x1)
theorem tm.f {h g : mx_H} {σ : Int → Int} {i : Int} (q : tm h g σ i) : ∀ a, ¬ a = 12 → g a = h a := (And.left q)
theorem tm.t {h g : mx_H} {σ : Int → Int} {i : Int} (q : tm h g σ i) : ∀ l, 0 ≤ l → l < i → g 12 l = tt σ l := (And.right q)
theorem c_mt_l (hS : sh_F S) (w : vw σ) (r : lr h σ) (te : ∀ i, 0 ≤ i → i < σ 0 → h 9 i = it σ i 1) {i : Int} {l3 l4 l5 : Option mx_V} (i0 : 0 ≤ i) (i1 : i ≤ σ 1) {g : mx_H} (f : tm h g σ i)
    (hX : ∀ g, tm h g σ (σ 1) → Q none S g n) :
    mx_W (mx_ex d 25 10 [some (2, 2), some (2, 6), some (0, i), l3, l4, l5] [] S g n) Q := by
  have hN := w.N
  have hL := w.L
  have gL : g 3 4 = σ 1 := by rw [f.f 3 (by decide)]; exact r.L
  have g6 := f.f 6 (by decide)
  have g9 := f.f 9 (by decide)
  rw [rh_X2_markTouched_10]
  by_cases q : i < σ 1
  · have lw := w.l i i0 q
    have lx := lw.x
    have ly := lw.y
    have lz := lw.z
    have e0 := r.l0 i0 q
    have e1 := r.l i 1 i0 q (by decide) (by decide)
    have e2 := r.l i 2 i0 q (by decide) (by decide)
    have e3 := r.l i 3 i0 q (by decide) (by decide)
    have ex := te _ lx.1 lx.2
    have ey := te _ ly.1 ly.2
    have hc := tc_or w i0 q
    have ih := fun l3 l4 l5 => c_mt_l hS w r te (i := i + 1) (l3 := l3) (l4 := l4) (l5 := l5) (g := mx_u g 12 i (tt σ i)) (by omega) (by omega) (tm.mk (fun a h => by rw [mx_u_a h]; exact f.f a h) (fun l l0 l1 => by
      by_cases e : l = i
      · rw [e, mx_u_s]
      · rw [mx_u_k e]; exact f.t l l0 (by omega))) hX
    by_cases s3 : ln σ i 0 = 3
    · have hc := hc.1 s3
      simp (disch := omega) only [mx_vt_h, mx_vt_m, mx_cmp_0, mx_cmp_1, mx_cmp_2, mx_cmp_3, mx_cmp_4, mx_u_s, mx_u_a, mx_u_k, mx_z_a, mx_z_s, mx_t_a, mx_t_2, mx_t_1, mx_t_0, mx_gd_T, mx_gd_t, mx_br_T, mx_br_F, mx_br_t, mx_br_f, mx_br_n, mx_cl_T, mx_cl_t, mx_re_T, mx_re_t, mx_rt_v, mx_rt_0, mx_cu_t, mx_w_id, mx_l_id, mx_b_0, mx_b_1, mx_b_r, mx_nl_0, mx_nl_1, mx_nl_2, mx_nl_n, mx_nl_l, mx_sw_n, mx_sw_h, mx_sw_m, Int.reduceLE, Int.reduceLT, Int.reduceEq, Int.reduceAdd, Int.reduceSub, Int.reduceMul, Int.reduceNeg, Int.reduceToNat, and_self, true_and, and_true, false_and, and_false, true_or, or_true, false_or, or_false, not_true_eq_false, not_false_eq_true, eq_self, rw_X2_markTouched, hS.e, gL, g6, g9, e0, e1, e2, e3, ex, ey, s3, hc]
      exact ih _ _ _
    · by_cases s2 : ln σ i 0 = 2
      · have ez := te _ lz.1 (lw.z2 s2)
        have lz2 := lw.z2 s2
        have hc := hc.2.2 s2
        simp (disch := omega) only [mx_vt_h, mx_vt_m, mx_cmp_0, mx_cmp_1, mx_cmp_2, mx_cmp_3, mx_cmp_4, mx_u_s, mx_u_a, mx_u_k, mx_z_a, mx_z_s, mx_t_a, mx_t_2, mx_t_1, mx_t_0, mx_gd_T, mx_gd_t, mx_br_T, mx_br_F, mx_br_t, mx_br_f, mx_br_n, mx_cl_T, mx_cl_t, mx_re_T, mx_re_t, mx_rt_v, mx_rt_0, mx_cu_t, mx_w_id, mx_l_id, mx_b_0, mx_b_1, mx_b_r, mx_nl_0, mx_nl_1, mx_nl_2, mx_nl_n, mx_nl_l, mx_sw_n, mx_sw_h, mx_sw_m, Int.reduceLE, Int.reduceLT, Int.reduceEq, Int.reduceAdd, Int.reduceSub, Int.reduceMul, Int.reduceNeg, Int.reduceToNat, and_self, true_and, and_true, false_and, and_false, true_or, or_true, false_or, or_false, not_true_eq_false, not_false_eq_true, eq_self, rw_X2_markTouched, hS.e, gL, g6, g9, e0, e1, e2, e3, ex, ey, ez, s2, hc]
        exact ih _ _ _
      · have hc := hc.2.1 s3 s2
        simp (disch := omega) only [mx_vt_h, mx_vt_m, mx_cmp_0, mx_cmp_1, mx_cmp_2, mx_cmp_3, mx_cmp_4, mx_u_s, mx_u_a, mx_u_k, mx_z_a, mx_z_s, mx_t_a, mx_t_2, mx_t_1, mx_t_0, mx_gd_T, mx_gd_t, mx_br_T, mx_br_F, mx_br_t, mx_br_f, mx_br_n, mx_cl_T, mx_cl_t, mx_re_T, mx_re_t, mx_rt_v, mx_rt_0, mx_cu_t, mx_w_id, mx_l_id, mx_b_0, mx_b_1, mx_b_r, mx_nl_0, mx_nl_1, mx_nl_2, mx_nl_n, mx_nl_l, mx_sw_n, mx_sw_h, mx_sw_m, Int.reduceLE, Int.reduceLT, Int.reduceEq, Int.reduceAdd, Int.reduceSub, Int.reduceMul, Int.reduceNeg, Int.reduceToNat, and_self, true_and, and_true, false_and, and_false, true_or, or_true, false_or, or_false, not_true_eq_false, not_false_eq_true, eq_self, rw_X2_markTouched, hS.e, gL, g6, g9, e0, e1, e2, e3, ex, ey, s3, s2, hc]
        exact ih _ _ _
  · have e : i = σ 1 := by omega
    subst e
    simp (disch := omega) only [mx_vt_h, mx_vt_m, mx_cmp_0, mx_cmp_1, mx_cmp_2, mx_cmp_3, mx_cmp_4, mx_u_s, mx_u_a, mx_u_k, mx_z_a, mx_z_s, mx_t_a, mx_t_2, mx_t_1, mx_t_0, mx_gd_T, mx_gd_t, mx_br_T, mx_br_F, mx_br_t, mx_br_f, mx_br_n, mx_cl_T, mx_cl_t, mx_re_T, mx_re_t, mx_rt_v, mx_rt_0, mx_cu_t, mx_w_id, mx_l_id, mx_b_0, mx_b_1, mx_b_r, mx_nl_0, mx_nl_1, mx_nl_2, mx_nl_n, mx_nl_l, mx_sw_n, mx_sw_h, mx_sw_m, Int.reduceLE, Int.reduceLT, Int.reduceEq, Int.reduceAdd, Int.reduceSub, Int.reduceMul, Int.reduceNeg, Int.reduceToNat, and_self, true_and, and_true, false_and, and_false, true_or, or_true, false_or, or_false, not_true_eq_false, not_false_eq_true, eq_self, rw_X2_markTouched, hS.e, gL]
    exact mx_W_s (hX g f)
termination_by (σ 1 - i).toNat
theorem c_mt (hS : sh_F S) (w : vw σ) (r : lr h σ) (te : ∀ i, 0 ≤ i → i < σ 0 → h 9 i = it σ i 1)
    (hX : ∀ g, tm h g σ (σ 1) → Q none S g n) : mx_W (mx_M d 25 [(2, 2)] S h n) Q := by
  have hL := w.L
  have ih := fun l3 l4 l5 => c_mt_l (d := d) (n := n) (i := 0) (l3 := l3) (l4 := l4) (l5 := l5) (g := h) hS w r te (by decide) (by omega) (tm.mk (fun _ _ => rfl) (fun l l0 l1 => by omega)) hX
  simp (disch := omega) only [mx_vt_h, mx_vt_m, mx_cmp_0, mx_cmp_1, mx_cmp_2, mx_cmp_3, mx_cmp_4, mx_u_s, mx_u_a, mx_u_k, mx_z_a, mx_z_s, mx_t_a, mx_t_2, mx_t_1, mx_t_0, mx_gd_T, mx_gd_t, mx_br_T, mx_br_F, mx_br_t, mx_br_f, mx_br_n, mx_cl_T, mx_cl_t, mx_re_T, mx_re_t, mx_rt_v, mx_rt_0, mx_cu_t, mx_w_id, mx_l_id, mx_b_0, mx_b_1, mx_b_r, mx_nl_0, mx_nl_1, mx_nl_2, mx_nl_n, mx_nl_l, mx_sw_n, mx_sw_h, mx_sw_m, Int.reduceLE, Int.reduceLT, Int.reduceEq, Int.reduceAdd, Int.reduceSub, Int.reduceMul, Int.reduceNeg, Int.reduceToNat, and_self, true_and, and_true, false_and, and_false, true_or, or_true, false_or, or_false, not_true_eq_false, not_false_eq_true, eq_self, rw_X2_markTouched, hS.e]
  exact ih _ _ _
/-- load: all tables tell σ -/
theorem c_load (hS : sh_F S) (w : vw σ) (r : rr S h N 3 σ)
    (hX : ∀ g, (∀ a, ¬ a = 9 → ¬ a = 10 → ¬ a = 11 → ¬ a = 12 → g a = h a) → tbl g σ → cans g σ (-1) → Q none S g n) : mx_W (mx_M (d + 4) 23 [(2, 2)] S h n) Q := by
  have hN := w.N
  have ih := fun l2 => c_load_l (d := d) (n := n) (Q := Q) (i := 0) (l2 := l2) (g := h) hS w r (by decide) (by omega) (tk.mk (fun _ _ _ _ => rfl) (fun k k0 k1 => by omega) (fun k k0 k1 => by omega) (fun k b k0 k1 => by omega)) (by
    intro g l2 f
    refine mx_W_r (c_mt hS w (lr.mk (by rw [f.f 3 (by decide) (by decide) (by decide)]; exact r.c) (by rw [f.f 3 (by decide) (by decide) (by decide)]; exact r.L) (fun e a b => by rw [f.f 4 (by decide) (by decide) (by decide)]; exact r.lo e a b) (fun e a b => by rw [f.f 5 (by decide) (by decide) (by decide)]; exact r.hi e a b) (fun l k a b x y => by rw [f.f 6 (by decide) (by decide) (by decide)]; exact r.l l k a b x y)) f.e ?_)
    intro g2 f2
    show mx_W (mx_ex _ _ _ _ [] _ _ _) _
    simp (disch := omega) only [mx_vt_h, mx_vt_m, mx_cmp_0, mx_cmp_1, mx_cmp_2, mx_cmp_3, mx_cmp_4, mx_u_s, mx_u_a, mx_u_k, mx_z_a, mx_z_s, mx_t_a, mx_t_2, mx_t_1, mx_t_0, mx_gd_T, mx_gd_t, mx_br_T, mx_br_F, mx_br_t, mx_br_f, mx_br_n, mx_cl_T, mx_cl_t, mx_re_T, mx_re_t, mx_rt_v, mx_rt_0, mx_cu_t, mx_w_id, mx_l_id, mx_b_0, mx_b_1, mx_b_r, mx_nl_0, mx_nl_1, mx_nl_2, mx_nl_n, mx_nl_l, mx_sw_n, mx_sw_h, mx_sw_m, Int.reduceLE, Int.reduceLT, Int.reduceEq, Int.reduceAdd, Int.reduceSub, Int.reduceMul, Int.reduceNeg, Int.reduceToNat, and_self, true_and, and_true, false_and, and_false, true_or, or_true, false_or, or_false, not_true_eq_false, not_false_eq_true, eq_self, rw_X2_load]
    refine mx_W_s (hX g2 (fun a h1 h2 h3 h4 => by rw [f2.f a h4]; exact f.f a h1 h2 h3) (tbl.mk (tw.mk ?_ ?_) f2.t) ?_)
    · intro i i0 i1; rw [f2.f 9 (by decide)]; exact f.e i i0 i1
    · intro i b i0 i1 b0 b1; rw [f2.f 11 (by decide)]; exact f.w i b i0 i1 b0 b1
    · intro i i0 i1 _; rw [f2.f 10 (by decide)]; exact f.c i i0 i1)
  simp (disch := omega) only [mx_vt_h, mx_vt_m, mx_cmp_0, mx_cmp_1, mx_cmp_2, mx_cmp_3, mx_cmp_4, mx_u_s, mx_u_a, mx_u_k, mx_z_a, mx_z_s, mx_t_a, mx_t_2, mx_t_1, mx_t_0, mx_gd_T, mx_gd_t, mx_br_T, mx_br_F, mx_br_t, mx_br_f, mx_br_n, mx_cl_T, mx_cl_t, mx_re_T, mx_re_t, mx_rt_v, mx_rt_0, mx_cu_t, mx_w_id, mx_l_id, mx_b_0, mx_b_1, mx_b_r, mx_nl_0, mx_nl_1, mx_nl_2, mx_nl_n, mx_nl_l, mx_sw_n, mx_sw_h, mx_sw_m, Int.reduceLE, Int.reduceLT, Int.reduceEq, Int.reduceAdd, Int.reduceSub, Int.reduceMul, Int.reduceNeg, Int.reduceToNat, and_self, true_and, and_true, false_and, and_false, true_or, or_true, false_or, or_false, not_true_eq_false, not_false_eq_true, eq_self, rw_X2_load]
  exact ih _
end
