/-! The program's finder: mending -/
def md (σ : Int → Int) (a p s : Int) : Prop := (0 ≤ p ∧ p < it σ a 3) ∧ (0 ≤ s ∧ s ≤ 15) ∧ (¬ it σ a (4 + p) = s) ∧ (ew (al σ a p s) 63)
theorem md.mk {σ : Int → Int} {a p s : Int} (x0 : 0 ≤ p ∧ p < it σ a 3) (x1 : 0 ≤ s ∧ s ≤ 15) (x2 : ¬ it σ a (4 + p) = s) (x3 : ew (al σ a p s) 63) : md σ a p s := (And.intro x0 (And.intro x1 (And.intro x2 x3)))
theorem md.p {σ : Int → Int} {a p s : Int} (q : md σ a p s) : 0 ≤ p ∧ p < it σ a 3 := (And.left q)
theorem md.s {σ : Int → Int} {a p s : Int} (q : md σ a p s) : 0 ≤ s ∧ s ≤ 15 := (And.left (And.right q))
theorem md.n {σ : Int → Int} {a p s : Int} (q : md σ a p s) : ¬ it σ a (4 + p) = s := (And.left (And.right (And.right q)))
theorem md.e {σ : Int → Int} {a p s : Int} (q : md σ a p s) : ew (al σ a p s) 63 := (And.right (And.right (And.right q)))
/-- the note's sign at place p may be anything -/
def m0 (h g : mx_H) (σ : Int → Int) (a z p : Int) : Prop := (∀ x, x < 8 ∨ 14 < x → ¬ x = z → g x = h x) ∧ (∀ k, ¬ k = p → g z k = h z k) ∧ (g 14 = h 14) ∧ (tx g σ a)
theorem m0.mk {h g : mx_H} {σ : Int → Int} {a z p : Int} (x0 : ∀ x, x < 8 ∨ 14 < x → ¬ x = z → g x = h x) (x1 : ∀ k, ¬ k = p → g z k = h z k) (x2 : g 14 = h 14) (x3 : tx g σ a) : m0 h g σ a z p := (And.intro x0 (And.intro x1 (And.intro x2 x3)))
theorem m0.f {h g : mx_H} {σ : Int → Int} {a z p : Int} (q : m0 h g σ a z p) : ∀ x, x < 8 ∨ 14 < x → ¬ x = z → g x = h x := (And.left q)
theorem m0.k {h g : mx_H} {σ : Int → Int} {a z p : Int} (q : m0 h g σ a z p) : ∀ k, ¬ k = p → g z k = h z k := (And.left (And.right q))
theorem m0.s {h g : mx_H} {σ : Int → Int} {a z p : Int} (q : m0 h g σ a z p) : g 14 = h 14 := (And.left (And.right (And.right q)))
theorem m0.t {h g : mx_H} {σ : Int → Int} {a z p : Int} (q : m0 h g σ a z p) : tx g σ a := (And.right (And.right (And.right q)))
def mc (h g : mx_H) (σ : Int → Int) (a : Int) : Prop := (∀ x, x < 8 ∨ 14 < x → ¬ x = 2 → g x = h x) ∧ (g 14 = h 14) ∧ (tx g σ a)
theorem mc.mk {h g : mx_H} {σ : Int → Int} {a : Int} (x0 : ∀ x, x < 8 ∨ 14 < x → ¬ x = 2 → g x = h x) (x1 : g 14 = h 14) (x2 : tx g σ a) : mc h g σ a := (And.intro x0 (And.intro x1 x2))
theorem mc.f {h g : mx_H} {σ : Int → Int} {a : Int} (q : mc h g σ a) : ∀ x, x < 8 ∨ 14 < x → ¬ x = 2 → g x = h x := (And.left q)
theorem mc.s {h g : mx_H} {σ : Int → Int} {a : Int} (q : mc h g σ a) : g 14 = h 14 := (And.left (And.right q))
theorem mc.t {h g : mx_H} {σ : Int → Int} {a : Int} (q : mc h g σ a) : tx g σ a := (And.right (And.right q))
def m3 (h g : mx_H) (a p s : Int) : Prop := (g 2 2 = a) ∧ (g 2 3 = p) ∧ (g 2 4 = s) ∧ (∀ k, ¬ k = 2 → ¬ k = 3 → ¬ k = 4 → g 2 k = h 2 k)
theorem m3.mk {h g : mx_H} {a p s : Int} (x0 : g 2 2 = a) (x1 : g 2 3 = p) (x2 : g 2 4 = s) (x3 : ∀ k, ¬ k = 2 → ¬ k = 3 → ¬ k = 4 → g 2 k = h 2 k) : m3 h g a p s := (And.intro x0 (And.intro x1 (And.intro x2 x3)))
theorem m3.a {h g : mx_H} {a p s : Int} (q : m3 h g a p s) : g 2 2 = a := (And.left q)
theorem m3.p {h g : mx_H} {a p s : Int} (q : m3 h g a p s) : g 2 3 = p := (And.left (And.right q))
theorem m3.s {h g : mx_H} {a p s : Int} (q : m3 h g a p s) : g 2 4 = s := (And.left (And.right (And.right q)))
theorem m3.k {h g : mx_H} {a p s : Int} (q : m3 h g a p s) : ∀ k, ¬ k = 2 → ¬ k = 3 → ¬ k = 4 → g 2 k = h 2 k := (And.right (And.right (And.right q)))
theorem lr.m2 {h g : mx_H} {σ : Int → Int} (r : lr h σ) (f : ∀ x, 3 ≤ x → x ≤ 6 → g x = h x) : lr g σ :=
  lr.mk (by rw [f 3 (by decide) (by decide)]; exact r.c) (by rw [f 3 (by decide) (by decide)]; exact r.L) (fun e a b => by rw [f 4 (by decide) (by decide)]; exact r.lo e a b) (fun e a b => by rw [f 5 (by decide) (by decide)]; exact r.hi e a b) (fun l k a b x y => by rw [f 6 (by decide) (by decide)]; exact r.l l k a b x y)
theorem ro.m2 {h g : mx_H} (o : ro h) (f : ∀ x, x < 0 → g x = h x) : ro g := ro.mk (by rw [f (-3) (by decide), f (-4) (by decide)]; exact o.e)
section
variable {d : Nat} {S h : mx_H} {n N : Int} {σ : Int → Int} {Q : Option mx_V → mx_H → mx_H → Int → Prop}
/-- the note's cell tells the altered sign -/
theorem nr_al {g : mx_H} {P a p s : Int} (w : nw σ a) (r : nr S h N P σ a) (p0 : 0 ≤ p) (p1 : p ≤ 5) (f : ∀ x, 53 ≤ x → ¬ x = S P 2 → g x = h x) (k : ∀ k, ¬ k = p → g (S P 2) k = h (S P 2) k) (v : g (S P 2) p = s) : nr S g N P (al σ a p s) a := by
  have hk := w.k
  have hn := w.n
  have np : ¬ P = S P 2 := fun e => by
    have h1 := r.q
    have h2 := r.t
    rw [← e] at h1; omega
  have ec : ∀ k, 0 ≤ k → k ≤ 3 → it (al σ a p s) a k = it σ a k := fun k k0 k1 => al_k p0 p1 k0 (by omega) (by omega)
  refine nr.mk ?_ ?_ ?_ ?_ r.q ?_ ?_ r.p0 r.p1 r.q0 r.q1
  · rw [ec 0 (by decide) (by decide)]; exact r.t
  · rw [f P r.p0 np]; exact r.n
  · rw [f P r.p0 np, ec 2 (by decide) (by decide)]; exact r.a
  · rw [f P r.p0 np, ec 1 (by decide) (by decide)]; exact r.e
  · rw [ec 3 (by decide) (by decide)]; exact r.l
  · intro j j0 j1
    rw [ec 3 (by decide) (by decide)] at j1
    by_cases c : j = p
    · rw [c, v, al_s]
    · rw [k j c, al_k p0 p1 (by omega) (by omega) (by omega)]; exact r.s j j0 j1
theorem c_mb_s (hS : sh_F S) (w : vw σ) (r : lr h σ) (o : ro h) {a p s P xw : Int} {Λ : Int → Int → Prop} (a0 : 0 ≤ a) (a1 : a < σ 0) (p0 : 0 ≤ p) (p1 : p < it σ a 3) (s0 : 0 ≤ s) (s1 : s ≤ 16) (nt : nr S h N P σ a)
    (sd : ∀ k, 0 ≤ k → k < 54 → h 14 k = bz 2 17 (Λ k)) (u : lk σ Λ (gA σ a) xw (σ 1)) (b : ∀ l, 0 ≤ l → l < σ 1 → (bt xw l.toNat ↔ ¬ tn σ l a)) {g : mx_H} (f : m0 h g σ a (S P 2) p) (no : ∀ t, t < s → ¬ md σ a p t)
    (hN : ∀ g l6 l7, mc h g σ a → g 2 = h 2 → (∀ t, ¬ md σ a p t) → mx_W (mx_ex (d + 5) 19 72 [some (2, 2), some (0, a), some (2, P), some (0, xw), some (0, 0), some (0, p + 1), l6, l7] [] S g n) Q)
    (hF : ∀ g l6 l7 t, mc h g σ a → m3 h g a p t → md σ a p t → (∀ u, u < t → ¬ md σ a p u) → mx_W (mx_ex (d + 5) 19 72 [some (2, 2), some (0, a), some (2, P), some (0, xw), some (0, 1), some (0, p + 1), l6, l7] [] S g n) Q) :
    mx_W (mx_ex (d + 5) 19 99 [some (2, 2), some (0, a), some (2, P), some (0, xw), some (0, 0), some (0, p), some (0, it σ a (4 + p)), some (0, s)] [] S g n) Q := by
  have hN' := w.N
  have na := w.n a a0 a1
  have hk := na.k
  have hn := na.n
  have nl := nt.l
  have nq := nt.q
  have ntt := nt.t
  have q0 := nt.q0
  have p00 := nt.p0
  have was := nt.s p p0 p1
  -- put back what was there
  have back : ∀ g', (∀ x, x < 8 ∨ 14 < x → ¬ x = S P 2 → ¬ x = 2 → g' x = h x) → (∀ k, ¬ k = p → g' (S P 2) k = h (S P 2) k) → g' 14 = h 14 → tx g' σ a → mc h (mx_u g' (S P 2) p (it σ a (4 + p))) σ a := by
    intro g' x1 x2 x3 x4
    refine mc.mk ?_ (by rw [mx_u_a (by omega)]; exact x3) (tx.mk (fun i a b => by rw [mx_u_a (by omega)]; exact x4.e i a b) (fun i a b c => by rw [mx_u_a (by omega)]; exact x4.c i a b c) (fun i b x y z u v => by rw [mx_u_a (by omega)]; exact x4.w i b x y z u v) (fun l a b => by rw [mx_u_a (by omega)]; exact x4.t l a b))
    intro x y z
    by_cases e : x = S P 2
    · rw [e]; funext k
      by_cases c : k = p
      · rw [c, mx_u_s, was]
      · rw [mx_u_k c]; exact x2 k c
    · rw [mx_u_a e]; exact x1 x y e z
  rw [rh_X2_mendsBy_99]
  by_cases q : s ≤ 15
  · let g1 := mx_u g (S P 2) p s
    have f1 : m0 h g1 σ a (S P 2) p := by
      refine m0.mk (fun x y z => by simp only [g1]; rw [mx_u_a z]; exact f.f x y z) (fun k hk => by simp only [g1]; rw [mx_u_k hk]; exact f.k k hk) (by simp only [g1]; rw [mx_u_a (by omega)]; exact f.s) (tx.mk (fun i a b => by simp only [g1]; rw [mx_u_a (by omega)]; exact f.t.e i a b) (fun i a b c => by simp only [g1]; rw [mx_u_a (by omega)]; exact f.t.c i a b c) (fun i b x y z u v => by simp only [g1]; rw [mx_u_a (by omega)]; exact f.t.w i b x y z u v) (fun l a b => by simp only [g1]; rw [mx_u_a (by omega)]; exact f.t.t l a b))
    by_cases e : s = it σ a (4 + p)
    · have ih := c_mb_s hS w r o a0 a1 p0 p1 (s := s + 1) (by omega) (by omega) nt sd u b f1 (fun t ht => by
        by_cases c : t = s
        · intro z; exact z.n (by rw [c, e])
        · exact no t (by omega)) hN hF
      simp only [g1] at ih
      simp (disch := omega) only [mx_vt_h, mx_vt_m, mx_cmp_0, mx_cmp_1, mx_cmp_2, mx_cmp_3, mx_cmp_4, mx_u_s, mx_u_a, mx_u_k, mx_z_a, mx_z_s, mx_t_a, mx_t_2, mx_t_1, mx_t_0, mx_gd_T, mx_gd_t, mx_br_T, mx_br_F, mx_br_t, mx_br_f, mx_br_n, mx_cl_T, mx_cl_t, mx_re_T, mx_re_t, mx_rt_v, mx_rt_0, mx_cu_t, mx_w_id, mx_l_id, mx_b_0, mx_b_1, mx_b_r, mx_nl_0, mx_nl_1, mx_nl_2, mx_nl_n, mx_nl_l, mx_sw_n, mx_sw_h, mx_sw_m, Int.reduceLE, Int.reduceLT, Int.reduceEq, Int.reduceAdd, Int.reduceSub, Int.reduceMul, Int.reduceNeg, Int.reduceToNat, and_self, true_and, and_true, false_and, and_false, true_or, or_true, false_or, or_false, not_true_eq_false, not_false_eq_true, eq_self, rw_X2_mendsBy, rw_X2_mendsBy_1, hS.e, ntt, nl, nq]
      exact ih
    · have n1 : nr S g1 N P (al σ a p s) a := nr_al na nt p0 (by omega) (fun x y z => f1.f x (by omega) z) f1.k (by simp only [g1]; rw [mx_u_s])
      have r1 : lr g1 σ := r.m2 (fun x y z => f1.f x (by omega) (by omega))
      have o1 : ro g1 := o.m2 (fun x y => f1.f x (by omega) (by omega))
      have hc := fun R hX => c_fit (d := d) (n := n) (Q := R) hS w r1 o1 a0 a1 p0 p1 s0 q f1.t n1 (fun k k0 k1 => by rw [f1.s]; exact sd k k0 k1) u b hX
      simp only [g1] at hc
      simp (disch := omega) only [mx_vt_h, mx_vt_m, mx_cmp_0, mx_cmp_1, mx_cmp_2, mx_cmp_3, mx_cmp_4, mx_u_s, mx_u_a, mx_u_k, mx_z_a, mx_z_s, mx_t_a, mx_t_2, mx_t_1, mx_t_0, mx_gd_T, mx_gd_t, mx_br_T, mx_br_F, mx_br_t, mx_br_f, mx_br_n, mx_cl_T, mx_cl_t, mx_re_T, mx_re_t, mx_rt_v, mx_rt_0, mx_cu_t, mx_w_id, mx_l_id, mx_b_0, mx_b_1, mx_b_r, mx_nl_0, mx_nl_1, mx_nl_2, mx_nl_n, mx_nl_l, mx_sw_n, mx_sw_h, mx_sw_m, Int.reduceLE, Int.reduceLT, Int.reduceEq, Int.reduceAdd, Int.reduceSub, Int.reduceMul, Int.reduceNeg, Int.reduceToNat, and_self, true_and, and_true, false_and, and_false, true_or, or_true, false_or, or_false, not_true_eq_false, not_false_eq_true, eq_self, rw_X2_mendsBy, rw_X2_mendsBy_1, hS.e, ntt, nl, nq]
      refine mx_W_r (hc _ ?_)
      intro g2 f2 s2 t2
      show mx_W (mx_ex _ _ _ _ [_] _ _ _) _
      have G2 : m0 h g2 σ a (S P 2) p := m0.mk (fun x y z => by rw [f2.f x y]; exact f1.f x y z) (fun k hk => by rw [f2.f _ (by omega)]; exact f1.k k hk) (by rw [s2]; exact f1.s) t2
      by_cases y : ew (al σ a p s) 63
      · have mm : md σ a p s := md.mk ⟨p0, p1⟩ ⟨s0, q⟩ (fun z => e z.symm) y
        let g3 := mx_u (mx_u (mx_u g2 2 2 a) 2 3 p) 2 4 s
        have bk := back g3 (fun x y z v => by simp only [g3]; rw [mx_u_a v, mx_u_a v, mx_u_a v]; exact G2.f x y z) (fun k hk => by simp only [g3]; rw [mx_u_a (by omega), mx_u_a (by omega), mx_u_a (by omega)]; exact G2.k k hk) (by simp only [g3]; rw [mx_u_a (by decide), mx_u_a (by decide), mx_u_a (by decide)]; exact G2.s) (by
          refine tx.mk (fun i a b => ?_) (fun i a b c => ?_) (fun i b x y z u v => ?_) (fun l a b => ?_) <;> simp only [g3] <;> rw [mx_u_a (by decide), mx_u_a (by decide), mx_u_a (by decide)]
          · exact t2.e i a b
          · exact t2.c i a b c
          · exact t2.w i b x y z u v
          · exact t2.t l a b)
        have b3 : m3 h (mx_u g3 (S P 2) p (it σ a (4 + p))) a p s := by
          refine m3.mk ?_ ?_ ?_ ?_
          · rw [mx_u_a (by omega)]; simp only [g3]; rw [mx_u_k (by decide), mx_u_k (by decide), mx_u_s]
          · rw [mx_u_a (by omega)]; simp only [g3]; rw [mx_u_k (by decide), mx_u_s]
          · rw [mx_u_a (by omega)]; simp only [g3]; rw [mx_u_s]
          · intro k k0 k1 k2
            rw [mx_u_a (by omega)]; simp only [g3]; rw [mx_u_k k2, mx_u_k k1, mx_u_k k0, G2.f 2 (by decide) (by omega)]
        have fin := fun l6 l7 => hF _ l6 l7 s bk b3 mm no
        simp only [g3] at fin
        simp (disch := omega) only [mx_vt_h, mx_vt_m, mx_cmp_0, mx_cmp_1, mx_cmp_2, mx_cmp_3, mx_cmp_4, mx_u_s, mx_u_a, mx_u_k, mx_z_a, mx_z_s, mx_t_a, mx_t_2, mx_t_1, mx_t_0, mx_gd_T, mx_gd_t, mx_br_T, mx_br_F, mx_br_t, mx_br_f, mx_br_n, mx_cl_T, mx_cl_t, mx_re_T, mx_re_t, mx_rt_v, mx_rt_0, mx_cu_t, mx_w_id, mx_l_id, mx_b_0, mx_b_1, mx_b_r, mx_nl_0, mx_nl_1, mx_nl_2, mx_nl_n, mx_nl_l, mx_sw_n, mx_sw_h, mx_sw_m, Int.reduceLE, Int.reduceLT, Int.reduceEq, Int.reduceAdd, Int.reduceSub, Int.reduceMul, Int.reduceNeg, Int.reduceToNat, and_self, true_and, and_true, false_and, and_false, true_or, or_true, false_or, or_false, not_true_eq_false, not_false_eq_true, eq_self, rw_X2_mendsBy, rw_X2_mendsBy_1, rw_X2_keepMend, hS.e, mx_b_t y]
        rw [rh_X2_mendsBy_99]
        by_cases q2 : s + 1 ≤ 15
        · simp (disch := omega) only [mx_vt_h, mx_vt_m, mx_cmp_0, mx_cmp_1, mx_cmp_2, mx_cmp_3, mx_cmp_4, mx_u_s, mx_u_a, mx_u_k, mx_z_a, mx_z_s, mx_t_a, mx_t_2, mx_t_1, mx_t_0, mx_gd_T, mx_gd_t, mx_br_T, mx_br_F, mx_br_t, mx_br_f, mx_br_n, mx_cl_T, mx_cl_t, mx_re_T, mx_re_t, mx_rt_v, mx_rt_0, mx_cu_t, mx_w_id, mx_l_id, mx_b_0, mx_b_1, mx_b_r, mx_nl_0, mx_nl_1, mx_nl_2, mx_nl_n, mx_nl_l, mx_sw_n, mx_sw_h, mx_sw_m, Int.reduceLE, Int.reduceLT, Int.reduceEq, Int.reduceAdd, Int.reduceSub, Int.reduceMul, Int.reduceNeg, Int.reduceToNat, and_self, true_and, and_true, false_and, and_false, true_or, or_true, false_or, or_false, not_true_eq_false, not_false_eq_true, eq_self, rw_X2_mendsBy, rw_X2_mendsBy_1, hS.e, ntt, nl, nq]
          exact fin _ _
        · simp (disch := omega) only [mx_vt_h, mx_vt_m, mx_cmp_0, mx_cmp_1, mx_cmp_2, mx_cmp_3, mx_cmp_4, mx_u_s, mx_u_a, mx_u_k, mx_z_a, mx_z_s, mx_t_a, mx_t_2, mx_t_1, mx_t_0, mx_gd_T, mx_gd_t, mx_br_T, mx_br_F, mx_br_t, mx_br_f, mx_br_n, mx_cl_T, mx_cl_t, mx_re_T, mx_re_t, mx_rt_v, mx_rt_0, mx_cu_t, mx_w_id, mx_l_id, mx_b_0, mx_b_1, mx_b_r, mx_nl_0, mx_nl_1, mx_nl_2, mx_nl_n, mx_nl_l, mx_sw_n, mx_sw_h, mx_sw_m, Int.reduceLE, Int.reduceLT, Int.reduceEq, Int.reduceAdd, Int.reduceSub, Int.reduceMul, Int.reduceNeg, Int.reduceToNat, and_self, true_and, and_true, false_and, and_false, true_or, or_true, false_or, or_false, not_true_eq_false, not_false_eq_true, eq_self, rw_X2_mendsBy, rw_X2_mendsBy_1, hS.e, ntt, nl, nq]
          exact fin _ _
      · have ih := c_mb_s hS w r o a0 a1 p0 p1 (s := s + 1) (by omega) (by omega) nt sd u b G2 (fun t ht => by
          by_cases c : t = s
          · intro z; rw [c] at z; exact y z.e
          · exact no t (by omega)) hN hF
        simp (disch := omega) only [mx_vt_h, mx_vt_m, mx_cmp_0, mx_cmp_1, mx_cmp_2, mx_cmp_3, mx_cmp_4, mx_u_s, mx_u_a, mx_u_k, mx_z_a, mx_z_s, mx_t_a, mx_t_2, mx_t_1, mx_t_0, mx_gd_T, mx_gd_t, mx_br_T, mx_br_F, mx_br_t, mx_br_f, mx_br_n, mx_cl_T, mx_cl_t, mx_re_T, mx_re_t, mx_rt_v, mx_rt_0, mx_cu_t, mx_w_id, mx_l_id, mx_b_0, mx_b_1, mx_b_r, mx_nl_0, mx_nl_1, mx_nl_2, mx_nl_n, mx_nl_l, mx_sw_n, mx_sw_h, mx_sw_m, Int.reduceLE, Int.reduceLT, Int.reduceEq, Int.reduceAdd, Int.reduceSub, Int.reduceMul, Int.reduceNeg, Int.reduceToNat, and_self, true_and, and_true, false_and, and_false, true_or, or_true, false_or, or_false, not_true_eq_false, not_false_eq_true, eq_self, rw_X2_mendsBy, rw_X2_mendsBy_1, hS.e, mx_b_f y]
        exact ih
  · have fin := fun l6 l7 => hN _ l6 l7 (back g (fun x y z _ => f.f x y z) f.k f.s f.t) (by rw [mx_u_a (by omega), f.f 2 (by decide) (by omega)]) (fun t z => no t (by have := z.s; omega) z)
    simp (disch := omega) only [mx_vt_h, mx_vt_m, mx_cmp_0, mx_cmp_1, mx_cmp_2, mx_cmp_3, mx_cmp_4, mx_u_s, mx_u_a, mx_u_k, mx_z_a, mx_z_s, mx_t_a, mx_t_2, mx_t_1, mx_t_0, mx_gd_T, mx_gd_t, mx_br_T, mx_br_F, mx_br_t, mx_br_f, mx_br_n, mx_cl_T, mx_cl_t, mx_re_T, mx_re_t, mx_rt_v, mx_rt_0, mx_cu_t, mx_w_id, mx_l_id, mx_b_0, mx_b_1, mx_b_r, mx_nl_0, mx_nl_1, mx_nl_2, mx_nl_n, mx_nl_l, mx_sw_n, mx_sw_h, mx_sw_m, Int.reduceLE, Int.reduceLT, Int.reduceEq, Int.reduceAdd, Int.reduceSub, Int.reduceMul, Int.reduceNeg, Int.reduceToNat, and_self, true_and, and_true, false_and, and_false, true_or, or_true, false_or, or_false, not_true_eq_false, not_false_eq_true, eq_self, rw_X2_mendsBy, rw_X2_mendsBy_1, hS.e, ntt, nl, nq]
    exact fin _ _
termination_by (16 - s).toNat
decreasing_by all_goals omega
/-- by place and sign in one number -/
def ml (σ : Int → Int) (a k : Int) : Prop := md σ a (k / 16) (k % 16)
theorem c_mb_p (hS : sh_F S) (w : vw σ) (r : lr h σ) (o : ro h) {a p P xw : Int} {Λ : Int → Int → Prop} (a0 : 0 ≤ a) (a1 : a < σ 0) (p0 : 0 ≤ p) (p1 : p ≤ it σ a 3) (nt : nr S h N P σ a)
    (sd : ∀ k, 0 ≤ k → k < 54 → h 14 k = bz 2 17 (Λ k)) (u : lk σ Λ (gA σ a) xw (σ 1)) (b : ∀ l, 0 ≤ l → l < σ 1 → (bt xw l.toNat ↔ ¬ tn σ l a)) {g : mx_H} (f : mc h g σ a) (f2 : g 2 = h 2) (no : ∀ k, k < p * 16 → ¬ ml σ a k) {l6 l7 : Option mx_V}
    (hN : ∀ g, mc h g σ a → g 2 = h 2 → tbl g σ → cans g σ (-1) → (∀ k, ¬ ml σ a k) → Q (some (0, 0)) S g n)
    (hF : ∀ g k, mc h g σ a → tbl g σ → cans g σ (-1) → m3 h g a (k / 16) (k % 16) → ml σ a k → (∀ u, u < k → ¬ ml σ a u) → Q (some (0, 1)) S g n) :
    mx_W (mx_ex (d + 5) 19 72 [some (2, 2), some (0, a), some (2, P), some (0, xw), some (0, 0), some (0, p), l6, l7] [] S g n) Q := by
  have hN' := w.N
  have na := w.n a a0 a1
  have hk := na.k
  have hn := na.n
  have nl := nt.l
  have nq := nt.q
  have ntt := nt.t
  have p00 := nt.p0
  have np2 := nt.q0
  -- the note is read once more
  have fin : ∀ g m, mc h g σ a → (∀ g2, (∀ x, ¬ x = 9 → ¬ x = 10 → ¬ x = 11 → g2 x = g x) → tbl g2 σ → cans g2 σ (-1) → Q (some (0, m)) S g2 n) → (0 ≤ m ∧ m ≤ 1) → ∀ (L : mx_L), L.length = 8 → L[4]? = some (some (0, m)) → mx_W (mx_rt (mx_M (d + 4) 24 [(2, 2), (2, P)] S g n) (d + 5) 19 182 L []) Q := by
    intro g m f hX hm L hl h4
    have ng : nr S g N P σ a := nt.m (fun x y => f.f x (by omega) (by omega))
    refine mx_W_r (c_rn hS ng na a0 (by omega) ?_)
    intro g2 fr
    show mx_W (mx_ex _ _ _ _ [] _ _ _) _
    match L, hl, h4 with
    | [x0, x1, x2, x3, x4, x5, x6, x7], _, h4 =>
      have h4 : x4 = some (0, m) := by simpa using h4
      subst h4
      simp (disch := omega) only [mx_vt_h, mx_vt_m, mx_cmp_0, mx_cmp_1, mx_cmp_2, mx_cmp_3, mx_cmp_4, mx_u_s, mx_u_a, mx_u_k, mx_z_a, mx_z_s, mx_t_a, mx_t_2, mx_t_1, mx_t_0, mx_gd_T, mx_gd_t, mx_br_T, mx_br_F, mx_br_t, mx_br_f, mx_br_n, mx_cl_T, mx_cl_t, mx_re_T, mx_re_t, mx_rt_v, mx_rt_0, mx_cu_t, mx_w_id, mx_l_id, mx_b_0, mx_b_1, mx_b_r, mx_nl_0, mx_nl_1, mx_nl_2, mx_nl_n, mx_nl_l, mx_sw_n, mx_sw_h, mx_sw_m, Int.reduceLE, Int.reduceLT, Int.reduceEq, Int.reduceAdd, Int.reduceSub, Int.reduceMul, Int.reduceNeg, Int.reduceToNat, and_self, true_and, and_true, false_and, and_false, true_or, or_true, false_or, or_false, not_true_eq_false, not_false_eq_true, eq_self, rw_X2_mendsBy, rw_X2_mendsBy_1, hm, and_self]
      refine mx_W_s (hX g2 fr.f (tbl.mk (tw.mk ?_ ?_) ?_) ?_)
      · intro i i0 i1
        by_cases c : i = a
        · rw [c]; exact fr.e
        · rw [fr.e2 i c]; exact f.t.e i i0 i1
      · intro i b i0 i1 b0 b1
        by_cases c : i = a
        · rw [c]; exact fr.w b b0 (by omega)
        · rw [fr.w2 _ (by omega)]; exact f.t.w i b i0 i1 c b0 b1
      · intro l l0 l1; rw [fr.f 12 (by decide) (by decide) (by decide)]; exact f.t.t l l0 l1
      · intro i i0 i1 _
        by_cases c : i = a
        · rw [c]; exact fr.c
        · rw [fr.c2 i c]; exact f.t.c i i0 i1 c
  have mcm : ∀ g g2, mc h g σ a → (∀ x, ¬ x = 9 → ¬ x = 10 → ¬ x = 11 → g2 x = g x) → tbl g2 σ → cans g2 σ (-1) → mc h g2 σ a := fun g g2 f k t c =>
    mc.mk (fun x y z => by rw [k x (by omega) (by omega) (by omega)]; exact f.f x y z) (by rw [k 14 (by decide) (by decide) (by decide)]; exact f.s) (tx.mk t.w.e (fun i i0 i1 _ => c i i0 i1 (by omega)) (fun i b i0 i1 _ b0 b1 => t.w.w i b i0 i1 b0 b1) t.t)
  by_cases q : p < it σ a 3
  · have gs := (nt.m (g := g) (fun x y => f.f x (by omega) (by omega))).s p p0 q
    have hc := c_mb_s (d := d) (n := n) (Q := Q) hS w r o a0 a1 p0 q (s := 0) (by decide) (by decide) nt sd u b (g := g) (m0.mk (fun x y z => by
        by_cases e : x = 2
        · rw [e]; exact f2
        · exact f.f x y e) (fun k _ => by rw [f.f _ (by omega) (by omega)]) f.s f.t) (fun t ht z => by have := z.s; omega)
      (fun g l6 l7 f f2 nm => c_mb_p hS w r o a0 a1 (p := p + 1) (by omega) (by omega) nt sd u b f f2 (fun k hk z => by
        by_cases c : k < p * 16
        · exact no k c z
        · have : k / 16 = p := by omega
          unfold ml at z; rw [this] at z; exact nm _ z) hN hF)
      (fun g l6 l7 t f m mm nm => by
        have ft := fin g 1 f (fun g2 k t2 c2 => hF g2 (p * 16 + t) (mcm g g2 f k t2 c2) t2 c2 (by
            have e1 : (p * 16 + t) / 16 = p := by have := mm.s; omega
            have e2 : (p * 16 + t) % 16 = t := by have := mm.s; omega
            rw [e1, e2]
            refine m3.mk ?_ ?_ ?_ ?_
            · rw [k 2 (by decide) (by decide) (by decide)]; exact m.a
            · rw [k 2 (by decide) (by decide) (by decide)]; exact m.p
            · rw [k 2 (by decide) (by decide) (by decide)]; exact m.s
            · intro j x y z; rw [k 2 (by decide) (by decide) (by decide)]; exact m.k j x y z) (by
            have e1 : (p * 16 + t) / 16 = p := by have := mm.s; omega
            have e2 : (p * 16 + t) % 16 = t := by have := mm.s; omega
            unfold ml; rw [e1, e2]; exact mm) (fun k hk z => by
              have ms := mm.s
              by_cases c : k < p * 16
              · exact no k c z
              · have e1 : k / 16 = p := by omega
                unfold ml at z; rw [e1] at z; exact nm _ (by omega) z)) (by decide)
        rw [rh_X2_mendsBy_72]
        by_cases q2 : p + 1 < it σ a 3
        · simp (disch := omega) only [mx_vt_h, mx_vt_m, mx_cmp_0, mx_cmp_1, mx_cmp_2, mx_cmp_3, mx_cmp_4, mx_u_s, mx_u_a, mx_u_k, mx_z_a, mx_z_s, mx_t_a, mx_t_2, mx_t_1, mx_t_0, mx_gd_T, mx_gd_t, mx_br_T, mx_br_F, mx_br_t, mx_br_f, mx_br_n, mx_cl_T, mx_cl_t, mx_re_T, mx_re_t, mx_rt_v, mx_rt_0, mx_cu_t, mx_w_id, mx_l_id, mx_b_0, mx_b_1, mx_b_r, mx_nl_0, mx_nl_1, mx_nl_2, mx_nl_n, mx_nl_l, mx_sw_n, mx_sw_h, mx_sw_m, Int.reduceLE, Int.reduceLT, Int.reduceEq, Int.reduceAdd, Int.reduceSub, Int.reduceMul, Int.reduceNeg, Int.reduceToNat, and_self, true_and, and_true, false_and, and_false, true_or, or_true, false_or, or_false, not_true_eq_false, not_false_eq_true, eq_self, rw_X2_mendsBy, rw_X2_mendsBy_1, hS.e, ntt, nl, nq]
          exact ft _ rfl rfl
        · simp (disch := omega) only [mx_vt_h, mx_vt_m, mx_cmp_0, mx_cmp_1, mx_cmp_2, mx_cmp_3, mx_cmp_4, mx_u_s, mx_u_a, mx_u_k, mx_z_a, mx_z_s, mx_t_a, mx_t_2, mx_t_1, mx_t_0, mx_gd_T, mx_gd_t, mx_br_T, mx_br_F, mx_br_t, mx_br_f, mx_br_n, mx_cl_T, mx_cl_t, mx_re_T, mx_re_t, mx_rt_v, mx_rt_0, mx_cu_t, mx_w_id, mx_l_id, mx_b_0, mx_b_1, mx_b_r, mx_nl_0, mx_nl_1, mx_nl_2, mx_nl_n, mx_nl_l, mx_sw_n, mx_sw_h, mx_sw_m, Int.reduceLE, Int.reduceLT, Int.reduceEq, Int.reduceAdd, Int.reduceSub, Int.reduceMul, Int.reduceNeg, Int.reduceToNat, and_self, true_and, and_true, false_and, and_false, true_or, or_true, false_or, or_false, not_true_eq_false, not_false_eq_true, eq_self, rw_X2_mendsBy, rw_X2_mendsBy_1, hS.e, ntt, nl, nq]
          exact ft _ rfl rfl)
    rw [rh_X2_mendsBy_72]
    simp (disch := omega) only [mx_vt_h, mx_vt_m, mx_cmp_0, mx_cmp_1, mx_cmp_2, mx_cmp_3, mx_cmp_4, mx_u_s, mx_u_a, mx_u_k, mx_z_a, mx_z_s, mx_t_a, mx_t_2, mx_t_1, mx_t_0, mx_gd_T, mx_gd_t, mx_br_T, mx_br_F, mx_br_t, mx_br_f, mx_br_n, mx_cl_T, mx_cl_t, mx_re_T, mx_re_t, mx_rt_v, mx_rt_0, mx_cu_t, mx_w_id, mx_l_id, mx_b_0, mx_b_1, mx_b_r, mx_nl_0, mx_nl_1, mx_nl_2, mx_nl_n, mx_nl_l, mx_sw_n, mx_sw_h, mx_sw_m, Int.reduceLE, Int.reduceLT, Int.reduceEq, Int.reduceAdd, Int.reduceSub, Int.reduceMul, Int.reduceNeg, Int.reduceToNat, and_self, true_and, and_true, false_and, and_false, true_or, or_true, false_or, or_false, not_true_eq_false, not_false_eq_true, eq_self, rw_X2_mendsBy, rw_X2_mendsBy_1, hS.e, ntt, nl, nq, gs]
    exact hc
  · have ft := fin g 0 f (fun g2 k t2 c2 => hN g2 (mcm g g2 f k t2 c2) (by rw [k 2 (by decide) (by decide) (by decide)]; exact f2) t2 c2 (fun j z => no j (by have := z.p; omega) z)) (by decide)
    rw [rh_X2_mendsBy_72]
    simp (disch := omega) only [mx_vt_h, mx_vt_m, mx_cmp_0, mx_cmp_1, mx_cmp_2, mx_cmp_3, mx_cmp_4, mx_u_s, mx_u_a, mx_u_k, mx_z_a, mx_z_s, mx_t_a, mx_t_2, mx_t_1, mx_t_0, mx_gd_T, mx_gd_t, mx_br_T, mx_br_F, mx_br_t, mx_br_f, mx_br_n, mx_cl_T, mx_cl_t, mx_re_T, mx_re_t, mx_rt_v, mx_rt_0, mx_cu_t, mx_w_id, mx_l_id, mx_b_0, mx_b_1, mx_b_r, mx_nl_0, mx_nl_1, mx_nl_2, mx_nl_n, mx_nl_l, mx_sw_n, mx_sw_h, mx_sw_m, Int.reduceLE, Int.reduceLT, Int.reduceEq, Int.reduceAdd, Int.reduceSub, Int.reduceMul, Int.reduceNeg, Int.reduceToNat, and_self, true_and, and_true, false_and, and_false, true_or, or_true, false_or, or_false, not_true_eq_false, not_false_eq_true, eq_self, rw_X2_mendsBy, rw_X2_mendsBy_1, hS.e, ntt, nl, nq]
    exact ft _ rfl rfl
termination_by (it σ a 3 - p).toNat
decreasing_by omega
end
