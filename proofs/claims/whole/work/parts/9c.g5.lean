/-! The program's finder: mendsBy, canMend -/
def mk (σ : Int → Int) (k : Int) : Prop := 0 ≤ k ∧ k / 96 < σ 0 ∧ ml σ (k / 96) (k % 96)
def mf (h : mx_H) (σ : Int → Int) : Prop := (h 2 2 = -1 ∧ ∀ k, ¬ mk σ k) ∨ ∃ k, mk σ k ∧ (∀ u, u < k → ¬ mk σ u) ∧ h 2 2 = k / 96 ∧ h 2 3 = k / 16 % 6 ∧ h 2 4 = k % 16
theorem ml_r {σ : Int → Int} (w : vw σ) {a k : Int} (a0 : 0 ≤ a) (a1 : a < σ 0) (q : ml σ a k) : 0 ≤ k ∧ k < 96 := by
  have := q.p
  have := q.s
  have := (w.n a a0 a1).n
  omega
section
variable {d : Nat} {S h : mx_H} {n N : Int} {σ : Int → Int} {Q : Option mx_V → mx_H → mx_H → Int → Prop}
/-- mendsBy -/
theorem c_mb (hS : sh_F S) (w : vw σ) (r : rr S h N 3 σ) (o : ro h) (t : tbl h σ) (cn : cans h σ (-1)) {a : Int} (a0 : 0 ≤ a) (a1 : a < σ 0)
    (hN : ∀ g, (∀ x, x < 8 ∨ 14 < x → ¬ x = 2 → g x = h x) → g 2 = h 2 → tbl g σ → cans g σ (-1) → (∀ k, ¬ ml σ a k) → Q (some (0, 0)) S g n)
    (hF : ∀ g k, (∀ x, x < 8 ∨ 14 < x → ¬ x = 2 → g x = h x) → tbl g σ → cans g σ (-1) → m3 h g a (k / 16) (k % 16) → ml σ a k → (∀ u, u < k → ¬ ml σ a u) → Q (some (0, 1)) S g n) :
    mx_W (mx_M (d + 5) 19 [(2, 2), (0, a)] S h n) Q := by
  have hN' := w.N
  have hL := w.L
  have nt : nr S h N (S 7 a) σ a := r.n a a0 a1
  have hp := nt.p0
  have c1 : mx_M (d + 4) 90 [(2, 3), (0, a)] S h n = some (some (2, S 7 a), S, h, n) := c_noteAt1 hS.v r w a0 a1
  have ca := c_allLines (d := d + 4) (S := S) (h := h) (n := n) hS.v w r.L
  have clw := c_lwn (d := d + 4) (S := S) (h := h) (n := n) (a := a) hS.v w r.L (fun l k l0 l1 k0 k1 => r.l l k l0 l1 k0 k1)
  have b : ∀ l, 0 ≤ l → l < σ 1 → (bt (mx_and (aL (σ 1)) (mx_xor (lwn σ a (σ 1)) (-1))) l.toNat ↔ ¬ tn σ l a) := by
    intro l l0 l1
    rw [bt_and, bt_not (by omega), lwn_b w l0 l1]
    exact ⟨fun q => q.2, fun q => ⟨aL_b hL.1 hL.2 l0 l1, q⟩⟩
  obtain ⟨xw, exw⟩ : ∃ xw, mx_and (aL (σ 1)) (mx_xor (lwn σ a (σ 1)) (-1)) = xw := ⟨_, rfl⟩
  rw [exw] at b
  simp (disch := omega) only [mx_vt_h, mx_vt_m, mx_cmp_0, mx_cmp_1, mx_cmp_2, mx_cmp_3, mx_cmp_4, mx_u_s, mx_u_a, mx_u_k, mx_z_a, mx_z_s, mx_t_a, mx_t_2, mx_t_1, mx_t_0, mx_gd_T, mx_gd_t, mx_br_T, mx_br_F, mx_br_t, mx_br_f, mx_br_n, mx_cl_T, mx_cl_t, mx_re_T, mx_re_t, mx_rt_v, mx_rt_0, mx_cu_t, mx_w_id, mx_l_id, mx_b_0, mx_b_1, mx_b_r, mx_nl_0, mx_nl_1, mx_nl_2, mx_nl_n, mx_nl_l, mx_sw_n, mx_sw_h, mx_sw_m, Int.reduceLE, Int.reduceLT, Int.reduceEq, Int.reduceAdd, Int.reduceSub, Int.reduceMul, Int.reduceNeg, Int.reduceToNat, and_self, true_and, and_true, false_and, and_false, true_or, or_true, false_or, or_false, not_true_eq_false, not_false_eq_true, eq_self, rw_X2_mendsBy, rw_X2_mendsBy_1, hS.e, c1, ca, clw, exw]
  refine mx_W_r (c_lim hS w r.r t o (fun i i0 i1 _ => cn i i0 i1 (by omega)) ?_)
  intro g Λ f m u
  show mx_W (mx_ex _ _ _ _ [] _ _ _) _
  simp (disch := omega) only [mx_vt_h, mx_vt_m, mx_cmp_0, mx_cmp_1, mx_cmp_2, mx_cmp_3, mx_cmp_4, mx_u_s, mx_u_a, mx_u_k, mx_z_a, mx_z_s, mx_t_a, mx_t_2, mx_t_1, mx_t_0, mx_gd_T, mx_gd_t, mx_br_T, mx_br_F, mx_br_t, mx_br_f, mx_br_n, mx_cl_T, mx_cl_t, mx_re_T, mx_re_t, mx_rt_v, mx_rt_0, mx_cu_t, mx_w_id, mx_l_id, mx_b_0, mx_b_1, mx_b_r, mx_nl_0, mx_nl_1, mx_nl_2, mx_nl_n, mx_nl_l, mx_sw_n, mx_sw_h, mx_sw_m, Int.reduceLE, Int.reduceLT, Int.reduceEq, Int.reduceAdd, Int.reduceSub, Int.reduceMul, Int.reduceNeg, Int.reduceToNat, and_self, true_and, and_true, false_and, and_false, true_or, or_true, false_or, or_false, not_true_eq_false, not_false_eq_true, eq_self, rw_X2_mendsBy, rw_X2_mendsBy_1, hS.e]
  refine mx_W_r (c_iww hS w (r.r.m f.f) (t.m f.f) m ?_)
  intro g2 f2
  show mx_W (mx_ex _ _ _ _ [_] _ _ _) _
  have F2 : ∀ x, ¬ x = 8 → ¬ x = 13 → g2 x = h x := fun x y z => by rw [f2 x y]; exact f.f x y z
  have t2 := t.m F2
  have c2 := cn.m F2
  by_cases q : sm (PL σ Λ xw) 2 2
  · rw [mx_b_t q]
    let g3 := mx_y g2 13 0 14 0 54
    have F3 : ∀ x, ¬ x = 14 → g3 x = g2 x := fun x y => mx_y_a y
    have r3 : lr g3 σ := r.r.m2 (fun x y z => by rw [F3 x (by omega), F2 x (by omega) (by omega)])
    have o3 : ro g3 := o.m2 (fun x y => by rw [F3 x (by omega), F2 x (by omega) (by omega)])
    have n3 : nr S g3 N (S 7 a) σ a := nt.m (fun x y => by rw [F3 x (by omega), F2 x (by omega) (by omega)])
    have sd : ∀ k, 0 ≤ k → k < 54 → g3 14 k = bz 2 17 (Λ k) := by
      intro k k0 k1
      simp only [g3]; rw [mx_y_i k0 (by omega)]
      have : (0 : Int) + (k - 0) = k := by omega
      rw [this, f2 13 (by decide)]; exact m k k0 k1
    have FF : ∀ x, x < 8 ∨ 14 < x → g3 x = h x := fun x y => by rw [F3 x (by omega), F2 x (by omega) (by omega)]
    have t3 : tx g3 σ a := by
      refine tx.mk (fun i a b => ?_) (fun i a b c => ?_) (fun i b x y z u v => ?_) (fun l a b => ?_)
      · rw [F3 9 (by decide)]; exact t2.w.e i a b
      · rw [F3 10 (by decide)]; exact c2 i a b (by omega)
      · rw [F3 11 (by decide)]; exact t2.w.w i b x y u v
      · rw [F3 12 (by decide)]; exact t2.t l a b
    have hc := fun l6 l7 => c_mb_p (d := d) (n := n) (Q := Q) (l6 := l6) (l7 := l7) hS w r3 o3 a0 a1 (p := 0) (by decide) (by have := (w.n a a0 a1).n; omega) n3 sd u b (g := g3) (mc.mk (fun _ _ _ => rfl) rfl t3) rfl (fun k hk z => by have := ml_r w a0 a1 z; omega)
      (fun g f f2 t c no => hN g (fun x y z => by rw [f.f x y z]; exact FF x y) (by rw [f2]; exact FF 2 (by decide)) t c no)
      (fun g k f t c m mm no => hF g k (fun x y z => by rw [f.f x y z]; exact FF x y) t c (m3.mk m.a m.p m.s (fun j x y z => by rw [m.k j x y z, FF 2 (by decide)])) mm no)
    simp only [g3] at hc
    simp (disch := omega) only [mx_vt_h, mx_vt_m, mx_cmp_0, mx_cmp_1, mx_cmp_2, mx_cmp_3, mx_cmp_4, mx_u_s, mx_u_a, mx_u_k, mx_z_a, mx_z_s, mx_t_a, mx_t_2, mx_t_1, mx_t_0, mx_gd_T, mx_gd_t, mx_br_T, mx_br_F, mx_br_t, mx_br_f, mx_br_n, mx_cl_T, mx_cl_t, mx_re_T, mx_re_t, mx_rt_v, mx_rt_0, mx_cu_t, mx_w_id, mx_l_id, mx_b_0, mx_b_1, mx_b_r, mx_nl_0, mx_nl_1, mx_nl_2, mx_nl_n, mx_nl_l, mx_sw_n, mx_sw_h, mx_sw_m, Int.reduceLE, Int.reduceLT, Int.reduceEq, Int.reduceAdd, Int.reduceSub, Int.reduceMul, Int.reduceNeg, Int.reduceToNat, and_self, true_and, and_true, false_and, and_false, true_or, or_true, false_or, or_false, not_true_eq_false, not_false_eq_true, eq_self, rw_X2_mendsBy, rw_X2_mendsBy_1, hS.e]
    exact hc _ _
  · rw [mx_b_f q]
    simp (disch := omega) only [mx_vt_h, mx_vt_m, mx_cmp_0, mx_cmp_1, mx_cmp_2, mx_cmp_3, mx_cmp_4, mx_u_s, mx_u_a, mx_u_k, mx_z_a, mx_z_s, mx_t_a, mx_t_2, mx_t_1, mx_t_0, mx_gd_T, mx_gd_t, mx_br_T, mx_br_F, mx_br_t, mx_br_f, mx_br_n, mx_cl_T, mx_cl_t, mx_re_T, mx_re_t, mx_rt_v, mx_rt_0, mx_cu_t, mx_w_id, mx_l_id, mx_b_0, mx_b_1, mx_b_r, mx_nl_0, mx_nl_1, mx_nl_2, mx_nl_n, mx_nl_l, mx_sw_n, mx_sw_h, mx_sw_m, Int.reduceLE, Int.reduceLT, Int.reduceEq, Int.reduceAdd, Int.reduceSub, Int.reduceMul, Int.reduceNeg, Int.reduceToNat, and_self, true_and, and_true, false_and, and_false, true_or, or_true, false_or, or_false, not_true_eq_false, not_false_eq_true, eq_self, rw_X2_mendsBy, rw_X2_mendsBy_1]
    refine mx_W_s (hN g2 (fun x y _ => F2 x (by omega) (by omega)) (F2 2 (by decide) (by decide)) t2 c2 (fun k z => q ?_))
    have na := w.n a a0 a1
    have hn := na.n
    obtain ⟨x, y, c, e⟩ := z.e
    have wt := al_w w a0 a1 z.p.1 z.p.2 z.s.1 z.s.2
    have i := al_IL w a0 a1 z.p.1 (by have := z.p; omega) u b wt e
    have rr := wd_r wt e
    exact ⟨x, y, c, by omega, rr.1.1, rr.1.2, rr.2.1.1, rr.2.1.2, rr.2.2.1, rr.2.2.2, i.1, fun j j0 j1 v _ => i.2.1 j j0 j1 v⟩
theorem c_cm_l (hS : sh_F S) (w : vw σ) (r : rr S h N 3 σ) (o : ro h) {a : Int} (a0 : 0 ≤ a) (a1 : a ≤ σ 0) {g : mx_H} (f : ∀ x, x < 8 ∨ 14 < x → ¬ x = 2 → g x = h x) (f2 : g 2 = h 2) (t : tbl g σ) (cn : cans g σ (-1)) (no : ∀ k, k < a * 96 → ¬ mk σ k)
    (hX : ∀ g, (∀ x, x < 8 ∨ 14 < x → ¬ x = 2 → g x = h x) → (∀ k, ¬ k = 2 → ¬ k = 3 → ¬ k = 4 → g 2 k = h 2 k) → mf g σ → Q (some (0, mx_b (¬ g 2 2 = -1))) S g n) :
    mx_W (mx_ex (d + 6) 18 45 [some (2, 2), some (0, a)] [] S g n) Q := by
  have hN' := w.N
  have rg : rr S g N 3 σ := r.m (fun x y => f x (by omega) (by omega))
  have og : ro g := o.m2 (fun x y => f x (by omega) (by omega))
  have gc := rg.c
  rw [rh_X2_canMend_45]
  by_cases q : a < σ 0
  · simp (disch := omega) only [mx_vt_h, mx_vt_m, mx_cmp_0, mx_cmp_1, mx_cmp_2, mx_cmp_3, mx_cmp_4, mx_u_s, mx_u_a, mx_u_k, mx_z_a, mx_z_s, mx_t_a, mx_t_2, mx_t_1, mx_t_0, mx_gd_T, mx_gd_t, mx_br_T, mx_br_F, mx_br_t, mx_br_f, mx_br_n, mx_cl_T, mx_cl_t, mx_re_T, mx_re_t, mx_rt_v, mx_rt_0, mx_cu_t, mx_w_id, mx_l_id, mx_b_0, mx_b_1, mx_b_r, mx_nl_0, mx_nl_1, mx_nl_2, mx_nl_n, mx_nl_l, mx_sw_n, mx_sw_h, mx_sw_m, Int.reduceLE, Int.reduceLT, Int.reduceEq, Int.reduceAdd, Int.reduceSub, Int.reduceMul, Int.reduceNeg, Int.reduceToNat, and_self, true_and, and_true, false_and, and_false, true_or, or_true, false_or, or_false, not_true_eq_false, not_false_eq_true, eq_self, rw_X2_canMend, hS.e, gc]
    refine mx_W_r (c_mb hS w rg og t cn a0 q ?_ ?_)
    · intro g2 k f3 t2 c2 nm
      show mx_W (mx_ex _ _ _ _ [_] _ _ _) _
      simp (disch := omega) only [mx_vt_h, mx_vt_m, mx_cmp_0, mx_cmp_1, mx_cmp_2, mx_cmp_3, mx_cmp_4, mx_u_s, mx_u_a, mx_u_k, mx_z_a, mx_z_s, mx_t_a, mx_t_2, mx_t_1, mx_t_0, mx_gd_T, mx_gd_t, mx_br_T, mx_br_F, mx_br_t, mx_br_f, mx_br_n, mx_cl_T, mx_cl_t, mx_re_T, mx_re_t, mx_rt_v, mx_rt_0, mx_cu_t, mx_w_id, mx_l_id, mx_b_0, mx_b_1, mx_b_r, mx_nl_0, mx_nl_1, mx_nl_2, mx_nl_n, mx_nl_l, mx_sw_n, mx_sw_h, mx_sw_m, Int.reduceLE, Int.reduceLT, Int.reduceEq, Int.reduceAdd, Int.reduceSub, Int.reduceMul, Int.reduceNeg, Int.reduceToNat, and_self, true_and, and_true, false_and, and_false, true_or, or_true, false_or, or_false, not_true_eq_false, not_false_eq_true, eq_self, rw_X2_canMend]
      refine c_cm_l hS w r o (a := a + 1) (by omega) (by omega) (fun x y z => by rw [k x y z]; exact f x y z) (by rw [f3]; exact f2) t2 c2 (fun j hj z => ?_) hX
      by_cases c : j < a * 96
      · exact no j c z
      · have : j / 96 = a := by omega
        have z2 := z.2.2
        rw [this] at z2; exact nm _ z2
    · intro g2 k f3 t2 c2 m mm nm
      have kr := ml_r w a0 q mm
      have ma := m.a
      have mkk : mk σ (a * 96 + k) := by
        have e1 : (a * 96 + k) / 96 = a := by omega
        have e2 : (a * 96 + k) % 96 = k := by omega
        exact ⟨by omega, by rw [e1]; exact q, by rw [e1, e2]; exact mm⟩
      have hX := hX g2 (fun x y z => by rw [f3 x y z]; exact f x y z) (fun j x y z => by rw [m.k j x y z, f2]) (Or.inr ⟨a * 96 + k, mkk, ?_, ?_, ?_, ?_⟩)
      · rw [mx_b_t (by omega)] at hX
        show mx_W (mx_ex _ _ _ _ [_] _ _ _) _
        simp (disch := omega) only [mx_vt_h, mx_vt_m, mx_cmp_0, mx_cmp_1, mx_cmp_2, mx_cmp_3, mx_cmp_4, mx_u_s, mx_u_a, mx_u_k, mx_z_a, mx_z_s, mx_t_a, mx_t_2, mx_t_1, mx_t_0, mx_gd_T, mx_gd_t, mx_br_T, mx_br_F, mx_br_t, mx_br_f, mx_br_n, mx_cl_T, mx_cl_t, mx_re_T, mx_re_t, mx_rt_v, mx_rt_0, mx_cu_t, mx_w_id, mx_l_id, mx_b_0, mx_b_1, mx_b_r, mx_nl_0, mx_nl_1, mx_nl_2, mx_nl_n, mx_nl_l, mx_sw_n, mx_sw_h, mx_sw_m, Int.reduceLE, Int.reduceLT, Int.reduceEq, Int.reduceAdd, Int.reduceSub, Int.reduceMul, Int.reduceNeg, Int.reduceToNat, and_self, true_and, and_true, false_and, and_false, true_or, or_true, false_or, or_false, not_true_eq_false, not_false_eq_true, eq_self, rw_X2_canMend]
        exact mx_W_s hX
      · intro u hu z
        by_cases c : u < a * 96
        · exact no u c z
        · have : u / 96 = a := by omega
          have z2 := z.2.2
          rw [this] at z2; exact nm _ (by omega) z2
      · rw [ma]; omega
      · rw [m.p]; omega
      · rw [m.s]; omega
  · have e : a = σ 0 := by omega
    subst e
    have hX := hX (mx_u g 2 2 (-1)) (fun x y z => by rw [mx_u_a z]; exact f x y z) (fun k x y z => by rw [mx_u_k x, f2]) (Or.inl ⟨by rw [mx_u_s], fun k z => no k (by have := z.2.1; omega) z⟩)
    rw [mx_b_f (by rw [mx_u_s]; omega)] at hX
    simp (disch := omega) only [mx_vt_h, mx_vt_m, mx_cmp_0, mx_cmp_1, mx_cmp_2, mx_cmp_3, mx_cmp_4, mx_u_s, mx_u_a, mx_u_k, mx_z_a, mx_z_s, mx_t_a, mx_t_2, mx_t_1, mx_t_0, mx_gd_T, mx_gd_t, mx_br_T, mx_br_F, mx_br_t, mx_br_f, mx_br_n, mx_cl_T, mx_cl_t, mx_re_T, mx_re_t, mx_rt_v, mx_rt_0, mx_cu_t, mx_w_id, mx_l_id, mx_b_0, mx_b_1, mx_b_r, mx_nl_0, mx_nl_1, mx_nl_2, mx_nl_n, mx_nl_l, mx_sw_n, mx_sw_h, mx_sw_m, Int.reduceLE, Int.reduceLT, Int.reduceEq, Int.reduceAdd, Int.reduceSub, Int.reduceMul, Int.reduceNeg, Int.reduceToNat, and_self, true_and, and_true, false_and, and_false, true_or, or_true, false_or, or_false, not_true_eq_false, not_false_eq_true, eq_self, rw_X2_canMend, hS.e, gc]
    exact mx_W_s hX
termination_by (σ 0 - a).toNat
decreasing_by omega
/-- canMend -/
theorem c_cm (hS : sh_F S) (w : vw σ) (r : rr S h N 3 σ) (o : ro h) (hc : h 2 15 = h 3 5 → mf h σ)
    (hX : ∀ g, (∀ x, x < 8 ∨ 14 < x → ¬ x = 2 → g x = h x) → (∀ k, ¬ k = 2 → ¬ k = 3 → ¬ k = 4 → ¬ k = 15 → g 2 k = h 2 k) → g 2 15 = h 3 5 → mf g σ → Q (some (0, mx_b (¬ g 2 2 = -1))) S g n) :
    mx_W (mx_M (d + 6) 18 [(2, 2)] S h n) Q := by
  have hN' := w.N
  by_cases q : h 2 15 = h 3 5
  · have hX := hX h (fun _ _ _ => rfl) (fun _ _ _ _ _ => rfl) q (hc q)
    by_cases z : h 2 2 = -1
    · rw [mx_b_f (fun y => y z)] at hX
      simp (disch := omega) only [mx_vt_h, mx_vt_m, mx_cmp_0, mx_cmp_1, mx_cmp_2, mx_cmp_3, mx_cmp_4, mx_u_s, mx_u_a, mx_u_k, mx_z_a, mx_z_s, mx_t_a, mx_t_2, mx_t_1, mx_t_0, mx_gd_T, mx_gd_t, mx_br_T, mx_br_F, mx_br_t, mx_br_f, mx_br_n, mx_cl_T, mx_cl_t, mx_re_T, mx_re_t, mx_rt_v, mx_rt_0, mx_cu_t, mx_w_id, mx_l_id, mx_b_0, mx_b_1, mx_b_r, mx_nl_0, mx_nl_1, mx_nl_2, mx_nl_n, mx_nl_l, mx_sw_n, mx_sw_h, mx_sw_m, Int.reduceLE, Int.reduceLT, Int.reduceEq, Int.reduceAdd, Int.reduceSub, Int.reduceMul, Int.reduceNeg, Int.reduceToNat, and_self, true_and, and_true, false_and, and_false, true_or, or_true, false_or, or_false, not_true_eq_false, not_false_eq_true, eq_self, rw_X2_canMend, hS.e, q, z]
      exact mx_W_s hX
    · rw [mx_b_t z] at hX
      simp (disch := omega) only [mx_vt_h, mx_vt_m, mx_cmp_0, mx_cmp_1, mx_cmp_2, mx_cmp_3, mx_cmp_4, mx_u_s, mx_u_a, mx_u_k, mx_z_a, mx_z_s, mx_t_a, mx_t_2, mx_t_1, mx_t_0, mx_gd_T, mx_gd_t, mx_br_T, mx_br_F, mx_br_t, mx_br_f, mx_br_n, mx_cl_T, mx_cl_t, mx_re_T, mx_re_t, mx_rt_v, mx_rt_0, mx_cu_t, mx_w_id, mx_l_id, mx_b_0, mx_b_1, mx_b_r, mx_nl_0, mx_nl_1, mx_nl_2, mx_nl_n, mx_nl_l, mx_sw_n, mx_sw_h, mx_sw_m, Int.reduceLE, Int.reduceLT, Int.reduceEq, Int.reduceAdd, Int.reduceSub, Int.reduceMul, Int.reduceNeg, Int.reduceToNat, and_self, true_and, and_true, false_and, and_false, true_or, or_true, false_or, or_false, not_true_eq_false, not_false_eq_true, eq_self, rw_X2_canMend, hS.e, q, z]
      exact mx_W_s hX
  · have r1 : rr S (mx_u h 2 15 (h 3 5)) N 3 σ := r.m (fun a x => mx_u_a (by omega))
    have o1 : ro (mx_u h 2 15 (h 3 5)) := o.m2 (fun x y => mx_u_a (by omega))
    simp (disch := omega) only [mx_vt_h, mx_vt_m, mx_cmp_0, mx_cmp_1, mx_cmp_2, mx_cmp_3, mx_cmp_4, mx_u_s, mx_u_a, mx_u_k, mx_z_a, mx_z_s, mx_t_a, mx_t_2, mx_t_1, mx_t_0, mx_gd_T, mx_gd_t, mx_br_T, mx_br_F, mx_br_t, mx_br_f, mx_br_n, mx_cl_T, mx_cl_t, mx_re_T, mx_re_t, mx_rt_v, mx_rt_0, mx_cu_t, mx_w_id, mx_l_id, mx_b_0, mx_b_1, mx_b_r, mx_nl_0, mx_nl_1, mx_nl_2, mx_nl_n, mx_nl_l, mx_sw_n, mx_sw_h, mx_sw_m, Int.reduceLE, Int.reduceLT, Int.reduceEq, Int.reduceAdd, Int.reduceSub, Int.reduceMul, Int.reduceNeg, Int.reduceToNat, and_self, true_and, and_true, false_and, and_false, true_or, or_true, false_or, or_false, not_true_eq_false, not_false_eq_true, eq_self, rw_X2_canMend, hS.e]
    refine mx_W_r (c_load hS w r1 ?_)
    intro g f t cn
    show mx_W (mx_ex _ _ _ _ [] _ _ _) _
    simp (disch := omega) only [mx_vt_h, mx_vt_m, mx_cmp_0, mx_cmp_1, mx_cmp_2, mx_cmp_3, mx_cmp_4, mx_u_s, mx_u_a, mx_u_k, mx_z_a, mx_z_s, mx_t_a, mx_t_2, mx_t_1, mx_t_0, mx_gd_T, mx_gd_t, mx_br_T, mx_br_F, mx_br_t, mx_br_f, mx_br_n, mx_cl_T, mx_cl_t, mx_re_T, mx_re_t, mx_rt_v, mx_rt_0, mx_cu_t, mx_w_id, mx_l_id, mx_b_0, mx_b_1, mx_b_r, mx_nl_0, mx_nl_1, mx_nl_2, mx_nl_n, mx_nl_l, mx_sw_n, mx_sw_h, mx_sw_m, Int.reduceLE, Int.reduceLT, Int.reduceEq, Int.reduceAdd, Int.reduceSub, Int.reduceMul, Int.reduceNeg, Int.reduceToNat, and_self, true_and, and_true, false_and, and_false, true_or, or_true, false_or, or_false, not_true_eq_false, not_false_eq_true, eq_self, rw_X2_canMend]
    refine c_cm_l hS w r1 o1 (a := 0) (by decide) (by omega) (fun x y z => f x (by omega) (by omega) (by omega) (by omega)) (f 2 (by decide) (by decide) (by decide) (by decide)) t cn (fun k hk z => by have := z.1; omega) ?_
    intro g2 f2 k2 m
    refine hX g2 (fun x y z => by rw [f2 x y z, mx_u_a z]) (fun k x y z v => by rw [k2 k x y z, mx_u_k v]) (by rw [k2 15 (by decide) (by decide) (by decide), mx_u_s]) m
end
