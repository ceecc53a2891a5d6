/-! The program's finder: limitBy whole, isWorldWithin -/
theorem bz_all : (131068 : Int) = bz 2 17 (fun _ => True) := by
  have e := bz_lh (lo := 2) (hi := 16) (by decide) (by decide) (by decide)
  have v : mx_shl 1 (16 + 1) - mx_shl 1 2 = 131068 := by decide
  rw [← v, e]
  exact bz_c (fun k a b => ⟨fun _ => trivial, fun _ => ⟨a, by omega⟩⟩)
/-- what the evenings and the notes but one allow -/
def gb (σ : Int → Int) (ex e b : Int) : Prop := (σ (3 + 2 * e) ≤ b ∧ b ≤ σ (3 + 2 * e + 1)) ∧ ∀ j, 0 ≤ j → j < σ 0 → ¬ j = ex → it σ j 1 = e → cb σ j b
def gA (σ : Int → Int) (ex a b c : Int) : Prop := gb σ ex 0 a ∧ gb σ ex 1 b ∧ gb σ ex 2 c
theorem gb_m {σ : Int → Int} {e b : Int} : gb σ (-1) e b ↔ mb σ e b := by
  constructor
  · rintro ⟨⟨x, y⟩, z⟩; exact ⟨x, y, fun a a0 a1 => z a a0 a1 (by omega)⟩
  · rintro ⟨x, y, z⟩; exact ⟨⟨x, y⟩, fun a a0 a1 _ => z a a0 a1⟩
theorem n3_g {σ : Int → Int} (w : vw σ) {ex a b c : Int} (a0 : 2 ≤ a) (b0 : 2 ≤ b) : IL (n3 σ ex (σ 0)) a b c ↔ gA σ ex a b c := by
  have hi : ∀ k, 3 ≤ k → ∀ b, n3 σ ex (σ 0) k b := fun k k0 b => ⟨fun q => absurd q (by omega), fun j j0 j1 _ e => by
    have := (w.n j j0 j1).e; omega⟩
  have lo : ∀ k, k ≤ 2 → ∀ b, n3 σ ex (σ 0) k b ↔ gb σ ex k b := fun k k1 b => ⟨fun q => ⟨q.1 k1, q.2⟩, fun q => ⟨fun _ => q.1, q.2⟩⟩
  unfold IL gA
  rw [lo 0 (by decide), lo 1 (by decide), lo 2 (by decide)]
  exact ⟨fun q => ⟨q.1, q.2.1, q.2.2.1⟩, fun q => ⟨q.1, q.2.1, q.2.2, hi _ (by omega) _, hi _ (by omega) _, hi _ (by omega) _⟩⟩
section
variable {d : Nat} {S h : mx_H} {n : Int} {σ : Int → Int} {Q : Option mx_V → mx_H → mx_H → Int → Prop}
theorem c_lim (hS : sh_F S) (w : vw σ) (r : lr h σ) (t : tbl h σ) (o : ro h) {x ex : Int} (cn : cans h σ ex)
    (hX : ∀ g Λ, fl h g → lim g Λ → lk σ Λ (gA σ ex) x (σ 1) → Q none S g n) :
    mx_W (mx_M (d + 3) 26 [(2, 2), (0, x), (0, ex)] S h n) Q := by
  have hN := w.N
  have hL := w.L
  let g0 := fil h 13 131068 54
  let g1 := mx_u g0 13 0 (bz 2 17 (fun b => σ 3 ≤ b ∧ b ≤ σ 4))
  let g2 := mx_u g1 13 1 (bz 2 17 (fun b => σ 5 ≤ b ∧ b ≤ σ 6))
  let g3 := mx_u g2 13 2 (bz 2 17 (fun b => σ 7 ≤ b ∧ b ≤ σ 8))
  have f0 : fl h g0 := fl.mk (fun a _ y => fil_a y)
  have f1 : fl h g1 := f0.t (fl.mk (fun a _ y => mx_u_a y))
  have f2 : fl h g2 := f1.t (fl.mk (fun a _ y => mx_u_a y))
  have f3 : fl h g3 := f2.t (fl.mk (fun a _ y => mx_u_a y))
  have m3 : lim g3 (n3 σ ex 0) := by
    intro k k0 k1
    by_cases e0 : k = 0
    · subst e0; simp only [g3, g2, g1]; rw [mx_u_k (by decide), mx_u_k (by decide), mx_u_s]
      exact bz_c (fun b _ _ => ⟨fun q => ⟨fun _ => q, fun j j0 j1 => by omega⟩, fun q => q.1 (by decide)⟩)
    · by_cases e1 : k = 1
      · subst e1; simp only [g3, g2, g1]; rw [mx_u_k (by decide), mx_u_s]
        exact bz_c (fun b _ _ => ⟨fun q => ⟨fun _ => q, fun j j0 j1 => by omega⟩, fun q => q.1 (by decide)⟩)
      · by_cases e2 : k = 2
        · subst e2; simp only [g3, g2, g1]; rw [mx_u_s]
          exact bz_c (fun b _ _ => ⟨fun q => ⟨fun _ => q, fun j j0 j1 => by omega⟩, fun q => q.1 (by decide)⟩)
        · simp only [g3, g2, g1, g0]; rw [mx_u_k e2, mx_u_k e1, mx_u_k e0, fil_i k0 k1, bz_all]
          exact bz_c (fun b _ _ => ⟨fun _ => ⟨fun q => by omega, fun j j0 j1 => by omega⟩, fun _ => trivial⟩)
  have b0 := c_basesOf (d := d + 2) (n := n) (h := g0) (e := 0) hS w (r.m f0.f) (by decide) (by decide)
  have b1 := c_basesOf (d := d + 2) (n := n) (h := g1) (e := 1) hS w (r.m f1.f) (by decide) (by decide)
  have b2 := c_basesOf (d := d + 2) (n := n) (h := g2) (e := 2) hS w (r.m f2.f) (by decide) (by decide)
  simp only [g2, g1, g0, Int.reduceMul, Int.reduceAdd] at b0 b1 b2
  have u : lk σ (n3 σ ex (σ 0)) (gA σ ex) x 0 := fun a b c a0 a1 b0 b1 c0 c1 => by
    rw [n3_g w a0 b0]
    exact ⟨fun q => ⟨q, fun l l0 l1 => by omega⟩, fun q => q.1⟩
  have hc := c_lim_b (Q := Q) (d := d) (n := n) (x := x) (i := 0) hS w r t cn (by decide) (by omega) f3 m3 (fun g f m => c_lim_c hS w r t o (by decide) (by omega) f m u hX)
  have cf := c_fill (d := d + 2) (S := S) (h := h) (n := n) (a := 13) (v := 131068) (m := 54) (by simp only [hS.e]) (by simp only [hS.e]) (by decide) (by decide)
  simp (disch := omega) only [mx_vt_h, mx_vt_m, mx_cmp_0, mx_cmp_1, mx_cmp_2, mx_cmp_3, mx_cmp_4, mx_u_s, mx_u_a, mx_u_k, mx_z_a, mx_z_s, mx_t_a, mx_t_2, mx_t_1, mx_t_0, mx_gd_T, mx_gd_t, mx_br_T, mx_br_F, mx_br_t, mx_br_f, mx_br_n, mx_cl_T, mx_cl_t, mx_re_T, mx_re_t, mx_rt_v, mx_rt_0, mx_cu_t, mx_w_id, mx_l_id, mx_b_0, mx_b_1, mx_b_r, mx_nl_0, mx_nl_1, mx_nl_2, mx_nl_n, mx_nl_l, mx_sw_n, mx_sw_h, mx_sw_m, Int.reduceLE, Int.reduceLT, Int.reduceEq, Int.reduceAdd, Int.reduceSub, Int.reduceMul, Int.reduceNeg, Int.reduceToNat, and_self, true_and, and_true, false_and, and_false, true_or, or_true, false_or, or_false, not_true_eq_false, not_false_eq_true, eq_self, rw_X2_limitBy, rh_X2_limitBy_11, hS.e, cf, b0, b1, b2]
  exact hc
/-- those left of evening 2, all sets and lines told -/
theorem t3_w (w : vw σ) {Λ : Int → Int → Prop} {x b c e : Int} (u : lk σ Λ (gA σ (-1)) x (σ 1)) (b0 : 2 ≤ b) (b1 : b ≤ 16) (c0 : 2 ≤ c) (c1 : c ≤ 16) (e0 : 2 ≤ e) (e1 : e ≤ 16) : t3 σ (IL Λ b c) x b c (σ 1) e ↔ wd σ x b c e := by
  unfold t3
  rw [u b c e b0 b1 c0 c1 e0 e1]
  unfold gA wd
  rw [gb_m, gb_m, gb_m]
  constructor
  · rintro ⟨⟨⟨p, q, s⟩, y⟩, z⟩
    refine ⟨p, q, s, fun j j0 j1 v => ?_⟩
    by_cases tq : tl σ j
    · exact z j j0 j1 v tq
    · exact y j j0 j1 v tq
  · rintro ⟨p, q, s, y⟩
    exact ⟨⟨⟨p, q, s⟩, fun j j0 j1 v _ => y j j0 j1 v⟩, fun j j0 j1 v _ => y j j0 j1 v⟩
/-- some bases are left, of the pairs from b, c on -/
def sm (P : Int → Int → Int → Prop) (b c : Int) : Prop := ∃ u v e, (b < u ∨ u = b ∧ c ≤ v) ∧ 2 ≤ u ∧ u ≤ 16 ∧ 2 ≤ v ∧ v ≤ 16 ∧ 2 ≤ e ∧ e ≤ 16 ∧ P u v e
theorem sm_n {P : Int → Int → Int → Prop} {b c : Int} (q : ∀ e, 2 ≤ e → e ≤ 16 → ¬ P b c e) : sm P b c ↔ sm P b (c + 1) := by
  constructor
  · rintro ⟨u, v, e, o, a1, a2, a3, a4, a5, a6, p⟩
    refine ⟨u, v, e, ?_, a1, a2, a3, a4, a5, a6, p⟩
    rcases o with o | o
    · exact Or.inl o
    · by_cases ev : v = c
      · rw [o.1, ev] at p; exact absurd p (q e a5 a6)
      · exact Or.inr ⟨o.1, by omega⟩
  · rintro ⟨u, v, e, o, r⟩
    exact ⟨u, v, e, by omega, r⟩
theorem sm_r {P : Int → Int → Int → Prop} {b : Int} : sm P b 17 ↔ sm P (b + 1) 2 := by
  constructor
  · rintro ⟨u, v, e, o, r⟩; exact ⟨u, v, e, by omega, r⟩
  · rintro ⟨u, v, e, o, r⟩; exact ⟨u, v, e, by omega, r⟩
theorem sm_b {P : Int → Int → Int → Prop} {b : Int} (q : ∀ v e, ¬ P b v e) : sm P b 2 ↔ sm P (b + 1) 2 := by
  constructor
  · rintro ⟨u, v, e, o, r⟩
    refine ⟨u, v, e, ?_, r⟩
    by_cases eb : u = b
    · rw [eb] at r; exact absurd r.2.2.2.2.2.2 (q v e)
    · omega
  · rintro ⟨u, v, e, o, r⟩; exact ⟨u, v, e, by omega, r⟩
def PL (σ : Int → Int) (Λ : Int → Int → Prop) (x b c e : Int) : Prop := t3 σ (IL Λ b c) x b c (σ 1) e
theorem c_iww_c (hS : sh_F S) (w : vw σ) (r : lr h σ) (t : tbl h σ) {Λ : Int → Int → Prop} (m : lim h Λ) {b c x : Int} (b0 : 2 ≤ b) (b1 : b ≤ 16) (c0 : 2 ≤ c) (c1 : c ≤ 17) {g : mx_H} (f : ∀ a, ¬ a = 8 → g a = h a)
    (hY : sm (PL σ Λ x) b c → ∀ g, (∀ a, ¬ a = 8 → g a = h a) → Q (some (0, 1)) S g n)
    (hX : ∀ g l3, (∀ a, ¬ a = 8 → g a = h a) → (sm (PL σ Λ x) b c ↔ sm (PL σ Λ x) (b + 1) 2) → mx_W (mx_ex (d + 3) 30 31 [some (2, 2), some (0, x), some (0, b + 1), l3] [] S g n) Q) :
    mx_W (mx_ex (d + 3) 30 55 [some (2, 2), some (0, x), some (0, b), some (0, c)] [] S g n) Q := by
  have F : fl h g := fl.mk (fun a y _ => f a y)
  have mg : lim g Λ := fun k k0 k1 => by rw [f 13 (by decide)]; exact m k k0 k1
  have tg := t.m F.f
  rw [rh_X2_isWorldWithin_55]
  by_cases q : c ≤ 16
  · have hc := fun R hX => c_tb (d := d) (n := n) (h := g) (Q := R) (x := x) hS w (r.m F.f) tg.w tg.t mg b0 b1 c0 q hX
    simp (disch := omega) only [mx_vt_h, mx_vt_m, mx_cmp_0, mx_cmp_1, mx_cmp_2, mx_cmp_3, mx_cmp_4, mx_u_s, mx_u_a, mx_u_k, mx_z_a, mx_z_s, mx_t_a, mx_t_2, mx_t_1, mx_t_0, mx_gd_T, mx_gd_t, mx_br_T, mx_br_F, mx_br_t, mx_br_f, mx_br_n, mx_cl_T, mx_cl_t, mx_re_T, mx_re_t, mx_rt_v, mx_rt_0, mx_cu_t, mx_w_id, mx_l_id, mx_b_0, mx_b_1, mx_b_r, mx_nl_0, mx_nl_1, mx_nl_2, mx_nl_n, mx_nl_l, mx_sw_n, mx_sw_h, mx_sw_m, Int.reduceLE, Int.reduceLT, Int.reduceEq, Int.reduceAdd, Int.reduceSub, Int.reduceMul, Int.reduceNeg, Int.reduceToNat, and_self, true_and, and_true, false_and, and_false, true_or, or_true, false_or, or_false, not_true_eq_false, not_false_eq_true, eq_self, rw_X2_isWorldWithin, hS.e]
    refine mx_W_r (hc _ ?_)
    intro g2 f2
    have f2' : ∀ a, ¬ a = 8 → g2 a = h a := fun a y => by rw [f2 a y]; exact f a y
    show mx_W (mx_ex _ _ _ _ [_] _ _ _) _
    by_cases z : bz 2 17 (t3 σ (IL Λ b c) x b c (σ 1)) = 0
    · simp (disch := omega) only [mx_vt_h, mx_vt_m, mx_cmp_0, mx_cmp_1, mx_cmp_2, mx_cmp_3, mx_cmp_4, mx_u_s, mx_u_a, mx_u_k, mx_z_a, mx_z_s, mx_t_a, mx_t_2, mx_t_1, mx_t_0, mx_gd_T, mx_gd_t, mx_br_T, mx_br_F, mx_br_t, mx_br_f, mx_br_n, mx_cl_T, mx_cl_t, mx_re_T, mx_re_t, mx_rt_v, mx_rt_0, mx_cu_t, mx_w_id, mx_l_id, mx_b_0, mx_b_1, mx_b_r, mx_nl_0, mx_nl_1, mx_nl_2, mx_nl_n, mx_nl_l, mx_sw_n, mx_sw_h, mx_sw_m, Int.reduceLE, Int.reduceLT, Int.reduceEq, Int.reduceAdd, Int.reduceSub, Int.reduceMul, Int.reduceNeg, Int.reduceToNat, and_self, true_and, and_true, false_and, and_false, true_or, or_true, false_or, or_false, not_true_eq_false, not_false_eq_true, eq_self, rw_X2_isWorldWithin, z]
      rw [bz_e0] at z
      have sn := sm_n (P := PL σ Λ x) (b := b) (c := c) (fun e e0 e1 => z e e0 (by omega))
      exact c_iww_c hS w r t m b0 b1 (c := c + 1) (by omega) (by omega) f2' (fun y => hY (sn.mpr y)) (fun g l3 f y => hX g l3 f (by rw [sn]; exact y))
    · simp (disch := omega) only [mx_vt_h, mx_vt_m, mx_cmp_0, mx_cmp_1, mx_cmp_2, mx_cmp_3, mx_cmp_4, mx_u_s, mx_u_a, mx_u_k, mx_z_a, mx_z_s, mx_t_a, mx_t_2, mx_t_1, mx_t_0, mx_gd_T, mx_gd_t, mx_br_T, mx_br_F, mx_br_t, mx_br_f, mx_br_n, mx_cl_T, mx_cl_t, mx_re_T, mx_re_t, mx_rt_v, mx_rt_0, mx_cu_t, mx_w_id, mx_l_id, mx_b_0, mx_b_1, mx_b_r, mx_nl_0, mx_nl_1, mx_nl_2, mx_nl_n, mx_nl_l, mx_sw_n, mx_sw_h, mx_sw_m, Int.reduceLE, Int.reduceLT, Int.reduceEq, Int.reduceAdd, Int.reduceSub, Int.reduceMul, Int.reduceNeg, Int.reduceToNat, and_self, true_and, and_true, false_and, and_false, true_or, or_true, false_or, or_false, not_true_eq_false, not_false_eq_true, eq_self, rw_X2_isWorldWithin, z]
      refine mx_W_s (hY ?_ g2 f2')
      rw [bz_e0] at z
      have : ∃ e, 2 ≤ e ∧ e < 17 ∧ t3 σ (IL Λ b c) x b c (σ 1) e := Classical.byContradiction (fun y => z (fun k k0 k1 p => y ⟨k, k0, k1, p⟩))
      obtain ⟨e, e0, e1, p⟩ := this
      exact ⟨b, c, e, Or.inr ⟨rfl, by omega⟩, b0, b1, c0, q, e0, by omega, p⟩
  · have e : c = 17 := by omega
    subst e
    simp (disch := omega) only [mx_vt_h, mx_vt_m, mx_cmp_0, mx_cmp_1, mx_cmp_2, mx_cmp_3, mx_cmp_4, mx_u_s, mx_u_a, mx_u_k, mx_z_a, mx_z_s, mx_t_a, mx_t_2, mx_t_1, mx_t_0, mx_gd_T, mx_gd_t, mx_br_T, mx_br_F, mx_br_t, mx_br_f, mx_br_n, mx_cl_T, mx_cl_t, mx_re_T, mx_re_t, mx_rt_v, mx_rt_0, mx_cu_t, mx_w_id, mx_l_id, mx_b_0, mx_b_1, mx_b_r, mx_nl_0, mx_nl_1, mx_nl_2, mx_nl_n, mx_nl_l, mx_sw_n, mx_sw_h, mx_sw_m, Int.reduceLE, Int.reduceLT, Int.reduceEq, Int.reduceAdd, Int.reduceSub, Int.reduceMul, Int.reduceNeg, Int.reduceToNat, and_self, true_and, and_true, false_and, and_false, true_or, or_true, false_or, or_false, not_true_eq_false, not_false_eq_true, eq_self, rw_X2_isWorldWithin]
    exact hX g _ f sm_r
termination_by (17 - c).toNat
theorem c_iww_b (hS : sh_F S) (w : vw σ) (r : lr h σ) (t : tbl h σ) {Λ : Int → Int → Prop} (m : lim h Λ) {b x : Int} (b0 : 2 ≤ b) (b1 : b ≤ 17) {g : mx_H} (f : ∀ a, ¬ a = 8 → g a = h a) {l3 : Option mx_V}
    (hX : ∀ g, (∀ a, ¬ a = 8 → g a = h a) → Q (some (0, mx_b (sm (PL σ Λ x) b 2))) S g n) :
    mx_W (mx_ex (d + 3) 30 31 [some (2, 2), some (0, x), some (0, b), l3] [] S g n) Q := by
  have m0 : g 13 0 = bz 2 17 (Λ 0) := by rw [f 13 (by decide)]; exact m 0 (by decide) (by decide)
  rw [rh_X2_isWorldWithin_31]
  by_cases q : b ≤ 16
  · by_cases p : Λ 0 b
    · simp (disch := omega) only [mx_vt_h, mx_vt_m, mx_cmp_0, mx_cmp_1, mx_cmp_2, mx_cmp_3, mx_cmp_4, mx_u_s, mx_u_a, mx_u_k, mx_z_a, mx_z_s, mx_t_a, mx_t_2, mx_t_1, mx_t_0, mx_gd_T, mx_gd_t, mx_br_T, mx_br_F, mx_br_t, mx_br_f, mx_br_n, mx_cl_T, mx_cl_t, mx_re_T, mx_re_t, mx_rt_v, mx_rt_0, mx_cu_t, mx_w_id, mx_l_id, mx_b_0, mx_b_1, mx_b_r, mx_nl_0, mx_nl_1, mx_nl_2, mx_nl_n, mx_nl_l, mx_sw_n, mx_sw_h, mx_sw_m, Int.reduceLE, Int.reduceLT, Int.reduceEq, Int.reduceAdd, Int.reduceSub, Int.reduceMul, Int.reduceNeg, Int.reduceToNat, and_self, true_and, and_true, false_and, and_false, true_or, or_true, false_or, or_false, not_true_eq_false, not_false_eq_true, eq_self, rw_X2_isWorldWithin, hS.e, m0, bz_tst, mx_b_t p]
      refine c_iww_c hS w r t m b0 q (c := 2) (by decide) (by decide) f (fun y g f => ?_) (fun g l3 f y => ?_)
      · have := hX g f
        rw [mx_b_t y] at this; exact this
      · refine c_iww_b hS w r t m (b := b + 1) (by omega) (by omega) f (fun g f => ?_)
        have := hX g f
        rw [mx_b_i y] at this; exact this
    · have sn := sm_b (P := PL σ Λ x) (b := b) (fun v e y => p y.1.1)
      have ih := fun l3 => c_iww_b hS w r t m (b := b + 1) (x := x) (l3 := l3) (by omega) (by omega) f (fun g f => by
        have := hX g f
        rw [mx_b_i sn] at this; exact this)
      simp (disch := omega) only [mx_vt_h, mx_vt_m, mx_cmp_0, mx_cmp_1, mx_cmp_2, mx_cmp_3, mx_cmp_4, mx_u_s, mx_u_a, mx_u_k, mx_z_a, mx_z_s, mx_t_a, mx_t_2, mx_t_1, mx_t_0, mx_gd_T, mx_gd_t, mx_br_T, mx_br_F, mx_br_t, mx_br_f, mx_br_n, mx_cl_T, mx_cl_t, mx_re_T, mx_re_t, mx_rt_v, mx_rt_0, mx_cu_t, mx_w_id, mx_l_id, mx_b_0, mx_b_1, mx_b_r, mx_nl_0, mx_nl_1, mx_nl_2, mx_nl_n, mx_nl_l, mx_sw_n, mx_sw_h, mx_sw_m, Int.reduceLE, Int.reduceLT, Int.reduceEq, Int.reduceAdd, Int.reduceSub, Int.reduceMul, Int.reduceNeg, Int.reduceToNat, and_self, true_and, and_true, false_and, and_false, true_or, or_true, false_or, or_false, not_true_eq_false, not_false_eq_true, eq_self, rw_X2_isWorldWithin, hS.e, m0, bz_tst, mx_b_f p]
      exact ih _
  · have e : b = 17 := by omega
    subst e
    have := hX g f
    rw [mx_b_f (fun y => by obtain ⟨u, v, e, o, r⟩ := y; omega)] at this
    simp (disch := omega) only [mx_vt_h, mx_vt_m, mx_cmp_0, mx_cmp_1, mx_cmp_2, mx_cmp_3, mx_cmp_4, mx_u_s, mx_u_a, mx_u_k, mx_z_a, mx_z_s, mx_t_a, mx_t_2, mx_t_1, mx_t_0, mx_gd_T, mx_gd_t, mx_br_T, mx_br_F, mx_br_t, mx_br_f, mx_br_n, mx_cl_T, mx_cl_t, mx_re_T, mx_re_t, mx_rt_v, mx_rt_0, mx_cu_t, mx_w_id, mx_l_id, mx_b_0, mx_b_1, mx_b_r, mx_nl_0, mx_nl_1, mx_nl_2, mx_nl_n, mx_nl_l, mx_sw_n, mx_sw_h, mx_sw_m, Int.reduceLE, Int.reduceLT, Int.reduceEq, Int.reduceAdd, Int.reduceSub, Int.reduceMul, Int.reduceNeg, Int.reduceToNat, and_self, true_and, and_true, false_and, and_false, true_or, or_true, false_or, or_false, not_true_eq_false, not_false_eq_true, eq_self, rw_X2_isWorldWithin]
    exact mx_W_s this
termination_by (17 - b).toNat
/-- isWorldWithin -/
theorem c_iww (hS : sh_F S) (w : vw σ) (r : lr h σ) (t : tbl h σ) {Λ : Int → Int → Prop} (m : lim h Λ) {x : Int}
    (hX : ∀ g, (∀ a, ¬ a = 8 → g a = h a) → Q (some (0, mx_b (sm (PL σ Λ x) 2 2))) S g n) :
    mx_W (mx_M (d + 3) 30 [(2, 2), (0, x)] S h n) Q := by
  have m0 := m 0 (by decide) (by decide)
  have m1 := m 1 (by decide) (by decide)
  have m2 := m 2 (by decide) (by decide)
  have ih := fun l3 => c_iww_b (d := d) (n := n) (l3 := l3) hS w r t m (b := 2) (by decide) (by decide) (fun _ _ => rfl) hX
  have hX0 := hX h (fun _ _ => rfl)
  have no : (bz 2 17 (Λ 0) = 0 ∨ bz 2 17 (Λ 1) = 0 ∨ bz 2 17 (Λ 2) = 0) → ¬ sm (PL σ Λ x) 2 2 := by
    rintro z ⟨u, v, e, o, a1, a2, a3, a4, a5, a6, p⟩
    rw [bz_e0, bz_e0, bz_e0] at z
    rcases z with z | z | z
    · exact z u a1 (by omega) p.1.1
    · exact z v a3 (by omega) p.1.2.1
    · exact z e a5 (by omega) p.1.2.2.1
  by_cases z0 : bz 2 17 (Λ 0) = 0
  · rw [mx_b_f (no (Or.inl z0))] at hX0
    simp (disch := omega) only [mx_vt_h, mx_vt_m, mx_cmp_0, mx_cmp_1, mx_cmp_2, mx_cmp_3, mx_cmp_4, mx_u_s, mx_u_a, mx_u_k, mx_z_a, mx_z_s, mx_t_a, mx_t_2, mx_t_1, mx_t_0, mx_gd_T, mx_gd_t, mx_br_T, mx_br_F, mx_br_t, mx_br_f, mx_br_n, mx_cl_T, mx_cl_t, mx_re_T, mx_re_t, mx_rt_v, mx_rt_0, mx_cu_t, mx_w_id, mx_l_id, mx_b_0, mx_b_1, mx_b_r, mx_nl_0, mx_nl_1, mx_nl_2, mx_nl_n, mx_nl_l, mx_sw_n, mx_sw_h, mx_sw_m, Int.reduceLE, Int.reduceLT, Int.reduceEq, Int.reduceAdd, Int.reduceSub, Int.reduceMul, Int.reduceNeg, Int.reduceToNat, and_self, true_and, and_true, false_and, and_false, true_or, or_true, false_or, or_false, not_true_eq_false, not_false_eq_true, eq_self, rw_X2_isWorldWithin, hS.e, m0, z0]
    exact mx_W_s hX0
  · by_cases z1 : bz 2 17 (Λ 1) = 0
    · rw [mx_b_f (no (Or.inr (Or.inl z1)))] at hX0
      simp (disch := omega) only [mx_vt_h, mx_vt_m, mx_cmp_0, mx_cmp_1, mx_cmp_2, mx_cmp_3, mx_cmp_4, mx_u_s, mx_u_a, mx_u_k, mx_z_a, mx_z_s, mx_t_a, mx_t_2, mx_t_1, mx_t_0, mx_gd_T, mx_gd_t, mx_br_T, mx_br_F, mx_br_t, mx_br_f, mx_br_n, mx_cl_T, mx_cl_t, mx_re_T, mx_re_t, mx_rt_v, mx_rt_0, mx_cu_t, mx_w_id, mx_l_id, mx_b_0, mx_b_1, mx_b_r, mx_nl_0, mx_nl_1, mx_nl_2, mx_nl_n, mx_nl_l, mx_sw_n, mx_sw_h, mx_sw_m, Int.reduceLE, Int.reduceLT, Int.reduceEq, Int.reduceAdd, Int.reduceSub, Int.reduceMul, Int.reduceNeg, Int.reduceToNat, and_self, true_and, and_true, false_and, and_false, true_or, or_true, false_or, or_false, not_true_eq_false, not_false_eq_true, eq_self, rw_X2_isWorldWithin, hS.e, m0, z0, m1, z1]
      exact mx_W_s hX0
    · by_cases z2 : bz 2 17 (Λ 2) = 0
      · rw [mx_b_f (no (Or.inr (Or.inr z2)))] at hX0
        simp (disch := omega) only [mx_vt_h, mx_vt_m, mx_cmp_0, mx_cmp_1, mx_cmp_2, mx_cmp_3, mx_cmp_4, mx_u_s, mx_u_a, mx_u_k, mx_z_a, mx_z_s, mx_t_a, mx_t_2, mx_t_1, mx_t_0, mx_gd_T, mx_gd_t, mx_br_T, mx_br_F, mx_br_t, mx_br_f, mx_br_n, mx_cl_T, mx_cl_t, mx_re_T, mx_re_t, mx_rt_v, mx_rt_0, mx_cu_t, mx_w_id, mx_l_id, mx_b_0, mx_b_1, mx_b_r, mx_nl_0, mx_nl_1, mx_nl_2, mx_nl_n, mx_nl_l, mx_sw_n, mx_sw_h, mx_sw_m, Int.reduceLE, Int.reduceLT, Int.reduceEq, Int.reduceAdd, Int.reduceSub, Int.reduceMul, Int.reduceNeg, Int.reduceToNat, and_self, true_and, and_true, false_and, and_false, true_or, or_true, false_or, or_false, not_true_eq_false, not_false_eq_true, eq_self, rw_X2_isWorldWithin, hS.e, m0, z0, m1, z1, m2, z2]
        exact mx_W_s hX0
      · simp (disch := omega) only [mx_vt_h, mx_vt_m, mx_cmp_0, mx_cmp_1, mx_cmp_2, mx_cmp_3, mx_cmp_4, mx_u_s, mx_u_a, mx_u_k, mx_z_a, mx_z_s, mx_t_a, mx_t_2, mx_t_1, mx_t_0, mx_gd_T, mx_gd_t, mx_br_T, mx_br_F, mx_br_t, mx_br_f, mx_br_n, mx_cl_T, mx_cl_t, mx_re_T, mx_re_t, mx_rt_v, mx_rt_0, mx_cu_t, mx_w_id, mx_l_id, mx_b_0, mx_b_1, mx_b_r, mx_nl_0, mx_nl_1, mx_nl_2, mx_nl_n, mx_nl_l, mx_sw_n, mx_sw_h, mx_sw_m, Int.reduceLE, Int.reduceLT, Int.reduceEq, Int.reduceAdd, Int.reduceSub, Int.reduceMul, Int.reduceNeg, Int.reduceToNat, and_self, true_and, and_true, false_and, and_false, true_or, or_true, false_or, or_false, not_true_eq_false, not_false_eq_true, eq_self, rw_X2_isWorldWithin, hS.e, m0, z0, m1, z1, m2, z2]
        exact ih _
/-- there is a world by a set of lines -/
def ew (σ : Int → Int) (x : Int) : Prop := ∃ a b c, wd σ x a b c
theorem sm_w (w : vw σ) {Λ : Int → Int → Prop} {x : Int} (u : lk σ Λ (gA σ (-1)) x (σ 1)) : sm (PL σ Λ x) 2 2 ↔ ew σ x := by
  constructor
  · rintro ⟨a, b, c, o, a1, a2, a3, a4, a5, a6, p⟩
    exact ⟨a, b, c, (t3_w w u a1 a2 a3 a4 a5 a6).mp p⟩
  · rintro ⟨a, b, c, p⟩
    have r0 := mb_r w (by decide) (by decide) p.1
    have r1 := mb_r w (by decide) (by decide) p.2.1
    have r2 := mb_r w (by decide) (by decide) p.2.2.1
    exact ⟨a, b, c, by omega, r0.1, r0.2, r1.1, r1.2, r2.1, r2.2, (t3_w w u r0.1 r0.2 r1.1 r1.2 r2.1 r2.2).mpr p⟩
/-- isWorldBy -/
theorem c_iwb (hS : sh_F S) (w : vw σ) (r : lr h σ) (t : tbl h σ) (o : ro h) {x : Int} (cn : cans h σ (-1))
    (hX : ∀ g, fl h g → Q (some (0, mx_b (ew σ x))) S g n) :
    mx_W (mx_M (d + 4) 29 [(2, 2), (0, x)] S h n) Q := by
  have hc := fun R hX => c_lim (d := d) (n := n) (Q := R) (x := x) hS w r t o cn hX
  simp (disch := omega) only [mx_vt_h, mx_vt_m, mx_cmp_0, mx_cmp_1, mx_cmp_2, mx_cmp_3, mx_cmp_4, mx_u_s, mx_u_a, mx_u_k, mx_z_a, mx_z_s, mx_t_a, mx_t_2, mx_t_1, mx_t_0, mx_gd_T, mx_gd_t, mx_br_T, mx_br_F, mx_br_t, mx_br_f, mx_br_n, mx_cl_T, mx_cl_t, mx_re_T, mx_re_t, mx_rt_v, mx_rt_0, mx_cu_t, mx_w_id, mx_l_id, mx_b_0, mx_b_1, mx_b_r, mx_nl_0, mx_nl_1, mx_nl_2, mx_nl_n, mx_nl_l, mx_sw_n, mx_sw_h, mx_sw_m, Int.reduceLE, Int.reduceLT, Int.reduceEq, Int.reduceAdd, Int.reduceSub, Int.reduceMul, Int.reduceNeg, Int.reduceToNat, and_self, true_and, and_true, false_and, and_false, true_or, or_true, false_or, or_false, not_true_eq_false, not_false_eq_true, eq_self, rw_X2_isWorldBy, hS.e]
  refine mx_W_r (hc _ ?_)
  intro g Λ f m u
  show mx_W (mx_ex _ _ _ _ [] _ _ _) _
  simp (disch := omega) only [mx_vt_h, mx_vt_m, mx_cmp_0, mx_cmp_1, mx_cmp_2, mx_cmp_3, mx_cmp_4, mx_u_s, mx_u_a, mx_u_k, mx_z_a, mx_z_s, mx_t_a, mx_t_2, mx_t_1, mx_t_0, mx_gd_T, mx_gd_t, mx_br_T, mx_br_F, mx_br_t, mx_br_f, mx_br_n, mx_cl_T, mx_cl_t, mx_re_T, mx_re_t, mx_rt_v, mx_rt_0, mx_cu_t, mx_w_id, mx_l_id, mx_b_0, mx_b_1, mx_b_r, mx_nl_0, mx_nl_1, mx_nl_2, mx_nl_n, mx_nl_l, mx_sw_n, mx_sw_h, mx_sw_m, Int.reduceLE, Int.reduceLT, Int.reduceEq, Int.reduceAdd, Int.reduceSub, Int.reduceMul, Int.reduceNeg, Int.reduceToNat, and_self, true_and, and_true, false_and, and_false, true_or, or_true, false_or, or_false, not_true_eq_false, not_false_eq_true, eq_self, rw_X2_isWorldBy, hS.e]
  refine mx_W_r (c_iww hS w (r.m f.f) (t.m f.f) m ?_)
  intro g2 f2
  have hX := hX g2 (fl.mk (fun a y z => by rw [f2 a y]; exact f.f a y z))
  rw [← mx_b_i (sm_w w u)] at hX
  have br := mx_b_r (sm (PL σ Λ x) 2 2)
  show mx_W (mx_ex _ _ _ _ [_] _ _ _) _
  simp (disch := omega) only [mx_vt_h, mx_vt_m, mx_cmp_0, mx_cmp_1, mx_cmp_2, mx_cmp_3, mx_cmp_4, mx_u_s, mx_u_a, mx_u_k, mx_z_a, mx_z_s, mx_t_a, mx_t_2, mx_t_1, mx_t_0, mx_gd_T, mx_gd_t, mx_br_T, mx_br_F, mx_br_t, mx_br_f, mx_br_n, mx_cl_T, mx_cl_t, mx_re_T, mx_re_t, mx_rt_v, mx_rt_0, mx_cu_t, mx_w_id, mx_l_id, mx_b_0, mx_b_1, mx_b_r, mx_nl_0, mx_nl_1, mx_nl_2, mx_nl_n, mx_nl_l, mx_sw_n, mx_sw_h, mx_sw_m, Int.reduceLE, Int.reduceLT, Int.reduceEq, Int.reduceAdd, Int.reduceSub, Int.reduceMul, Int.reduceNeg, Int.reduceToNat, and_self, true_and, and_true, false_and, and_false, true_or, or_true, false_or, or_false, not_true_eq_false, not_false_eq_true, eq_self, rw_X2_isWorldBy, br]
  exact mx_W_s hX
end
