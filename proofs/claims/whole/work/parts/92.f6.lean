/-! The program's finder: limitBy -/
def tbl (h : mx_H) (σ : Int → Int) : Prop := (tw h σ) ∧ (∀ l, 0 ≤ l → l < σ 1 → h 12 l = tt σ l)
theorem tbl.mk {h : mx_H} {σ : Int → Int} (x0 : tw h σ) (x1 : ∀ l, 0 ≤ l → l < σ 1 → h 12 l = tt σ l) : tbl h σ := (And.intro x0 x1)
theorem tbl.w {h : mx_H} {σ : Int → Int} (q : tbl h σ) : tw h σ := (And.left q)
theorem tbl.t {h : mx_H} {σ : Int → Int} (q : tbl h σ) : ∀ l, 0 ≤ l → l < σ 1 → h 12 l = tt σ l := (And.right q)
def cans (h : mx_H) (σ : Int → Int) (x : Int) : Prop := ∀ i, 0 ≤ i → i < σ 0 → ¬ i = x → h 10 i = bz 2 17 (cb σ i)
theorem tbl.m {h g : mx_H} {σ : Int → Int} (t : tbl h σ) (f : ∀ a, ¬ a = 8 → ¬ a = 13 → g a = h a) : tbl g σ :=
  tbl.mk (t.w.m f) (fun l a b => by rw [f 12 (by decide) (by decide)]; exact t.t l a b)
theorem cans.m {h g : mx_H} {σ : Int → Int} {x : Int} (t : cans h σ x) (f : ∀ a, ¬ a = 8 → ¬ a = 13 → g a = h a) : cans g σ x :=
  fun i a b c => by rw [f 10 (by decide) (by decide)]; exact t i a b c
theorem ro.m {h g : mx_H} (t : ro h) (f : ∀ a, ¬ a = 8 → ¬ a = 13 → g a = h a) : ro g :=
  ro.mk (by rw [f (-3) (by decide) (by decide), f (-4) (by decide) (by decide)]; exact t.e)
theorem fl.t {h g k : mx_H} (a : fl h g) (b : fl g k) : fl h k := fl.mk (fun x y z => by rw [b.f x y z]; exact a.f x y z)
/-- what the notes but one and the evenings' bases allow, of the notes below i -/
def n3 (σ : Int → Int) (ex i : Int) : Int → Int → Prop := fun k b => (k ≤ 2 → σ (3 + 2 * k) ≤ b ∧ b ≤ σ (3 + 2 * k + 1)) ∧ ∀ j, 0 ≤ j → j < i → ¬ j = ex → it σ j 1 = k → cb σ j b
/-- the lines below k that don't tell of all evenings hold -/
def hk (σ : Int → Int) (x k a b c : Int) : Prop := ∀ l, 0 ≤ l → l < k → bt x l.toNat → ¬ tl σ l → hl σ (tb a b c) l
/-- the limits tell base conditions G, and of the lines below k -/
def lk (σ : Int → Int) (Λ : Int → Int → Prop) (G : Int → Int → Int → Prop) (x k : Int) : Prop := ∀ a b c, 2 ≤ a → a ≤ 16 → 2 ≤ b → b ≤ 16 → 2 ≤ c → c ≤ 16 → (IL Λ a b c ↔ G a b c ∧ hk σ x k a b c)
section
variable {d : Nat} {S h : mx_H} {n : Int} {σ : Int → Int} {Q : Option mx_V → mx_H → mx_H → Int → Prop}
theorem lk_s {Λ Λ' : Int → Int → Prop} {G : Int → Int → Int → Prop} {x k : Int} (k0 : 0 ≤ k) (q : bt x k.toNat) (u : lk σ Λ G x k) (v : nl σ Λ Λ' k) : lk σ Λ' G x (k + 1) := by
  intro a b c a0 a1 b0 b1 c0 c1
  rw [v a b c a0 a1 b0 b1 c0 c1, u a b c a0 a1 b0 b1 c0 c1]
  constructor
  · rintro ⟨⟨y, z⟩, s⟩
    refine ⟨y, fun l l0 l1 p r => ?_⟩
    by_cases e : l = k
    · subst e; exact s r
    · exact z l l0 (by omega) p r
  · rintro ⟨y, z⟩
    exact ⟨⟨y, fun l l0 l1 => z l l0 (by omega)⟩, fun r => z k k0 (by omega) q r⟩
theorem lk_n {Λ : Int → Int → Prop} {G : Int → Int → Int → Prop} {x k : Int} (q : ¬ bt x k.toNat) (u : lk σ Λ G x k) : lk σ Λ G x (k + 1) := by
  intro a b c a0 a1 b0 b1 c0 c1
  rw [u a b c a0 a1 b0 b1 c0 c1]
  constructor
  · rintro ⟨y, z⟩
    refine ⟨y, fun l l0 l1 p r => ?_⟩
    by_cases e : l = k
    · subst e; exact absurd p q
    · exact z l l0 (by omega) p r
  · rintro ⟨y, z⟩; exact ⟨y, fun l l0 l1 => z l l0 (by omega)⟩
theorem c_lim_c (hS : sh_F S) (w : vw σ) (r : lr h σ) (t : tbl h σ) (o : ro h) {x k : Int} {Λ : Int → Int → Prop} {G : Int → Int → Int → Prop} (k0 : 0 ≤ k) (k1 : k ≤ σ 1) {g : mx_H} (f : fl h g) (m : lim g Λ) (u : lk σ Λ G x k) {l2 : Option mx_V}
    (hX : ∀ g Λ', fl h g → lim g Λ' → lk σ Λ' G x (σ 1) → Q none S g n) :
    mx_W (mx_ex (d + 3) 26 82 [some (2, 2), some (0, x), l2, some (0, k)] [] S g n) Q := by
  have hL := w.L
  have rg := r.m f.f
  have tg := t.m f.f
  have og := o.m f.f
  have gL := rg.L
  rw [rh_X2_limitBy_82]
  by_cases q : k < σ 1
  · by_cases v : bt x k.toNat
    · simp (disch := omega) only [mx_vt_h, mx_vt_m, mx_cmp_0, mx_cmp_1, mx_cmp_2, mx_cmp_3, mx_cmp_4, mx_u_s, mx_u_a, mx_u_k, mx_z_a, mx_z_s, mx_t_a, mx_t_2, mx_t_1, mx_t_0, mx_gd_T, mx_gd_t, mx_br_T, mx_br_F, mx_br_t, mx_br_f, mx_br_n, mx_cl_T, mx_cl_t, mx_re_T, mx_re_t, mx_rt_v, mx_rt_0, mx_cu_t, mx_w_id, mx_l_id, mx_b_0, mx_b_1, mx_b_r, mx_nl_0, mx_nl_1, mx_nl_2, mx_nl_n, mx_nl_l, mx_sw_n, mx_sw_h, mx_sw_m, Int.reduceLE, Int.reduceLT, Int.reduceEq, Int.reduceAdd, Int.reduceSub, Int.reduceMul, Int.reduceNeg, Int.reduceToNat, and_self, true_and, and_true, false_and, and_false, true_or, or_true, false_or, or_false, not_true_eq_false, not_false_eq_true, eq_self, rw_X2_limitBy, hS.e, gL, bt_tst, mx_b_t v]
      refine mx_W_r (c_lbl hS w rg tg.w og m k0 q (tg.t k k0 q) ?_)
      intro g2 Λ2 f2 m2 v2
      show mx_W (mx_ex _ _ _ _ [] _ _ _) _
      simp (disch := omega) only [mx_vt_h, mx_vt_m, mx_cmp_0, mx_cmp_1, mx_cmp_2, mx_cmp_3, mx_cmp_4, mx_u_s, mx_u_a, mx_u_k, mx_z_a, mx_z_s, mx_t_a, mx_t_2, mx_t_1, mx_t_0, mx_gd_T, mx_gd_t, mx_br_T, mx_br_F, mx_br_t, mx_br_f, mx_br_n, mx_cl_T, mx_cl_t, mx_re_T, mx_re_t, mx_rt_v, mx_rt_0, mx_cu_t, mx_w_id, mx_l_id, mx_b_0, mx_b_1, mx_b_r, mx_nl_0, mx_nl_1, mx_nl_2, mx_nl_n, mx_nl_l, mx_sw_n, mx_sw_h, mx_sw_m, Int.reduceLE, Int.reduceLT, Int.reduceEq, Int.reduceAdd, Int.reduceSub, Int.reduceMul, Int.reduceNeg, Int.reduceToNat, and_self, true_and, and_true, false_and, and_false, true_or, or_true, false_or, or_false, not_true_eq_false, not_false_eq_true, eq_self, rw_X2_limitBy]
      exact c_lim_c hS w r t o (k := k + 1) (by omega) (by omega) (f.t f2) m2 (lk_s k0 v u v2) hX
    · simp (disch := omega) only [mx_vt_h, mx_vt_m, mx_cmp_0, mx_cmp_1, mx_cmp_2, mx_cmp_3, mx_cmp_4, mx_u_s, mx_u_a, mx_u_k, mx_z_a, mx_z_s, mx_t_a, mx_t_2, mx_t_1, mx_t_0, mx_gd_T, mx_gd_t, mx_br_T, mx_br_F, mx_br_t, mx_br_f, mx_br_n, mx_cl_T, mx_cl_t, mx_re_T, mx_re_t, mx_rt_v, mx_rt_0, mx_cu_t, mx_w_id, mx_l_id, mx_b_0, mx_b_1, mx_b_r, mx_nl_0, mx_nl_1, mx_nl_2, mx_nl_n, mx_nl_l, mx_sw_n, mx_sw_h, mx_sw_m, Int.reduceLE, Int.reduceLT, Int.reduceEq, Int.reduceAdd, Int.reduceSub, Int.reduceMul, Int.reduceNeg, Int.reduceToNat, and_self, true_and, and_true, false_and, and_false, true_or, or_true, false_or, or_false, not_true_eq_false, not_false_eq_true, eq_self, rw_X2_limitBy, hS.e, gL, bt_tst, mx_b_f v]
      exact c_lim_c hS w r t o (k := k + 1) (by omega) (by omega) f m (lk_n v u) hX
  · have e : k = σ 1 := by omega
    subst e
    simp (disch := omega) only [mx_vt_h, mx_vt_m, mx_cmp_0, mx_cmp_1, mx_cmp_2, mx_cmp_3, mx_cmp_4, mx_u_s, mx_u_a, mx_u_k, mx_z_a, mx_z_s, mx_t_a, mx_t_2, mx_t_1, mx_t_0, mx_gd_T, mx_gd_t, mx_br_T, mx_br_F, mx_br_t, mx_br_f, mx_br_n, mx_cl_T, mx_cl_t, mx_re_T, mx_re_t, mx_rt_v, mx_rt_0, mx_cu_t, mx_w_id, mx_l_id, mx_b_0, mx_b_1, mx_b_r, mx_nl_0, mx_nl_1, mx_nl_2, mx_nl_n, mx_nl_l, mx_sw_n, mx_sw_h, mx_sw_m, Int.reduceLE, Int.reduceLT, Int.reduceEq, Int.reduceAdd, Int.reduceSub, Int.reduceMul, Int.reduceNeg, Int.reduceToNat, and_self, true_and, and_true, false_and, and_false, true_or, or_true, false_or, or_false, not_true_eq_false, not_false_eq_true, eq_self, rw_X2_limitBy, hS.e, gL]
    exact mx_W_s (hX g Λ f m u)
termination_by (σ 1 - k).toNat
theorem c_lim_b (hS : sh_F S) (w : vw σ) (r : lr h σ) (t : tbl h σ) {x ex i : Int} (cn : cans h σ ex) (i0 : 0 ≤ i) (i1 : i ≤ σ 0) {g : mx_H} (f : fl h g) (m : lim g (n3 σ ex i))
    (hX : ∀ g, fl h g → lim g (n3 σ ex (σ 0)) → mx_W (mx_ex (d + 3) 26 82 [some (2, 2), some (0, x), some (0, ex), some (0, 0)] [] S g n) Q) :
    mx_W (mx_ex (d + 3) 26 38 [some (2, 2), some (0, x), some (0, ex), some (0, i)] [] S g n) Q := by
  have hN := w.N
  have gc := (r.m f.f).c
  rw [rh_X2_limitBy_38]
  by_cases q : i < σ 0
  · have he := (w.n i i0 q).e
    have g9 := (t.m f.f).w.e i i0 q
    by_cases v : i = ex
    · have hm : lim g (n3 σ ex (i + 1)) := by
        intro k k0 k1
        rw [m k k0 k1]
        refine bz_c (fun b _ _ => ?_)
        constructor
        · rintro ⟨y, z⟩
          refine ⟨y, fun j j0 j1 p s => ?_⟩
          by_cases e : j = i
          · exact absurd (e.trans v) p
          · exact z j j0 (by omega) p s
        · rintro ⟨y, z⟩; exact ⟨y, fun j j0 j1 => z j j0 (by omega)⟩
      have ih := c_lim_b hS w r t cn (i := i + 1) (by omega) (by omega) f hm hX
      simp (disch := omega) only [mx_vt_h, mx_vt_m, mx_cmp_0, mx_cmp_1, mx_cmp_2, mx_cmp_3, mx_cmp_4, mx_u_s, mx_u_a, mx_u_k, mx_z_a, mx_z_s, mx_t_a, mx_t_2, mx_t_1, mx_t_0, mx_gd_T, mx_gd_t, mx_br_T, mx_br_F, mx_br_t, mx_br_f, mx_br_n, mx_cl_T, mx_cl_t, mx_re_T, mx_re_t, mx_rt_v, mx_rt_0, mx_cu_t, mx_w_id, mx_l_id, mx_b_0, mx_b_1, mx_b_r, mx_nl_0, mx_nl_1, mx_nl_2, mx_nl_n, mx_nl_l, mx_sw_n, mx_sw_h, mx_sw_m, Int.reduceLE, Int.reduceLT, Int.reduceEq, Int.reduceAdd, Int.reduceSub, Int.reduceMul, Int.reduceNeg, Int.reduceToNat, and_self, true_and, and_true, false_and, and_false, true_or, or_true, false_or, or_false, not_true_eq_false, not_false_eq_true, eq_self, rw_X2_limitBy, hS.e, gc]
      exact ih
    · have g10 := (cn.m f.f) i i0 q v
      have mk := m (it σ i 1) he.1 (by omega)
      have hm : lim (mx_u g 13 (it σ i 1) (bz 2 17 (fun b => n3 σ ex i (it σ i 1) b ∧ cb σ i b))) (n3 σ ex (i + 1)) := by
        intro k k0 k1
        by_cases ke : k = it σ i 1
        · subst ke; rw [mx_u_s]
          refine bz_c (fun b _ _ => ?_)
          constructor
          · rintro ⟨⟨y, z⟩, s⟩
            refine ⟨y, fun j j0 j1 p u => ?_⟩
            by_cases e : j = i
            · rw [e]; exact s
            · exact z j j0 (by omega) p u
          · rintro ⟨y, z⟩; exact ⟨⟨y, fun j j0 j1 => z j j0 (by omega)⟩, z i i0 (by omega) v rfl⟩
        · rw [mx_u_k ke, m k k0 k1]
          refine bz_c (fun b _ _ => ?_)
          constructor
          · rintro ⟨y, z⟩
            refine ⟨y, fun j j0 j1 p s => ?_⟩
            by_cases e : j = i
            · rw [e] at s; exact absurd s.symm ke
            · exact z j j0 (by omega) p s
          · rintro ⟨y, z⟩; exact ⟨y, fun j j0 j1 => z j j0 (by omega)⟩
      have ih := c_lim_b hS w r t cn (i := i + 1) (by omega) (by omega) (fl.mk (fun a y z => by rw [mx_u_a z]; exact f.f a y z)) hm hX
      simp (disch := omega) only [mx_vt_h, mx_vt_m, mx_cmp_0, mx_cmp_1, mx_cmp_2, mx_cmp_3, mx_cmp_4, mx_u_s, mx_u_a, mx_u_k, mx_z_a, mx_z_s, mx_t_a, mx_t_2, mx_t_1, mx_t_0, mx_gd_T, mx_gd_t, mx_br_T, mx_br_F, mx_br_t, mx_br_f, mx_br_n, mx_cl_T, mx_cl_t, mx_re_T, mx_re_t, mx_rt_v, mx_rt_0, mx_cu_t, mx_w_id, mx_l_id, mx_b_0, mx_b_1, mx_b_r, mx_nl_0, mx_nl_1, mx_nl_2, mx_nl_n, mx_nl_l, mx_sw_n, mx_sw_h, mx_sw_m, Int.reduceLE, Int.reduceLT, Int.reduceEq, Int.reduceAdd, Int.reduceSub, Int.reduceMul, Int.reduceNeg, Int.reduceToNat, and_self, true_and, and_true, false_and, and_false, true_or, or_true, false_or, or_false, not_true_eq_false, not_false_eq_true, eq_self, rw_X2_limitBy, hS.e, gc, g9, g10, mk, bz_bm]
      exact ih
  · have e : i = σ 0 := by omega
    subst e
    simp (disch := omega) only [mx_vt_h, mx_vt_m, mx_cmp_0, mx_cmp_1, mx_cmp_2, mx_cmp_3, mx_cmp_4, mx_u_s, mx_u_a, mx_u_k, mx_z_a, mx_z_s, mx_t_a, mx_t_2, mx_t_1, mx_t_0, mx_gd_T, mx_gd_t, mx_br_T, mx_br_F, mx_br_t, mx_br_f, mx_br_n, mx_cl_T, mx_cl_t, mx_re_T, mx_re_t, mx_rt_v, mx_rt_0, mx_cu_t, mx_w_id, mx_l_id, mx_b_0, mx_b_1, mx_b_r, mx_nl_0, mx_nl_1, mx_nl_2, mx_nl_n, mx_nl_l, mx_sw_n, mx_sw_h, mx_sw_m, Int.reduceLE, Int.reduceLT, Int.reduceEq, Int.reduceAdd, Int.reduceSub, Int.reduceMul, Int.reduceNeg, Int.reduceToNat, and_self, true_and, and_true, false_and, and_false, true_or, or_true, false_or, or_false, not_true_eq_false, not_false_eq_true, eq_self, rw_X2_limitBy, hS.e, gc]
    exact hX g f m
termination_by (σ 0 - i).toNat
end
