/-! The program's finder: fewest lines, evenings for a note -/
def fq (h g : mx_H) : Prop := (∀ a, a < 8 ∨ 14 < a → g a = h a)
theorem fq.mk {h g : mx_H} (x0 : ∀ a, a < 8 ∨ 14 < a → g a = h a) : fq h g := x0
theorem fq.f {h g : mx_H} (q : fq h g) : ∀ a, a < 8 ∨ 14 < a → g a = h a := q
theorem fq.t {h g k : mx_H} (a : fq h g) (b : fq g k) : fq h k := fq.mk (fun x y => by rw [b.f x y]; exact a.f x y)
theorem fl.q {h g : mx_H} (a : fl h g) : fq h g := fq.mk (fun x y => a.f x (by omega) (by omega))
noncomputable def pcn (x : Int) : Int := ((bcA x.toNat : Nat) : Int)
theorem pcn_r {x : Int} (x0 : 0 ≤ x) (x1 : x ≤ 63) : 0 ≤ pcn x ∧ pcn x ≤ 6 := by
  have key : ∀ k : Fin 64, bcA k.val ≤ 6 := by decide +kernel
  have := key ⟨x.toNat, by omega⟩
  simp only at this
  unfold pcn; omega
/-- the least set of lines that can't be -/
def fb (σ : Int → Int) (s : Int) : Prop := (0 ≤ s ∧ s ≤ aL (σ 1)) ∧ (¬ ew σ s) ∧ (∀ y, 0 ≤ y → y ≤ aL (σ 1) → ¬ ew σ y → pcn s < pcn y ∨ pcn s = pcn y ∧ s ≤ y)
theorem fb.mk {σ : Int → Int} {s : Int} (x0 : 0 ≤ s ∧ s ≤ aL (σ 1)) (x1 : ¬ ew σ s) (x2 : ∀ y, 0 ≤ y → y ≤ aL (σ 1) → ¬ ew σ y → pcn s < pcn y ∨ pcn s = pcn y ∧ s ≤ y) : fb σ s := (And.intro x0 (And.intro x1 x2))
theorem fb.r {σ : Int → Int} {s : Int} (q : fb σ s) : 0 ≤ s ∧ s ≤ aL (σ 1) := (And.left q)
theorem fb.n {σ : Int → Int} {s : Int} (q : fb σ s) : ¬ ew σ s := (And.left (And.right q))
theorem fb.m {σ : Int → Int} {s : Int} (q : fb σ s) : ∀ y, 0 ≤ y → y ≤ aL (σ 1) → ¬ ew σ y → pcn s < pcn y ∨ pcn s = pcn y ∧ s ≤ y := (And.right (And.right q))
theorem fb_u {σ : Int → Int} {s t : Int} (a : fb σ s) (b : fb σ t) : s = t := by
  have h1 := a.m t b.r.1 b.r.2 b.n
  have h2 := b.m s a.r.1 a.r.2 a.n
  omega
section
variable {d : Nat} {S h : mx_H} {n N : Int} {σ : Int → Int} {Q : Option mx_V → mx_H → mx_H → Int → Prop}
theorem c_bcI {x : Int} (x0 : 0 ≤ x) (x1 : x ≤ 63) : mx_M d 248 [(0, x)] S h n = some (some (0, pcn x), S, h, n) := by
  have e : x = ((x.toNat : Nat) : Int) := by omega
  have := c_bcN (d := d) (S := S) (h := h) (n := n) (m := x.toNat) (by omega)
  rw [← e] at this; exact this
theorem c_few_c (hS : sh_F S) (w : vw σ) (r : lr h σ) (t : tbl h σ) (o : ro h) (cn : cans h σ (-1)) {z s : Int} (z0 : 0 ≤ z) (z1 : z ≤ 6) (s0 : 0 ≤ s) (s1 : s ≤ aL (σ 1) + 1)
    (m : ∀ y, 0 ≤ y → y ≤ aL (σ 1) → ¬ ew σ y → z ≤ pcn y ∧ (pcn y = z → s ≤ y)) {g : mx_H} (f : fl h g)
    (hX : ∀ g l3, fl h g → (∀ y, 0 ≤ y → y ≤ aL (σ 1) → ¬ ew σ y → z + 1 ≤ pcn y) → mx_W (mx_ex (d + 5) 16 14 [some (2, 2), some (0, aL (σ 1)), some (0, z + 1), l3] [] S g n) Q)
    (hR : ∀ g s, fl h g → fb σ s → Q (some (0, s)) S g n) :
    mx_W (mx_ex (d + 5) 16 22 [some (2, 2), some (0, aL (σ 1)), some (0, z), some (0, s)] [] S g n) Q := by
  have hL := w.L
  have ar := aL_r hL.1 hL.2
  rw [rh_X2_fewestLines_22]
  by_cases q : s ≤ aL (σ 1)
  · have hb := c_bcI (d := d + 4) (S := S) (h := g) (n := n) s0 (by omega)
    by_cases y : pcn s = z
    · simp (disch := omega) only [mx_vt_h, mx_vt_m, mx_cmp_0, mx_cmp_1, mx_cmp_2, mx_cmp_3, mx_cmp_4, mx_u_s, mx_u_a, mx_u_k, mx_z_a, mx_z_s, mx_t_a, mx_t_2, mx_t_1, mx_t_0, mx_gd_T, mx_gd_t, mx_br_T, mx_br_F, mx_br_t, mx_br_f, mx_br_n, mx_cl_T, mx_cl_t, mx_re_T, mx_re_t, mx_rt_v, mx_rt_0, mx_cu_t, mx_w_id, mx_l_id, mx_b_0, mx_b_1, mx_b_r, mx_nl_0, mx_nl_1, mx_nl_2, mx_nl_n, mx_nl_l, mx_sw_n, mx_sw_h, mx_sw_m, Int.reduceLE, Int.reduceLT, Int.reduceEq, Int.reduceAdd, Int.reduceSub, Int.reduceMul, Int.reduceNeg, Int.reduceToNat, and_self, true_and, and_true, false_and, and_false, true_or, or_true, false_or, or_false, not_true_eq_false, not_false_eq_true, eq_self, rw_X2_fewestLines, hS.e, hb, y]
      refine mx_W_r (c_iwb hS w (r.m f.f) (t.m f.f) (o.m f.f) (cn.m f.f) ?_)
      intro g2 f2
      show mx_W (mx_ex _ _ _ _ [_] _ _ _) _
      by_cases e : ew σ s
      · simp (disch := omega) only [mx_vt_h, mx_vt_m, mx_cmp_0, mx_cmp_1, mx_cmp_2, mx_cmp_3, mx_cmp_4, mx_u_s, mx_u_a, mx_u_k, mx_z_a, mx_z_s, mx_t_a, mx_t_2, mx_t_1, mx_t_0, mx_gd_T, mx_gd_t, mx_br_T, mx_br_F, mx_br_t, mx_br_f, mx_br_n, mx_cl_T, mx_cl_t, mx_re_T, mx_re_t, mx_rt_v, mx_rt_0, mx_cu_t, mx_w_id, mx_l_id, mx_b_0, mx_b_1, mx_b_r, mx_nl_0, mx_nl_1, mx_nl_2, mx_nl_n, mx_nl_l, mx_sw_n, mx_sw_h, mx_sw_m, Int.reduceLE, Int.reduceLT, Int.reduceEq, Int.reduceAdd, Int.reduceSub, Int.reduceMul, Int.reduceNeg, Int.reduceToNat, and_self, true_and, and_true, false_and, and_false, true_or, or_true, false_or, or_false, not_true_eq_false, not_false_eq_true, eq_self, rw_X2_fewestLines, mx_b_t e]
        exact c_few_c hS w r t o cn z0 z1 (s := s + 1) (by omega) (by omega) (fun y y0 y1 yn => ⟨(m y y0 y1 yn).1, fun ey => by
          have := (m y y0 y1 yn).2 ey
          by_cases c : y = s
          · rw [c] at yn; exact absurd e yn
          · omega⟩) (f.t f2) hX hR
      · simp (disch := omega) only [mx_vt_h, mx_vt_m, mx_cmp_0, mx_cmp_1, mx_cmp_2, mx_cmp_3, mx_cmp_4, mx_u_s, mx_u_a, mx_u_k, mx_z_a, mx_z_s, mx_t_a, mx_t_2, mx_t_1, mx_t_0, mx_gd_T, mx_gd_t, mx_br_T, mx_br_F, mx_br_t, mx_br_f, mx_br_n, mx_cl_T, mx_cl_t, mx_re_T, mx_re_t, mx_rt_v, mx_rt_0, mx_cu_t, mx_w_id, mx_l_id, mx_b_0, mx_b_1, mx_b_r, mx_nl_0, mx_nl_1, mx_nl_2, mx_nl_n, mx_nl_l, mx_sw_n, mx_sw_h, mx_sw_m, Int.reduceLE, Int.reduceLT, Int.reduceEq, Int.reduceAdd, Int.reduceSub, Int.reduceMul, Int.reduceNeg, Int.reduceToNat, and_self, true_and, and_true, false_and, and_false, true_or, or_true, false_or, or_false, not_true_eq_false, not_false_eq_true, eq_self, rw_X2_fewestLines, mx_b_f e]
        refine mx_W_s (hR g2 s (f.t f2) (fb.mk ⟨s0, q⟩ e (fun y y0 y1 yn => ?_)))
        have := m y y0 y1 yn
        by_cases c : pcn y = z
        · right; exact ⟨by omega, this.2 c⟩
        · left; omega
    · have ih := c_few_c hS w r t o cn z0 z1 (s := s + 1) (by omega) (by omega) (fun u y0 y1 yn => ⟨(m u y0 y1 yn).1, fun ey => by
          have := (m u y0 y1 yn).2 ey
          by_cases c : u = s
          · rw [c] at ey; exact absurd ey y
          · omega⟩) f hX hR
      simp (disch := omega) only [mx_vt_h, mx_vt_m, mx_cmp_0, mx_cmp_1, mx_cmp_2, mx_cmp_3, mx_cmp_4, mx_u_s, mx_u_a, mx_u_k, mx_z_a, mx_z_s, mx_t_a, mx_t_2, mx_t_1, mx_t_0, mx_gd_T, mx_gd_t, mx_br_T, mx_br_F, mx_br_t, mx_br_f, mx_br_n, mx_cl_T, mx_cl_t, mx_re_T, mx_re_t, mx_rt_v, mx_rt_0, mx_cu_t, mx_w_id, mx_l_id, mx_b_0, mx_b_1, mx_b_r, mx_nl_0, mx_nl_1, mx_nl_2, mx_nl_n, mx_nl_l, mx_sw_n, mx_sw_h, mx_sw_m, Int.reduceLE, Int.reduceLT, Int.reduceEq, Int.reduceAdd, Int.reduceSub, Int.reduceMul, Int.reduceNeg, Int.reduceToNat, and_self, true_and, and_true, false_and, and_false, true_or, or_true, false_or, or_false, not_true_eq_false, not_false_eq_true, eq_self, rw_X2_fewestLines, hb, y]
      exact ih
  · simp (disch := omega) only [mx_vt_h, mx_vt_m, mx_cmp_0, mx_cmp_1, mx_cmp_2, mx_cmp_3, mx_cmp_4, mx_u_s, mx_u_a, mx_u_k, mx_z_a, mx_z_s, mx_t_a, mx_t_2, mx_t_1, mx_t_0, mx_gd_T, mx_gd_t, mx_br_T, mx_br_F, mx_br_t, mx_br_f, mx_br_n, mx_cl_T, mx_cl_t, mx_re_T, mx_re_t, mx_rt_v, mx_rt_0, mx_cu_t, mx_w_id, mx_l_id, mx_b_0, mx_b_1, mx_b_r, mx_nl_0, mx_nl_1, mx_nl_2, mx_nl_n, mx_nl_l, mx_sw_n, mx_sw_h, mx_sw_m, Int.reduceLE, Int.reduceLT, Int.reduceEq, Int.reduceAdd, Int.reduceSub, Int.reduceMul, Int.reduceNeg, Int.reduceToNat, and_self, true_and, and_true, false_and, and_false, true_or, or_true, false_or, or_false, not_true_eq_false, not_false_eq_true, eq_self, rw_X2_fewestLines]
    refine hX g _ f (fun y y0 y1 yn => ?_)
    have := m y y0 y1 yn
    by_cases c : pcn y = z
    · have := this.2 c; omega
    · omega
termination_by (aL (σ 1) + 1 - s).toNat
decreasing_by all_goals omega
theorem c_few_b (hS : sh_F S) (w : vw σ) (r : lr h σ) (t : tbl h σ) (o : ro h) (cn : cans h σ (-1)) {z : Int} {l3 : Option mx_V} (hn : ¬ ew σ (aL (σ 1))) (z0 : 0 ≤ z) (z1 : z ≤ 7)
    (m : ∀ y, 0 ≤ y → y ≤ aL (σ 1) → ¬ ew σ y → z ≤ pcn y) {g : mx_H} (f : fl h g)
    (hR : ∀ g s, fl h g → fb σ s → Q (some (0, s)) S g n) :
    mx_W (mx_ex (d + 5) 16 14 [some (2, 2), some (0, aL (σ 1)), some (0, z), l3] [] S g n) Q := by
  have hL := w.L
  have ar := aL_r hL.1 hL.2
  by_cases q : z ≤ 6
  · rw [rh_X2_fewestLines_14]
    simp (disch := omega) only [mx_vt_h, mx_vt_m, mx_cmp_0, mx_cmp_1, mx_cmp_2, mx_cmp_3, mx_cmp_4, mx_u_s, mx_u_a, mx_u_k, mx_z_a, mx_z_s, mx_t_a, mx_t_2, mx_t_1, mx_t_0, mx_gd_T, mx_gd_t, mx_br_T, mx_br_F, mx_br_t, mx_br_f, mx_br_n, mx_cl_T, mx_cl_t, mx_re_T, mx_re_t, mx_rt_v, mx_rt_0, mx_cu_t, mx_w_id, mx_l_id, mx_b_0, mx_b_1, mx_b_r, mx_nl_0, mx_nl_1, mx_nl_2, mx_nl_n, mx_nl_l, mx_sw_n, mx_sw_h, mx_sw_m, Int.reduceLE, Int.reduceLT, Int.reduceEq, Int.reduceAdd, Int.reduceSub, Int.reduceMul, Int.reduceNeg, Int.reduceToNat, and_self, true_and, and_true, false_and, and_false, true_or, or_true, false_or, or_false, not_true_eq_false, not_false_eq_true, eq_self, rw_X2_fewestLines]
    exact c_few_c hS w r t o cn z0 q (s := 0) (by decide) (by omega) (fun y y0 y1 yn => ⟨m y y0 y1 yn, fun _ => y0⟩) f (fun g l3 f m => c_few_b hS w r t o cn hn (z := z + 1) (by omega) (by omega) m f hR) hR
  · have := m _ ar.1 (by omega) hn
    have := pcn_r ar.1 ar.2.1
    omega
termination_by (7 - z).toNat
decreasing_by omega
/-- fewestLines, where there is no world -/
theorem c_few (hS : sh_F S) (w : vw σ) (r : rr S h N 3 σ) (o : ro h) (hn : ¬ ew σ 63) (hR : ∀ g s, fq h g → fb σ s → Q (some (0, s)) S g n) :
    mx_W (mx_M (d + 5) 16 [(2, 2)] S h n) Q := by
  have hL := w.L
  have ar := aL_r hL.1 hL.2
  simp (disch := omega) only [mx_vt_h, mx_vt_m, mx_cmp_0, mx_cmp_1, mx_cmp_2, mx_cmp_3, mx_cmp_4, mx_u_s, mx_u_a, mx_u_k, mx_z_a, mx_z_s, mx_t_a, mx_t_2, mx_t_1, mx_t_0, mx_gd_T, mx_gd_t, mx_br_T, mx_br_F, mx_br_t, mx_br_f, mx_br_n, mx_cl_T, mx_cl_t, mx_re_T, mx_re_t, mx_rt_v, mx_rt_0, mx_cu_t, mx_w_id, mx_l_id, mx_b_0, mx_b_1, mx_b_r, mx_nl_0, mx_nl_1, mx_nl_2, mx_nl_n, mx_nl_l, mx_sw_n, mx_sw_h, mx_sw_m, Int.reduceLE, Int.reduceLT, Int.reduceEq, Int.reduceAdd, Int.reduceSub, Int.reduceMul, Int.reduceNeg, Int.reduceToNat, and_self, true_and, and_true, false_and, and_false, true_or, or_true, false_or, or_false, not_true_eq_false, not_false_eq_true, eq_self, rw_X2_fewestLines, hS.e]
  refine mx_W_r (c_load hS w r ?_)
  intro g f t cn
  show mx_W (mx_ex _ _ _ _ [] _ _ _) _
  have rg : rr S g N 3 σ := r.m (fun a x => f a (by omega) (by omega) (by omega) (by omega))
  have og : ro g := ro.mk (by rw [f (-3) (by decide) (by decide) (by decide) (by decide), f (-4) (by decide) (by decide) (by decide) (by decide)]; exact o.e)
  have ca := c_allLines (d := d + 4) (S := S) (h := g) (n := n) hS.v w rg.L
  simp (disch := omega) only [mx_vt_h, mx_vt_m, mx_cmp_0, mx_cmp_1, mx_cmp_2, mx_cmp_3, mx_cmp_4, mx_u_s, mx_u_a, mx_u_k, mx_z_a, mx_z_s, mx_t_a, mx_t_2, mx_t_1, mx_t_0, mx_gd_T, mx_gd_t, mx_br_T, mx_br_F, mx_br_t, mx_br_f, mx_br_n, mx_cl_T, mx_cl_t, mx_re_T, mx_re_t, mx_rt_v, mx_rt_0, mx_cu_t, mx_w_id, mx_l_id, mx_b_0, mx_b_1, mx_b_r, mx_nl_0, mx_nl_1, mx_nl_2, mx_nl_n, mx_nl_l, mx_sw_n, mx_sw_h, mx_sw_m, Int.reduceLE, Int.reduceLT, Int.reduceEq, Int.reduceAdd, Int.reduceSub, Int.reduceMul, Int.reduceNeg, Int.reduceToNat, and_self, true_and, and_true, false_and, and_false, true_or, or_true, false_or, or_false, not_true_eq_false, not_false_eq_true, eq_self, rw_X2_fewestLines, hS.e, ca]
  exact c_few_b hS w rg.r t og cn (fun e => hn ((ew_a w).mp e)) (z := 0) (by decide) (by decide) (fun y y0 y1 _ => (pcn_r y0 (by omega)).1) (fl.mk (fun _ _ _ => rfl)) (fun g2 s f2 b => hR g2 s (fq.mk (fun a x => by rw [f2.f a (by omega) (by omega)]; exact f a (by omega) (by omega) (by omega) (by omega))) b)
end
/-- the note a moved to the evening e -/
def mv (σ : Int → Int) (a e : Int) : Int → Int := fun k => if k = 9 + 10 * a + 1 then e else σ k
theorem mv_o {σ : Int → Int} {a e k : Int} (q : ¬ k = 9 + 10 * a + 1) : mv σ a e k = σ k := by unfold mv; rw [if_neg q]
theorem mv_1 {σ : Int → Int} {a e : Int} : it (mv σ a e) a 1 = e := by unfold it mv; rw [if_pos rfl]
theorem mv_i {σ : Int → Int} {a e i k : Int} (k0 : 0 ≤ k) (k1 : k ≤ 9) (q : ¬ k = 1) : it (mv σ a e) i k = it σ i k := by unfold it; exact mv_o (by omega)
theorem mv_n {σ : Int → Int} {a e i k : Int} (k0 : 0 ≤ k) (k1 : k ≤ 9) (q : ¬ i = a) : it (mv σ a e) i k = it σ i k := by unfold it; exact mv_o (by omega)
theorem mv_l {σ : Int → Int} {a e l k : Int} (a1 : a ≤ 5) (l0 : 0 ≤ l) (k0 : 0 ≤ k) : ln (mv σ a e) l k = ln σ l k := by unfold ln; exact mv_o (by omega)
theorem mv_m {σ : Int → Int} {a e f : Int} : mv (mv σ a e) a f = mv σ a f := by
  funext k; unfold mv; split <;> rfl
theorem mv_s {σ : Int → Int} {a : Int} : mv σ a (it σ a 1) = σ := by
  funext k; unfold mv it; split
  · rename_i q; rw [q]
  · rfl
theorem wo_c {σ τ : Int → Int} {i j b : Int} (w : nw σ j) (e : ∀ k, 0 ≤ k → k ≤ 9 → ¬ k = 1 → it τ i k = it σ j k) : wo τ i b = wo σ j b := by
  have hn := w.n
  have e0 := e 0 (by decide) (by decide) (by decide)
  have e2 := e 2 (by decide) (by decide) (by decide)
  have e3 := e 3 (by decide) (by decide) (by decide)
  have v : ∀ k : Nat, (k : Int) ≤ it σ j 3 → wv τ i b k = wv σ j b k := by
    intro k
    induction k with
    | zero => intro _; rfl
    | succ k ih =>
      intro hk
      simp only [wv]
      have ep : pl τ i k = pl σ j k := by unfold pl; rw [e0, e3]
      have pr := pl_r (σ := σ) (a := j) (i := k) (by omega) (by omega)
      have eb : bs τ i k b = bs σ j k b := by unfold bs; rw [e0, e2]
      rw [ih (by omega), ep, eb, e (4 + pl σ j k) (by omega) (by omega) (by omega)]
  unfold wo; rw [e0, e3, v _ (by omega)]
theorem cb_c {σ τ : Int → Int} {i j b : Int} (w : nw σ j) (e : ∀ k, 0 ≤ k → k ≤ 9 → ¬ k = 1 → it τ i k = it σ j k) : cb τ i b ↔ cb σ j b := by
  have hn := w.n
  have e0 := e 0 (by decide) (by decide) (by decide)
  have e2 := e 2 (by decide) (by decide) (by decide)
  have e3 := e 3 (by decide) (by decide) (by decide)
  have eb : ∀ k, bs τ i k b = bs σ j k b := by intro k; unfold bs; rw [e0, e2]
  have es : sk τ i = sk σ j := by unfold sk; rw [e0]
  unfold cb; rw [e3]
  constructor
  · intro f k k0 k1
    have := f k k0 k1
    unfold cb1 at this ⊢
    rw [e (4 + k) (by omega) (by omega) (by omega), eb, es] at this; exact this
  · intro f k k0 k1
    have := f k k0 k1
    unfold cb1 at this ⊢
    rw [e (4 + k) (by omega) (by omega) (by omega), eb, es]; exact this
theorem nw_c {σ τ : Int → Int} {i j : Int} (w : nw σ j) (e : ∀ k, 0 ≤ k → k ≤ 9 → ¬ k = 1 → it τ i k = it σ j k) (e1 : 0 ≤ it τ i 1 ∧ it τ i 1 ≤ 2) : nw τ i := by
  have hn := w.n
  have e3 := e 3 (by decide) (by decide) (by decide)
  refine nw.mk ?_ e1 ?_ ?_ ?_
  · rw [e 0 (by decide) (by decide) (by decide)]; exact w.k
  · rw [e 2 (by decide) (by decide) (by decide)]; exact w.p
  · rw [e3]; exact w.n
  · intro k k0 k1
    rw [e3] at k1
    rw [e (4 + k) (by omega) (by omega) (by omega)]; exact w.s k k0 k1
theorem lw_c {σ τ : Int → Int} {l N : Int} (w : lw σ l N) (e : ∀ k, 0 ≤ k → k ≤ 3 → ln τ l k = ln σ l k) : lw τ l N := by
  have e0 := e 0 (by decide) (by decide)
  have e1 := e 1 (by decide) (by decide)
  have e2 := e 2 (by decide) (by decide)
  have e3 := e 3 (by decide) (by decide)
  refine lw.mk ?_ ?_ ?_ ?_ ?_ ?_
  · rw [e0]; exact w.s
  · rw [e1]; exact w.x
  · rw [e2]; exact w.y
  · rw [e3]; exact w.z
  · rw [e0, e3]; exact w.z2
  · rw [e0, e3]; exact w.z3
theorem mv_w {σ : Int → Int} (w : vw σ) {a e : Int} (a0 : 0 ≤ a) (a1 : a ≤ 5) (e0 : 0 ≤ e) (e1 : e ≤ 2) : vw (mv σ a e) := by
  have h0 : mv σ a e 0 = σ 0 := mv_o (by omega)
  have h1 : mv σ a e 1 = σ 1 := mv_o (by omega)
  refine vw.mk (by rw [h0]; exact w.N) (by rw [h1]; exact w.L) ?_ ?_ ?_
  · intro k k0 k1; rw [mv_o (by omega), mv_o (by omega)]; exact w.e k k0 k1
  · intro i i0 i1
    rw [h0] at i1
    refine nw_c (w.n i i0 i1) (fun k k0 k1 q => mv_i k0 k1 q) ?_
    by_cases c : i = a
    · rw [c, mv_1]; exact ⟨e0, e1⟩
    · rw [mv_n (by decide) (by decide) c]; exact (w.n i i0 i1).e
  · intro l l0 l1
    rw [h1] at l1
    rw [h0]
    exact lw_c (w.l l l0 l1) (fun k k0 k1 => mv_l a1 l0 k0)
theorem mv_r {h : mx_H} {σ : Int → Int} (r : lr h σ) {a e : Int} (a0 : 0 ≤ a) (a1 : a ≤ 5) : lr h (mv σ a e) := by
  have h0 : mv σ a e 0 = σ 0 := mv_o (by omega)
  have h1 : mv σ a e 1 = σ 1 := mv_o (by omega)
  refine lr.mk (by rw [h0]; exact r.c) (by rw [h1]; exact r.L) ?_ ?_ ?_
  · intro k k0 k1; rw [mv_o (by omega)]; exact r.lo k k0 k1
  · intro k k0 k1; rw [mv_o (by omega)]; exact r.hi k k0 k1
  · intro l k l0 l1 k0 k1
    rw [h1] at l1
    rw [mv_l a1 l0 k0]; exact r.l l k l0 l1 k0 k1
/-- tables but for the evening of the note a -/
def ev (h : mx_H) (σ : Int → Int) (a : Int) : Prop := (∀ i, 0 ≤ i → i < σ 0 → ¬ i = a → h 9 i = it σ i 1) ∧ (∀ i, 0 ≤ i → i < σ 0 → h 10 i = bz 2 17 (cb σ i)) ∧ (∀ i b, 0 ≤ i → i < σ 0 → 2 ≤ b → b ≤ 16 → h 11 (i * 17 + b) = wo σ i b)
theorem ev.mk {h : mx_H} {σ : Int → Int} {a : Int} (x0 : ∀ i, 0 ≤ i → i < σ 0 → ¬ i = a → h 9 i = it σ i 1) (x1 : ∀ i, 0 ≤ i → i < σ 0 → h 10 i = bz 2 17 (cb σ i)) (x2 : ∀ i b, 0 ≤ i → i < σ 0 → 2 ≤ b → b ≤ 16 → h 11 (i * 17 + b) = wo σ i b) : ev h σ a := (And.intro x0 (And.intro x1 x2))
theorem ev.e {h : mx_H} {σ : Int → Int} {a : Int} (q : ev h σ a) : ∀ i, 0 ≤ i → i < σ 0 → ¬ i = a → h 9 i = it σ i 1 := (And.left q)
theorem ev.c {h : mx_H} {σ : Int → Int} {a : Int} (q : ev h σ a) : ∀ i, 0 ≤ i → i < σ 0 → h 10 i = bz 2 17 (cb σ i) := (And.left (And.right q))
theorem ev.w {h : mx_H} {σ : Int → Int} {a : Int} (q : ev h σ a) : ∀ i b, 0 ≤ i → i < σ 0 → 2 ≤ b → b ≤ 16 → h 11 (i * 17 + b) = wo σ i b := (And.right (And.right q))
/-- in which evenings the note may be -/
noncomputable def wh (σ : Int → Int) (a t : Int) : Int := bm (fun k => (k : Int) < t ∧ ew (mv σ a k) 63) 3
section
variable {d : Nat} {S h : mx_H} {n N : Int} {σ : Int → Int} {Q : Option mx_V → mx_H → mx_H → Int → Prop}
theorem wh_t {a t : Int} (t0 : 0 ≤ t) (t1 : t ≤ 2) (q : ew (mv σ a t) 63) : mx_or (wh σ a t) (mx_shl 1 t) = wh σ a (t + 1) := by
  unfold wh; rw [bm_or (by decide) t0 (by simp; omega)]
  refine bm_c (fun k hk => ?_)
  constructor
  · rintro (⟨x, y⟩ | x)
    · exact ⟨by omega, y⟩
    · exact ⟨by omega, by rw [← x]; exact q⟩
  · rintro ⟨x, y⟩
    by_cases e : t = k
    · exact Or.inr e
    · exact Or.inl ⟨by omega, y⟩
theorem wh_f {a t : Int} (q : ¬ ew (mv σ a t) 63) : wh σ a t = wh σ a (t + 1) := by
  unfold wh
  refine bm_c (fun k hk => ?_)
  constructor
  · rintro ⟨x, y⟩; exact ⟨by omega, y⟩
  · rintro ⟨x, y⟩
    by_cases e : t = k
    · rw [← e] at y; exact absurd y q
    · exact ⟨by omega, y⟩
theorem wh_0 {a : Int} : wh σ a 0 = 0 := by
  unfold wh; rw [bm_e0 (by decide)]; intro k _ ⟨x, _⟩; omega
theorem c_evs_l (hS : sh_F S) (w : vw σ) {a t : Int} (a0 : 0 ≤ a) (a1 : a < σ 0) (t0 : 0 ≤ t) (t1 : t ≤ 3) {g : mx_H} (f : fq h g) (r : lr g σ) (o : ro g) (v : ev g σ a)
    (hX : ∀ g, fq h g → Q (some (0, wh σ a 3)) S g n) :
    mx_W (mx_ex (d + 5) 17 8 [some (2, 2), some (0, a), some (0, wh σ a t), some (0, t)] [] S g n) Q := by
  have hN := w.N
  rw [rh_X2_eveningsFor_8]
  by_cases q : t ≤ 2
  · have h0 : mv σ a t 0 = σ 0 := mv_o (by omega)
    have h1 : mv σ a t 1 = σ 1 := mv_o (by omega)
    have wm := mv_w w a0 (by omega) t0 q
    have rm : lr (mx_u g 9 a t) σ := lr.mk (by rw [mx_u_a (by decide)]; exact r.c) (by rw [mx_u_a (by decide)]; exact r.L) (fun e a b => by rw [mx_u_a (by decide)]; exact r.lo e a b) (fun e a b => by rw [mx_u_a (by decide)]; exact r.hi e a b) (fun l k a b x y => by rw [mx_u_a (by decide)]; exact r.l l k a b x y)
    have rm2 := mv_r rm (e := t) a0 (by omega)
    have te : ∀ i, 0 ≤ i → i < mv σ a t 0 → mx_u g 9 a t 9 i = it (mv σ a t) i 1 := by
      intro i i0 i1
      rw [h0] at i1
      by_cases c : i = a
      · rw [c, mx_u_s, mv_1]
      · rw [mx_u_k c, mv_n (by decide) (by decide) c]; exact v.e i i0 i1 c
    simp (disch := omega) only [mx_vt_h, mx_vt_m, mx_cmp_0, mx_cmp_1, mx_cmp_2, mx_cmp_3, mx_cmp_4, mx_u_s, mx_u_a, mx_u_k, mx_z_a, mx_z_s, mx_t_a, mx_t_2, mx_t_1, mx_t_0, mx_gd_T, mx_gd_t, mx_br_T, mx_br_F, mx_br_t, mx_br_f, mx_br_n, mx_cl_T, mx_cl_t, mx_re_T, mx_re_t, mx_rt_v, mx_rt_0, mx_cu_t, mx_w_id, mx_l_id, mx_b_0, mx_b_1, mx_b_r, mx_nl_0, mx_nl_1, mx_nl_2, mx_nl_n, mx_nl_l, mx_sw_n, mx_sw_h, mx_sw_m, Int.reduceLE, Int.reduceLT, Int.reduceEq, Int.reduceAdd, Int.reduceSub, Int.reduceMul, Int.reduceNeg, Int.reduceToNat, and_self, true_and, and_true, false_and, and_false, true_or, or_true, false_or, or_false, not_true_eq_false, not_false_eq_true, eq_self, rw_X2_eveningsFor, hS.e]
    refine mx_W_r (c_mt hS wm rm2 te ?_)
    intro g2 f2
    show mx_W (mx_ex _ _ _ _ [] _ _ _) _
    have F2 : ∀ x, ¬ x = 9 → ¬ x = 12 → g2 x = g x := fun x y z => by rw [f2.f x z, mx_u_a y]
    have r2 : lr g2 σ := lr.mk (by rw [F2 3 (by decide) (by decide)]; exact r.c) (by rw [F2 3 (by decide) (by decide)]; exact r.L) (fun e a b => by rw [F2 4 (by decide) (by decide)]; exact r.lo e a b) (fun e a b => by rw [F2 5 (by decide) (by decide)]; exact r.hi e a b) (fun l k a b x y => by rw [F2 6 (by decide) (by decide)]; exact r.l l k a b x y)
    have o2 : ro g2 := ro.mk (by rw [F2 (-3) (by decide) (by decide), F2 (-4) (by decide) (by decide)]; exact o.e)
    have cg : ∀ i k, 0 ≤ k → k ≤ 9 → ¬ k = 1 → it (mv σ a t) i k = it σ i k := fun i k k0 k1 q => mv_i k0 k1 q
    have t2 : tbl g2 (mv σ a t) := tbl.mk (tw.mk (fun i i0 i1 => by rw [f2.f 9 (by decide)]; exact te i i0 i1) (fun i b i0 i1 b0 b1 => by
      rw [h0] at i1
      rw [F2 11 (by decide) (by decide), wo_c (w.n i i0 i1) (cg i)]; exact v.w i b i0 i1 b0 b1)) f2.t
    have c2 : cans g2 (mv σ a t) (-1) := fun i i0 i1 _ => by
      rw [h0] at i1
      rw [F2 10 (by decide) (by decide), v.c i i0 i1]
      exact bz_c (fun b _ _ => (cb_c (w.n i i0 i1) (cg i)).symm)
    have ca := c_allLines (d := d + 4) (S := S) (h := g2) (n := n) hS.v w r2.L
    simp (disch := omega) only [mx_vt_h, mx_vt_m, mx_cmp_0, mx_cmp_1, mx_cmp_2, mx_cmp_3, mx_cmp_4, mx_u_s, mx_u_a, mx_u_k, mx_z_a, mx_z_s, mx_t_a, mx_t_2, mx_t_1, mx_t_0, mx_gd_T, mx_gd_t, mx_br_T, mx_br_F, mx_br_t, mx_br_f, mx_br_n, mx_cl_T, mx_cl_t, mx_re_T, mx_re_t, mx_rt_v, mx_rt_0, mx_cu_t, mx_w_id, mx_l_id, mx_b_0, mx_b_1, mx_b_r, mx_nl_0, mx_nl_1, mx_nl_2, mx_nl_n, mx_nl_l, mx_sw_n, mx_sw_h, mx_sw_m, Int.reduceLE, Int.reduceLT, Int.reduceEq, Int.reduceAdd, Int.reduceSub, Int.reduceMul, Int.reduceNeg, Int.reduceToNat, and_self, true_and, and_true, false_and, and_false, true_or, or_true, false_or, or_false, not_true_eq_false, not_false_eq_true, eq_self, rw_X2_eveningsFor, hS.e, ca]
    refine mx_W_r (c_iwb hS wm (mv_r r2 a0 (by omega)) t2 o2 c2 ?_)
    intro g3 f3
    show mx_W (mx_ex _ _ _ _ [_] _ _ _) _
    have ea : ew (mv σ a t) (aL (σ 1)) ↔ ew (mv σ a t) 63 := by
      have := ew_a wm
      rw [h1] at this; exact this
    have fq3 : fq h g3 := f.t (fq.mk (fun x y => by rw [f3.f x (by omega) (by omega)]; exact F2 x (by omega) (by omega)))
    have o3 := o2.m f3.f
    have r3 := r2.m f3.f
    have v3 : ev g3 σ a := ev.mk (fun i i0 i1 c => by
        rw [f3.f 9 (by decide) (by decide), f2.f 9 (by decide), mx_u_k c]; exact v.e i i0 i1 c)
      (fun i i0 i1 => by rw [f3.f 10 (by decide) (by decide), F2 10 (by decide) (by decide)]; exact v.c i i0 i1)
      (fun i b i0 i1 b0 b1 => by rw [f3.f 11 (by decide) (by decide), F2 11 (by decide) (by decide)]; exact v.w i b i0 i1 b0 b1)
    have ih := c_evs_l hS w a0 a1 (t := t + 1) (by omega) (by omega) fq3 r3 o3 v3 hX
    by_cases y : ew (mv σ a t) 63
    · rw [mx_b_t (ea.mpr y)]
      simp (disch := omega) only [mx_vt_h, mx_vt_m, mx_cmp_0, mx_cmp_1, mx_cmp_2, mx_cmp_3, mx_cmp_4, mx_u_s, mx_u_a, mx_u_k, mx_z_a, mx_z_s, mx_t_a, mx_t_2, mx_t_1, mx_t_0, mx_gd_T, mx_gd_t, mx_br_T, mx_br_F, mx_br_t, mx_br_f, mx_br_n, mx_cl_T, mx_cl_t, mx_re_T, mx_re_t, mx_rt_v, mx_rt_0, mx_cu_t, mx_w_id, mx_l_id, mx_b_0, mx_b_1, mx_b_r, mx_nl_0, mx_nl_1, mx_nl_2, mx_nl_n, mx_nl_l, mx_sw_n, mx_sw_h, mx_sw_m, Int.reduceLE, Int.reduceLT, Int.reduceEq, Int.reduceAdd, Int.reduceSub, Int.reduceMul, Int.reduceNeg, Int.reduceToNat, and_self, true_and, and_true, false_and, and_false, true_or, or_true, false_or, or_false, not_true_eq_false, not_false_eq_true, eq_self, rw_X2_eveningsFor]
      rw [wh_t t0 q y]; exact ih
    · rw [mx_b_f (fun z => y (ea.mp z))]
      simp (disch := omega) only [mx_vt_h, mx_vt_m, mx_cmp_0, mx_cmp_1, mx_cmp_2, mx_cmp_3, mx_cmp_4, mx_u_s, mx_u_a, mx_u_k, mx_z_a, mx_z_s, mx_t_a, mx_t_2, mx_t_1, mx_t_0, mx_gd_T, mx_gd_t, mx_br_T, mx_br_F, mx_br_t, mx_br_f, mx_br_n, mx_cl_T, mx_cl_t, mx_re_T, mx_re_t, mx_rt_v, mx_rt_0, mx_cu_t, mx_w_id, mx_l_id, mx_b_0, mx_b_1, mx_b_r, mx_nl_0, mx_nl_1, mx_nl_2, mx_nl_n, mx_nl_l, mx_sw_n, mx_sw_h, mx_sw_m, Int.reduceLE, Int.reduceLT, Int.reduceEq, Int.reduceAdd, Int.reduceSub, Int.reduceMul, Int.reduceNeg, Int.reduceToNat, and_self, true_and, and_true, false_and, and_false, true_or, or_true, false_or, or_false, not_true_eq_false, not_false_eq_true, eq_self, rw_X2_eveningsFor]
      rw [wh_f y]; exact ih
  · have e : t = 3 := by omega
    subst e
    simp (disch := omega) only [mx_vt_h, mx_vt_m, mx_cmp_0, mx_cmp_1, mx_cmp_2, mx_cmp_3, mx_cmp_4, mx_u_s, mx_u_a, mx_u_k, mx_z_a, mx_z_s, mx_t_a, mx_t_2, mx_t_1, mx_t_0, mx_gd_T, mx_gd_t, mx_br_T, mx_br_F, mx_br_t, mx_br_f, mx_br_n, mx_cl_T, mx_cl_t, mx_re_T, mx_re_t, mx_rt_v, mx_rt_0, mx_cu_t, mx_w_id, mx_l_id, mx_b_0, mx_b_1, mx_b_r, mx_nl_0, mx_nl_1, mx_nl_2, mx_nl_n, mx_nl_l, mx_sw_n, mx_sw_h, mx_sw_m, Int.reduceLE, Int.reduceLT, Int.reduceEq, Int.reduceAdd, Int.reduceSub, Int.reduceMul, Int.reduceNeg, Int.reduceToNat, and_self, true_and, and_true, false_and, and_false, true_or, or_true, false_or, or_false, not_true_eq_false, not_false_eq_true, eq_self, rw_X2_eveningsFor]
    exact mx_W_s (hX g f)
termination_by (3 - t).toNat
decreasing_by omega
/-- eveningsFor -/
theorem c_evs (hS : sh_F S) (w : vw σ) (r : rr S h N 3 σ) (o : ro h) {a : Int} (a0 : 0 ≤ a) (a1 : a < σ 0)
    (hX : ∀ g, fq h g → Q (some (0, wh σ a 3)) S g n) :
    mx_W (mx_M (d + 5) 17 [(2, 2), (0, a)] S h n) Q := by
  simp (disch := omega) only [mx_vt_h, mx_vt_m, mx_cmp_0, mx_cmp_1, mx_cmp_2, mx_cmp_3, mx_cmp_4, mx_u_s, mx_u_a, mx_u_k, mx_z_a, mx_z_s, mx_t_a, mx_t_2, mx_t_1, mx_t_0, mx_gd_T, mx_gd_t, mx_br_T, mx_br_F, mx_br_t, mx_br_f, mx_br_n, mx_cl_T, mx_cl_t, mx_re_T, mx_re_t, mx_rt_v, mx_rt_0, mx_cu_t, mx_w_id, mx_l_id, mx_b_0, mx_b_1, mx_b_r, mx_nl_0, mx_nl_1, mx_nl_2, mx_nl_n, mx_nl_l, mx_sw_n, mx_sw_h, mx_sw_m, Int.reduceLE, Int.reduceLT, Int.reduceEq, Int.reduceAdd, Int.reduceSub, Int.reduceMul, Int.reduceNeg, Int.reduceToNat, and_self, true_and, and_true, false_and, and_false, true_or, or_true, false_or, or_false, not_true_eq_false, not_false_eq_true, eq_self, rw_X2_eveningsFor, hS.e]
  refine mx_W_r (c_load hS w r ?_)
  intro g f t cn
  show mx_W (mx_ex _ _ _ _ [] _ _ _) _
  have rg : rr S g N 3 σ := r.m (fun a x => f a (by omega) (by omega) (by omega) (by omega))
  have og : ro g := ro.mk (by rw [f (-3) (by decide) (by decide) (by decide) (by decide), f (-4) (by decide) (by decide) (by decide) (by decide)]; exact o.e)
  have ih := c_evs_l (d := d) (n := n) (h := h) (Q := Q) hS w a0 a1 (t := 0) (by decide) (by decide) (g := g) (fq.mk (fun a x => f a (by omega) (by omega) (by omega) (by omega))) rg.r og (ev.mk (fun i i0 i1 _ => t.w.e i i0 i1) (fun i i0 i1 => cn i i0 i1 (by omega)) t.w.w) hX
  rw [wh_0] at ih
  simp (disch := omega) only [mx_vt_h, mx_vt_m, mx_cmp_0, mx_cmp_1, mx_cmp_2, mx_cmp_3, mx_cmp_4, mx_u_s, mx_u_a, mx_u_k, mx_z_a, mx_z_s, mx_t_a, mx_t_2, mx_t_1, mx_t_0, mx_gd_T, mx_gd_t, mx_br_T, mx_br_F, mx_br_t, mx_br_f, mx_br_n, mx_cl_T, mx_cl_t, mx_re_T, mx_re_t, mx_rt_v, mx_rt_0, mx_cu_t, mx_w_id, mx_l_id, mx_b_0, mx_b_1, mx_b_r, mx_nl_0, mx_nl_1, mx_nl_2, mx_nl_n, mx_nl_l, mx_sw_n, mx_sw_h, mx_sw_m, Int.reduceLE, Int.reduceLT, Int.reduceEq, Int.reduceAdd, Int.reduceSub, Int.reduceMul, Int.reduceNeg, Int.reduceToNat, and_self, true_and, and_true, false_and, and_false, true_or, or_true, false_or, or_false, not_true_eq_false, not_false_eq_true, eq_self, rw_X2_eveningsFor]
  exact ih
end
