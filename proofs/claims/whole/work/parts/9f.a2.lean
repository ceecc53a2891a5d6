/-! Rows of numbers that tell the same; the reference's questions -/
/-- both tell the same valley -/
def qv (σ τ : Int → Int) : Prop := ∀ k, 0 ≤ k → k ≤ 92 → ¬ k = 2 → τ k = σ k
theorem qv_s {σ τ : Int → Int} (q : qv σ τ) : qv τ σ := fun k a b c => (q k a b c).symm
section
variable {σ τ : Int → Int}
theorem it_q (q : qv σ τ) {a k : Int} (a0 : 0 ≤ a) (a1 : a ≤ 5) (k0 : 0 ≤ k) (k1 : k ≤ 9) : it τ a k = it σ a k := q _ (by omega) (by omega) (by omega)
theorem ln_q (q : qv σ τ) {l k : Int} (a0 : 0 ≤ l) (a1 : l ≤ 5) (k0 : 0 ≤ k) (k1 : k ≤ 3) : ln τ l k = ln σ l k := q _ (by omega) (by omega) (by omega)
theorem vw_q (w : vw σ) (q : qv σ τ) : vw τ := by
  have hN := w.N
  have hL := w.L
  have h0 : τ 0 = σ 0 := q 0 (by decide) (by decide) (by decide)
  have h1 : τ 1 = σ 1 := q 1 (by decide) (by decide) (by decide)
  refine vw.mk (by rw [h0]; exact hN) (by rw [h1]; exact hL) ?_ ?_ ?_
  · intro e e0 e1; rw [q _ (by omega) (by omega) (by omega), q _ (by omega) (by omega) (by omega)]; exact w.e e e0 e1
  · intro a a0 a1
    rw [h0] at a1
    refine nw_c (w.n a a0 a1) (fun k k0 k1 _ => it_q q a0 (by omega) k0 k1) ?_
    rw [it_q q a0 (by omega) (by decide) (by decide)]; exact (w.n a a0 a1).e
  · intro l l0 l1
    rw [h1] at l1
    rw [h0]
    exact lw_c (w.l l l0 l1) (fun k k0 k1 => ln_q q l0 (by omega) k0 k1)
theorem nr_q {S h : mx_H} {N p i : Int} (w : vw σ) (i0 : 0 ≤ i) (i1 : i < σ 0) (q : qv σ τ) (r : nr S h N p σ i) : nr S h N p τ i := by
  have hN := w.N
  have hn := (w.n i i0 i1).n
  have e : ∀ k, 0 ≤ k → k ≤ 9 → it τ i k = it σ i k := fun k k0 k1 => it_q q i0 (by omega) k0 k1
  refine nr.mk (by rw [e 0 (by decide) (by decide)]; exact r.t) r.n (by rw [e 2 (by decide) (by decide)]; exact r.a) (by rw [e 1 (by decide) (by decide)]; exact r.e) r.q (by rw [e 3 (by decide) (by decide)]; exact r.l) ?_ r.p0 r.p1 r.q0 r.q1
  intro k k0 k1
  rw [e 3 (by decide) (by decide)] at k1
  rw [e (4 + k) (by omega) (by omega)]; exact r.s k k0 k1
theorem rr_q {S h : mx_H} {N v : Int} (w : vw σ) (q : qv σ τ) (r : rr S h N v σ) : rr S h N v τ := by
  have hL := w.L
  have h0 : τ 0 = σ 0 := q 0 (by decide) (by decide) (by decide)
  have h1 : τ 1 = σ 1 := q 1 (by decide) (by decide) (by decide)
  refine rr.mk (by rw [h0]; exact r.c) (by rw [h1]; exact r.L) (fun e a b => by rw [q _ (by omega) (by omega) (by omega)]; exact r.lo e a b) (fun e a b => by rw [q _ (by omega) (by omega) (by omega)]; exact r.hi e a b) ?_ ?_
  · intro l k l0 l1 k0 k1
    rw [h1] at l1
    rw [ln_q q l0 (by omega) k0 k1]; exact r.l l k l0 l1 k0 k1
  · intro i i0 i1
    rw [h0] at i1
    exact nr_q w i0 i1 q (r.n i i0 i1)
theorem wn_q (w : vw σ) (q : qv σ τ) {β : Int → Int} {i : Int} (i0 : 0 ≤ i) (i1 : i < σ 0) : wn τ β i = wn σ β i := by
  have hN := w.N
  unfold wn
  rw [it_q q i0 (by omega) (by decide) (by decide), wo_c (w.n i i0 i1) (fun k k0 k1 _ => it_q q i0 (by omega) k0 k1)]
theorem hl_q (w : vw σ) (q : qv σ τ) {β : Int → Int} {l : Int} (l0 : 0 ≤ l) (l1 : l < σ 1) : hl τ β l = hl σ β l := by
  have hL := w.L
  have lw := w.l l l0 l1
  unfold hl
  rw [ln_q q l0 (by omega) (by decide) (by decide), ln_q q l0 (by omega) (by decide) (by decide), ln_q q l0 (by omega) (by decide) (by decide), ln_q q l0 (by omega) (by decide) (by decide)]
  rw [wn_q w q lw.x.1 lw.x.2, wn_q w q lw.y.1 lw.y.2]
  by_cases s2 : ln σ l 0 = 2
  · rw [wn_q w q lw.z.1 (lw.z2 s2)]
  · simp only [if_neg s2]
theorem mb_q (w : vw σ) (q : qv σ τ) {e b : Int} (e0 : 0 ≤ e) (e1 : e ≤ 2) : mb τ e b ↔ mb σ e b := by
  have hN := w.N
  have h0 : τ 0 = σ 0 := q 0 (by decide) (by decide) (by decide)
  unfold mb
  rw [q _ (by omega) (by omega) (by omega), q _ (by omega) (by omega) (by omega), h0]
  constructor
  · rintro ⟨x, y, z⟩
    exact ⟨x, y, fun a a0 a1 ae => (cb_c (w.n a a0 a1) (fun k k0 k1 _ => it_q q a0 (by omega) k0 k1)).mp (z a a0 a1 (by rw [it_q q a0 (by omega) (by decide) (by decide)]; exact ae))⟩
  · rintro ⟨x, y, z⟩
    refine ⟨x, y, fun a a0 a1 ae => (cb_c (w.n a a0 a1) (fun k k0 k1 _ => it_q q a0 (by omega) k0 k1)).mpr (z a a0 a1 ?_)⟩
    rw [it_q q a0 (by omega) (by decide) (by decide)] at ae; exact ae
theorem wd_q (w : vw σ) (q : qv σ τ) {x a b c : Int} : wd τ x a b c ↔ wd σ x a b c := by
  have h1 : τ 1 = σ 1 := q 1 (by decide) (by decide) (by decide)
  unfold wd
  rw [mb_q w q (by decide) (by decide), mb_q w q (by decide) (by decide), mb_q w q (by decide) (by decide)]
  have : hs τ (tb a b c) x 0 ↔ hs σ (tb a b c) x 0 := by
    unfold hs; rw [h1]
    exact ⟨fun f j j0 j1 v => by rw [← hl_q w q j0 j1]; exact f j j0 j1 v, fun f j j0 j1 v => by rw [hl_q w q j0 j1]; exact f j j0 j1 v⟩
  rw [this]
theorem ew_q (w : vw σ) (q : qv σ τ) {x : Int} : ew τ x ↔ ew σ x :=
  ⟨fun ⟨a, b, c, p⟩ => ⟨a, b, c, (wd_q w q).mp p⟩, fun ⟨a, b, c, p⟩ => ⟨a, b, c, (wd_q w q).mpr p⟩⟩
theorem cT_q (w : vw σ) (q : qv σ τ) {x t : Int} : cT τ x t = cT σ x t := by
  unfold cT
  have : ∀ k, ct τ x k = ct σ x k := by
    intro k
    induction k with
    | zero => rfl
    | succ k ih =>
      have e : wi τ x k ↔ wi σ x k := wd_q w q
      simp only [ct]; rw [ih, mx_b_i e]
  exact this _
theorem fc_q {h : mx_H} (w : vw σ) (q : qv σ τ) (f : fc h σ) : fc h τ := by
  refine fc.mk (by rw [cT_q w q]; exact f.n) (fun k k0 k1 => by rw [f.t k k0 k1]; exact bz_c (fun e _ _ => (wd_q w q).symm)) ?_ ?_ ?_
  · rw [f.s0]; exact bz_c (fun b _ _ => ⟨fun ⟨u, a, b, c, e⟩ => ⟨u, a, b, (wd_q w q).mpr c, e⟩, fun ⟨u, a, b, c, e⟩ => ⟨u, a, b, (wd_q w q).mp c, e⟩⟩)
  · rw [f.s1]; exact bz_c (fun b _ _ => ⟨fun ⟨u, a, b, c, e⟩ => ⟨u, a, b, (wd_q w q).mpr c, e⟩, fun ⟨u, a, b, c, e⟩ => ⟨u, a, b, (wd_q w q).mp c, e⟩⟩)
  · rw [f.s2]; exact bz_c (fun b _ _ => ⟨fun ⟨u, a, b, c, e⟩ => ⟨u, a, b, (wd_q w q).mpr c, e⟩, fun ⟨u, a, b, c, e⟩ => ⟨u, a, b, (wd_q w q).mp c, e⟩⟩)
theorem md_q (w : vw σ) (q : qv σ τ) {a p s : Int} (a0 : 0 ≤ a) (a1 : a < σ 0) (m : md σ a p s) : md τ a p s := by
  have hN := w.N
  have hn := (w.n a a0 a1).n
  have mp := m.p
  have wt := al_w w a0 a1 m.p.1 m.p.2 m.s.1 m.s.2
  have qa : qv (al σ a p s) (al τ a p s) := by
    intro k k0 k1 k2; unfold al; split
    · rfl
    · exact q k k0 k1 k2
  exact md.mk (by rw [it_q q a0 (by omega) (by decide) (by decide)]; exact m.p) m.s (by rw [it_q q a0 (by omega) (by omega) (by omega)]; exact m.n) ((ew_q wt qa).mpr m.e)
theorem mk_q (w : vw σ) (q : qv σ τ) {k : Int} (m : mk σ k) : mk τ k := by
  have h0 : τ 0 = σ 0 := q 0 (by decide) (by decide) (by decide)
  have m0 := m.1
  exact ⟨m.1, by rw [h0]; exact m.2.1, md_q w q (by omega) m.2.1 m.2.2⟩
theorem mf_q {h : mx_H} (w : vw σ) (q : qv σ τ) (f : mf h σ) : mf h τ := by
  have w2 := vw_q w q
  rcases f with ⟨a, b⟩ | ⟨k, a, b, c⟩
  · exact Or.inl ⟨a, fun k z => b k (mk_q w2 (qv_s q) z)⟩
  · exact Or.inr ⟨k, mk_q w q a, fun u hu z => b u hu (mk_q w2 (qv_s q) z), c⟩
theorem ew_c (w : vw σ) {x : Int} : ew σ x ↔ 0 < cT σ x 4913 := by
  constructor
  · rintro ⟨a, b, c, p⟩
    have r := wd_r w p
    have hw : wi σ x (a * 289 + b * 17 + c) := by rw [wi_17 (by omega) (by omega) (by omega) (by omega)]; exact p
    have e := cT_S (σ := σ) (x := x) (t := a * 289 + b * 17 + c) (by omega)
    rw [mx_b_t hw] at e
    have r1 := cT_r (σ := σ) (x := x) (t := a * 289 + b * 17 + c) (by omega)
    have r2 := cT_m (σ := σ) (x := x) (t := a * 289 + b * 17 + c + 1) (u := 4913) (by omega) (by omega)
    omega
  · intro q
    by_cases e : ew σ x
    · exact e
    · have := cT_k (σ := σ) (x := x) (t := 0) (u := 4913) (by decide) (by decide) (fun v _ _ p => e ⟨_, _, _, p⟩)
      rw [cT_0] at this; omega
/-- the same place in the order: the same world -/
theorem wi_u {x u v : Int} (u0 : 0 ≤ u) (v0 : 0 ≤ v) (p : wi σ x u) (q : wi σ x v) (e : cT σ x u = cT σ x v) : u = v := by
  have eu := cT_S (σ := σ) (x := x) u0
  have ev := cT_S (σ := σ) (x := x) v0
  rw [mx_b_t p] at eu
  rw [mx_b_t q] at ev
  by_cases h1 : u < v
  · have := cT_m (σ := σ) (x := x) (t := u + 1) (u := v) (by omega) (by omega); omega
  · by_cases h2 : v < u
    · have := cT_m (σ := σ) (x := x) (t := v + 1) (u := u) (by omega) (by omega); omega
    · omega
end
section
variable {d : Nat} {S h : mx_H} {n : Int} {Q : Option mx_V → mx_H → mx_H → Int → Prop}
/-- hasWorld -/
theorem c_hasW (hS : sh_M S) (w : vw (h 39)) {x : Int} (hX : ∀ g, (∀ a, a < 43 ∨ 45 < a → g a = h a) → Q (some (0, mx_b (ew (h 39) x))) S g n) :
    mx_W (mx_M (d + 7) 197 [(2, 38), (0, x)] S h n) Q := by
  simp (disch := omega) only [mx_vt_h, mx_vt_m, mx_cmp_0, mx_cmp_1, mx_cmp_2, mx_cmp_3, mx_cmp_4, mx_u_s, mx_u_a, mx_u_k, mx_z_a, mx_z_s, mx_t_a, mx_t_2, mx_t_1, mx_t_0, mx_gd_T, mx_gd_t, mx_br_T, mx_br_F, mx_br_t, mx_br_f, mx_br_n, mx_cl_T, mx_cl_t, mx_re_T, mx_re_t, mx_rt_v, mx_rt_0, mx_cu_t, mx_w_id, mx_l_id, mx_b_0, mx_b_1, mx_b_r, mx_nl_0, mx_nl_1, mx_nl_2, mx_nl_n, mx_nl_l, mx_sw_n, mx_sw_h, mx_sw_m, Int.reduceLE, Int.reduceLT, Int.reduceEq, Int.reduceAdd, Int.reduceSub, Int.reduceMul, Int.reduceNeg, Int.reduceToNat, and_self, true_and, and_true, false_and, and_false, true_or, or_true, false_or, or_false, not_true_eq_false, not_false_eq_true, eq_self, rw_X12_hasWorld, hS.e]
  refine mx_W_r (fw_e hS w (by decide) (by decide) ?_ ?_)
  · intro g f hn
    have r := cT_r (σ := h 39) (x := x) (t := 4913) (by decide)
    have e0 : cT (h 39) x 4913 = 0 := by omega
    have hX := hX g f.f
    rw [mx_b_f (fun e => by rw [ew_c w] at e; omega)] at hX
    show mx_W (mx_ex _ _ _ _ [_] _ _ _) _
    simp (disch := omega) only [mx_vt_h, mx_vt_m, mx_cmp_0, mx_cmp_1, mx_cmp_2, mx_cmp_3, mx_cmp_4, mx_u_s, mx_u_a, mx_u_k, mx_z_a, mx_z_s, mx_t_a, mx_t_2, mx_t_1, mx_t_0, mx_gd_T, mx_gd_t, mx_br_T, mx_br_F, mx_br_t, mx_br_f, mx_br_n, mx_cl_T, mx_cl_t, mx_re_T, mx_re_t, mx_rt_v, mx_rt_0, mx_cu_t, mx_w_id, mx_l_id, mx_b_0, mx_b_1, mx_b_r, mx_nl_0, mx_nl_1, mx_nl_2, mx_nl_n, mx_nl_l, mx_sw_n, mx_sw_h, mx_sw_m, Int.reduceLE, Int.reduceLT, Int.reduceEq, Int.reduceAdd, Int.reduceSub, Int.reduceMul, Int.reduceNeg, Int.reduceToNat, and_self, true_and, and_true, false_and, and_false, true_or, or_true, false_or, or_false, not_true_eq_false, not_false_eq_true, eq_self, rw_X12_hasWorld, e0]
    exact mx_W_s hX
  · intro g u f u0 u1 wu _ _ _ _
    have hX := hX g f
    rw [mx_b_t ⟨_, _, _, wu⟩] at hX
    show mx_W (mx_ex _ _ _ _ [_] _ _ _) _
    simp (disch := omega) only [mx_vt_h, mx_vt_m, mx_cmp_0, mx_cmp_1, mx_cmp_2, mx_cmp_3, mx_cmp_4, mx_u_s, mx_u_a, mx_u_k, mx_z_a, mx_z_s, mx_t_a, mx_t_2, mx_t_1, mx_t_0, mx_gd_T, mx_gd_t, mx_br_T, mx_br_F, mx_br_t, mx_br_f, mx_br_n, mx_cl_T, mx_cl_t, mx_re_T, mx_re_t, mx_rt_v, mx_rt_0, mx_cu_t, mx_w_id, mx_l_id, mx_b_0, mx_b_1, mx_b_r, mx_nl_0, mx_nl_1, mx_nl_2, mx_nl_n, mx_nl_l, mx_sw_n, mx_sw_h, mx_sw_m, Int.reduceLE, Int.reduceLT, Int.reduceEq, Int.reduceAdd, Int.reduceSub, Int.reduceMul, Int.reduceNeg, Int.reduceToNat, and_self, true_and, and_true, false_and, and_false, true_or, or_true, false_or, or_false, not_true_eq_false, not_false_eq_true, eq_self, rw_X12_hasWorld]
    exact mx_W_s hX
/-- all worlds -/
theorem c_fwA (hS : sh_M S) (w : vw (h 39)) (hX : ∀ g, fi (h 39) 63 h g 4913 → Q (some (0, cT (h 39) 63 4913)) S g n) :
    mx_W (mx_M (d + 6) 195 [(2, 38), (0, 63), (0, 9999)] S h n) Q := by
  refine fw_e hS w (by decide) (by decide) (fun g f _ => hX g f) ?_
  intro g u f u0 u1 wu ce _ _ _
  have := cT_r (σ := h 39) (x := 63) u0
  omega
theorem c_findW (hS : sh_M S) (w : vw (h 39)) {k : Int} (k0 : -2147483648 ≤ k) (k1 : k ≤ 2147483647)
    (hF : ∀ g, (∀ a, a < 43 ∨ 45 < a → g a = h a) → (k < 0 ∨ cT (h 39) 63 4913 ≤ k) → Q (some (0, 0)) S g n)
    (hT : ∀ g u, (∀ a, a < 43 ∨ 45 < a → g a = h a) → 0 ≤ u → u < 4913 → wi (h 39) 63 u → cT (h 39) 63 u = k → g 43 0 = u / 289 → g 43 1 = u / 17 % 17 → g 43 2 = u % 17 → Q (some (0, 1)) S g n) :
    mx_W (mx_M (d + 7) 198 [(2, 38), (0, k)] S h n) Q := by
  have r := cT_r (σ := h 39) (x := 63) (t := 4913) (by decide)
  by_cases q : 0 ≤ k ∧ k ≤ 9999
  · simp (disch := omega) only [mx_vt_h, mx_vt_m, mx_cmp_0, mx_cmp_1, mx_cmp_2, mx_cmp_3, mx_cmp_4, mx_u_s, mx_u_a, mx_u_k, mx_z_a, mx_z_s, mx_t_a, mx_t_2, mx_t_1, mx_t_0, mx_gd_T, mx_gd_t, mx_br_T, mx_br_F, mx_br_t, mx_br_f, mx_br_n, mx_cl_T, mx_cl_t, mx_re_T, mx_re_t, mx_rt_v, mx_rt_0, mx_cu_t, mx_w_id, mx_l_id, mx_b_0, mx_b_1, mx_b_r, mx_nl_0, mx_nl_1, mx_nl_2, mx_nl_n, mx_nl_l, mx_sw_n, mx_sw_h, mx_sw_m, Int.reduceLE, Int.reduceLT, Int.reduceEq, Int.reduceAdd, Int.reduceSub, Int.reduceMul, Int.reduceNeg, Int.reduceToNat, and_self, true_and, and_true, false_and, and_false, true_or, or_true, false_or, or_false, not_true_eq_false, not_false_eq_true, eq_self, rw_X12_findWorld, hS.e, c_in, mx_b_t q]
    refine mx_W_r (fw_e hS w (by omega) (by omega) ?_ ?_)
    · intro g f hn
      have hF := hF g f.f (Or.inr (by omega))
      have e0 : ¬ cT (h 39) 63 4913 = k + 1 := by omega
      show mx_W (mx_ex _ _ _ _ [_] _ _ _) _
      simp (disch := omega) only [mx_vt_h, mx_vt_m, mx_cmp_0, mx_cmp_1, mx_cmp_2, mx_cmp_3, mx_cmp_4, mx_u_s, mx_u_a, mx_u_k, mx_z_a, mx_z_s, mx_t_a, mx_t_2, mx_t_1, mx_t_0, mx_gd_T, mx_gd_t, mx_br_T, mx_br_F, mx_br_t, mx_br_f, mx_br_n, mx_cl_T, mx_cl_t, mx_re_T, mx_re_t, mx_rt_v, mx_rt_0, mx_cu_t, mx_w_id, mx_l_id, mx_b_0, mx_b_1, mx_b_r, mx_nl_0, mx_nl_1, mx_nl_2, mx_nl_n, mx_nl_l, mx_sw_n, mx_sw_h, mx_sw_m, Int.reduceLE, Int.reduceLT, Int.reduceEq, Int.reduceAdd, Int.reduceSub, Int.reduceMul, Int.reduceNeg, Int.reduceToNat, and_self, true_and, and_true, false_and, and_false, true_or, or_true, false_or, or_false, not_true_eq_false, not_false_eq_true, eq_self, rw_X12_findWorld, e0]
      exact mx_W_s hF
    · intro g u f u0 u1 wu ce b0 b1 b2
      have hT := hT g u f u0 u1 wu (by omega) b0 b1 b2
      show mx_W (mx_ex _ _ _ _ [_] _ _ _) _
      simp (disch := omega) only [mx_vt_h, mx_vt_m, mx_cmp_0, mx_cmp_1, mx_cmp_2, mx_cmp_3, mx_cmp_4, mx_u_s, mx_u_a, mx_u_k, mx_z_a, mx_z_s, mx_t_a, mx_t_2, mx_t_1, mx_t_0, mx_gd_T, mx_gd_t, mx_br_T, mx_br_F, mx_br_t, mx_br_f, mx_br_n, mx_cl_T, mx_cl_t, mx_re_T, mx_re_t, mx_rt_v, mx_rt_0, mx_cu_t, mx_w_id, mx_l_id, mx_b_0, mx_b_1, mx_b_r, mx_nl_0, mx_nl_1, mx_nl_2, mx_nl_n, mx_nl_l, mx_sw_n, mx_sw_h, mx_sw_m, Int.reduceLE, Int.reduceLT, Int.reduceEq, Int.reduceAdd, Int.reduceSub, Int.reduceMul, Int.reduceNeg, Int.reduceToNat, and_self, true_and, and_true, false_and, and_false, true_or, or_true, false_or, or_false, not_true_eq_false, not_false_eq_true, eq_self, rw_X12_findWorld]
      exact mx_W_s hT
  · have hF := hF h (fun _ _ => rfl) (by omega)
    simp (disch := omega) only [mx_vt_h, mx_vt_m, mx_cmp_0, mx_cmp_1, mx_cmp_2, mx_cmp_3, mx_cmp_4, mx_u_s, mx_u_a, mx_u_k, mx_z_a, mx_z_s, mx_t_a, mx_t_2, mx_t_1, mx_t_0, mx_gd_T, mx_gd_t, mx_br_T, mx_br_F, mx_br_t, mx_br_f, mx_br_n, mx_cl_T, mx_cl_t, mx_re_T, mx_re_t, mx_rt_v, mx_rt_0, mx_cu_t, mx_w_id, mx_l_id, mx_b_0, mx_b_1, mx_b_r, mx_nl_0, mx_nl_1, mx_nl_2, mx_nl_n, mx_nl_l, mx_sw_n, mx_sw_h, mx_sw_m, Int.reduceLE, Int.reduceLT, Int.reduceEq, Int.reduceAdd, Int.reduceSub, Int.reduceMul, Int.reduceNeg, Int.reduceToNat, and_self, true_and, and_true, false_and, and_false, true_or, or_true, false_or, or_false, not_true_eq_false, not_false_eq_true, eq_self, rw_X12_findWorld, c_in, mx_b_f q]
    exact mx_W_s hF
theorem u_mv {a e : Int} : mx_u h 39 (9 + 10 * a + 1) e 39 = mv (h 39) a e := by
  funext k; unfold mx_u mv
  by_cases c : k = 9 + 10 * a + 1
  · rw [if_pos ⟨rfl, c⟩, if_pos c]
  · rw [if_neg (fun z => c z.2), if_neg c]
theorem u_al {a p s : Int} : mx_u h 39 (9 + 10 * a + 4 + p) s 39 = al (h 39) a p s := by
  funext k; unfold mx_u al
  by_cases c : k = 9 + 10 * a + (4 + p)
  · rw [if_pos ⟨rfl, by omega⟩, if_pos c]
  · rw [if_neg (fun z => c (by omega)), if_neg c]
theorem c_move (hS : sh_M S) (w : vw (h 39)) {a e : Int} (a0 : 0 ≤ a) (a1 : a < h 39 0) (e0 : 0 ≤ e) (e1 : e ≤ 2) : mx_M (d + 2) 181 [(2, 38), (0, a), (0, e)] S h n = some (some (0, it (h 39) a 1), S, mx_u h 39 (9 + 10 * a + 1) e, n) := by
  have hN := w.N
  simp (disch := omega) only [mx_vt_h, mx_vt_m, mx_cmp_0, mx_cmp_1, mx_cmp_2, mx_cmp_3, mx_cmp_4, mx_u_s, mx_u_a, mx_u_k, mx_z_a, mx_z_s, mx_t_a, mx_t_2, mx_t_1, mx_t_0, mx_gd_T, mx_gd_t, mx_br_T, mx_br_F, mx_br_t, mx_br_f, mx_br_n, mx_cl_T, mx_cl_t, mx_re_T, mx_re_t, mx_rt_v, mx_rt_0, mx_cu_t, mx_w_id, mx_l_id, mx_b_0, mx_b_1, mx_b_r, mx_nl_0, mx_nl_1, mx_nl_2, mx_nl_n, mx_nl_l, mx_sw_n, mx_sw_h, mx_sw_m, Int.reduceLE, Int.reduceLT, Int.reduceEq, Int.reduceAdd, Int.reduceSub, Int.reduceMul, Int.reduceNeg, Int.reduceToNat, and_self, true_and, and_true, false_and, and_false, true_or, or_true, false_or, or_false, not_true_eq_false, not_false_eq_true, eq_self, rw_X12_move, hS.e, c_isNote hS w, mx_b_t (c := 0 ≤ a ∧ a < h 39 0) ⟨a0, a1⟩, c_isEvening, mx_b_t (c := 0 ≤ e ∧ e ≤ 2) ⟨e0, e1⟩, c_its hS]
theorem c_alter (hS : sh_M S) (w : vw (h 39)) {a p s : Int} (a0 : 0 ≤ a) (a1 : a < h 39 0) (p0 : 0 ≤ p) (p1 : p < it (h 39) a 3) (s0 : 0 ≤ s) (s1 : s ≤ 15) : mx_M (d + 2) 180 [(2, 38), (0, a), (0, p), (0, s)] S h n = some (some (0, it (h 39) a (4 + p)), S, mx_u h 39 (9 + 10 * a + 4 + p) s, n) := by
  have hN := w.N
  have hn := (w.n a a0 a1).n
  simp (disch := omega) only [mx_vt_h, mx_vt_m, mx_cmp_0, mx_cmp_1, mx_cmp_2, mx_cmp_3, mx_cmp_4, mx_u_s, mx_u_a, mx_u_k, mx_z_a, mx_z_s, mx_t_a, mx_t_2, mx_t_1, mx_t_0, mx_gd_T, mx_gd_t, mx_br_T, mx_br_F, mx_br_t, mx_br_f, mx_br_n, mx_cl_T, mx_cl_t, mx_re_T, mx_re_t, mx_rt_v, mx_rt_0, mx_cu_t, mx_w_id, mx_l_id, mx_b_0, mx_b_1, mx_b_r, mx_nl_0, mx_nl_1, mx_nl_2, mx_nl_n, mx_nl_l, mx_sw_n, mx_sw_h, mx_sw_m, Int.reduceLE, Int.reduceLT, Int.reduceEq, Int.reduceAdd, Int.reduceSub, Int.reduceMul, Int.reduceNeg, Int.reduceToNat, and_self, true_and, and_true, false_and, and_false, true_or, or_true, false_or, or_false, not_true_eq_false, not_false_eq_true, eq_self, rw_X12_alter, hS.e, c_isNote hS w, mx_b_t (c := 0 ≤ a ∧ a < h 39 0) ⟨a0, a1⟩, c_isPlace hS a0 (by omega) (w.n a a0 a1), mx_b_t (c := 0 ≤ p ∧ p < it (h 39) a 3) ⟨p0, p1⟩, c_in, mx_b_t (c := 0 ≤ s ∧ s ≤ 15) ⟨s0, s1⟩, c_its hS]
end
