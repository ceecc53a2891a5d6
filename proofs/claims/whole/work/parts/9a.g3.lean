/-! The program's finder: one sign altered -/
def al (σ : Int → Int) (a p s : Int) : Int → Int := fun k => if k = 9 + 10 * a + (4 + p) then s else σ k
theorem al_o {σ : Int → Int} {a p s k : Int} (q : ¬ k = 9 + 10 * a + (4 + p)) : al σ a p s k = σ k := by unfold al; rw [if_neg q]
theorem al_s {σ : Int → Int} {a p s : Int} : it (al σ a p s) a (4 + p) = s := by unfold it al; rw [if_pos rfl]
theorem al_n {σ : Int → Int} {a p s i k : Int} (p0 : 0 ≤ p) (p1 : p ≤ 5) (k0 : 0 ≤ k) (k1 : k ≤ 9) (q : ¬ i = a) : it (al σ a p s) i k = it σ i k := by unfold it; exact al_o (by omega)
theorem al_k {σ : Int → Int} {a p s i k : Int} (p0 : 0 ≤ p) (p1 : p ≤ 5) (k0 : 0 ≤ k) (k1 : k ≤ 9) (q : ¬ k = 4 + p) : it (al σ a p s) i k = it σ i k := by unfold it; exact al_o (by omega)
theorem al_l {σ : Int → Int} {a p s l k : Int} (a1 : a ≤ 5) (p1 : p ≤ 5) (l0 : 0 ≤ l) (k0 : 0 ≤ k) : ln (al σ a p s) l k = ln σ l k := by unfold ln; exact al_o (by omega)
theorem al_m {σ : Int → Int} {a p s t : Int} : al (al σ a p s) a p t = al σ a p t := by
  funext k; unfold al; split <;> rfl
theorem al_e {σ : Int → Int} {a p : Int} : al σ a p (it σ a (4 + p)) = σ := by
  funext k; unfold al it; split
  · rename_i q; rw [q]
  · rfl
section
variable {σ : Int → Int} {a p s : Int}
theorem al_w (w : vw σ) (a0 : 0 ≤ a) (a1 : a < σ 0) (p0 : 0 ≤ p) (p1 : p < it σ a 3) (s0 : 0 ≤ s) (s1 : s ≤ 15) : vw (al σ a p s) := by
  have hN := w.N
  have hn := (w.n a a0 a1).n
  have h0 : al σ a p s 0 = σ 0 := al_o (by omega)
  have h1 : al σ a p s 1 = σ 1 := al_o (by omega)
  refine vw.mk (by rw [h0]; exact w.N) (by rw [h1]; exact w.L) ?_ ?_ ?_
  · intro k k0 k1; rw [al_o (by omega), al_o (by omega)]; exact w.e k k0 k1
  · intro i i0 i1
    rw [h0] at i1
    have wi := w.n i i0 i1
    have win := wi.n
    refine nw.mk ?_ ?_ ?_ ?_ ?_
    · rw [al_k p0 (by omega) (by decide) (by decide) (by omega)]; exact wi.k
    · rw [al_k p0 (by omega) (by decide) (by decide) (by omega)]; exact wi.e
    · rw [al_k p0 (by omega) (by decide) (by decide) (by omega)]; exact wi.p
    · rw [al_k p0 (by omega) (by decide) (by decide) (by omega)]; exact wi.n
    · intro k k0 k1
      rw [al_k p0 (by omega) (by decide) (by decide) (by omega)] at k1
      by_cases c : i = a ∧ k = p
      · rw [c.1, c.2, al_s]; exact ⟨s0, s1⟩
      · by_cases c2 : i = a
        · rw [al_k p0 (by omega) (by omega) (by omega) (by omega)]; exact wi.s k k0 k1
        · rw [al_n p0 (by omega) (by omega) (by omega) c2]; exact wi.s k k0 k1
  · intro l l0 l1
    rw [h1] at l1
    rw [h0]
    exact lw_c (w.l l l0 l1) (fun k k0 k1 => al_l (by omega) (by omega) l0 k0)
theorem al_r {h : mx_H} (r : lr h σ) (a0 : 0 ≤ a) (a1 : a ≤ 5) (p0 : 0 ≤ p) (p1 : p ≤ 5) : lr h (al σ a p s) := by
  have h0 : al σ a p s 0 = σ 0 := al_o (by omega)
  have h1 : al σ a p s 1 = σ 1 := al_o (by omega)
  refine lr.mk (by rw [h0]; exact r.c) (by rw [h1]; exact r.L) ?_ ?_ ?_
  · intro k k0 k1; rw [al_o (by omega)]; exact r.lo k k0 k1
  · intro k k0 k1; rw [al_o (by omega)]; exact r.hi k k0 k1
  · intro l k l0 l1 k0 k1
    rw [h1] at l1
    rw [al_l a1 p1 l0 k0]; exact r.l l k l0 l1 k0 k1
/-- the line tells of the note -/
def tn (σ : Int → Int) (l a : Int) : Prop := ln σ l 1 = a ∨ ¬ ln σ l 0 = 3 ∧ ln σ l 2 = a ∨ ln σ l 0 = 2 ∧ ln σ l 3 = a
theorem al_c {l k : Int} (w : vw σ) (a0 : 0 ≤ a) (a1 : a ≤ 5) (p0 : 0 ≤ p) (p1 : p ≤ 5) (l0 : 0 ≤ l) : tc (al σ a p s) l k = tc σ l k := by
  unfold tc
  rw [al_l a1 p1 l0 (by decide), al_l a1 p1 l0 (by decide), al_l a1 p1 l0 (by decide), al_l a1 p1 l0 (by decide)]
  have e : ∀ i, it (al σ a p s) i 1 = it σ i 1 := fun i => al_k p0 p1 (by decide) (by decide) (by omega)
  rw [e, e, e]
theorem al_t {l : Int} (w : vw σ) (a0 : 0 ≤ a) (a1 : a ≤ 5) (p0 : 0 ≤ p) (p1 : p ≤ 5) (l0 : 0 ≤ l) : tt (al σ a p s) l = tt σ l := by
  unfold tt; exact bm_c (fun k _ => by rw [al_c w a0 a1 p0 p1 l0])
theorem al_tl {l : Int} (w : vw σ) (a0 : 0 ≤ a) (a1 : a ≤ 5) (p0 : 0 ≤ p) (p1 : p ≤ 5) (l0 : 0 ≤ l) : tl (al σ a p s) l = tl σ l := by
  unfold tl; rw [al_c w a0 a1 p0 p1 l0, al_c w a0 a1 p0 p1 l0, al_c w a0 a1 p0 p1 l0]
theorem al_wn {β : Int → Int} {i : Int} (w : vw σ) (p0 : 0 ≤ p) (p1 : p ≤ 5) (i0 : 0 ≤ i) (i1 : i < σ 0) (q : ¬ i = a) : wn (al σ a p s) β i = wn σ β i := by
  unfold wn
  rw [al_n p0 p1 (by decide) (by decide) q, wo_c (w.n i i0 i1) (fun k k0 k1 _ => al_n p0 p1 k0 k1 q)]
theorem al_hl {β : Int → Int} {l : Int} (w : vw σ) (a1 : a ≤ 5) (p0 : 0 ≤ p) (p1 : p ≤ 5) (l0 : 0 ≤ l) (l1 : l < σ 1) (q : ¬ tn σ l a) : hl (al σ a p s) β l = hl σ β l := by
  have lw := w.l l l0 l1
  unfold tn at q
  unfold hl
  rw [al_l a1 p1 l0 (by decide), al_l a1 p1 l0 (by decide), al_l a1 p1 l0 (by decide), al_l a1 p1 l0 (by decide)]
  rw [al_wn w p0 p1 lw.x.1 lw.x.2 (fun e => q (Or.inl e))]
  by_cases s3 : ln σ l 0 = 3
  · simp only [s3]; rfl
  · rw [al_wn w p0 p1 lw.y.1 lw.y.2 (fun e => q (Or.inr (Or.inl ⟨s3, e⟩)))]
    by_cases s2 : ln σ l 0 = 2
    · rw [al_wn w p0 p1 lw.z.1 (lw.z2 s2) (fun e => q (Or.inr (Or.inr ⟨s2, e⟩)))]
    · simp only [if_neg s2]
theorem al_cb {i b : Int} (w : vw σ) (p0 : 0 ≤ p) (p1 : p ≤ 5) (i0 : 0 ≤ i) (i1 : i < σ 0) (q : ¬ i = a) : cb (al σ a p s) i b ↔ cb σ i b :=
  cb_c (w.n i i0 i1) (fun k k0 k1 _ => al_n p0 p1 k0 k1 q)
theorem al_gb {e b : Int} (w : vw σ) (a0 : 0 ≤ a) (a1 : a < σ 0) (e0 : 0 ≤ e) (e1 : e ≤ 2) (p0 : 0 ≤ p) (p1 : p ≤ 5) : gb (al σ a p s) (-1) e b ↔ gb σ a e b ∧ (it σ a 1 = e → cb (al σ a p s) a b) := by
  have hN := w.N
  have h0 : al σ a p s 0 = σ 0 := al_o (by omega)
  unfold gb
  rw [al_o (by omega), al_o (by omega), h0]
  have ev : ∀ i, it (al σ a p s) i 1 = it σ i 1 := fun i => al_k p0 p1 (by decide) (by decide) (by omega)
  constructor
  · rintro ⟨x, y⟩
    refine ⟨⟨x, fun j j0 j1 jn je => (al_cb w p0 p1 j0 j1 jn).mp (y j j0 j1 (by omega) (by rw [ev]; exact je))⟩, fun q => y a a0 a1 (by omega) (by rw [ev]; exact q)⟩
  · rintro ⟨⟨x, y⟩, z⟩
    refine ⟨x, fun j j0 j1 _ je => ?_⟩
    rw [ev] at je
    by_cases c : j = a
    · rw [c] at je ⊢; exact z je
    · exact (al_cb w p0 p1 j0 j1 c).mpr (y j j0 j1 c je)
theorem al_gA {x y z : Int} (w : vw σ) (a0 : 0 ≤ a) (a1 : a < σ 0) (p0 : 0 ≤ p) (p1 : p ≤ 5) : gA (al σ a p s) (-1) x y z ↔ gA σ a x y z ∧ cb (al σ a p s) a (tb x y z (it σ a 1)) := by
  have he := (w.n a a0 a1).e
  unfold gA
  rw [al_gb w a0 a1 (by decide) (by decide) p0 p1, al_gb w a0 a1 (by decide) (by decide) p0 p1, al_gb w a0 a1 (by decide) (by decide) p0 p1]
  have : it σ a 1 = 0 ∨ it σ a 1 = 1 ∨ it σ a 1 = 2 := by omega
  rcases this with e | e | e <;> rw [e]
  · have : tb x y z 0 = x := rfl
    rw [this]
    exact ⟨fun ⟨⟨g0, c0⟩, ⟨g1, c1⟩, g2, c2⟩ => ⟨⟨g0, g1, g2⟩, c0 rfl⟩, fun ⟨⟨g0, g1, g2⟩, c⟩ => ⟨⟨g0, fun _ => c⟩, ⟨g1, fun q => by omega⟩, g2, fun q => by omega⟩⟩
  · have : tb x y z 1 = y := rfl
    rw [this]
    exact ⟨fun ⟨⟨g0, c0⟩, ⟨g1, c1⟩, g2, c2⟩ => ⟨⟨g0, g1, g2⟩, c1 rfl⟩, fun ⟨⟨g0, g1, g2⟩, c⟩ => ⟨⟨g0, fun q => by omega⟩, ⟨g1, fun _ => c⟩, g2, fun q => by omega⟩⟩
  · have : tb x y z 2 = z := rfl
    rw [this]
    exact ⟨fun ⟨⟨g0, c0⟩, ⟨g1, c1⟩, g2, c2⟩ => ⟨⟨g0, g1, g2⟩, c2 rfl⟩, fun ⟨⟨g0, g1, g2⟩, c⟩ => ⟨⟨g0, fun q => by omega⟩, ⟨g1, fun q => by omega⟩, g2, fun _ => c⟩⟩
/-- a world with the altered sign keeps within what the rest allows -/
theorem al_IL {Λ : Int → Int → Prop} {xw x y z : Int} (w : vw σ) (a0 : 0 ≤ a) (a1 : a < σ 0) (p0 : 0 ≤ p) (p1 : p ≤ 5) (u : lk σ Λ (gA σ a) xw (σ 1)) (b : ∀ l, 0 ≤ l → l < σ 1 → (bt xw l.toNat ↔ ¬ tn σ l a)) (wt : vw (al σ a p s)) (q : wd (al σ a p s) 63 x y z) : IL Λ x y z ∧ (∀ l, 0 ≤ l → l < σ 1 → bt xw l.toNat → hl σ (tb x y z) l) ∧ cb (al σ a p s) a (tb x y z (it σ a 1)) := by
  have hN := w.N
  have hL := w.L
  have h1 : al σ a p s 1 = σ 1 := al_o (by omega)
  have r := wd_r wt q
  have g : gA (al σ a p s) (-1) x y z := ⟨gb_m.mpr q.1, gb_m.mpr q.2.1, gb_m.mpr q.2.2.1⟩
  have g := (al_gA w a0 a1 p0 p1).mp g
  have hh : ∀ l, 0 ≤ l → l < σ 1 → bt xw l.toNat → hl σ (tb x y z) l := fun l l0 l1 v => by
    rw [← al_hl (s := s) w (by omega) p0 p1 l0 l1 ((b l l0 l1).mp v)]
    exact q.2.2.2 l l0 (by rw [h1]; exact l1) (b63 l0 (by omega))
  refine ⟨?_, hh, g.2⟩
  rw [u x y z r.1.1 r.1.2 r.2.1.1 r.2.1.2 r.2.2.1 r.2.2.2]
  exact ⟨g.1, fun l l0 l1 v _ => hh l l0 l1 v⟩
end
section
variable {d : Nat} {S h : mx_H} {n N v : Int} {σ : Int → Int} {Q : Option mx_V → mx_H → mx_H → Int → Prop}
noncomputable def lwn (σ : Int → Int) (a k : Int) : Int := bm (fun l => (l : Int) < k ∧ tn σ l a) 6
theorem lwn_t {a k : Int} (k0 : 0 ≤ k) (k1 : k ≤ 5) (q : tn σ k a) : mx_or (lwn σ a k) (mx_shl 1 k) = lwn σ a (k + 1) := by
  unfold lwn; rw [bm_or (by decide) k0 (by simp; omega)]
  refine bm_c (fun l hl => ?_)
  constructor
  · rintro (⟨x, y⟩ | x)
    · exact ⟨by omega, y⟩
    · exact ⟨by omega, by rw [← x]; exact q⟩
  · rintro ⟨x, y⟩
    by_cases e : k = l
    · exact Or.inr e
    · exact Or.inl ⟨by omega, y⟩
theorem lwn_f {a k : Int} (q : ¬ tn σ k a) : lwn σ a k = lwn σ a (k + 1) := by
  unfold lwn
  refine bm_c (fun l hl => ?_)
  constructor
  · rintro ⟨x, y⟩; exact ⟨by omega, y⟩
  · rintro ⟨x, y⟩
    by_cases e : k = l
    · rw [← e] at y; exact absurd y q
    · exact ⟨by omega, y⟩
theorem lwn_0 {a : Int} : lwn σ a 0 = 0 := by
  unfold lwn; rw [bm_e0 (by decide)]; intro k _ ⟨x, _⟩; omega
theorem lwn_b {a l : Int} (w : vw σ) (l0 : 0 ≤ l) (l1 : l < σ 1) : bt (lwn σ a (σ 1)) l.toNat ↔ tn σ l a := by
  have hL := w.L
  have e : ((l.toNat : Nat) : Int) = l := by omega
  unfold lwn; rw [bm_t (by decide), e]
  exact ⟨fun q => q.2.2, fun q => ⟨by omega, l1, q⟩⟩
theorem c_lw_l (s : sv S v) (w : vw σ) (L : h v 4 = σ 1) (rl : ∀ l k, 0 ≤ l → l < σ 1 → 0 ≤ k → k ≤ 3 → h (v + 3) (l * 4 + k) = ln σ l k) {a k : Int} {l4 l5 l6 : Option mx_V} (k0 : 0 ≤ k) (k1 : k ≤ σ 1) :
    mx_ex d 96 4 [some (2, v), some (0, a), some (0, lwn σ a k), some (0, k), l4, l5, l6] [] S h n = some (some (0, lwn σ a (σ 1)), S, h, n) := by
  have hL := w.L
  rw [rh_X10_linesWith_4]
  by_cases q : k < σ 1
  · have ih := fun l4 l5 l6 => c_lw_l s w L rl (a := a) (k := k + 1) (l4 := l4) (l5 := l5) (l6 := l6) (by omega) (by omega)
    have e0 := rl k 0 k0 q (by decide) (by decide)
    rw [Int.add_zero] at e0
    have e1 := rl k 1 k0 q (by decide) (by decide)
    have e2 := rl k 2 k0 q (by decide) (by decide)
    have e3 := rl k 3 k0 q (by decide) (by decide)
    by_cases c1 : ln σ k 1 = a
    · have y : tn σ k a := Or.inl c1
      rw [← lwn_t k0 (by omega) y] at ih
      simp (disch := omega) only [mx_vt_h, mx_vt_m, mx_cmp_0, mx_cmp_1, mx_cmp_2, mx_cmp_3, mx_cmp_4, mx_u_s, mx_u_a, mx_u_k, mx_z_a, mx_z_s, mx_t_a, mx_t_2, mx_t_1, mx_t_0, mx_gd_T, mx_gd_t, mx_br_T, mx_br_F, mx_br_t, mx_br_f, mx_br_n, mx_cl_T, mx_cl_t, mx_re_T, mx_re_t, mx_rt_v, mx_rt_0, mx_cu_t, mx_w_id, mx_l_id, mx_b_0, mx_b_1, mx_b_r, mx_nl_0, mx_nl_1, mx_nl_2, mx_nl_n, mx_nl_l, mx_sw_n, mx_sw_h, mx_sw_m, Int.reduceLE, Int.reduceLT, Int.reduceEq, Int.reduceAdd, Int.reduceSub, Int.reduceMul, Int.reduceNeg, Int.reduceToNat, and_self, true_and, and_true, false_and, and_false, true_or, or_true, false_or, or_false, not_true_eq_false, not_false_eq_true, eq_self, rw_X10_linesWith, s.e, L, e0, e1, e2, e3, c1]
      exact ih _ _ _
    · by_cases s3 : ln σ k 0 = 3
      · have y : ¬ tn σ k a := by
          rintro (z | z | z)
          · exact c1 z
          · exact z.1 s3
          · omega
        rw [← lwn_f y] at ih
        simp (disch := omega) only [mx_vt_h, mx_vt_m, mx_cmp_0, mx_cmp_1, mx_cmp_2, mx_cmp_3, mx_cmp_4, mx_u_s, mx_u_a, mx_u_k, mx_z_a, mx_z_s, mx_t_a, mx_t_2, mx_t_1, mx_t_0, mx_gd_T, mx_gd_t, mx_br_T, mx_br_F, mx_br_t, mx_br_f, mx_br_n, mx_cl_T, mx_cl_t, mx_re_T, mx_re_t, mx_rt_v, mx_rt_0, mx_cu_t, mx_w_id, mx_l_id, mx_b_0, mx_b_1, mx_b_r, mx_nl_0, mx_nl_1, mx_nl_2, mx_nl_n, mx_nl_l, mx_sw_n, mx_sw_h, mx_sw_m, Int.reduceLE, Int.reduceLT, Int.reduceEq, Int.reduceAdd, Int.reduceSub, Int.reduceMul, Int.reduceNeg, Int.reduceToNat, and_self, true_and, and_true, false_and, and_false, true_or, or_true, false_or, or_false, not_true_eq_false, not_false_eq_true, eq_self, rw_X10_linesWith, s.e, L, e0, e1, e2, e3, c1, s3]
        exact ih _ _ _
      · by_cases c2 : ln σ k 2 = a
        · have y : tn σ k a := Or.inr (Or.inl ⟨s3, c2⟩)
          rw [← lwn_t k0 (by omega) y] at ih
          simp (disch := omega) only [mx_vt_h, mx_vt_m, mx_cmp_0, mx_cmp_1, mx_cmp_2, mx_cmp_3, mx_cmp_4, mx_u_s, mx_u_a, mx_u_k, mx_z_a, mx_z_s, mx_t_a, mx_t_2, mx_t_1, mx_t_0, mx_gd_T, mx_gd_t, mx_br_T, mx_br_F, mx_br_t, mx_br_f, mx_br_n, mx_cl_T, mx_cl_t, mx_re_T, mx_re_t, mx_rt_v, mx_rt_0, mx_cu_t, mx_w_id, mx_l_id, mx_b_0, mx_b_1, mx_b_r, mx_nl_0, mx_nl_1, mx_nl_2, mx_nl_n, mx_nl_l, mx_sw_n, mx_sw_h, mx_sw_m, Int.reduceLE, Int.reduceLT, Int.reduceEq, Int.reduceAdd, Int.reduceSub, Int.reduceMul, Int.reduceNeg, Int.reduceToNat, and_self, true_and, and_true, false_and, and_false, true_or, or_true, false_or, or_false, not_true_eq_false, not_false_eq_true, eq_self, rw_X10_linesWith, s.e, L, e0, e1, e2, e3, c1, s3, c2]
          exact ih _ _ _
        · by_cases s2 : ln σ k 0 = 2
          · by_cases c3 : ln σ k 3 = a
            · have y : tn σ k a := Or.inr (Or.inr ⟨s2, c3⟩)
              rw [← lwn_t k0 (by omega) y] at ih
              simp (disch := omega) only [mx_vt_h, mx_vt_m, mx_cmp_0, mx_cmp_1, mx_cmp_2, mx_cmp_3, mx_cmp_4, mx_u_s, mx_u_a, mx_u_k, mx_z_a, mx_z_s, mx_t_a, mx_t_2, mx_t_1, mx_t_0, mx_gd_T, mx_gd_t, mx_br_T, mx_br_F, mx_br_t, mx_br_f, mx_br_n, mx_cl_T, mx_cl_t, mx_re_T, mx_re_t, mx_rt_v, mx_rt_0, mx_cu_t, mx_w_id, mx_l_id, mx_b_0, mx_b_1, mx_b_r, mx_nl_0, mx_nl_1, mx_nl_2, mx_nl_n, mx_nl_l, mx_sw_n, mx_sw_h, mx_sw_m, Int.reduceLE, Int.reduceLT, Int.reduceEq, Int.reduceAdd, Int.reduceSub, Int.reduceMul, Int.reduceNeg, Int.reduceToNat, and_self, true_and, and_true, false_and, and_false, true_or, or_true, false_or, or_false, not_true_eq_false, not_false_eq_true, eq_self, rw_X10_linesWith, s.e, L, e0, e1, e2, e3, c1, s2, c2, c3]
              exact ih _ _ _
            · have y : ¬ tn σ k a := by
                rintro (z | z | z)
                · exact c1 z
                · exact c2 z.2
                · exact c3 z.2
              rw [← lwn_f y] at ih
              simp (disch := omega) only [mx_vt_h, mx_vt_m, mx_cmp_0, mx_cmp_1, mx_cmp_2, mx_cmp_3, mx_cmp_4, mx_u_s, mx_u_a, mx_u_k, mx_z_a, mx_z_s, mx_t_a, mx_t_2, mx_t_1, mx_t_0, mx_gd_T, mx_gd_t, mx_br_T, mx_br_F, mx_br_t, mx_br_f, mx_br_n, mx_cl_T, mx_cl_t, mx_re_T, mx_re_t, mx_rt_v, mx_rt_0, mx_cu_t, mx_w_id, mx_l_id, mx_b_0, mx_b_1, mx_b_r, mx_nl_0, mx_nl_1, mx_nl_2, mx_nl_n, mx_nl_l, mx_sw_n, mx_sw_h, mx_sw_m, Int.reduceLE, Int.reduceLT, Int.reduceEq, Int.reduceAdd, Int.reduceSub, Int.reduceMul, Int.reduceNeg, Int.reduceToNat, and_self, true_and, and_true, false_and, and_false, true_or, or_true, false_or, or_false, not_true_eq_false, not_false_eq_true, eq_self, rw_X10_linesWith, s.e, L, e0, e1, e2, e3, c1, s2, c2, c3]
              exact ih _ _ _
          · have y : ¬ tn σ k a := by
              rintro (z | z | z)
              · exact c1 z
              · exact c2 z.2
              · exact s2 z.1
            rw [← lwn_f y] at ih
            simp (disch := omega) only [mx_vt_h, mx_vt_m, mx_cmp_0, mx_cmp_1, mx_cmp_2, mx_cmp_3, mx_cmp_4, mx_u_s, mx_u_a, mx_u_k, mx_z_a, mx_z_s, mx_t_a, mx_t_2, mx_t_1, mx_t_0, mx_gd_T, mx_gd_t, mx_br_T, mx_br_F, mx_br_t, mx_br_f, mx_br_n, mx_cl_T, mx_cl_t, mx_re_T, mx_re_t, mx_rt_v, mx_rt_0, mx_cu_t, mx_w_id, mx_l_id, mx_b_0, mx_b_1, mx_b_r, mx_nl_0, mx_nl_1, mx_nl_2, mx_nl_n, mx_nl_l, mx_sw_n, mx_sw_h, mx_sw_m, Int.reduceLE, Int.reduceLT, Int.reduceEq, Int.reduceAdd, Int.reduceSub, Int.reduceMul, Int.reduceNeg, Int.reduceToNat, and_self, true_and, and_true, false_and, and_false, true_or, or_true, false_or, or_false, not_true_eq_false, not_false_eq_true, eq_self, rw_X10_linesWith, s.e, L, e0, e1, e2, e3, c1, s3, c2, s2]
            exact ih _ _ _
  · have e : k = σ 1 := by omega
    subst e
    simp (disch := omega) only [mx_vt_h, mx_vt_m, mx_cmp_0, mx_cmp_1, mx_cmp_2, mx_cmp_3, mx_cmp_4, mx_u_s, mx_u_a, mx_u_k, mx_z_a, mx_z_s, mx_t_a, mx_t_2, mx_t_1, mx_t_0, mx_gd_T, mx_gd_t, mx_br_T, mx_br_F, mx_br_t, mx_br_f, mx_br_n, mx_cl_T, mx_cl_t, mx_re_T, mx_re_t, mx_rt_v, mx_rt_0, mx_cu_t, mx_w_id, mx_l_id, mx_b_0, mx_b_1, mx_b_r, mx_nl_0, mx_nl_1, mx_nl_2, mx_nl_n, mx_nl_l, mx_sw_n, mx_sw_h, mx_sw_m, Int.reduceLE, Int.reduceLT, Int.reduceEq, Int.reduceAdd, Int.reduceSub, Int.reduceMul, Int.reduceNeg, Int.reduceToNat, and_self, true_and, and_true, false_and, and_false, true_or, or_true, false_or, or_false, not_true_eq_false, not_false_eq_true, eq_self, rw_X10_linesWith, s.e, L]
termination_by (σ 1 - k).toNat
theorem c_lwn (s : sv S v) (w : vw σ) (L : h v 4 = σ 1) (rl : ∀ l k, 0 ≤ l → l < σ 1 → 0 ≤ k → k ≤ 3 → h (v + 3) (l * 4 + k) = ln σ l k) {a : Int} :
    mx_M d 96 [(2, v), (0, a)] S h n = some (some (0, lwn σ a (σ 1)), S, h, n) := by
  have hL := w.L
  have ih := fun l4 l5 l6 => c_lw_l (d := d) (n := n) (a := a) (k := 0) (l4 := l4) (l5 := l5) (l6 := l6) s w L rl (by decide) (by omega)
  rw [lwn_0] at ih
  simp (disch := omega) only [mx_vt_h, mx_vt_m, mx_cmp_0, mx_cmp_1, mx_cmp_2, mx_cmp_3, mx_cmp_4, mx_u_s, mx_u_a, mx_u_k, mx_z_a, mx_z_s, mx_t_a, mx_t_2, mx_t_1, mx_t_0, mx_gd_T, mx_gd_t, mx_br_T, mx_br_F, mx_br_t, mx_br_f, mx_br_n, mx_cl_T, mx_cl_t, mx_re_T, mx_re_t, mx_rt_v, mx_rt_0, mx_cu_t, mx_w_id, mx_l_id, mx_b_0, mx_b_1, mx_b_r, mx_nl_0, mx_nl_1, mx_nl_2, mx_nl_n, mx_nl_l, mx_sw_n, mx_sw_h, mx_sw_m, Int.reduceLE, Int.reduceLT, Int.reduceEq, Int.reduceAdd, Int.reduceSub, Int.reduceMul, Int.reduceNeg, Int.reduceToNat, and_self, true_and, and_true, false_and, and_false, true_or, or_true, false_or, or_false, not_true_eq_false, not_false_eq_true, eq_self, rw_X10_linesWith]
  exact ih _ _ _
/-- tables, where those of the note a may tell anything -/
def tx (h : mx_H) (σ : Int → Int) (a : Int) : Prop := (∀ i, 0 ≤ i → i < σ 0 → h 9 i = it σ i 1) ∧ (∀ i, 0 ≤ i → i < σ 0 → ¬ i = a → h 10 i = bz 2 17 (cb σ i)) ∧ (∀ i b, 0 ≤ i → i < σ 0 → ¬ i = a → 2 ≤ b → b ≤ 16 → h 11 (i * 17 + b) = wo σ i b) ∧ (∀ l, 0 ≤ l → l < σ 1 → h 12 l = tt σ l)
theorem tx.mk {h : mx_H} {σ : Int → Int} {a : Int} (x0 : ∀ i, 0 ≤ i → i < σ 0 → h 9 i = it σ i 1) (x1 : ∀ i, 0 ≤ i → i < σ 0 → ¬ i = a → h 10 i = bz 2 17 (cb σ i)) (x2 : ∀ i b, 0 ≤ i → i < σ 0 → ¬ i = a → 2 ≤ b → b ≤ 16 → h 11 (i * 17 + b) = wo σ i b) (x3 : ∀ l, 0 ≤ l → l < σ 1 → h 12 l = tt σ l) : tx h σ a := (And.intro x0 (And.intro x1 (And.intro x2 x3)))
theorem tx.e {h : mx_H} {σ : Int → Int} {a : Int} (q : tx h σ a) : ∀ i, 0 ≤ i → i < σ 0 → h 9 i = it σ i 1 := (And.left q)
theorem tx.c {h : mx_H} {σ : Int → Int} {a : Int} (q : tx h σ a) : ∀ i, 0 ≤ i → i < σ 0 → ¬ i = a → h 10 i = bz 2 17 (cb σ i) := (And.left (And.right q))
theorem tx.w {h : mx_H} {σ : Int → Int} {a : Int} (q : tx h σ a) : ∀ i b, 0 ≤ i → i < σ 0 → ¬ i = a → 2 ≤ b → b ≤ 16 → h 11 (i * 17 + b) = wo σ i b := (And.left (And.right (And.right q)))
theorem tx.t {h : mx_H} {σ : Int → Int} {a : Int} (q : tx h σ a) : ∀ l, 0 ≤ l → l < σ 1 → h 12 l = tt σ l := (And.right (And.right (And.right q)))
theorem tx.m {g : mx_H} {a : Int} (t : tx h σ a) (f : ∀ x, ¬ x = 8 → ¬ x = 13 → g x = h x) : tx g σ a :=
  tx.mk (fun i a b => by rw [f 9 (by decide) (by decide)]; exact t.e i a b) (fun i a b c => by rw [f 10 (by decide) (by decide)]; exact t.c i a b c) (fun i b x y z u v => by rw [f 11 (by decide) (by decide)]; exact t.w i b x y z u v) (fun l a b => by rw [f 12 (by decide) (by decide)]; exact t.t l a b)
/-- the note read anew, with its altered sign -/
theorem tx_t {g : mx_H} {a p s : Int} (w : vw σ) (a0 : 0 ≤ a) (a1 : a < σ 0) (p0 : 0 ≤ p) (p1 : p ≤ 5) (t : tx h σ a) (r : rn h g (al σ a p s) a 17) : tbl g (al σ a p s) ∧ tx g σ a := by
  have hN := w.N
  have h0 : al σ a p s 0 = σ 0 := al_o (by omega)
  have h1 : al σ a p s 1 = σ 1 := al_o (by omega)
  have ev : ∀ i, it (al σ a p s) i 1 = it σ i 1 := fun i => al_k p0 p1 (by decide) (by decide) (by omega)
  have g9 : ∀ i, 0 ≤ i → i < σ 0 → g 9 i = it σ i 1 := by
    intro i i0 i1
    by_cases c : i = a
    · rw [c, r.e, ev]
    · rw [r.e2 i c]; exact t.e i i0 i1
  have g12 : ∀ l, 0 ≤ l → l < σ 1 → g 12 l = tt σ l := fun l l0 l1 => by rw [r.f 12 (by decide) (by decide) (by decide)]; exact t.t l l0 l1
  have g11 : ∀ i b, 0 ≤ i → i < σ 0 → ¬ i = a → 2 ≤ b → b ≤ 16 → g 11 (i * 17 + b) = wo σ i b := fun i b i0 i1 c b0 b1 => by
    rw [r.w2 _ (by omega)]; exact t.w i b i0 i1 c b0 b1
  refine ⟨tbl.mk (tw.mk ?_ ?_) ?_, tx.mk g9 ?_ g11 g12⟩
  · intro i i0 i1; rw [h0] at i1; rw [ev]; exact g9 i i0 i1
  · intro i b i0 i1 b0 b1
    rw [h0] at i1
    by_cases c : i = a
    · rw [c]; exact r.w b b0 (by omega)
    · rw [g11 i b i0 i1 c b0 b1, wo_c (w.n i i0 i1) (fun k k0 k1 _ => al_n p0 p1 k0 k1 c)]
  · intro l l0 l1
    rw [h1] at l1
    rw [al_t w a0 (by omega) p0 p1 l0]; exact g12 l l0 l1
  · intro i i0 i1 c; rw [r.c2 i c]; exact t.c i i0 i1 c
theorem c_fit_l (hS : sh_F S) {τ : Int → Int} (w : vw τ) (r : lr h τ) (t : tbl h τ) (o : ro h) {x k : Int} {Λ : Int → Int → Prop} {G : Int → Int → Int → Prop} (k0 : 0 ≤ k) (k1 : k ≤ τ 1) {g : mx_H} (f : fl h g) (m : lim g Λ) (u : lk τ Λ G x k) {l1 l2 : Option mx_V}
    (hX : ∀ g Λ', fl h g → lim g Λ' → lk τ Λ' G x (τ 1) → mx_W (mx_ex (d + 4) 21 72 [some (2, 2), l1, l2, some (0, x), some (0, τ 1)] [] S g n) Q) :
    mx_W (mx_ex (d + 4) 21 72 [some (2, 2), l1, l2, some (0, x), some (0, k)] [] S g n) Q := by
  have hL := w.L
  have rg := r.m f.f
  have tg := t.m f.f
  have og := o.m f.f
  have gL := rg.L
  by_cases q : k < τ 1
  · rw [rh_X2_fitsAgain_72]
    by_cases v : bt x k.toNat
    · simp (disch := omega) only [mx_vt_h, mx_vt_m, mx_cmp_0, mx_cmp_1, mx_cmp_2, mx_cmp_3, mx_cmp_4, mx_u_s, mx_u_a, mx_u_k, mx_z_a, mx_z_s, mx_t_a, mx_t_2, mx_t_1, mx_t_0, mx_gd_T, mx_gd_t, mx_br_T, mx_br_F, mx_br_t, mx_br_f, mx_br_n, mx_cl_T, mx_cl_t, mx_re_T, mx_re_t, mx_rt_v, mx_rt_0, mx_cu_t, mx_w_id, mx_l_id, mx_b_0, mx_b_1, mx_b_r, mx_nl_0, mx_nl_1, mx_nl_2, mx_nl_n, mx_nl_l, mx_sw_n, mx_sw_h, mx_sw_m, Int.reduceLE, Int.reduceLT, Int.reduceEq, Int.reduceAdd, Int.reduceSub, Int.reduceMul, Int.reduceNeg, Int.reduceToNat, and_self, true_and, and_true, false_and, and_false, true_or, or_true, false_or, or_false, not_true_eq_false, not_false_eq_true, eq_self, rw_X2_fitsAgain, hS.e, gL, bt_tst, mx_b_t v]
      refine mx_W_r (c_lbl hS w rg tg.w og m k0 q (tg.t k k0 q) ?_)
      intro g2 Λ2 f2 m2 v2
      show mx_W (mx_ex _ _ _ _ [] _ _ _) _
      simp (disch := omega) only [mx_vt_h, mx_vt_m, mx_cmp_0, mx_cmp_1, mx_cmp_2, mx_cmp_3, mx_cmp_4, mx_u_s, mx_u_a, mx_u_k, mx_z_a, mx_z_s, mx_t_a, mx_t_2, mx_t_1, mx_t_0, mx_gd_T, mx_gd_t, mx_br_T, mx_br_F, mx_br_t, mx_br_f, mx_br_n, mx_cl_T, mx_cl_t, mx_re_T, mx_re_t, mx_rt_v, mx_rt_0, mx_cu_t, mx_w_id, mx_l_id, mx_b_0, mx_b_1, mx_b_r, mx_nl_0, mx_nl_1, mx_nl_2, mx_nl_n, mx_nl_l, mx_sw_n, mx_sw_h, mx_sw_m, Int.reduceLE, Int.reduceLT, Int.reduceEq, Int.reduceAdd, Int.reduceSub, Int.reduceMul, Int.reduceNeg, Int.reduceToNat, and_self, true_and, and_true, false_and, and_false, true_or, or_true, false_or, or_false, not_true_eq_false, not_false_eq_true, eq_self, rw_X2_fitsAgain]
      exact c_fit_l hS w r t o (k := k + 1) (by omega) (by omega) (f.t f2) m2 (lk_s k0 v u v2) hX
    · simp (disch := omega) only [mx_vt_h, mx_vt_m, mx_cmp_0, mx_cmp_1, mx_cmp_2, mx_cmp_3, mx_cmp_4, mx_u_s, mx_u_a, mx_u_k, mx_z_a, mx_z_s, mx_t_a, mx_t_2, mx_t_1, mx_t_0, mx_gd_T, mx_gd_t, mx_br_T, mx_br_F, mx_br_t, mx_br_f, mx_br_n, mx_cl_T, mx_cl_t, mx_re_T, mx_re_t, mx_rt_v, mx_rt_0, mx_cu_t, mx_w_id, mx_l_id, mx_b_0, mx_b_1, mx_b_r, mx_nl_0, mx_nl_1, mx_nl_2, mx_nl_n, mx_nl_l, mx_sw_n, mx_sw_h, mx_sw_m, Int.reduceLE, Int.reduceLT, Int.reduceEq, Int.reduceAdd, Int.reduceSub, Int.reduceMul, Int.reduceNeg, Int.reduceToNat, and_self, true_and, and_true, false_and, and_false, true_or, or_true, false_or, or_false, not_true_eq_false, not_false_eq_true, eq_self, rw_X2_fitsAgain, hS.e, gL, bt_tst, mx_b_f v]
      exact c_fit_l hS w r t o (k := k + 1) (by omega) (by omega) f m (lk_n v u) hX
  · have e : k = τ 1 := by omega
    subst e
    exact hX g Λ f m u
termination_by (τ 1 - k).toNat
/-- fitsAgain -/
theorem c_fit (hS : sh_F S) (w : vw σ) (r : lr h σ) (o : ro h) {a p s P xw : Int} {Λ : Int → Int → Prop} (a0 : 0 ≤ a) (a1 : a < σ 0) (p0 : 0 ≤ p) (p1 : p < it σ a 3) (s0 : 0 ≤ s) (s1 : s ≤ 15) (t : tx h σ a) (nt : nr S h N P (al σ a p s) a)
    (sd : ∀ k, 0 ≤ k → k < 54 → h 14 k = bz 2 17 (Λ k)) (u : lk σ Λ (gA σ a) xw (σ 1)) (b : ∀ l, 0 ≤ l → l < σ 1 → (bt xw l.toNat ↔ ¬ tn σ l a))
    (hX : ∀ g, fq h g → g 14 = h 14 → tx g σ a → Q (some (0, mx_b (ew (al σ a p s) 63))) S g n) :
    mx_W (mx_M (d + 4) 21 [(2, 2), (2, P)] S h n) Q := by
  have hN := w.N
  have hL := w.L
  have na := w.n a a0 a1
  have hn := na.n
  have he := na.e
  have hk0 := na.k
  have wt := al_w w a0 a1 p0 p1 s0 s1
  have h0 : al σ a p s 0 = σ 0 := al_o (by omega)
  have h1 : al σ a p s 1 = σ 1 := al_o (by omega)
  have nat := wt.n a a0 (by rw [h0]; exact a1)
  have ev : it (al σ a p s) a 1 = it σ a 1 := al_k p0 (by omega) (by decide) (by decide) (by omega)
  have hk2 := nat.k
  have ne := nt.e
  rw [ev] at ne
  have s14 := sd (it σ a 1) he.1 (by omega)
  have hp := nt.p0
  have cb1 := c_basesItCanBeIn (d := d + 1) (n := n) nt nat
  by_cases z : bz 2 17 (fun k => Λ (it σ a 1) k ∧ cb (al σ a p s) a k) = 0
  · have no : ¬ ew (al σ a p s) 63 := by
      rintro ⟨x, y, c, q⟩
      have k := al_IL w a0 a1 p0 (by omega) u b wt q
      have rr := wd_r wt q
      rw [bz_e0] at z
      have : it σ a 1 = 0 ∨ it σ a 1 = 1 ∨ it σ a 1 = 2 := by omega
      rcases this with e | e | e <;> rw [e] at z k
      · exact z x rr.1.1 (by omega) ⟨k.1.1, k.2.2⟩
      · exact z y rr.2.1.1 (by omega) ⟨k.1.2.1, k.2.2⟩
      · exact z c rr.2.2.1 (by omega) ⟨k.1.2.2.1, k.2.2⟩
    have hX := hX h (fq.mk (fun _ _ => rfl)) rfl t
    rw [mx_b_f no] at hX
    simp (disch := omega) only [mx_vt_h, mx_vt_m, mx_cmp_0, mx_cmp_1, mx_cmp_2, mx_cmp_3, mx_cmp_4, mx_u_s, mx_u_a, mx_u_k, mx_z_a, mx_z_s, mx_t_a, mx_t_2, mx_t_1, mx_t_0, mx_gd_T, mx_gd_t, mx_br_T, mx_br_F, mx_br_t, mx_br_f, mx_br_n, mx_cl_T, mx_cl_t, mx_re_T, mx_re_t, mx_rt_v, mx_rt_0, mx_cu_t, mx_w_id, mx_l_id, mx_b_0, mx_b_1, mx_b_r, mx_nl_0, mx_nl_1, mx_nl_2, mx_nl_n, mx_nl_l, mx_sw_n, mx_sw_h, mx_sw_m, Int.reduceLE, Int.reduceLT, Int.reduceEq, Int.reduceAdd, Int.reduceSub, Int.reduceMul, Int.reduceNeg, Int.reduceToNat, and_self, true_and, and_true, false_and, and_false, true_or, or_true, false_or, or_false, not_true_eq_false, not_false_eq_true, eq_self, rw_X2_fitsAgain, hS.e, nt.t, ne, cb1, s14, bz_bm, z]
    exact mx_W_s hX
  · simp (disch := omega) only [mx_vt_h, mx_vt_m, mx_cmp_0, mx_cmp_1, mx_cmp_2, mx_cmp_3, mx_cmp_4, mx_u_s, mx_u_a, mx_u_k, mx_z_a, mx_z_s, mx_t_a, mx_t_2, mx_t_1, mx_t_0, mx_gd_T, mx_gd_t, mx_br_T, mx_br_F, mx_br_t, mx_br_f, mx_br_n, mx_cl_T, mx_cl_t, mx_re_T, mx_re_t, mx_rt_v, mx_rt_0, mx_cu_t, mx_w_id, mx_l_id, mx_b_0, mx_b_1, mx_b_r, mx_nl_0, mx_nl_1, mx_nl_2, mx_nl_n, mx_nl_l, mx_sw_n, mx_sw_h, mx_sw_m, Int.reduceLE, Int.reduceLT, Int.reduceEq, Int.reduceAdd, Int.reduceSub, Int.reduceMul, Int.reduceNeg, Int.reduceToNat, and_self, true_and, and_true, false_and, and_false, true_or, or_true, false_or, or_false, not_true_eq_false, not_false_eq_true, eq_self, rw_X2_fitsAgain, hS.e, nt.t, ne, cb1, s14, bz_bm, z]
    refine mx_W_r (c_rn hS nt nat a0 (by omega) ?_)
    intro g f
    show mx_W (mx_ex _ _ _ _ [] _ _ _) _
    obtain ⟨tg, xg⟩ := tx_t w a0 a1 p0 (by omega) t f
    have ng : nr S g N P (al σ a p s) a := nt.m (fun x y => f.f x (by omega) (by omega) (by omega))
    have ne2 := ng.e
    rw [ev] at ne2
    let g1 := mx_y g 14 0 13 0 54
    have e13 : ∀ k, 0 ≤ k → k < 54 → g1 13 k = bz 2 17 (Λ k) := by
      intro k k0 k1
      simp only [g1]; rw [mx_y_i k0 (by omega)]
      have : (0 : Int) + (k - 0) = k := by omega
      rw [this, f.f 14 (by decide) (by decide) (by decide)]; exact sd k k0 k1
    have e13e := e13 (it σ a 1) he.1 (by omega)
    have f1 : ∀ x, ¬ x = 13 → g1 x = g x := fun x y => mx_y_a y
    have n1 : nr S g1 N P (al σ a p s) a := ng.m (fun x y => f1 x (by omega))
    let Λ' : Int → Int → Prop := fun k c => Λ k c ∧ (k = it σ a 1 → cb (al σ a p s) a c)
    let g2 := mx_u g1 13 (it σ a 1) (bz 2 17 (fun k => Λ (it σ a 1) k ∧ cb (al σ a p s) a k))
    have f2 : ∀ x, ¬ x = 13 → g2 x = g x := fun x y => by simp only [g2]; rw [mx_u_a y]; exact f1 x y
    have m2 : lim g2 Λ' := by
      intro k k0 k1
      by_cases c : k = it σ a 1
      · simp only [g2]; rw [c, mx_u_s]
        exact bz_c (fun c _ _ => ⟨fun q => ⟨q.1, fun _ => q.2⟩, fun q => ⟨q.1, q.2 rfl⟩⟩)
      · simp only [g2]; rw [mx_u_k c, e13 k k0 k1]
        exact bz_c (fun d _ _ => ⟨fun q => ⟨q, fun x => absurd x c⟩, fun q => q.1⟩)
    have F2 : fl g g2 := fl.mk (fun x _ y => f2 x y)
    have rg : lr g σ := lr.mk (by rw [f.f 3 (by decide) (by decide) (by decide)]; exact r.c) (by rw [f.f 3 (by decide) (by decide) (by decide)]; exact r.L) (fun e a b => by rw [f.f 4 (by decide) (by decide) (by decide)]; exact r.lo e a b) (fun e a b => by rw [f.f 5 (by decide) (by decide) (by decide)]; exact r.hi e a b) (fun l k a b x y => by rw [f.f 6 (by decide) (by decide) (by decide)]; exact r.l l k a b x y)
    have og : ro g := ro.mk (by rw [f.f (-3) (by decide) (by decide) (by decide), f.f (-4) (by decide) (by decide) (by decide)]; exact o.e)
    have rg2 := rg.m F2.f
    have rt : lr g (al σ a p s) := al_r rg a0 (by omega) p0 (by omega)
    have clw := c_lwn (d := d + 3) (S := S) (h := g2) (n := n) (a := a) hS.v w rg2.L (fun l k l0 l1 k0 k1 => rg2.l l k l0 l1 k0 k1)
    have g2n : g2 P 0 = a := by rw [f2 P (by omega)]; exact ng.n
    have n1e := n1.e
    rw [ev] at n1e
    have ng2 : nr S g2 N P (al σ a p s) a := ng.m (fun x y => f2 x (by omega))
    have uu : lk (al σ a p s) Λ' (fun x y z => gA (al σ a p s) (-1) x y z ∧ hk (al σ a p s) xw (σ 1) x y z) (lwn σ a (σ 1)) 0 := by
      intro x y c x0 x1 y0 y1 c0 c1
      have ih := u x y c x0 x1 y0 y1 c0 c1
      have hh : hk (al σ a p s) xw (σ 1) x y c ↔ hk σ xw (σ 1) x y c := by
        unfold hk
        constructor
        · intro k l l0 l1 v z
          have := k l l0 l1 v (by rw [al_tl w a0 (by omega) p0 (by omega) l0]; exact z)
          rw [al_hl w (by omega) p0 (by omega) l0 l1 ((b l l0 l1).mp v)] at this; exact this
        · intro k l l0 l1 v z
          rw [al_tl w a0 (by omega) p0 (by omega) l0] at z
          rw [al_hl w (by omega) p0 (by omega) l0 l1 ((b l l0 l1).mp v)]; exact k l l0 l1 v z
      have hi : IL Λ' x y c ↔ IL Λ x y c ∧ cb (al σ a p s) a (tb x y c (it σ a 1)) := by
        unfold IL
        have : it σ a 1 = 0 ∨ it σ a 1 = 1 ∨ it σ a 1 = 2 := by omega
        simp only [Λ']
        rcases this with e | e | e <;> rw [e]
        · have : tb x y c 0 = x := rfl
          rw [this]
          exact ⟨fun ⟨⟨q0, q⟩, ⟨q1, _⟩, ⟨q2, _⟩, ⟨q3, _⟩, ⟨q4, _⟩, q5, _⟩ => ⟨⟨q0, q1, q2, q3, q4, q5⟩, q rfl⟩, fun ⟨⟨q0, q1, q2, q3, q4, q5⟩, q⟩ => ⟨⟨q0, fun _ => q⟩, ⟨q1, fun z => by omega⟩, ⟨q2, fun z => by omega⟩, ⟨q3, fun z => by omega⟩, ⟨q4, fun z => by omega⟩, q5, fun z => by omega⟩⟩
        · have : tb x y c 1 = y := rfl
          rw [this]
          exact ⟨fun ⟨⟨q0, _⟩, ⟨q1, q⟩, ⟨q2, _⟩, ⟨q3, _⟩, ⟨q4, _⟩, q5, _⟩ => ⟨⟨q0, q1, q2, q3, q4, q5⟩, q rfl⟩, fun ⟨⟨q0, q1, q2, q3, q4, q5⟩, q⟩ => ⟨⟨q0, fun z => by omega⟩, ⟨q1, fun _ => q⟩, ⟨q2, fun z => by omega⟩, ⟨q3, fun z => by omega⟩, ⟨q4, fun z => by omega⟩, q5, fun z => by omega⟩⟩
        · have : tb x y c 2 = c := rfl
          rw [this]
          exact ⟨fun ⟨⟨q0, _⟩, ⟨q1, _⟩, ⟨q2, q⟩, ⟨q3, _⟩, ⟨q4, _⟩, q5, _⟩ => ⟨⟨q0, q1, q2, q3, q4, q5⟩, q rfl⟩, fun ⟨⟨q0, q1, q2, q3, q4, q5⟩, q⟩ => ⟨⟨q0, fun z => by omega⟩, ⟨q1, fun z => by omega⟩, ⟨q2, fun _ => q⟩, ⟨q3, fun z => by omega⟩, ⟨q4, fun z => by omega⟩, q5, fun z => by omega⟩⟩
      rw [hi, ih]
      show _ ↔ (gA (al σ a p s) (-1) x y c ∧ hk (al σ a p s) xw (σ 1) x y c) ∧ _
      rw [al_gA w a0 a1 p0 (by omega), hh]
      exact ⟨fun ⟨⟨q0, q1⟩, q2⟩ => ⟨⟨⟨q0, q2⟩, q1⟩, fun l l0 l1 => by omega⟩, fun ⟨⟨⟨q0, q2⟩, q1⟩, _⟩ => ⟨⟨q0, q1⟩, q2⟩⟩
    have fin := fun l1 l2 => c_fit_l (d := d) (n := n) (Q := Q) (l1 := l1) (l2 := l2) (k := 0) hS wt rt tg og (by decide) (by omega) F2 m2 uu (by
      intro g3 Λ3 f3 m3 u3
      rw [rh_X2_fitsAgain_72]
      have r3 := rt.m f3.f
      have L3 := r3.L
      have L3' : g3 3 4 = σ 1 := by rw [L3, h1]
      have ca := c_allLines (d := d + 3) (S := S) (h := g3) (n := n) hS.v w L3'
      simp (disch := omega) only [mx_vt_h, mx_vt_m, mx_cmp_0, mx_cmp_1, mx_cmp_2, mx_cmp_3, mx_cmp_4, mx_u_s, mx_u_a, mx_u_k, mx_z_a, mx_z_s, mx_t_a, mx_t_2, mx_t_1, mx_t_0, mx_gd_T, mx_gd_t, mx_br_T, mx_br_F, mx_br_t, mx_br_f, mx_br_n, mx_cl_T, mx_cl_t, mx_re_T, mx_re_t, mx_rt_v, mx_rt_0, mx_cu_t, mx_w_id, mx_l_id, mx_b_0, mx_b_1, mx_b_r, mx_nl_0, mx_nl_1, mx_nl_2, mx_nl_n, mx_nl_l, mx_sw_n, mx_sw_h, mx_sw_m, Int.reduceLE, Int.reduceLT, Int.reduceEq, Int.reduceAdd, Int.reduceSub, Int.reduceMul, Int.reduceNeg, Int.reduceToNat, and_self, true_and, and_true, false_and, and_false, true_or, or_true, false_or, or_false, not_true_eq_false, not_false_eq_true, eq_self, rw_X2_fitsAgain, hS.e, L3, ca]
      have u4 : lk (al σ a p s) Λ3 (gA (al σ a p s) (-1)) (aL (σ 1)) (al σ a p s 1) := by
        intro x y c x0 x1 y0 y1 c0 c1
        rw [u3 x y c x0 x1 y0 y1 c0 c1]
        rw [h1]
        constructor
        · rintro ⟨⟨q0, q1⟩, q2⟩
          refine ⟨q0, fun l l0 l1 _ z => ?_⟩
          by_cases y : tn σ l a
          · exact q2 l l0 l1 ((lwn_b w l0 l1).mpr y) z
          · exact q1 l l0 l1 ((b l l0 l1).mpr y) z
        · rintro ⟨q0, q1⟩
          exact ⟨⟨q0, fun l l0 l1 _ z => q1 l l0 l1 (aL_b hL.1 hL.2 l0 l1) z⟩, fun l l0 l1 _ z => q1 l l0 l1 (aL_b hL.1 hL.2 l0 l1) z⟩
      refine mx_W_r (c_iww hS wt r3 (tg.m f3.f) m3 ?_)
      intro g4 f4
      have e1 := sm_w wt u4
      have e2 := ew_a wt
      rw [h1] at e2
      have hX := hX g4 (fq.mk (fun x y => by rw [f4 x (by omega), f3.f x (by omega) (by omega), f.f x (by omega) (by omega) (by omega)])) (by rw [f4 14 (by decide), f3.f 14 (by decide) (by decide), f.f 14 (by decide) (by decide) (by decide)]) (xg.m (fun x y z => by rw [f4 x y, f3.f x y z]))
      rw [← mx_b_i (e1.trans e2)] at hX
      have br := mx_b_r (sm (PL (al σ a p s) Λ3 (aL (σ 1))) 2 2)
      show mx_W (mx_ex _ _ _ _ [_] _ _ _) _
      simp (disch := omega) only [mx_vt_h, mx_vt_m, mx_cmp_0, mx_cmp_1, mx_cmp_2, mx_cmp_3, mx_cmp_4, mx_u_s, mx_u_a, mx_u_k, mx_z_a, mx_z_s, mx_t_a, mx_t_2, mx_t_1, mx_t_0, mx_gd_T, mx_gd_t, mx_br_T, mx_br_F, mx_br_t, mx_br_f, mx_br_n, mx_cl_T, mx_cl_t, mx_re_T, mx_re_t, mx_rt_v, mx_rt_0, mx_cu_t, mx_w_id, mx_l_id, mx_b_0, mx_b_1, mx_b_r, mx_nl_0, mx_nl_1, mx_nl_2, mx_nl_n, mx_nl_l, mx_sw_n, mx_sw_h, mx_sw_m, Int.reduceLE, Int.reduceLT, Int.reduceEq, Int.reduceAdd, Int.reduceSub, Int.reduceMul, Int.reduceNeg, Int.reduceToNat, and_self, true_and, and_true, false_and, and_false, true_or, or_true, false_or, or_false, not_true_eq_false, not_false_eq_true, eq_self, rw_X2_fitsAgain, br]
      exact mx_W_s hX)
    simp only [g2, g1] at clw g2n fin
    simp only [g1] at e13e n1e
    simp (disch := omega) only [mx_vt_h, mx_vt_m, mx_cmp_0, mx_cmp_1, mx_cmp_2, mx_cmp_3, mx_cmp_4, mx_u_s, mx_u_a, mx_u_k, mx_z_a, mx_z_s, mx_t_a, mx_t_2, mx_t_1, mx_t_0, mx_gd_T, mx_gd_t, mx_br_T, mx_br_F, mx_br_t, mx_br_f, mx_br_n, mx_cl_T, mx_cl_t, mx_re_T, mx_re_t, mx_rt_v, mx_rt_0, mx_cu_t, mx_w_id, mx_l_id, mx_b_0, mx_b_1, mx_b_r, mx_nl_0, mx_nl_1, mx_nl_2, mx_nl_n, mx_nl_l, mx_sw_n, mx_sw_h, mx_sw_m, Int.reduceLE, Int.reduceLT, Int.reduceEq, Int.reduceAdd, Int.reduceSub, Int.reduceMul, Int.reduceNeg, Int.reduceToNat, and_self, true_and, and_true, false_and, and_false, true_or, or_true, false_or, or_false, not_true_eq_false, not_false_eq_true, eq_self, rw_X2_fitsAgain, hS.e, ng.t, ne2, n1e, e13e, bz_bm, clw, g2n]
    exact fin _ _
end
