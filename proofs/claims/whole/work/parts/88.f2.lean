/-! The program's finder: limits -/
theorem hl_t {σ β γ : Int → Int} {l : Int} (e : ∀ k, tc σ l k → β k = γ k) : hl σ β l = hl σ γ l := by
  unfold hl
  have ex : wn σ β (ln σ l 1) = wn σ γ (ln σ l 1) := by unfold wn; rw [e _ (Or.inl rfl)]
  rw [ex]
  by_cases s3 : ln σ l 0 = 3
  · simp only [s3]; rfl
  · have ey : wn σ β (ln σ l 2) = wn σ γ (ln σ l 2) := by unfold wn; rw [e _ (Or.inr (Or.inl ⟨s3, rfl⟩))]
    rw [ey]
    by_cases s2 : ln σ l 0 = 2
    · have ez : wn σ β (ln σ l 3) = wn σ γ (ln σ l 3) := by unfold wn; rw [e _ (Or.inr (Or.inr ⟨s2, rfl⟩))]
      rw [ez]
    · simp only [if_neg s2]
/-- the limits as sets -/
def lim (h : mx_H) (Λ : Int → Int → Prop) : Prop := ∀ k, 0 ≤ k → k < 54 → h 13 k = bz 2 17 (Λ k)
def IL (Λ : Int → Int → Prop) (a b c : Int) : Prop := Λ 0 a ∧ Λ 1 b ∧ Λ 2 c ∧ Λ (3 + a) b ∧ Λ (20 + a) c ∧ Λ (37 + b) c
def ro (h : mx_H) : Prop := (h (-3) 0 = -1 ∧ h (-3) 1 = 0 ∧ h (-3) 2 = 1 ∧ h (-3) 3 = 0 ∧ h (-3) 4 = 2 ∧ h (-3) 5 = 0 ∧ h (-3) 6 = 1 ∧ h (-3) 7 = -1 ∧ h (-4) 0 = -1 ∧ h (-4) 1 = -1 ∧ h (-4) 2 = -1 ∧ h (-4) 3 = 1 ∧ h (-4) 4 = -1 ∧ h (-4) 5 = 2 ∧ h (-4) 6 = 2 ∧ h (-4) 7 = -1)
theorem ro.mk {h : mx_H} (x0 : h (-3) 0 = -1 ∧ h (-3) 1 = 0 ∧ h (-3) 2 = 1 ∧ h (-3) 3 = 0 ∧ h (-3) 4 = 2 ∧ h (-3) 5 = 0 ∧ h (-3) 6 = 1 ∧ h (-3) 7 = -1 ∧ h (-4) 0 = -1 ∧ h (-4) 1 = -1 ∧ h (-4) 2 = -1 ∧ h (-4) 3 = 1 ∧ h (-4) 4 = -1 ∧ h (-4) 5 = 2 ∧ h (-4) 6 = 2 ∧ h (-4) 7 = -1) : ro h := x0
theorem ro.e {h : mx_H} (q : ro h) : h (-3) 0 = -1 ∧ h (-3) 1 = 0 ∧ h (-3) 2 = 1 ∧ h (-3) 3 = 0 ∧ h (-3) 4 = 2 ∧ h (-3) 5 = 0 ∧ h (-3) 6 = 1 ∧ h (-3) 7 = -1 ∧ h (-4) 0 = -1 ∧ h (-4) 1 = -1 ∧ h (-4) 2 = -1 ∧ h (-4) 3 = 1 ∧ h (-4) 4 = -1 ∧ h (-4) 5 = 2 ∧ h (-4) 6 = 2 ∧ h (-4) 7 = -1 := q
noncomputable def tt (σ : Int → Int) (l : Int) : Int := bm (fun k => tc σ l k) 3
theorem tt_v {σ : Int → Int} {l : Int} : tt σ l = mx_b (tc σ l 0) + 2 * mx_b (tc σ l 1) + 4 * mx_b (tc σ l 2) := by
  unfold tt; simp only [bm]
  by_cases c0 : tc σ l 0 <;> by_cases c1 : tc σ l 1 <;> by_cases c2 : tc σ l 2 <;> simp [c0, c1, c2, mx_if_t, mx_if_f, mx_b_t, mx_b_f, mx_b, mx_if]
/-- what limitBy leaves alone -/
def fl (h g : mx_H) : Prop := (∀ a, ¬ a = 8 → ¬ a = 13 → g a = h a)
theorem fl.mk {h g : mx_H} (x0 : ∀ a, ¬ a = 8 → ¬ a = 13 → g a = h a) : fl h g := x0
theorem fl.f {h g : mx_H} (q : fl h g) : ∀ a, ¬ a = 8 → ¬ a = 13 → g a = h a := q
theorem bz_bm {P Q : Int → Prop} : mx_and (bz 2 17 P) (bz 2 17 Q) = bz 2 17 (fun k => P k ∧ Q k) := by
  unfold bz; rw [bm_and (by decide)]
  apply bm_c
  intro k _
  constructor
  · rintro ⟨⟨a, b, c⟩, _, _, e⟩; exact ⟨a, b, c, e⟩
  · rintro ⟨a, b, c, e⟩; exact ⟨⟨a, b, c⟩, a, b, e⟩
section
variable {d : Nat} {S h : mx_H} {n : Int} {σ : Int → Int} {Q : Option mx_V → mx_H → mx_H → Int → Prop}
theorem tw.m {g : mx_H} (t : tw h σ) (f : ∀ a, ¬ a = 8 → ¬ a = 13 → g a = h a) : tw g σ :=
  tw.mk (fun i a b => by rw [f 9 (by decide) (by decide)]; exact t.e i a b) (fun i b x y z u => by rw [f 11 (by decide) (by decide)]; exact t.w i b x y z u)
theorem lr.m {g : mx_H} (t : lr h σ) (f : ∀ a, ¬ a = 8 → ¬ a = 13 → g a = h a) : lr g σ :=
  lr.mk (by rw [f 3 (by decide) (by decide)]; exact t.c) (by rw [f 3 (by decide) (by decide)]; exact t.L) (fun e a b => by rw [f 4 (by decide) (by decide)]; exact t.lo e a b) (fun e a b => by rw [f 5 (by decide) (by decide)]; exact t.hi e a b) (fun l k a b x y => by rw [f 6 (by decide) (by decide)]; exact t.l l k a b x y)
/-- a line of one evening narrows it -/
theorem c_lbl1 (hS : sh_F S) (w : vw σ) (r : lr h σ) (t : tw h σ) (o : ro h) {l e : Int} {Λ : Int → Int → Prop} (m : lim h Λ) (l0 : 0 ≤ l) (l1 : l < σ 1) (e0 : 0 ≤ e) (e1 : e ≤ 2) (th : h 12 l = tt σ l) (T : ∀ k, tc σ l k ↔ k = e)
    (hX : ∀ g, fl h g → lim g (fun k b => Λ k b ∧ (k = e → hl σ (fun _ => b) l)) → Q none S g n) :
    mx_W (mx_M (d + 2) 27 [(2, 2), (0, l)] S h n) Q := by
  have hL := w.L
  have ev : h (-3) (tt σ l) = e ∧ h (-4) (tt σ l) = -1 ∧ 0 ≤ tt σ l ∧ tt σ l < 8 := by
    have : e = 0 ∨ e = 1 ∨ e = 2 := by omega
    rw [tt_v]
    rcases this with q | q | q <;> subst q
    · rw [mx_b_t ((T 0).mpr rfl), mx_b_f (fun x => absurd ((T 1).mp x) (by decide)), mx_b_f (fun x => absurd ((T 2).mp x) (by decide))]; refine ⟨?_, ?_, by decide, by decide⟩ <;> simp only [Int.reduceMul, Int.reduceAdd, o.e]
    · rw [mx_b_f (fun x => absurd ((T 0).mp x) (by decide)), mx_b_t ((T 1).mpr rfl), mx_b_f (fun x => absurd ((T 2).mp x) (by decide))]; refine ⟨?_, ?_, by decide, by decide⟩ <;> simp only [Int.reduceMul, Int.reduceAdd, o.e]
    · rw [mx_b_f (fun x => absurd ((T 0).mp x) (by decide)), mx_b_f (fun x => absurd ((T 1).mp x) (by decide)), mx_b_t ((T 2).mpr rfl)]; refine ⟨?_, ?_, by decide, by decide⟩ <;> simp only [Int.reduceMul, Int.reduceAdd, o.e]
  obtain ⟨v1, v2, v3, v4⟩ := ev
  have me := m e e0 (by omega)
  have hc := fun R hX => c_bth (d := d) (n := n) (h := h) (P := Λ e) (Q := R) hS w r t l0 l1 e0 e1 (fun k a b => absurd ((T k).mp a) b) hX
  simp (disch := omega) only [mx_vt_h, mx_vt_m, mx_cmp_0, mx_cmp_1, mx_cmp_2, mx_cmp_3, mx_cmp_4, mx_u_s, mx_u_a, mx_u_k, mx_z_a, mx_z_s, mx_t_a, mx_t_2, mx_t_1, mx_t_0, mx_gd_T, mx_gd_t, mx_br_T, mx_br_F, mx_br_t, mx_br_f, mx_br_n, mx_cl_T, mx_cl_t, mx_re_T, mx_re_t, mx_rt_v, mx_rt_0, mx_cu_t, mx_w_id, mx_l_id, mx_b_0, mx_b_1, mx_b_r, mx_nl_0, mx_nl_1, mx_nl_2, mx_nl_n, mx_nl_l, mx_sw_n, mx_sw_h, mx_sw_m, Int.reduceLE, Int.reduceLT, Int.reduceEq, Int.reduceAdd, Int.reduceSub, Int.reduceMul, Int.reduceNeg, Int.reduceToNat, and_self, true_and, and_true, false_and, and_false, true_or, or_true, false_or, or_false, not_true_eq_false, not_false_eq_true, eq_self, rw_X2_limitByLine, rw_X2_limitByLine_1, hS.e, th, v1, v2, me]
  refine mx_W_r (hc _ ?_)
  intro g q
  show mx_W (mx_ex _ _ _ _ [_, _, _] _ _ _) _
  simp (disch := omega) only [mx_vt_h, mx_vt_m, mx_cmp_0, mx_cmp_1, mx_cmp_2, mx_cmp_3, mx_cmp_4, mx_u_s, mx_u_a, mx_u_k, mx_z_a, mx_z_s, mx_t_a, mx_t_2, mx_t_1, mx_t_0, mx_gd_T, mx_gd_t, mx_br_T, mx_br_F, mx_br_t, mx_br_f, mx_br_n, mx_cl_T, mx_cl_t, mx_re_T, mx_re_t, mx_rt_v, mx_rt_0, mx_cu_t, mx_w_id, mx_l_id, mx_b_0, mx_b_1, mx_b_r, mx_nl_0, mx_nl_1, mx_nl_2, mx_nl_n, mx_nl_l, mx_sw_n, mx_sw_h, mx_sw_m, Int.reduceLE, Int.reduceLT, Int.reduceEq, Int.reduceAdd, Int.reduceSub, Int.reduceMul, Int.reduceNeg, Int.reduceToNat, and_self, true_and, and_true, false_and, and_false, true_or, or_true, false_or, or_false, not_true_eq_false, not_false_eq_true, eq_self, rw_X2_limitByLine, rw_X2_limitByLine_1, hS.e]
  refine mx_W_s (hX _ (fl.mk (fun a a8 a13 => ?_)) ?_)
  · rw [mx_u_a a13]; exact q.f a a8
  · intro k k0 k1
    by_cases ke : k = e
    · subst ke; rw [mx_u_s]
      refine bz_c (fun b _ _ => ?_)
      have : hl σ (up (h 8) k b) l = hl σ (fun _ => b) l := hl_t (fun j hj => by rw [(T j).mp hj]; unfold up; rw [if_pos rfl])
      rw [this]
      exact ⟨fun ⟨a, c⟩ => ⟨a, fun _ => c⟩, fun ⟨a, c⟩ => ⟨a, c rfl⟩⟩
    · rw [mx_u_k ke, q.f 13 (by decide), m k k0 k1]
      exact bz_c (fun b _ _ => ⟨fun a => ⟨a, fun c => absurd c ke⟩, fun a => a.1⟩)
/-- the limits, once a line of two evenings has narrowed the pairs whose first base is below b -/
def l2 (σ : Int → Int) (Λ : Int → Int → Prop) (l e1 e2 pr b : Int) : Int → Int → Prop := fun k c => Λ k c ∧ (pr + 2 ≤ k → k < pr + b → Λ e1 (k - pr) → Λ e2 c ∧ hl σ (up (fun _ => k - pr) e2 c) l)
theorem c_lbl2_l (hS : sh_F S) (w : vw σ) (r : lr h σ) (t : tw h σ) {l e1 e2 pr b : Int} {Λ : Int → Int → Prop} (l0 : 0 ≤ l) (l1 : l < σ 1) (a0 : 0 ≤ e1) (a1 : e1 < e2) (a2 : e2 ≤ 2) (p0 : 3 ≤ pr) (p1 : pr ≤ 37) (T : ∀ k, tc σ l k → k = e1 ∨ k = e2) (b0 : 2 ≤ b) (b1 : b ≤ 17) {g : mx_H} (f : fl h g) (m : lim g (l2 σ Λ l e1 e2 pr b))
    (hX : ∀ g, fl h g → lim g (l2 σ Λ l e1 e2 pr 17) → Q none S g n) :
    mx_W (mx_ex (d + 2) 27 65 [some (2, 2), some (0, l), some (0, e1), some (0, e2), some (0, pr), some (0, b)] [] S g n) Q := by
  rw [rh_X2_limitByLine_65]
  by_cases c : b ≤ 16
  · have m1 := m e1 a0 (by omega)
    have m2 := m e2 (by omega) (by omega)
    have m3 := m (pr + b) (by omega) (by omega)
    by_cases p : Λ e1 b
    · have p' : l2 σ Λ l e1 e2 pr b e1 b := ⟨p, fun x => by omega⟩
      have f1 : ∀ a, ¬ a = 8 → ¬ a = 13 → mx_u g 8 e1 b a = h a := fun a x y => by rw [mx_u_a x]; exact f.f a x y
      have hc := fun R hX => c_bth (d := d) (n := n) (h := mx_u g 8 e1 b) (l := l) (e := e2) (P := fun k => l2 σ Λ l e1 e2 pr b (pr + b) k ∧ l2 σ Λ l e1 e2 pr b e2 k) (Q := R) hS w (r.m f1) (t.m f1) l0 l1 (by omega) a2 (fun k a x => by
        rcases T k a with y | y
        · rw [y, mx_u_s]; omega
        · exact absurd y x) hX
      simp (disch := omega) only [mx_vt_h, mx_vt_m, mx_cmp_0, mx_cmp_1, mx_cmp_2, mx_cmp_3, mx_cmp_4, mx_u_s, mx_u_a, mx_u_k, mx_z_a, mx_z_s, mx_t_a, mx_t_2, mx_t_1, mx_t_0, mx_gd_T, mx_gd_t, mx_br_T, mx_br_F, mx_br_t, mx_br_f, mx_br_n, mx_cl_T, mx_cl_t, mx_re_T, mx_re_t, mx_rt_v, mx_rt_0, mx_cu_t, mx_w_id, mx_l_id, mx_b_0, mx_b_1, mx_b_r, mx_nl_0, mx_nl_1, mx_nl_2, mx_nl_n, mx_nl_l, mx_sw_n, mx_sw_h, mx_sw_m, Int.reduceLE, Int.reduceLT, Int.reduceEq, Int.reduceAdd, Int.reduceSub, Int.reduceMul, Int.reduceNeg, Int.reduceToNat, and_self, true_and, and_true, false_and, and_false, true_or, or_true, false_or, or_false, not_true_eq_false, not_false_eq_true, eq_self, rw_X2_limitByLine, rw_X2_limitByLine_1, hS.e, m1, m2, m3, bz_tst, mx_b_t p', bz_bm]
      refine mx_W_r (hc _ ?_)
      intro g2 q
      show mx_W (mx_ex _ _ _ _ [_, _, _] _ _ _) _
      simp (disch := omega) only [mx_vt_h, mx_vt_m, mx_cmp_0, mx_cmp_1, mx_cmp_2, mx_cmp_3, mx_cmp_4, mx_u_s, mx_u_a, mx_u_k, mx_z_a, mx_z_s, mx_t_a, mx_t_2, mx_t_1, mx_t_0, mx_gd_T, mx_gd_t, mx_br_T, mx_br_F, mx_br_t, mx_br_f, mx_br_n, mx_cl_T, mx_cl_t, mx_re_T, mx_re_t, mx_rt_v, mx_rt_0, mx_cu_t, mx_w_id, mx_l_id, mx_b_0, mx_b_1, mx_b_r, mx_nl_0, mx_nl_1, mx_nl_2, mx_nl_n, mx_nl_l, mx_sw_n, mx_sw_h, mx_sw_m, Int.reduceLE, Int.reduceLT, Int.reduceEq, Int.reduceAdd, Int.reduceSub, Int.reduceMul, Int.reduceNeg, Int.reduceToNat, and_self, true_and, and_true, false_and, and_false, true_or, or_true, false_or, or_false, not_true_eq_false, not_false_eq_true, eq_self, rw_X2_limitByLine, rw_X2_limitByLine_1, hS.e]
      have g13 : ∀ k, ¬ k = pr + b → mx_u g2 13 (pr + b) (bz 2 17 (fun c => (l2 σ Λ l e1 e2 pr b (pr + b) c ∧ l2 σ Λ l e1 e2 pr b e2 c) ∧ hl σ (up (mx_u g 8 e1 b 8) e2 c) l)) 13 k = g 13 k := by
        intro k hk; rw [mx_u_k hk, q.f 13 (by decide), mx_u_a (by decide)]
      refine c_lbl2_l hS w r t l0 l1 a0 a1 a2 p0 p1 T (b := b + 1) (by omega) (by omega) (fl.mk (fun a x y => by rw [mx_u_a y, q.f a x]; exact f1 a x y)) ?_ hX
      intro k k0 k1
      by_cases ke : k = pr + b
      · subst ke; rw [mx_u_s]
        refine bz_c (fun c _ _ => ?_)
        have eu : hl σ (up (mx_u g 8 e1 b 8) e2 c) l = hl σ (up (fun _ => pr + b - pr) e2 c) l := hl_t (fun j hj => by
          unfold up
          rcases T j hj with y | y
          · rw [if_neg (by omega), if_neg (by omega), y, mx_u_s]; show b = pr + b - pr; omega
          · rw [if_pos y, if_pos y])
        have eb : pr + b - pr = b := by omega
        rw [eu]; unfold l2
        constructor
        · rintro ⟨⟨⟨x, _⟩, y, _⟩, z⟩; exact ⟨x, fun _ _ _ => ⟨y, z⟩⟩
        · rintro ⟨x, y⟩
          have y := y (by omega) (by omega) (by rw [eb]; exact p)
          exact ⟨⟨⟨x, fun _ x _ => by omega⟩, y.1, fun x _ => by omega⟩, y.2⟩
      · rw [g13 k ke, m k k0 k1]
        refine bz_c (fun c _ _ => ?_)
        unfold l2
        exact ⟨fun ⟨x, y⟩ => ⟨x, fun u v z => y u (by omega) z⟩, fun ⟨x, y⟩ => ⟨x, fun u v z => y u (by omega) z⟩⟩
    · have p' : ¬ l2 σ Λ l e1 e2 pr b e1 b := fun x => p x.1
      simp (disch := omega) only [mx_vt_h, mx_vt_m, mx_cmp_0, mx_cmp_1, mx_cmp_2, mx_cmp_3, mx_cmp_4, mx_u_s, mx_u_a, mx_u_k, mx_z_a, mx_z_s, mx_t_a, mx_t_2, mx_t_1, mx_t_0, mx_gd_T, mx_gd_t, mx_br_T, mx_br_F, mx_br_t, mx_br_f, mx_br_n, mx_cl_T, mx_cl_t, mx_re_T, mx_re_t, mx_rt_v, mx_rt_0, mx_cu_t, mx_w_id, mx_l_id, mx_b_0, mx_b_1, mx_b_r, mx_nl_0, mx_nl_1, mx_nl_2, mx_nl_n, mx_nl_l, mx_sw_n, mx_sw_h, mx_sw_m, Int.reduceLE, Int.reduceLT, Int.reduceEq, Int.reduceAdd, Int.reduceSub, Int.reduceMul, Int.reduceNeg, Int.reduceToNat, and_self, true_and, and_true, false_and, and_false, true_or, or_true, false_or, or_false, not_true_eq_false, not_false_eq_true, eq_self, rw_X2_limitByLine, rw_X2_limitByLine_1, hS.e, m1, bz_tst, mx_b_f p']
      refine c_lbl2_l hS w r t l0 l1 a0 a1 a2 p0 p1 T (b := b + 1) (by omega) (by omega) f ?_ hX
      intro k k0 k1
      rw [m k k0 k1]
      refine bz_c (fun c _ _ => ?_)
      unfold l2
      constructor
      · rintro ⟨x, y⟩
        refine ⟨x, fun u v z => ?_⟩
        by_cases ke : k = pr + b
        · have : k - pr = b := by omega
          rw [this] at z; exact absurd z p
        · exact y u (by omega) z
      · rintro ⟨x, y⟩; exact ⟨x, fun u v z => y u (by omega) z⟩
  · have e17 : b = 17 := by omega
    subst e17
    simp (disch := omega) only [mx_vt_h, mx_vt_m, mx_cmp_0, mx_cmp_1, mx_cmp_2, mx_cmp_3, mx_cmp_4, mx_u_s, mx_u_a, mx_u_k, mx_z_a, mx_z_s, mx_t_a, mx_t_2, mx_t_1, mx_t_0, mx_gd_T, mx_gd_t, mx_br_T, mx_br_F, mx_br_t, mx_br_f, mx_br_n, mx_cl_T, mx_cl_t, mx_re_T, mx_re_t, mx_rt_v, mx_rt_0, mx_cu_t, mx_w_id, mx_l_id, mx_b_0, mx_b_1, mx_b_r, mx_nl_0, mx_nl_1, mx_nl_2, mx_nl_n, mx_nl_l, mx_sw_n, mx_sw_h, mx_sw_m, Int.reduceLE, Int.reduceLT, Int.reduceEq, Int.reduceAdd, Int.reduceSub, Int.reduceMul, Int.reduceNeg, Int.reduceToNat, and_self, true_and, and_true, false_and, and_false, true_or, or_true, false_or, or_false, not_true_eq_false, not_false_eq_true, eq_self, rw_X2_limitByLine, rw_X2_limitByLine_1]
    exact mx_W_s (hX g f m)
termination_by (17 - b).toNat
end
