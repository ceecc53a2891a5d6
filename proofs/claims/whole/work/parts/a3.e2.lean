/-- a valley has become another one -/
def bec (S h : mx_H) (n v : Int) (τ : Int → Int) (T g : mx_H) (m : Int) : Prop := (rr T g m v τ) ∧ (∀ b, b < n → ¬ b = v + 4 → T b = S b) ∧ (∀ k, k < 0 → T (v + 4) k = S (v + 4) k) ∧ (∀ b, b < n → ¬ (v ≤ b ∧ b ≤ v + 3) → g b = h b) ∧ (n ≤ m ∧ m ≤ n + 12) ∧ (∀ j, 0 ≤ j → j < τ 0 → n ≤ T (v + 4) j ∧ n ≤ T (T (v + 4) j) 2) ∧ (∀ j k, 0 ≤ j → j < τ 0 → 0 ≤ k → k < τ 0 → ¬ j = k → ¬ T (v + 4) j = T (v + 4) k ∧ ¬ T (T (v + 4) j) 2 = T (T (v + 4) k) 2) ∧ (0 ≤ h v 5 → h v 5 ≤ 9999 → g v 5 = h v 5 + 1 + τ 0)
theorem bec.mk {S h : mx_H} {n v : Int} {τ : Int → Int} {T g : mx_H} {m : Int} (x0 : rr T g m v τ) (x1 : ∀ b, b < n → ¬ b = v + 4 → T b = S b) (x2 : ∀ k, k < 0 → T (v + 4) k = S (v + 4) k) (x3 : ∀ b, b < n → ¬ (v ≤ b ∧ b ≤ v + 3) → g b = h b) (x4 : n ≤ m ∧ m ≤ n + 12) (x5 : ∀ j, 0 ≤ j → j < τ 0 → n ≤ T (v + 4) j ∧ n ≤ T (T (v + 4) j) 2) (x6 : ∀ j k, 0 ≤ j → j < τ 0 → 0 ≤ k → k < τ 0 → ¬ j = k → ¬ T (v + 4) j = T (v + 4) k ∧ ¬ T (T (v + 4) j) 2 = T (T (v + 4) k) 2) (x7 : 0 ≤ h v 5 → h v 5 ≤ 9999 → g v 5 = h v 5 + 1 + τ 0) : bec S h n v τ T g m := (And.intro x0 (And.intro x1 (And.intro x2 (And.intro x3 (And.intro x4 (And.intro x5 (And.intro x6 x7)))))))
theorem bec.r {S h : mx_H} {n v : Int} {τ : Int → Int} {T g : mx_H} {m : Int} (q : bec S h n v τ T g m) : rr T g m v τ := (And.left q)
theorem bec.S0 {S h : mx_H} {n v : Int} {τ : Int → Int} {T g : mx_H} {m : Int} (q : bec S h n v τ T g m) : ∀ b, b < n → ¬ b = v + 4 → T b = S b := (And.left (And.right q))
theorem bec.S4 {S h : mx_H} {n v : Int} {τ : Int → Int} {T g : mx_H} {m : Int} (q : bec S h n v τ T g m) : ∀ k, k < 0 → T (v + 4) k = S (v + 4) k := (And.left (And.right (And.right q)))
theorem bec.g0 {S h : mx_H} {n v : Int} {τ : Int → Int} {T g : mx_H} {m : Int} (q : bec S h n v τ T g m) : ∀ b, b < n → ¬ (v ≤ b ∧ b ≤ v + 3) → g b = h b := (And.left (And.right (And.right (And.right q))))
theorem bec.m0 {S h : mx_H} {n v : Int} {τ : Int → Int} {T g : mx_H} {m : Int} (q : bec S h n v τ T g m) : n ≤ m ∧ m ≤ n + 12 := (And.left (And.right (And.right (And.right (And.right q)))))
theorem bec.l {S h : mx_H} {n v : Int} {τ : Int → Int} {T g : mx_H} {m : Int} (q : bec S h n v τ T g m) : ∀ j, 0 ≤ j → j < τ 0 → n ≤ T (v + 4) j ∧ n ≤ T (T (v + 4) j) 2 := (And.left (And.right (And.right (And.right (And.right (And.right q))))))
theorem bec.d {S h : mx_H} {n v : Int} {τ : Int → Int} {T g : mx_H} {m : Int} (q : bec S h n v τ T g m) : ∀ j k, 0 ≤ j → j < τ 0 → 0 ≤ k → k < τ 0 → ¬ j = k → ¬ T (v + 4) j = T (v + 4) k ∧ ¬ T (T (v + 4) j) 2 = T (T (v + 4) k) 2 := (And.left (And.right (And.right (And.right (And.right (And.right (And.right q)))))))
theorem bec.u {S h : mx_H} {n v : Int} {τ : Int → Int} {T g : mx_H} {m : Int} (q : bec S h n v τ T g m) : 0 ≤ h v 5 → h v 5 ≤ 9999 → g v 5 = h v 5 + 1 + τ 0 := (And.right (And.right (And.right (And.right (And.right (And.right (And.right q)))))))
section
variable {S h : mx_H} {n v w : Int} {d : Nat} {τ : Int → Int} {Q : Option mx_V → mx_H → mx_H → Int → Prop}
theorem c_become (s : sv S v) (s' : sv S w) (r : rr S h n w τ) (W : vw τ) (v0 : 0 ≤ v ∧ v ≤ 40) (w0 : 0 ≤ w ∧ w ≤ 40) (n0 : 53 ≤ n) (vw : v + 4 < w ∨ w + 4 < v) (hQ : ∀ T g m, bec S h n v τ T g m → Q none T g m) :
    mx_W (mx_M (d + 6) 86 [(2, v), (2, w)] S h n) Q := by
  have e1 := s.e
  have e2 := s'.e
  have WN := W.N
  obtain ⟨g0, ec, C⟩ := c_clear (d := d + 4) (h := h) (n := n) s v0.1
  have Co : ∀ b, ¬ (v ≤ b ∧ b ≤ v + 2) → g0 b = h b := fun b q => C.o b (by omega) (by omega) (by omega)
  obtain ⟨h1, eh⟩ : ∃ h1, id (mx_y (mx_y g0 (w + 1) 0 (v + 1) 0 3) (w + 2) 0 (v + 2) 0 3 = h1) := ⟨_, rfl⟩
  have eh : mx_y (mx_y g0 (w + 1) 0 (v + 1) 0 3) (w + 2) 0 (v + 2) 0 3 = h1 := eh
  have h1o : ∀ b, ¬ b = v + 1 → ¬ b = v + 2 → h1 b = g0 b := fun b b0 b1 => by rw [← eh, mx_y_a b1, mx_y_a b0]
  have h1l : ∀ e, 0 ≤ e → e ≤ 2 → h1 (v + 1) e = h (w + 1) e := fun e q0 q1 => by
    rw [← eh, mx_y_a (by omega), mx_y_i q0 (by omega), Co _ (by omega)]
    exact congrArg _ (by omega)
  have h1h : ∀ e, 0 ≤ e → e ≤ 2 → h1 (v + 2) e = h (w + 2) e := fun e q0 q1 => by
    rw [← eh, mx_y_i q0 (by omega), mx_y_a (by omega), Co _ (by omega)]
    exact congrArg _ (by omega)
  have r1 : rr S h1 n w τ := r.gg (by rw [h1o w (by omega) (by omega), Co w (by omega)]) (by rw [h1o w (by omega) (by omega), Co w (by omega)]) (by rw [h1o _ (by omega) (by omega), Co _ (by omega)]) (by rw [h1o _ (by omega) (by omega), Co _ (by omega)]) (by rw [h1o _ (by omega) (by omega), Co _ (by omega)]) rfl (fun _ _ _ => rfl) (fun b b0 _ => by rw [h1o b (by omega) (by omega), Co b (by omega)]) (Int.le_refl _)
  have B : bcm S h1 n v τ S h1 n 0 := by
    refine bcm.mk (by omega) (fun _ _ _ => rfl) (fun _ _ => rfl) (fun _ _ _ => rfl) (fun _ _ _ => rfl) ?_ (fun j j0 j1 => absurd j1 (by omega)) (fun j j0 j1 => absurd j1 (by omega)) (fun j k j0 j1 => absurd j1 (by omega)) (fun _ _ => by omega)
    rw [h1o v (by omega) (by omega)]; exact C.c
  have ih := fun l3 => c_bec_l (d := d) (Q := Q) (l3 := l3) s s' r1 W v0 w0 n0 vw (by omega) B (fun T g m b => by
    have bm := b.m
    have gw : g w 4 = τ 1 := by rw [b.g0 w (by omega) (by omega)]; exact r1.L
    have oth : ∀ q, ¬ q = v → ¬ q = v + 3 → mx_u (mx_y g (w + 3) 0 (v + 3) 0 24) v 4 (g w 4) q = g q := fun q a b => by rw [mx_u_a a, mx_y_a b]
    refine hQ _ _ _ (bec.mk (rr.mk ?_ ?_ ?_ ?_ ?_ ?_) b.S0 b.S4 ?_ (by omega) b.l b.d ?_)
    · rw [mx_u_k (by decide), mx_y_a (by omega)]; exact b.c
    · rw [mx_u_s, gw]
    · intro e q0 q1
      rw [oth _ (by omega) (by omega), b.g0 _ (by omega) (by omega), h1l e q0 q1]; exact r.lo e q0 q1
    · intro e q0 q1
      rw [oth _ (by omega) (by omega), b.g0 _ (by omega) (by omega), h1h e q0 q1]; exact r.hi e q0 q1
    · intro l k l0 l1 k0 k1
      have WL := W.L
      rw [mx_u_a (by omega), mx_y_i (by omega) (by omega), b.g0 _ (by omega) (by omega)]
      have : (0 : Int) + (l * 4 + k - 0) = l * 4 + k := by omega
      rw [this]; exact r1.l l k l0 l1 k0 k1
    · intro i q0 q1
      exact (b.n i q0 q1).gg (fun _ _ _ => rfl) (fun q a _ => oth q (by omega) (by omega)) (Int.le_refl _)
    · intro q a c
      rw [oth q (by omega) (by omega), b.g0 q a (by omega), h1o q (by omega) (by omega), Co q (by omega)]
    · intro u0 u1
      have e5 : h1 v 5 = h v 5 + 1 := by rw [h1o v (by omega) (by omega), C.v5, mx_w_id (by omega) (by omega)]
      have := b.u (by omega) (by omega)
      rw [mx_u_k (by decide), mx_y_a (by omega), this, e5])
  simp (disch := omega) only [mx_vt_h, mx_vt_m, mx_cmp_0, mx_cmp_1, mx_cmp_2, mx_cmp_3, mx_cmp_4, mx_u_s, mx_u_a, mx_u_k, mx_z_a, mx_z_s, mx_t_a, mx_t_2, mx_t_1, mx_t_0, mx_gd_T, mx_gd_t, mx_br_T, mx_br_F, mx_br_t, mx_br_f, mx_br_n, mx_cl_T, mx_cl_t, mx_re_T, mx_re_t, mx_rt_v, mx_rt_0, mx_cu_t, mx_w_id, mx_l_id, mx_b_0, mx_b_1, mx_b_r, mx_nl_0, mx_nl_1, mx_nl_2, mx_nl_n, mx_nl_l, mx_sw_n, mx_sw_h, mx_sw_m, Int.reduceLE, Int.reduceLT, Int.reduceEq, Int.reduceAdd, Int.reduceSub, Int.reduceMul, Int.reduceNeg, Int.reduceToNat, and_self, true_and, and_true, false_and, and_false, true_or, or_true, false_or, or_false, not_true_eq_false, not_false_eq_true, eq_self, rw_X10_become, e1, e2, ec, eh]
  exact ih _
end
section
variable {S h : mx_H} {n : Int} {d : Nat}
theorem c_carry_l {a b k : Int} (ab : ¬ a = b) (ta : S a (-2) = 20) (la : S a (-1) = 93) (tb : S b (-2) = 20) (lb : S b (-1) = 93) (k0 : 0 ≤ k ∧ k ≤ 93) : mx_ex d 155 2 [some (2, a), some (2, b), some (0, k)] [] S (fo h b 0 (h a) k) n = some (none, S, fo h b 0 (h a) 93, n) := by
  rw [rh_X12_carry_2]
  by_cases q : k < 93
  · have ih := c_carry_l (k := k + 1) ab ta la tb lb (by omega)
    rw [← fo_s0 k0.1] at ih
    have e : fo h b 0 (h a) k a k = h a k := by rw [fo_o ab]
    simp (disch := omega) only [mx_vt_h, mx_vt_m, mx_cmp_0, mx_cmp_1, mx_cmp_2, mx_cmp_3, mx_cmp_4, mx_u_s, mx_u_a, mx_u_k, mx_z_a, mx_z_s, mx_t_a, mx_t_2, mx_t_1, mx_t_0, mx_gd_T, mx_gd_t, mx_br_T, mx_br_F, mx_br_t, mx_br_f, mx_br_n, mx_cl_T, mx_cl_t, mx_re_T, mx_re_t, mx_rt_v, mx_rt_0, mx_cu_t, mx_w_id, mx_l_id, mx_b_0, mx_b_1, mx_b_r, mx_nl_0, mx_nl_1, mx_nl_2, mx_nl_n, mx_nl_l, mx_sw_n, mx_sw_h, mx_sw_m, Int.reduceLE, Int.reduceLT, Int.reduceEq, Int.reduceAdd, Int.reduceSub, Int.reduceMul, Int.reduceNeg, Int.reduceToNat, and_self, true_and, and_true, false_and, and_false, true_or, or_true, false_or, or_false, not_true_eq_false, not_false_eq_true, eq_self, rw_X12_carry, ta, la, tb, lb, e]
    exact ih
  · have e : k = 93 := by omega
    subst e
    simp (disch := omega) only [mx_vt_h, mx_vt_m, mx_cmp_0, mx_cmp_1, mx_cmp_2, mx_cmp_3, mx_cmp_4, mx_u_s, mx_u_a, mx_u_k, mx_z_a, mx_z_s, mx_t_a, mx_t_2, mx_t_1, mx_t_0, mx_gd_T, mx_gd_t, mx_br_T, mx_br_F, mx_br_t, mx_br_f, mx_br_n, mx_cl_T, mx_cl_t, mx_re_T, mx_re_t, mx_rt_v, mx_rt_0, mx_cu_t, mx_w_id, mx_l_id, mx_b_0, mx_b_1, mx_b_r, mx_nl_0, mx_nl_1, mx_nl_2, mx_nl_n, mx_nl_l, mx_sw_n, mx_sw_h, mx_sw_m, Int.reduceLE, Int.reduceLT, Int.reduceEq, Int.reduceAdd, Int.reduceSub, Int.reduceMul, Int.reduceNeg, Int.reduceToNat, and_self, true_and, and_true, false_and, and_false, true_or, or_true, false_or, or_false, not_true_eq_false, not_false_eq_true, eq_self, rw_X12_carry]
termination_by (93 - k).toNat
decreasing_by omega
theorem c_carry {a b : Int} (ab : ¬ a = b) (ta : S a (-2) = 20) (la : S a (-1) = 93) (tb : S b (-2) = 20) (lb : S b (-1) = 93) : mx_M d 155 [(2, a), (2, b)] S h n = some (none, S, fo h b 0 (h a) 93, n) := by
  have ih := c_carry_l (d := d) (n := n) (h := h) (k := 0) ab ta la tb lb (by decide)
  rw [fo_0] at ih
  simp (disch := omega) only [mx_vt_h, mx_vt_m, mx_cmp_0, mx_cmp_1, mx_cmp_2, mx_cmp_3, mx_cmp_4, mx_u_s, mx_u_a, mx_u_k, mx_z_a, mx_z_s, mx_t_a, mx_t_2, mx_t_1, mx_t_0, mx_gd_T, mx_gd_t, mx_br_T, mx_br_F, mx_br_t, mx_br_f, mx_br_n, mx_cl_T, mx_cl_t, mx_re_T, mx_re_t, mx_rt_v, mx_rt_0, mx_cu_t, mx_w_id, mx_l_id, mx_b_0, mx_b_1, mx_b_r, mx_nl_0, mx_nl_1, mx_nl_2, mx_nl_n, mx_nl_l, mx_sw_n, mx_sw_h, mx_sw_m, Int.reduceLE, Int.reduceLT, Int.reduceEq, Int.reduceAdd, Int.reduceSub, Int.reduceMul, Int.reduceNeg, Int.reduceToNat, and_self, true_and, and_true, false_and, and_false, true_or, or_true, false_or, or_false, not_true_eq_false, not_false_eq_true, eq_self, rw_X12_carry]
  exact ih
theorem fo_93 {a b k : Int} (k0 : 0 ≤ k) (k1 : k ≤ 92) : fo h b 0 (h a) 93 b k = h a k := by rw [fo_i k0 (by omega), Int.sub_zero]
end
section
variable {L : Nat} {x : Nat → Int32} {S T h g : mx_H} {n m c : Int} {d : Nat}
/-- the valley at hand is another one -/
theorem Inv.A (v : Inv L x S h n c) (hc : c ≤ 599) (t : stt T g m) (kp : kpt T g m) (sf : ∀ a k, ok a k → T a k = S a k) (sn : ∀ a, a < 0 → T a = S a) (s32 : T 32 = S 32) (s35 : T 35 = S 35) (sS : ∀ a, 53 ≤ a → a < n → T a = S a)
    (f : ∀ a, a < 53 → ¬ a = 39 → ¬ a = 40 → ¬ a = 0 → ¬ a = 38 → ¬ (3 ≤ a ∧ a ≤ 6) → ¬ (17 ≤ a ∧ a ≤ 20) → g a = h a) (f0 : ∀ k, ¬ (5 ≤ k ∧ k ≤ 7) → g 0 k = h 0 k) (f38 : ∀ k, ¬ k = 3 → g 38 k = h 38 k) (hh : ∀ a, 53 ≤ a → a < n → g a = h a) (fn : fnd g (c + 1)) (le : n ≤ m) (lm : m ≤ n + 24) : Inv L x T g m (c + 1) := by
  have ff : ∀ a, (20 < a ∧ a < 38 ∨ 40 < a ∧ a < 53 ∨ a < 0 ∨ a = 1 ∨ a = 2) → g a = h a := fun a q => f a (by omega) (by omega) (by omega) (by omega) (by omega) (by omega) (by omega)
  refine Inv.mk (v.s.gg sf sn) (fun a z => by rw [ff a (by omega)]; exact v.g a z) (by have := v.n; omega) (by have := v.c; omega) t kp ?_ ?_ ?_ ?_ ?_ fn
  · exact v.p.gg (f0 1 (by decide)) (f38 5 (by decide)) (ff 1 (by decide)) (ff 42 (by decide))
  · exact v.r.gg (f0 10 (by decide)) (f38 15 (by decide)) (ff 30 (by decide)) (ff 46 (by decide))
  · exact v.b.gg (ff 47 (by decide)) (ff 48 (by decide)) (ff 49 (by decide)) s32 sS (fun a y z _ => hh a y z) le
  · exact v.l.gg (ff 33 (by decide)) (ff 34 (by decide)) (ff 50 (by decide)) (ff 51 (by decide)) s35 sS (fun a y z _ => hh a y z) le
  · exact v.i.gg (ff 36 (by decide)) (f38 22 (by decide)) (ff 37 (by decide)) (ff 52 (by decide))
theorem a_keep (hc : c ≤ 599) : ag L x 140 246 [] 0 c := by
  intro d S h n v
  have hX := v.s.x.e
  have hF := v.s.f.e
  have hM := v.s.m.e
  have w := v.t.w
  have hN := w.N
  have vn := v.n
  simp (disch := omega) only [mx_vt_h, mx_vt_m, mx_cmp_0, mx_cmp_1, mx_cmp_2, mx_cmp_3, mx_cmp_4, mx_u_s, mx_u_a, mx_u_k, mx_z_a, mx_z_s, mx_t_a, mx_t_2, mx_t_1, mx_t_0, mx_gd_T, mx_gd_t, mx_br_T, mx_br_F, mx_br_t, mx_br_f, mx_br_n, mx_cl_T, mx_cl_t, mx_re_T, mx_re_t, mx_rt_v, mx_rt_0, mx_cu_t, mx_w_id, mx_l_id, mx_b_0, mx_b_1, mx_b_r, mx_nl_0, mx_nl_1, mx_nl_2, mx_nl_n, mx_nl_l, mx_sw_n, mx_sw_h, mx_sw_m, Int.reduceLE, Int.reduceLT, Int.reduceEq, Int.reduceAdd, Int.reduceSub, Int.reduceMul, Int.reduceNeg, Int.reduceToNat, and_self, true_and, and_true, false_and, and_false, true_or, or_true, false_or, or_false, not_true_eq_false, not_false_eq_true, eq_self, rw_X11_keep, hX, hF, v.s.k.e]
  refine mx_W_r (c_become v.s.k v.s.f.v v.t.r w (by decide) (by decide) (by omega) (by decide) ?_)
  intro T g1 m B
  have T0 : ∀ b, b < n → ¬ b = 21 → T b = S b := B.S0
  have G0 : ∀ b, b < n → ¬ (17 ≤ b ∧ b ≤ 20) → g1 b = h b := B.g0
  have B4 : ∀ k, k < 0 → T 21 k = S 21 k := B.S4
  have m0 := B.m0
  have e0 : T 0 = S 0 := T0 0 (by omega) (by decide)
  have mT : sh_M T := by
    refine sh_M.mk ?_
    have oT : ∀ b, 38 ≤ b → b ≤ 52 → T b = S b := fun b b0 b1 => T0 b (by omega) (by omega)
    simp (disch := omega) only [oT]; exact hM
  have hM2 := mT.e
  show mx_W (mx_ex _ _ _ _ [] _ _ _) _
  have g06 : g1 0 6 = h 0 6 := by rw [G0 0 (by omega) (by decide)]
  simp (disch := omega) only [mx_vt_h, mx_vt_m, mx_cmp_0, mx_cmp_1, mx_cmp_2, mx_cmp_3, mx_cmp_4, mx_u_s, mx_u_a, mx_u_k, mx_z_a, mx_z_s, mx_t_a, mx_t_2, mx_t_1, mx_t_0, mx_gd_T, mx_gd_t, mx_br_T, mx_br_F, mx_br_t, mx_br_f, mx_br_n, mx_cl_T, mx_cl_t, mx_re_T, mx_re_t, mx_rt_v, mx_rt_0, mx_cu_t, mx_w_id, mx_l_id, mx_b_0, mx_b_1, mx_b_r, mx_nl_0, mx_nl_1, mx_nl_2, mx_nl_n, mx_nl_l, mx_sw_n, mx_sw_h, mx_sw_m, Int.reduceLE, Int.reduceLT, Int.reduceEq, Int.reduceAdd, Int.reduceSub, Int.reduceMul, Int.reduceNeg, Int.reduceToNat, and_self, true_and, and_true, false_and, and_false, true_or, or_true, false_or, or_false, not_true_eq_false, not_false_eq_true, eq_self, rw_X11_keep, e0, hX, g06]
  refine mx_W_s ?_
  obtain ⟨g2, e2⟩ : ∃ g2, id (mx_u (mx_u g1 0 7 (h 0 6)) 0 5 1 = g2) := ⟨_, rfl⟩
  have e2 : mx_u (mx_u g1 0 7 (h 0 6)) 0 5 1 = g2 := e2
  try rw [e2]
  have cc := c_carry (d := d + 11) (S := T) (h := g2) (n := m) (a := 39) (b := 40) (by decide) (by omega) (by omega) (by omega) (by omega)
  simp (disch := omega) only [mx_vt_h, mx_vt_m, mx_cmp_0, mx_cmp_1, mx_cmp_2, mx_cmp_3, mx_cmp_4, mx_u_s, mx_u_a, mx_u_k, mx_z_a, mx_z_s, mx_t_a, mx_t_2, mx_t_1, mx_t_0, mx_gd_T, mx_gd_t, mx_br_T, mx_br_F, mx_br_t, mx_br_f, mx_br_n, mx_cl_T, mx_cl_t, mx_re_T, mx_re_t, mx_rt_v, mx_rt_0, mx_cu_t, mx_w_id, mx_l_id, mx_b_0, mx_b_1, mx_b_r, mx_nl_0, mx_nl_1, mx_nl_2, mx_nl_n, mx_nl_l, mx_sw_n, mx_sw_h, mx_sw_m, Int.reduceLE, Int.reduceLT, Int.reduceEq, Int.reduceAdd, Int.reduceSub, Int.reduceMul, Int.reduceNeg, Int.reduceToNat, and_self, true_and, and_true, false_and, and_false, true_or, or_true, false_or, or_false, not_true_eq_false, not_false_eq_true, eq_self, rw_X12_keep, hM2, cc]
  refine mx_W_s ⟨⟨_, rfl, rfl⟩, ?_⟩
  obtain ⟨g, e3⟩ : ∃ g, id (mx_u (fo g2 40 0 (g2 39) 93) 38 3 1 = g) := ⟨_, rfl⟩
  have e3 : mx_u (fo g2 40 0 (g2 39) 93) 38 3 1 = g := e3
  try rw [e3]
  have f2 : ∀ b, ¬ b = 0 → g2 b = g1 b := fun b q => by rw [← e2, mx_u_a q, mx_u_a q]
  have f3 : ∀ b, ¬ b = 38 → ¬ b = 40 → g b = g2 b := fun b q r => by rw [← e3, mx_u_a q, fo_o r]
  have F : ∀ b, b < n → ¬ (17 ≤ b ∧ b ≤ 20) → ¬ b = 38 → ¬ b = 40 → ¬ b = 0 → g b = h b := fun b q0 q1 q2 q3 q4 => by rw [f3 b q2 q3, f2 b q4, G0 b q0 q1]
  have e39 : g 39 = h 39 := F 39 (by omega) (by decide) (by decide) (by decide) (by decide)
  have e40 : ∀ k, 0 ≤ k → k ≤ 92 → g 40 k = h 39 k := fun k k0 k1 => by rw [← e3, mx_u_a (by decide), fo_93 k0 k1, f2 39 (by decide), G0 39 (by omega) (by decide)]
  have g38 : g 38 3 = 1 := by rw [← e3, mx_u_s]
  have g38' : ∀ k, ¬ k = 3 → g 38 k = h 38 k := fun k q => by rw [← e3, mx_u_k q, fo_o (by decide), f2 38 (by decide), G0 38 (by omega) (by decide)]
  have g05 : g 0 5 = 1 := by rw [f3 0 (by decide) (by decide), ← e2, mx_u_s]
  have g07 : g 0 7 = h 0 6 := by rw [f3 0 (by decide) (by decide), ← e2, mx_u_k (by decide), mx_u_s]
  have g0o : ∀ k, ¬ k = 5 → ¬ k = 7 → g 0 k = h 0 k := fun k q r => by rw [f3 0 (by decide) (by decide), ← e2, mx_u_k q, mx_u_k r, G0 0 (by omega) (by decide)]
  have fB : ∀ b, ¬ b = 38 → ¬ b = 40 → ¬ b = 0 → g b = g1 b := fun b q r s => by rw [f3 b q r, f2 b s]
  have qq : qv (h 39) (g 40) := fun k a b _ => e40 k a b
  have rT : rr T g m 17 (h 39) := B.r.gg (by rw [fB 17 (by decide) (by decide) (by decide)]) (by rw [fB 17 (by decide) (by decide) (by decide)]) (fB 18 (by decide) (by decide) (by decide)) (fB 19 (by decide) (by decide) (by decide)) (fB 20 (by decide) (by decide) (by decide)) rfl (fun _ _ _ => rfl) (fun b b0 _ => fB b (by omega) (by omega) (by omega)) (Int.le_refl _)
  refine v.A hc ?_ ?_ ?_ (fun b q => T0 b (by omega) (by omega)) (T0 32 (by omega) (by decide)) (T0 35 (by omega) (by decide)) (fun b _ q => T0 b q (by omega)) (fun b a0 a1 a2 a3 a4 _ a5 => F b (by omega) (by omega) a4 a2 a3) (fun k q => g0o k (by omega) (by omega)) g38' (fun b a0 a1 => F b a1 (by omega) (by omega) (by omega) (by omega)) ?_ (by omega) (by omega)
  · exact v.t.gg e39 (g0o 6 (by decide) (by decide)) (by rw [F 3 (by omega) (by decide) (by decide) (by decide) (by decide)]) (by rw [F 3 (by omega) (by decide) (by decide) (by decide) (by decide)]) (F 4 (by omega) (by decide) (by decide) (by decide) (by decide)) (F 5 (by omega) (by decide) (by decide) (by decide) (by decide)) (F 6 (by omega) (by decide) (by decide) (by decide) (by decide)) (T0 7 (by omega) (by decide)) (fun b _ q => T0 b q (by omega)) (fun b a0 a1 => F b a1 (by omega) (by omega) (by omega) (by omega)) (by omega)
  · refine kpt.mk (by rw [g05, g38]) (Or.inr g38) (fun _ => vw_q w qq) (fun _ => rr_q w qq rT) (fun _ => by rw [g07, v.t.u, e40 2 (by decide) (by decide)]) (fun _ => ?_)
    intro i j i0 i1 j0 j1
    rw [e39] at i1
    rw [e40 0 (by decide) (by decide)] at j1
    have ri := v.nr ⟨i0, i1⟩
    have p0 := ri.p0
    have p1 := ri.p1
    have q1 := ri.q1
    have lj : n ≤ T 21 j ∧ n ≤ T (T 21 j) 2 := B.l j j0 j1
    rw [T0 7 (by omega) (by decide), T0 (S 7 i) p1 (by omega)]
    omega
  · intro b k q
    by_cases z : b = 21
    · subst z
      exact B4 k (by unfold ok at q; omega)
    · rw [T0 b (by unfold ok at q; omega) z]
  · exact (v.f.gg (F 2 (by omega) (by decide) (by decide) (by decide) (by decide)) (F 15 (by omega) (by decide) (by decide) (by decide) (by decide)) (F 16 (by omega) (by decide) (by decide) (by decide) (by decide)) (by rw [F 3 (by omega) (by decide) (by decide) (by decide) (by decide)]) e39).cc
theorem a_again (hc : c ≤ 599) : ag L x 141 247 [] 0 c := by
  intro d S h n v
  have hX := v.s.x.e
  have hF := v.s.f.e
  have hM := v.s.m.e
  have w := v.t.w
  have vn := v.n
  have vc := v.c
  have kb := v.k.b
  rcases v.k.c with q | q
  · rw [q] at kb
    refine ag_p v hc (y := -3) ?_ ?_
    · simp (disch := omega) only [mx_vt_h, mx_vt_m, mx_cmp_0, mx_cmp_1, mx_cmp_2, mx_cmp_3, mx_cmp_4, mx_u_s, mx_u_a, mx_u_k, mx_z_a, mx_z_s, mx_t_a, mx_t_2, mx_t_1, mx_t_0, mx_gd_T, mx_gd_t, mx_br_T, mx_br_F, mx_br_t, mx_br_f, mx_br_n, mx_cl_T, mx_cl_t, mx_re_T, mx_re_t, mx_rt_v, mx_rt_0, mx_cu_t, mx_w_id, mx_l_id, mx_b_0, mx_b_1, mx_b_r, mx_nl_0, mx_nl_1, mx_nl_2, mx_nl_n, mx_nl_l, mx_sw_n, mx_sw_h, mx_sw_m, Int.reduceLE, Int.reduceLT, Int.reduceEq, Int.reduceAdd, Int.reduceSub, Int.reduceMul, Int.reduceNeg, Int.reduceToNat, and_self, true_and, and_true, false_and, and_false, true_or, or_true, false_or, or_false, not_true_eq_false, not_false_eq_true, eq_self, rw_X11_again, hX, kb]
    · simp (disch := omega) only [mx_vt_h, mx_vt_m, mx_cmp_0, mx_cmp_1, mx_cmp_2, mx_cmp_3, mx_cmp_4, mx_u_s, mx_u_a, mx_u_k, mx_z_a, mx_z_s, mx_t_a, mx_t_2, mx_t_1, mx_t_0, mx_gd_T, mx_gd_t, mx_br_T, mx_br_F, mx_br_t, mx_br_f, mx_br_n, mx_cl_T, mx_cl_t, mx_re_T, mx_re_t, mx_rt_v, mx_rt_0, mx_cu_t, mx_w_id, mx_l_id, mx_b_0, mx_b_1, mx_b_r, mx_nl_0, mx_nl_1, mx_nl_2, mx_nl_n, mx_nl_l, mx_sw_n, mx_sw_h, mx_sw_m, Int.reduceLE, Int.reduceLT, Int.reduceEq, Int.reduceAdd, Int.reduceSub, Int.reduceMul, Int.reduceNeg, Int.reduceToNat, and_self, true_and, and_true, false_and, and_false, true_or, or_true, false_or, or_false, not_true_eq_false, not_false_eq_true, eq_self, rw_X12_again, hM, q]
  · rw [q] at kb
    have W := v.k.w q
    have WN := W.N
    simp (disch := omega) only [mx_vt_h, mx_vt_m, mx_cmp_0, mx_cmp_1, mx_cmp_2, mx_cmp_3, mx_cmp_4, mx_u_s, mx_u_a, mx_u_k, mx_z_a, mx_z_s, mx_t_a, mx_t_2, mx_t_1, mx_t_0, mx_gd_T, mx_gd_t, mx_br_T, mx_br_F, mx_br_t, mx_br_f, mx_br_n, mx_cl_T, mx_cl_t, mx_re_T, mx_re_t, mx_rt_v, mx_rt_0, mx_cu_t, mx_w_id, mx_l_id, mx_b_0, mx_b_1, mx_b_r, mx_nl_0, mx_nl_1, mx_nl_2, mx_nl_n, mx_nl_l, mx_sw_n, mx_sw_h, mx_sw_m, Int.reduceLE, Int.reduceLT, Int.reduceEq, Int.reduceAdd, Int.reduceSub, Int.reduceMul, Int.reduceNeg, Int.reduceToNat, and_self, true_and, and_true, false_and, and_false, true_or, or_true, false_or, or_false, not_true_eq_false, not_false_eq_true, eq_self, rw_X11_again, hX, hF, kb]
    refine mx_W_r (c_become v.s.f.v v.s.k (v.k.r q) W (by decide) (by decide) (by omega) (by decide) ?_)
    intro T g1 m B
    have T0 : ∀ b, b < n → ¬ b = 7 → T b = S b := B.S0
    have G0 : ∀ b, b < n → ¬ (3 ≤ b ∧ b ≤ 6) → g1 b = h b := B.g0
    have B4 : ∀ k, k < 0 → T 7 k = S 7 k := B.S4
    have m0 := B.m0
    have e0 : T 0 = S 0 := T0 0 (by omega) (by decide)
    have e3 : T 3 = S 3 := T0 3 (by omega) (by decide)
    have mT : sh_M T := by
      refine sh_M.mk ?_
      have oT : ∀ b, 38 ≤ b → b ≤ 52 → T b = S b := fun b b0 b1 => T0 b (by omega) (by omega)
      simp (disch := omega) only [oT]; exact hM
    have hM2 := mT.e
    show mx_W (mx_ex _ _ _ _ [] _ _ _) _
    have g07 : g1 0 7 = h 0 7 := by rw [G0 0 (by omega) (by decide)]
    have c3 : g1 3 3 = h 40 0 := B.r.c
    simp (disch := omega) only [mx_vt_h, mx_vt_m, mx_cmp_0, mx_cmp_1, mx_cmp_2, mx_cmp_3, mx_cmp_4, mx_u_s, mx_u_a, mx_u_k, mx_z_a, mx_z_s, mx_t_a, mx_t_2, mx_t_1, mx_t_0, mx_gd_T, mx_gd_t, mx_br_T, mx_br_F, mx_br_t, mx_br_f, mx_br_n, mx_cl_T, mx_cl_t, mx_re_T, mx_re_t, mx_rt_v, mx_rt_0, mx_cu_t, mx_w_id, mx_l_id, mx_b_0, mx_b_1, mx_b_r, mx_nl_0, mx_nl_1, mx_nl_2, mx_nl_n, mx_nl_l, mx_sw_n, mx_sw_h, mx_sw_m, Int.reduceLE, Int.reduceLT, Int.reduceEq, Int.reduceAdd, Int.reduceSub, Int.reduceMul, Int.reduceNeg, Int.reduceToNat, and_self, true_and, and_true, false_and, and_false, true_or, or_true, false_or, or_false, not_true_eq_false, not_false_eq_true, eq_self, rw_X11_again, e0, e3, hX, hF, g07, c3]
    refine mx_W_s ?_
    obtain ⟨g2, e2⟩ : ∃ g2, id (mx_u g1 0 6 (h 0 7) = g2) := ⟨_, rfl⟩
    have e2 : mx_u g1 0 6 (h 0 7) = g2 := e2
    try rw [e2]
    have cc := c_carry (d := d + 11) (S := T) (h := g2) (n := m) (a := 40) (b := 39) (by decide) (by omega) (by omega) (by omega) (by omega)
    have f2 : ∀ b, ¬ b = 0 → g2 b = g1 b := fun b q => by rw [← e2, mx_u_a q]
    have k38 : g2 38 3 = 1 := by rw [f2 38 (by decide), G0 38 (by omega) (by decide)]; exact q
    obtain ⟨g, e4⟩ : ∃ g, id (fo g2 39 0 (g2 40) 93 = g) := ⟨_, rfl⟩
    have e4 : fo g2 39 0 (g2 40) 93 = g := e4
    rw [e4] at cc
    have f3 : ∀ b, ¬ b = 39 → g b = g2 b := fun b r => by rw [← e4, fo_o r]
    have F : ∀ b, b < n → ¬ (3 ≤ b ∧ b ≤ 6) → ¬ b = 39 → ¬ b = 0 → g b = h b := fun b q0 q1 q2 q3 => by rw [f3 b q2, f2 b q3, G0 b q0 q1]
    have e39 : ∀ k, 0 ≤ k → k ≤ 92 → g 39 k = h 40 k := fun k k0 k1 => by rw [← e4, fo_93 k0 k1, f2 40 (by decide), G0 40 (by omega) (by decide)]
    have e390 := e39 0 (by decide) (by decide)
    simp (disch := omega) only [mx_vt_h, mx_vt_m, mx_cmp_0, mx_cmp_1, mx_cmp_2, mx_cmp_3, mx_cmp_4, mx_u_s, mx_u_a, mx_u_k, mx_z_a, mx_z_s, mx_t_a, mx_t_2, mx_t_1, mx_t_0, mx_gd_T, mx_gd_t, mx_br_T, mx_br_F, mx_br_t, mx_br_f, mx_br_n, mx_cl_T, mx_cl_t, mx_re_T, mx_re_t, mx_rt_v, mx_rt_0, mx_cu_t, mx_w_id, mx_l_id, mx_b_0, mx_b_1, mx_b_r, mx_nl_0, mx_nl_1, mx_nl_2, mx_nl_n, mx_nl_l, mx_sw_n, mx_sw_h, mx_sw_m, Int.reduceLE, Int.reduceLT, Int.reduceEq, Int.reduceAdd, Int.reduceSub, Int.reduceMul, Int.reduceNeg, Int.reduceToNat, and_self, true_and, and_true, false_and, and_false, true_or, or_true, false_or, or_false, not_true_eq_false, not_false_eq_true, eq_self, rw_X12_again, hM2, k38, cc, e390]
    refine mx_W_s ⟨⟨_, rfl, rfl⟩, ?_⟩
    have e40 : g 40 = h 40 := F 40 (by omega) (by decide) (by decide) (by decide)
    have g06 : g 0 6 = h 0 7 := by rw [f3 0 (by decide), ← e2, mx_u_s]
    have g0o : ∀ k, ¬ k = 6 → g 0 k = h 0 k := fun k r => by rw [f3 0 (by decide), ← e2, mx_u_k r, G0 0 (by omega) (by decide)]
    have fB : ∀ b, ¬ b = 39 → ¬ b = 0 → g b = g1 b := fun b r s => by rw [f3 b r, f2 b s]
    have qq : qv (h 40) (g 39) := fun k a b _ => e39 k a b
    have rT : rr T g m 3 (h 40) := B.r.gg (by rw [fB 3 (by decide) (by decide)]) (by rw [fB 3 (by decide) (by decide)]) (fB 4 (by decide) (by decide)) (fB 5 (by decide) (by decide)) (fB 6 (by decide) (by decide)) rfl (fun _ _ _ => rfl) (fun b b0 _ => fB b (by omega) (by omega)) (Int.le_refl _)
    have F38 := F 38 (by omega) (by decide) (by decide) (by decide)
    have Bl : ∀ j, 0 ≤ j → j < h 40 0 → n ≤ T 7 j ∧ n ≤ T (T 7 j) 2 := B.l
    refine v.A hc (stt.mk (vw_q W qq) (rr_q W qq rT) ?_ ?_) ?_ ?_ (fun b q => T0 b (by omega) (by omega)) (T0 32 (by omega) (by decide)) (T0 35 (by omega) (by decide)) (fun b _ q => T0 b q (by omega)) (fun b a0 a1 a2 a3 a4 a5 _ => F b (by omega) a5 a1 a3) (fun k q => g0o k (by omega)) (fun k _ => by rw [F38]) (fun b a0 a1 => F b a1 (by omega) (by omega) (by omega)) ?_ (by omega) (by omega)
    · intro i j i0 i1 j0 j1 z
      rw [e390] at i1 j1
      exact B.d i j i0 i1 j0 j1 z
    · rw [g06, v.k.u q, e39 2 (by decide) (by decide)]
    · refine kpt.mk (by rw [g0o 5 (by decide), F38]; exact v.k.b) (by rw [F38]; exact v.k.c) (fun _ => by rw [e40]; exact W) (fun _ => ?_) (fun _ => by rw [g0o 7 (by decide), e40]; exact v.k.u q) (fun _ => ?_)
      · rw [e40]
        exact (v.k.r q).gg (by rw [F 17 (by omega) (by decide) (by decide) (by decide)]) (by rw [F 17 (by omega) (by decide) (by decide) (by decide)]) (F 18 (by omega) (by decide) (by decide) (by decide)) (F 19 (by omega) (by decide) (by decide) (by decide)) (F 20 (by omega) (by decide) (by decide) (by decide)) (T0 21 (by omega) (by decide)) (fun b _ r => T0 b r (by omega)) (fun b a0 a1 => F b a1 (by omega) (by omega) (by omega)) (by omega)
      · intro i j i0 i1 j0 j1
        rw [e390] at i1
        rw [e40] at j1
        have li := Bl i i0 i1
        have rj : CRoomNumbersLaw_law_r7303_6997d3.nr S h n (S 21 j) (h 40) j := (v.k.r q).n j j0 j1
        have p0 := rj.p0
        have p1 := rj.p1
        have q1 := rj.q1
        rw [T0 21 (by omega) (by decide), T0 (S 21 j) p1 (by omega)]
        omega
    · intro b k r
      by_cases z : b = 7
      · subst z
        exact B4 k (by unfold ok at r; omega)
      · rw [T0 b (by unfold ok at r; omega) z]
    · have vv := v.f.v
      have u := B.u (by omega) (by omega)
      have u2 : g 3 5 = h 3 5 + (1 + h 40 0) := by rw [fB 3 (by decide) (by decide), u]; omega
      exact v.f.nn (F 2 (by omega) (by decide) (by decide) (by decide)) (F 15 (by omega) (by decide) (by decide) (by decide)) u2 (by omega) (by omega)
end
