/-! note -/
theorem bt_15 : ∀ k : Fin 32, bt 15 k.val ↔ k.val < 4 := by
  unfold bt; decide
theorem an_15 (y : Int) : 0 ≤ mx_and y 15 ∧ mx_and y 15 ≤ 15 := by
  have e : mx_and y 15 = bm (fun k => bt y k) 4 := by
    refine bm_x (by decide) (bt_in_and _ _).1 (bt_in_and _ _).2 (fun k hk => ?_)
    rw [bt_and, bt_15 ⟨k, hk⟩]
    exact and_comm
  have r := bm_r (fun k => bt y k) 4
  rw [e]
  have : (2 : Int) ^ 4 = 16 := by decide
  omega
theorem fo_s0 {h : mx_H} {b k : Int} {f : Int → Int} (k0 : 0 ≤ k) : mx_u (fo h b 0 f k) b k (f k) = fo h b 0 f (k + 1) := by
  have := fo_s (h := h) (b := b) (o := 0) (f := f) k0
  rw [Int.zero_add] at this; exact this
/-- the reference's numbers with one note more -/
def nM (h H : mx_H) (k e a z : Int) (f : Int → Int) : Prop := (∀ b, ¬ b = 39 → H b = h b) ∧ (nad (h 39) (H 39)) ∧ (it (H 39) (h 39 0) 0 = k) ∧ (it (H 39) (h 39 0) 1 = e) ∧ (it (H 39) (h 39 0) 2 = a) ∧ (it (H 39) (h 39 0) 3 = z) ∧ (∀ j, 0 ≤ j → j < z → it (H 39) (h 39 0) (4 + j) = f j)
theorem nM.mk {h H : mx_H} {k e a z : Int} {f : Int → Int} (x0 : ∀ b, ¬ b = 39 → H b = h b) (x1 : nad (h 39) (H 39)) (x2 : it (H 39) (h 39 0) 0 = k) (x3 : it (H 39) (h 39 0) 1 = e) (x4 : it (H 39) (h 39 0) 2 = a) (x5 : it (H 39) (h 39 0) 3 = z) (x6 : ∀ j, 0 ≤ j → j < z → it (H 39) (h 39 0) (4 + j) = f j) : nM h H k e a z f := (And.intro x0 (And.intro x1 (And.intro x2 (And.intro x3 (And.intro x4 (And.intro x5 x6))))))
theorem nM.o {h H : mx_H} {k e a z : Int} {f : Int → Int} (q : nM h H k e a z f) : ∀ b, ¬ b = 39 → H b = h b := (And.left q)
theorem nM.d {h H : mx_H} {k e a z : Int} {f : Int → Int} (q : nM h H k e a z f) : nad (h 39) (H 39) := (And.left (And.right q))
theorem nM.k {h H : mx_H} {k e a z : Int} {f : Int → Int} (q : nM h H k e a z f) : it (H 39) (h 39 0) 0 = k := (And.left (And.right (And.right q)))
theorem nM.e {h H : mx_H} {k e a z : Int} {f : Int → Int} (q : nM h H k e a z f) : it (H 39) (h 39 0) 1 = e := (And.left (And.right (And.right (And.right q))))
theorem nM.a {h H : mx_H} {k e a z : Int} {f : Int → Int} (q : nM h H k e a z f) : it (H 39) (h 39 0) 2 = a := (And.left (And.right (And.right (And.right (And.right q)))))
theorem nM.n {h H : mx_H} {k e a z : Int} {f : Int → Int} (q : nM h H k e a z f) : it (H 39) (h 39 0) 3 = z := (And.left (And.right (And.right (And.right (And.right (And.right q))))))
theorem nM.s {h H : mx_H} {k e a z : Int} {f : Int → Int} (q : nM h H k e a z f) : ∀ j, 0 ≤ j → j < z → it (H 39) (h 39 0) (4 + j) = f j := (And.right (And.right (And.right (And.right (And.right (And.right q))))))
theorem nM_i {h : mx_H} {k e a z t : Int} {f : Int → Int} (N0 : 0 ≤ h 39 0 ∧ h 39 0 ≤ 5) (k0 : 0 ≤ k ∧ k ≤ 5) (e0 : 0 ≤ e ∧ e ≤ 2) (a0 : 0 ≤ a ∧ a ≤ 6) (z0 : 1 ≤ z ∧ z ≤ 6) (f0 : ∀ j, 0 ≤ j → j < z → 0 ≤ f j ∧ f j ≤ 15) (et : t = 9 + 10 * h 39 0) :
    nM h (mx_u (fo (mx_u (mx_u (mx_u (mx_u h 39 t k) 39 (t + 1) e) 39 (t + 2) a) 39 (t + 3) z) 39 (t + 4) f z) 39 0 (h 39 0 + 1)) k e a z f := by
  subst et
  have ek : it (mx_u (fo (mx_u (mx_u (mx_u (mx_u h 39 (9 + 10 * h 39 0) k) 39 (9 + 10 * h 39 0 + 1) e) 39 (9 + 10 * h 39 0 + 2) a) 39 (9 + 10 * h 39 0 + 3) z) 39 (9 + 10 * h 39 0 + 4) f z) 39 0 (h 39 0 + 1) 39) (h 39 0) 0 = k := by
    unfold it; rw [mx_u_k (by omega), fo_e (by omega), mx_u_k (by omega), mx_u_k (by omega), mx_u_k (by omega), mx_u_e rfl (by omega)]
  have ee : it (mx_u (fo (mx_u (mx_u (mx_u (mx_u h 39 (9 + 10 * h 39 0) k) 39 (9 + 10 * h 39 0 + 1) e) 39 (9 + 10 * h 39 0 + 2) a) 39 (9 + 10 * h 39 0 + 3) z) 39 (9 + 10 * h 39 0 + 4) f z) 39 0 (h 39 0 + 1) 39) (h 39 0) 1 = e := by
    unfold it; rw [mx_u_k (by omega), fo_e (by omega), mx_u_k (by omega), mx_u_k (by omega), mx_u_e rfl (by omega)]
  have ea : it (mx_u (fo (mx_u (mx_u (mx_u (mx_u h 39 (9 + 10 * h 39 0) k) 39 (9 + 10 * h 39 0 + 1) e) 39 (9 + 10 * h 39 0 + 2) a) 39 (9 + 10 * h 39 0 + 3) z) 39 (9 + 10 * h 39 0 + 4) f z) 39 0 (h 39 0 + 1) 39) (h 39 0) 2 = a := by
    unfold it; rw [mx_u_k (by omega), fo_e (by omega), mx_u_k (by omega), mx_u_e rfl (by omega)]
  have en : it (mx_u (fo (mx_u (mx_u (mx_u (mx_u h 39 (9 + 10 * h 39 0) k) 39 (9 + 10 * h 39 0 + 1) e) 39 (9 + 10 * h 39 0 + 2) a) 39 (9 + 10 * h 39 0 + 3) z) 39 (9 + 10 * h 39 0 + 4) f z) 39 0 (h 39 0 + 1) 39) (h 39 0) 3 = z := by
    unfold it; rw [mx_u_k (by omega), fo_e (by omega), mx_u_e rfl (by omega)]
  have es : ∀ j, 0 ≤ j → j < z → it (mx_u (fo (mx_u (mx_u (mx_u (mx_u h 39 (9 + 10 * h 39 0) k) 39 (9 + 10 * h 39 0 + 1) e) 39 (9 + 10 * h 39 0 + 2) a) 39 (9 + 10 * h 39 0 + 3) z) 39 (9 + 10 * h 39 0 + 4) f z) 39 0 (h 39 0 + 1) 39) (h 39 0) (4 + j) = f j := by
    intro j j0 j1
    unfold it; rw [mx_u_k (by omega), fo_i (by omega) (by omega)]
    exact congrArg f (by omega)
  refine nM.mk (fun b b0 => ?_) (nad.mk ?_ (fun j j0 j1 => ?_) (nw.mk (by rw [ek]; exact k0) (by rw [ee]; exact e0) (by rw [ea]; exact a0) (by rw [en]; exact z0) ?_)) ek ee ea en es
  · rw [mx_u_a b0, fo_o b0, mx_u_a b0, mx_u_a b0, mx_u_a b0, mx_u_a b0]
  · rw [mx_u_s]
  · rw [mx_u_k j0, fo_e (by omega), mx_u_k (by omega), mx_u_k (by omega), mx_u_k (by omega), mx_u_k (by omega)]
  · rw [en]; intro j j0 j1; rw [es j j0 j1]; exact f0 j j0 j1
/-- a sign out of a number of signs -/
def sg (s z i : Int) : Int := mx_and (mx_shr s (4 * (z - 1 - i))) 15
section
variable {L : Nat} {x : Nat → Int32} {S T h g : mx_H} {n m c : Int} {d : Nat}
theorem c_noteM_l (hM : sh_M S) {k e a z s t i : Int} (t0 : t = 9 + 10 * h 39 0) (N0 : 0 ≤ h 39 0 ∧ h 39 0 ≤ 5) (z0 : 1 ≤ z ∧ z ≤ 6) (i0 : 0 ≤ i ∧ i ≤ z) :
    mx_ex d 177 116 [some (2, 38), some (0, k), some (0, e), some (0, a), some (0, z), some (0, s), some (0, t), some (0, i)] [] S (fo h 39 (t + 4) (sg s z) i) n = some (some (0, h 39 0), S, mx_u (fo h 39 (t + 4) (sg s z) z) 39 0 (h 39 0 + 1), n) := by
  have hM1 := hM.e
  rw [rh_X12_note_116]
  by_cases q : i < z
  · have ih := c_noteM_l hM (k := k) (e := e) (a := a) (s := s) (i := i + 1) t0 N0 z0 (by omega)
    rw [← fo_s i0.1] at ih
    unfold sg at ih ⊢
    simp (disch := omega) only [mx_vt_h, mx_vt_m, mx_cmp_0, mx_cmp_1, mx_cmp_2, mx_cmp_3, mx_cmp_4, mx_u_s, mx_u_a, mx_u_k, mx_z_a, mx_z_s, mx_t_a, mx_t_2, mx_t_1, mx_t_0, mx_gd_T, mx_gd_t, mx_br_T, mx_br_F, mx_br_t, mx_br_f, mx_br_n, mx_cl_T, mx_cl_t, mx_re_T, mx_re_t, mx_rt_v, mx_rt_0, mx_cu_t, mx_w_id, mx_l_id, mx_b_0, mx_b_1, mx_b_r, mx_nl_0, mx_nl_1, mx_nl_2, mx_nl_n, mx_nl_l, mx_sw_n, mx_sw_h, mx_sw_m, Int.reduceLE, Int.reduceLT, Int.reduceEq, Int.reduceAdd, Int.reduceSub, Int.reduceMul, Int.reduceNeg, Int.reduceToNat, and_self, true_and, and_true, false_and, and_false, true_or, or_true, false_or, or_false, not_true_eq_false, not_false_eq_true, eq_self, rw_X12_note, rw_X12_note_1, hM1]
    exact ih
  · have ei : i = z := by omega
    subst ei
    have e0 : fo h 39 (t + 4) (sg s i) i 39 0 = h 39 0 := fo_e (by omega)
    simp (disch := omega) only [mx_vt_h, mx_vt_m, mx_cmp_0, mx_cmp_1, mx_cmp_2, mx_cmp_3, mx_cmp_4, mx_u_s, mx_u_a, mx_u_k, mx_z_a, mx_z_s, mx_t_a, mx_t_2, mx_t_1, mx_t_0, mx_gd_T, mx_gd_t, mx_br_T, mx_br_F, mx_br_t, mx_br_f, mx_br_n, mx_cl_T, mx_cl_t, mx_re_T, mx_re_t, mx_rt_v, mx_rt_0, mx_cu_t, mx_w_id, mx_l_id, mx_b_0, mx_b_1, mx_b_r, mx_nl_0, mx_nl_1, mx_nl_2, mx_nl_n, mx_nl_l, mx_sw_n, mx_sw_h, mx_sw_m, Int.reduceLE, Int.reduceLT, Int.reduceEq, Int.reduceAdd, Int.reduceSub, Int.reduceMul, Int.reduceNeg, Int.reduceToNat, and_self, true_and, and_true, false_and, and_false, true_or, or_true, false_or, or_false, not_true_eq_false, not_false_eq_true, eq_self, rw_X12_note, rw_X12_note_1, hM1, e0]
    exact rv (by omega)
termination_by (z - i).toNat
decreasing_by omega
theorem c_noteM (hM : sh_M S) {k e a z s : Int} (N0 : 0 ≤ h 39 0 ∧ h 39 0 ≤ 5) (k0 : 0 ≤ k ∧ k ≤ 5) (e0 : 0 ≤ e ∧ e ≤ 2) (a0 : 0 ≤ a ∧ a ≤ 6) (z0 : 1 ≤ z ∧ z ≤ 6) (s0 : 0 ≤ s) :
    ∃ H, mx_M (d + 2) 177 [(2, 38), (0, k), (0, e), (0, a), (0, z), (0, s)] S h n = some (some (0, h 39 0), S, H, n) ∧ nM h H k e a z (sg s z) := by
  have hM1 := hM.e
  refine ⟨_, ?_, nM_i N0 k0 e0 a0 z0 (fun j _ _ => an_15 _) rfl⟩
  have e39 : mx_u (mx_u (mx_u (mx_u h 39 (9 + 10 * h 39 0) k) 39 (9 + 10 * h 39 0 + 1) e) 39 (9 + 10 * h 39 0 + 2) a) 39 (9 + 10 * h 39 0 + 3) z 39 0 = h 39 0 := by
    rw [mx_u_k (by omega), mx_u_k (by omega), mx_u_k (by omega), mx_u_k (by omega)]
  have ih := c_noteM_l (d := d + 2) (n := n) (k := k) (e := e) (a := a) (s := s) (i := 0) (z := z) (h := mx_u (mx_u (mx_u (mx_u h 39 (9 + 10 * h 39 0) k) 39 (9 + 10 * h 39 0 + 1) e) 39 (9 + 10 * h 39 0 + 2) a) 39 (9 + 10 * h 39 0 + 3) z) (t := 9 + 10 * h 39 0) hM (by rw [e39]) (by rw [e39]; exact N0) z0 (by omega)
  rw [fo_0, e39] at ih
  simp (disch := omega) only [mx_vt_h, mx_vt_m, mx_cmp_0, mx_cmp_1, mx_cmp_2, mx_cmp_3, mx_cmp_4, mx_u_s, mx_u_a, mx_u_k, mx_z_a, mx_z_s, mx_t_a, mx_t_2, mx_t_1, mx_t_0, mx_gd_T, mx_gd_t, mx_br_T, mx_br_F, mx_br_t, mx_br_f, mx_br_n, mx_cl_T, mx_cl_t, mx_re_T, mx_re_t, mx_rt_v, mx_rt_0, mx_cu_t, mx_w_id, mx_l_id, mx_b_0, mx_b_1, mx_b_r, mx_nl_0, mx_nl_1, mx_nl_2, mx_nl_n, mx_nl_l, mx_sw_n, mx_sw_h, mx_sw_m, Int.reduceLE, Int.reduceLT, Int.reduceEq, Int.reduceAdd, Int.reduceSub, Int.reduceMul, Int.reduceNeg, Int.reduceToNat, and_self, true_and, and_true, false_and, and_false, true_or, or_true, false_or, or_false, not_true_eq_false, not_false_eq_true, eq_self, rw_X12_note, rw_X12_note_1, hM1, c_in, mx_b_t k0, c_isEvening, mx_b_t e0, mx_b_t a0, mx_b_t z0, Int.add_zero, ih]
theorem c_note_l (s : shp S L) {k e a z σ i N w : Int} {R S2 : mx_H} {n2 : Int} (l0 : 53 ≤ N) (tN : S N (-2) = 20) (lN : S N (-1) = z) (z0 : 1 ≤ z ∧ z ≤ 6) (i0 : 0 ≤ i ∧ i ≤ z)
    (hE : mx_M d 91 [(2, 3), (0, k), (0, e), (0, a), (2, N)] S (fo h N 0 (sg σ z) z) n = some (some (0, w), S2, R, n2)) :
    mx_ex (d + 1) 103 70 [some (2, 0), some (0, k), some (0, e), some (0, a), some (0, z), some (0, σ), some (2, N), some (0, i)] [] S (fo h N 0 (sg σ z) i) n = some (some (0, w), S2, R, n2) := by
  have hX := s.x.e
  have hF := s.f.e
  rw [rh_X11_note_70]
  by_cases q : i < z
  · have ih := c_note_l s (k := k) (e := e) (a := a) (i := i + 1) l0 tN lN z0 (by omega) hE
    rw [← fo_s0 i0.1] at ih
    unfold sg at ih ⊢
    simp (disch := omega) only [mx_vt_h, mx_vt_m, mx_cmp_0, mx_cmp_1, mx_cmp_2, mx_cmp_3, mx_cmp_4, mx_u_s, mx_u_a, mx_u_k, mx_z_a, mx_z_s, mx_t_a, mx_t_2, mx_t_1, mx_t_0, mx_gd_T, mx_gd_t, mx_br_T, mx_br_F, mx_br_t, mx_br_f, mx_br_n, mx_cl_T, mx_cl_t, mx_re_T, mx_re_t, mx_rt_v, mx_rt_0, mx_cu_t, mx_w_id, mx_l_id, mx_b_0, mx_b_1, mx_b_r, mx_nl_0, mx_nl_1, mx_nl_2, mx_nl_n, mx_nl_l, mx_sw_n, mx_sw_h, mx_sw_m, Int.reduceLE, Int.reduceLT, Int.reduceEq, Int.reduceAdd, Int.reduceSub, Int.reduceMul, Int.reduceNeg, Int.reduceToNat, and_self, true_and, and_true, false_and, and_false, true_or, or_true, false_or, or_false, not_true_eq_false, not_false_eq_true, eq_self, rw_X11_note, hX, hF, tN, lN]
    exact ih
  · have ei : i = z := by omega
    subst ei
    simp (disch := omega) only [mx_vt_h, mx_vt_m, mx_cmp_0, mx_cmp_1, mx_cmp_2, mx_cmp_3, mx_cmp_4, mx_u_s, mx_u_a, mx_u_k, mx_z_a, mx_z_s, mx_t_a, mx_t_2, mx_t_1, mx_t_0, mx_gd_T, mx_gd_t, mx_br_T, mx_br_F, mx_br_t, mx_br_f, mx_br_n, mx_cl_T, mx_cl_t, mx_re_T, mx_re_t, mx_rt_v, mx_rt_0, mx_cu_t, mx_w_id, mx_l_id, mx_b_0, mx_b_1, mx_b_r, mx_nl_0, mx_nl_1, mx_nl_2, mx_nl_n, mx_nl_l, mx_sw_n, mx_sw_h, mx_sw_m, Int.reduceLE, Int.reduceLT, Int.reduceEq, Int.reduceAdd, Int.reduceSub, Int.reduceMul, Int.reduceNeg, Int.reduceToNat, and_self, true_and, and_true, false_and, and_false, true_or, or_true, false_or, or_false, not_true_eq_false, not_false_eq_true, eq_self, rw_X11_note, hX, hF, hE]
termination_by (z - i).toNat
decreasing_by omega
/-- one note more on both sides -/
theorem Inv.N1 (v : Inv L x S h n c) (hc : c ≤ 599) {k e a z : Int} {f : Int → Int} {S1 h1 H : mx_H} (N5 : h 39 0 ≤ 5) (A : ad S1 h1 (n + 1) 3 k e a n T g) (o1 : ∀ b, b < n → S1 b = S b) (t1 : S1 n (-2) = 20) (l1 : S1 n (-1) = z) (p1 : ∀ b, b < n → h1 b = h b) (s1 : ∀ j, 0 ≤ j → j < z → h1 n j = f j) (M : nM g H k e a z f) : Inv L x T H (n + 2) (c + 1) := by
  have vn := v.n
  have w := v.t.w
  have hN := w.N
  have r3 : h 3 3 = h 39 0 := v.t.r.c
  have c3 : h1 3 3 = h 39 0 := by rw [p1 3 (by omega)]; exact r3
  have g39 : g 39 = h 39 := by rw [A.g0 39 (by omega) (by decide), p1 39 (by omega)]
  have Md := M.d
  have Mk := M.k
  have Me := M.e
  have Ma := M.a
  have Mn := M.n
  have Ms := M.s
  rw [g39] at Md Mk Me Ma Mn Ms
  have r0 : rr S1 h1 (n + 1) 3 (h 39) := v.t.r.gg (by rw [p1 3 (by omega)]) (by rw [p1 3 (by omega)]) (p1 4 (by omega)) (p1 5 (by omega)) (p1 6 (by omega)) (o1 7 (by omega)) (fun b b0 b1 => o1 b b1) (fun b b0 b1 => p1 b b1) (by omega)
  have r1 : rr T g (n + 1 + 1) 3 (H 39) := rr_ad A r0 w Md N5 (by omega) (by omega) Mk Me Ma (by omega) t1 (by rw [Mn]; exact l1) (fun j j0 j1 => by rw [Mn] at j1; rw [Ms j j0 j1]; exact s1 j j0 j1)
  have nn : n + 1 + 1 = n + 2 := by omega
  rw [nn] at r1
  have Mo := M.o
  have r2 : rr T H (n + 2) 3 (H 39) := r1.gg (by rw [Mo 3 (by decide)]) (by rw [Mo 3 (by decide)]) (Mo 4 (by decide)) (Mo 5 (by decide)) (Mo 6 (by decide)) rfl (fun _ _ _ => rfl) (fun b b0 _ => Mo b (by omega)) (Int.le_refl _)
  have tS : ∀ b, b < n → ¬ b = 7 → T b = S b := fun b b0 b1 => by rw [A.S0 b (by omega) (by omega), o1 b b0]
  have hH : ∀ b, b < n → ¬ b = 3 → ¬ b = 39 → H b = h b := fun b b0 b1 b2 => by rw [Mo b b2, A.g0 b (by omega) b1, p1 b b0]
  have S4 := A.S4
  have Sc := A.Sc
  rw [c3] at S4 Sc
  have T7 : ∀ j, ¬ j = h 39 0 → T 7 j = S 7 j := fun j q => by
    have : T 7 j = S1 7 j := S4 j q
    rw [this, o1 7 (by omega)]
  have T7n : T 7 (h 39 0) = n + 1 := Sc
  have old : ∀ i, 0 ≤ i → i < h 39 0 → T 7 i = S 7 i ∧ T (S 7 i) 2 = S (S 7 i) 2 ∧ S 7 i < n ∧ S (S 7 i) 2 < n := fun i i0 i1 => by
    have r := v.nr ⟨i0, i1⟩
    have p0 := r.p0
    have p1 := r.p1
    exact ⟨T7 i (by omega), by rw [tS _ p1 (by omega)], p1, r.q1⟩
  have Sm := A.Sm
  refine v.V hc (stt.mk ?_ r2 ?_ ?_) (v.k.g2 (hH 40 (by omega) (by decide) (by decide)) (by rw [hH 0 (by omega) (by decide) (by decide)]) (by rw [hH 0 (by omega) (by decide) (by decide)]) (by rw [hH 38 (by omega) (by decide) (by decide)]) (fun q => ?_) (fun q => ?_)) ?_ (fun b b0 => tS b (by omega) (by omega)) (tS 32 (by omega) (by decide)) (tS 35 (by omega) (by decide)) (fun b b0 b1 => tS b b1 (by omega)) (fun b b0 b1 b2 => hH b (by omega) (by omega) b1) (fun b b0 b1 _ => hH b b1 (by omega) (by omega)) ?_ (by omega) (by omega)
  · exact Md.vw w N5
  · intro i j i0 i1 j0 j1 q
    rw [Md.z] at i1 j1
    by_cases qi : i = h 39 0
    · have oj := old j j0 (by omega)
      rw [qi, T7n, Sm, oj.1, oj.2.1]; omega
    · have oi := old i i0 (by omega)
      by_cases qj : j = h 39 0
      · rw [qj, T7n, Sm, oi.1, oi.2.1]; omega
      · have oj := old j j0 (by omega)
        rw [oi.1, oj.1, oi.2.1, oj.2.1]
        exact v.t.d i j i0 (by omega) j0 (by omega) q
  · rw [hH 0 (by omega) (by decide) (by decide), Md.o 2 (by decide) (by omega)]; exact v.t.u
  · exact (v.k.r q).gg (by rw [hH 17 (by omega) (by decide) (by decide)]) (by rw [hH 17 (by omega) (by decide) (by decide)]) (hH 18 (by omega) (by decide) (by decide)) (hH 19 (by omega) (by decide) (by decide)) (hH 20 (by omega) (by decide) (by decide)) (tS 21 (by omega) (by decide)) (fun b b0 b1 => tS b b1 (by omega)) (fun b b0 b1 => hH b b1 (by omega) (by omega)) (by omega)
  · intro i j i0 i1 j0 j1
    rw [Md.z] at i1
    rw [hH 40 (by omega) (by decide) (by decide)] at j1
    have rj : CRoomNumbersLaw_law_r7303_6997d3.nr S h n (S 21 j) (h 40) j := (v.k.r q).n j j0 j1
    have q0 := rj.p0
    have q1 := rj.p1
    have q2 := rj.q1
    have e21 : T 21 = S 21 := tS 21 (by omega) (by decide)
    have e22 : T (S 21 j) = S (S 21 j) := tS _ q1 (by omega)
    by_cases qi : i = h 39 0
    · rw [qi, T7n, Sm, e21, e22]; omega
    · have oi := old i i0 (by omega)
      rw [oi.1, oi.2.1, e21, e22]
      exact v.k.d q i j i0 (by omega) j0 j1
  · intro b k b0
    by_cases q : b = 7
    · subst q
      have : k < 0 := by unfold ok at b0; omega
      exact T7 k (by omega)
    · rw [tS b (by unfold ok at b0; omega) q]
  · have ver := v.ver
    rw [Mo 3 (by decide), A.g5, p1 3 (by omega)]; exact ver
end
