/-! prove -/
/-- what the rows of a world hold -/
def rf (σ β : Int → Int) (j : Int) : Int := if j % 3 = 0 then j / 3 else if j % 3 = 1 then β (it σ (j / 3) 1) else wn σ β (j / 3)
theorem rf_0 {σ β : Int → Int} {i : Int} : rf σ β (i * 3) = i := by
  unfold rf; rw [if_pos (by omega)]; omega
theorem rf_1 {σ β : Int → Int} {i : Int} : rf σ β (i * 3 + 1) = β (it σ i 1) := by
  have e : (i * 3 + 1) / 3 = i := by omega
  unfold rf; rw [if_neg (by omega), if_pos (by omega), e]
theorem rf_2 {σ β : Int → Int} {i : Int} : rf σ β (i * 3 + 2) = wn σ β i := by
  have e : (i * 3 + 2) / 3 = i := by omega
  unfold rf; rw [if_neg (by omega), if_neg (by omega), e]
theorem rf_c {σ β γ : Int → Int} (w : vw σ) (e : ∀ e, 0 ≤ e → e ≤ 2 → β e = γ e) {j : Int} (j0 : 0 ≤ j) (j1 : j < 3 * σ 0) : rf σ β j = rf σ γ j := by
  have wj := w.n (j / 3) (by omega) (by omega)
  unfold rf
  rw [e _ wj.e.1 wj.e.2, wn_c w e (by omega) (by omega)]
theorem fo_3 {h : mx_H} {b k : Int} {f : Int → Int} (k0 : 0 ≤ k) : mx_u (mx_u (mx_u (fo h b 0 f k) b k (f k)) b (k + 1) (f (k + 1))) b (k + 2) (f (k + 2)) = fo h b 0 f (k + 3) := by
  have e1 := fo_s0 (h := h) (b := b) (f := f) k0
  have e2 := fo_s0 (h := h) (b := b) (f := f) (k := k + 1) (by omega)
  have e3 := fo_s0 (h := h) (b := b) (f := f) (k := k + 1 + 1) (by omega)
  have a : k + 1 + 1 = k + 2 := by omega
  have b' : k + 2 + 1 = k + 3 := by omega
  rw [a, b'] at e3
  rw [a] at e2
  rw [e1, e2, e3]
section
variable {L : Nat} {x : Nat → Int32} {S T h g : mx_H} {n m c : Int} {d : Nat}
theorem c_prv_l (s : shp S L) {σ : Int → Int} {k i : Int} {l3 l4 : Option mx_V} (r : rr S h n 3 σ) (w : vw σ) (b : ∀ e, 0 ≤ e → e ≤ 2 → 2 ≤ h 8 e ∧ h 8 e ≤ 16) (c0 : h 0 10 = σ 0) (i0 : 0 ≤ i ∧ i ≤ σ 0) :
    mx_ex (d + 3) 127 27 [some (2, 0), some (0, k), some (0, i), l3, l4] [] S (fo h 30 0 (rf σ (h 8)) (i * 3)) n = some (some (0, σ 0), S, fo h 30 0 (rf σ (h 8)) (σ 0 * 3), n) := by
  have hX := s.x.e
  have hF := s.f.e
  have hN := w.N
  have rH : ∀ H : mx_H, (∀ q, ¬ q = 30 → H q = h q) → rr S H n 3 σ := fun H e => r.gg (by rw [e 3 (by decide)]) (by rw [e 3 (by decide)]) (e 4 (by decide)) (e 5 (by decide)) (e 6 (by decide)) rfl (fun _ _ _ => rfl) (fun q a _ => e q (by omega)) (Int.le_refl _)
  have e0 : fo h 30 0 (rf σ (h 8)) (i * 3) 0 10 = σ 0 := by rw [fo_o (by decide)]; exact c0
  rw [rh_X11_prove_27]
  by_cases q : i < σ 0
  · have ih := fun l3 l4 => c_prv_l s (k := k) (i := i + 1) (l3 := l3) (l4 := l4) r w b c0 (by omega)
    have e1 : (i + 1) * 3 = i * 3 + 3 := by omega
    rw [e1, ← fo_3 (by omega), rf_0, rf_1, rf_2] at ih
    have wi := w.n i i0.1 q
    have ei := wi.e
    have ki := wi.k
    have bi := b _ ei.1 ei.2
    have r1 := rH (fo h 30 0 (rf σ (h 8)) (i * 3)) (fun q z => fo_o z)
    have na := c_noteAt1 (d := d + 2) (n := n) s.f.v r1 w i0.1 q
    have r2 : nr S (mx_u (mx_u (fo h 30 0 (rf σ (h 8)) (i * 3)) 30 (i * 3) i) 30 (i * 3 + 1) (h 8 (it σ i 1))) n (S 7 i) σ i := (rH _ (fun q z => by rw [mx_u_a z, mx_u_a z, fo_o z])).n i i0.1 q
    have n1 : nr S (fo h 30 0 (rf σ (h 8)) (i * 3)) n (S 7 i) σ i := r1.n i i0.1 q
    have p0 := n1.p0
    have t1 := n1.t
    have cw := fun m pc L st => c_worthV (d := d + 1) (n := n) (m := m) (pc := pc) (L := L) (st := st) r2 wi bi.1 bi.2 rfl
    simp only [t1] at cw
    have e8 : fo h 30 0 (rf σ (h 8)) (i * 3) 8 (it σ i 1) = h 8 (it σ i 1) := by rw [fo_o (by decide)]
    have na' : mx_M (d + 2) 90 [(2, 3), (0, i)] S (fo h 30 0 (rf σ (h 8)) (i * 3)) n = some (some (2, S 7 i), S, fo h 30 0 (rf σ (h 8)) (i * 3), n) := na
    simp (disch := omega) only [mx_vt_h, mx_vt_m, mx_cmp_0, mx_cmp_1, mx_cmp_2, mx_cmp_3, mx_cmp_4, mx_u_s, mx_u_a, mx_u_k, mx_z_a, mx_z_s, mx_t_a, mx_t_2, mx_t_1, mx_t_0, mx_gd_T, mx_gd_t, mx_br_T, mx_br_F, mx_br_t, mx_br_f, mx_br_n, mx_cl_T, mx_cl_t, mx_re_T, mx_re_t, mx_rt_v, mx_rt_0, mx_cu_t, mx_w_id, mx_l_id, mx_b_0, mx_b_1, mx_b_r, mx_nl_0, mx_nl_1, mx_nl_2, mx_nl_n, mx_nl_l, mx_sw_n, mx_sw_h, mx_sw_m, Int.reduceLE, Int.reduceLT, Int.reduceEq, Int.reduceAdd, Int.reduceSub, Int.reduceMul, Int.reduceNeg, Int.reduceToNat, and_self, true_and, and_true, false_and, and_false, true_or, or_true, false_or, or_false, not_true_eq_false, not_false_eq_true, eq_self, rw_X11_prove, hX, hF, e0, na', t1, n1.e, e8, cw]
    exact ih _ _
  · have ei : i = σ 0 := by omega
    subst ei
    simp (disch := omega) only [mx_vt_h, mx_vt_m, mx_cmp_0, mx_cmp_1, mx_cmp_2, mx_cmp_3, mx_cmp_4, mx_u_s, mx_u_a, mx_u_k, mx_z_a, mx_z_s, mx_t_a, mx_t_2, mx_t_1, mx_t_0, mx_gd_T, mx_gd_t, mx_br_T, mx_br_F, mx_br_t, mx_br_f, mx_br_n, mx_cl_T, mx_cl_t, mx_re_T, mx_re_t, mx_rt_v, mx_rt_0, mx_cu_t, mx_w_id, mx_l_id, mx_b_0, mx_b_1, mx_b_r, mx_nl_0, mx_nl_1, mx_nl_2, mx_nl_n, mx_nl_l, mx_sw_n, mx_sw_h, mx_sw_m, Int.reduceLE, Int.reduceLT, Int.reduceEq, Int.reduceAdd, Int.reduceSub, Int.reduceMul, Int.reduceNeg, Int.reduceToNat, and_self, true_and, and_true, false_and, and_false, true_or, or_true, false_or, or_false, not_true_eq_false, not_false_eq_true, eq_self, rw_X11_prove, hX, e0]
termination_by (σ 0 - i).toNat
decreasing_by omega
theorem c_prM_l (hM : sh_M S) {k i : Int} (w : vw (h 39)) (b : ∀ e, 0 ≤ e → e ≤ 2 → 2 ≤ h 43 e ∧ h 43 e ≤ 16) (c0 : h 38 15 = h 39 0) (i0 : 0 ≤ i ∧ i ≤ h 39 0) :
    mx_ex (d + 4) 219 23 [some (2, 38), some (0, k), some (0, i)] [] S (fo h 46 0 (rf (h 39) (h 43)) (3 * i)) n = some (some (0, h 39 0), S, fo h 46 0 (rf (h 39) (h 43)) (3 * h 39 0), n) := by
  have hM1 := hM.e
  have hN := w.N
  have e0 : fo h 46 0 (rf (h 39) (h 43)) (3 * i) 38 15 = h 39 0 := by rw [fo_o (by decide)]; exact c0
  rw [rh_X12_prove_23]
  by_cases q : i < h 39 0
  · have ih := c_prM_l hM (k := k) (i := i + 1) w b c0 (by omega)
    have e1 : 3 * (i + 1) = 3 * i + 3 := by omega
    have ec : 3 * i = i * 3 := by omega
    have f1 : rf (h 39) (h 43) (3 * i) = i := by rw [ec]; exact rf_0
    have f2 : rf (h 39) (h 43) (3 * i + 1) = h 43 (it (h 39) i 1) := by rw [ec]; exact rf_1
    have f3 : rf (h 39) (h 43) (3 * i + 2) = wn (h 39) (h 43) i := by rw [ec]; exact rf_2
    rw [e1, ← fo_3 (by omega), f1, f2, f3] at ih
    have wi := w.n i i0.1 q
    have ei := wi.e
    obtain ⟨H1, eH1⟩ : ∃ H1, id (mx_u (fo h 46 0 (rf (h 39) (h 43)) (3 * i)) 46 (3 * i) i = H1) := ⟨_, rfl⟩
    have eH1 : mx_u (fo h 46 0 (rf (h 39) (h 43)) (3 * i)) 46 (3 * i) i = H1 := eH1
    have ci := c_its (d := d + 3) (n := n) (h := mx_u (fo h 46 0 (rf (h 39) (h 43)) (3 * i)) 46 (3 * i) i) (a := i) (k := 1) hM i0.1 (by omega) (by decide) (by omega)
    rw [mx_u_a (b := 39) (by decide), fo_o (a := 39) (by decide)] at ci
    have e43 : fo h 46 0 (rf (h 39) (h 43)) (3 * i) 43 (it (h 39) i 1) = h 43 (it (h 39) i 1) := by rw [fo_o (by decide)]
    have o2 : ∀ q, ¬ q = 46 → mx_u (mx_u (fo h 46 0 (rf (h 39) (h 43)) (3 * i)) 46 (3 * i) i) 46 (3 * i + 1) (h 43 (it (h 39) i 1)) q = h q := fun q z => by rw [mx_u_a z, mx_u_a z, fo_o z]
    have cw := c_worthNow (d := d) (n := n) (a := i) (h := mx_u (mx_u (fo h 46 0 (rf (h 39) (h 43)) (3 * i)) 46 (3 * i) i) 46 (3 * i + 1) (h 43 (it (h 39) i 1))) hM (by rw [o2 39 (by decide)]; exact w) (by rw [o2 39 (by decide), o2 43 (by decide)]; exact bb_3 w b) i0.1 (by rw [o2 39 (by decide)]; exact q)
    rw [o2 39 (by decide), o2 43 (by decide)] at cw
    simp (disch := omega) only [mx_vt_h, mx_vt_m, mx_cmp_0, mx_cmp_1, mx_cmp_2, mx_cmp_3, mx_cmp_4, mx_u_s, mx_u_a, mx_u_k, mx_z_a, mx_z_s, mx_t_a, mx_t_2, mx_t_1, mx_t_0, mx_gd_T, mx_gd_t, mx_br_T, mx_br_F, mx_br_t, mx_br_f, mx_br_n, mx_cl_T, mx_cl_t, mx_re_T, mx_re_t, mx_rt_v, mx_rt_0, mx_cu_t, mx_w_id, mx_l_id, mx_b_0, mx_b_1, mx_b_r, mx_nl_0, mx_nl_1, mx_nl_2, mx_nl_n, mx_nl_l, mx_sw_n, mx_sw_h, mx_sw_m, Int.reduceLE, Int.reduceLT, Int.reduceEq, Int.reduceAdd, Int.reduceSub, Int.reduceMul, Int.reduceNeg, Int.reduceToNat, and_self, true_and, and_true, false_and, and_false, true_or, or_true, false_or, or_false, not_true_eq_false, not_false_eq_true, eq_self, rw_X12_prove, hM1, e0, ci, e43, cw]
    exact ih
  · have ei : i = h 39 0 := by omega
    subst ei
    simp (disch := omega) only [mx_vt_h, mx_vt_m, mx_cmp_0, mx_cmp_1, mx_cmp_2, mx_cmp_3, mx_cmp_4, mx_u_s, mx_u_a, mx_u_k, mx_z_a, mx_z_s, mx_t_a, mx_t_2, mx_t_1, mx_t_0, mx_gd_T, mx_gd_t, mx_br_T, mx_br_F, mx_br_t, mx_br_f, mx_br_n, mx_cl_T, mx_cl_t, mx_re_T, mx_re_t, mx_rt_v, mx_rt_0, mx_cu_t, mx_w_id, mx_l_id, mx_b_0, mx_b_1, mx_b_r, mx_nl_0, mx_nl_1, mx_nl_2, mx_nl_n, mx_nl_l, mx_sw_n, mx_sw_h, mx_sw_m, Int.reduceLE, Int.reduceLT, Int.reduceEq, Int.reduceAdd, Int.reduceSub, Int.reduceMul, Int.reduceNeg, Int.reduceToNat, and_self, true_and, and_true, false_and, and_false, true_or, or_true, false_or, or_false, not_true_eq_false, not_false_eq_true, eq_self, rw_X12_prove, hM1, e0]
termination_by (h 39 0 - i).toNat
decreasing_by omega
/-- rows have been made -/
theorem Inv.R (v : Inv L x S h n c) (hc : c ≤ 599) (f : ∀ b, ¬ b = 0 → ¬ b = 30 → ¬ b = 38 → ¬ b = 46 → ¬ (43 ≤ b ∧ b ≤ 45) → g b = h b) (f0 : ∀ k, ¬ k = 10 → g 0 k = h 0 k) (f38 : ∀ k, ¬ k = 15 → g 38 k = h 38 k) (r : rws g) : Inv L x S g n (c + 1) := by
  have ff : ∀ a, ¬ a = 0 → ¬ a = 30 → ¬ a = 38 → ¬ (43 ≤ a ∧ a ≤ 46) → g a = h a := fun a p q s u => f a p q s (by omega) (by omega)
  have fb : ∀ a, 53 ≤ a → g a = h a := fun a y => ff a (by omega) (by omega) (by omega) (by omega)
  refine Inv.w (Inv.mk v.s (fun a z => by rw [ff a (by omega) (by omega) (by omega) (by omega)]; exact v.g a z) v.n v.c ?_ ?_ ?_ r ?_ ?_ ?_ ?_) hc
  · exact v.t.gg (ff 39 (by decide) (by decide) (by decide) (by decide)) (f0 6 (by decide)) (by rw [ff 3 (by decide) (by decide) (by decide) (by decide)]) (by rw [ff 3 (by decide) (by decide) (by decide) (by decide)]) (ff 4 (by decide) (by decide) (by decide) (by decide)) (ff 5 (by decide) (by decide) (by decide) (by decide)) (ff 6 (by decide) (by decide) (by decide) (by decide)) rfl (fun _ _ _ => rfl) (fun a y _ => fb a y) (Int.le_refl _)
  · exact v.k.gg v.t (ff 39 (by decide) (by decide) (by decide) (by decide)) (ff 40 (by decide) (by decide) (by decide) (by decide)) (f0 5 (by decide)) (f0 7 (by decide)) (f38 3 (by decide)) (by rw [ff 17 (by decide) (by decide) (by decide) (by decide)]) (by rw [ff 17 (by decide) (by decide) (by decide) (by decide)]) (ff 18 (by decide) (by decide) (by decide) (by decide)) (ff 19 (by decide) (by decide) (by decide) (by decide)) (ff 20 (by decide) (by decide) (by decide) (by decide)) rfl rfl (fun _ _ _ => rfl) (fun a y _ => fb a y) (Int.le_refl _)
  · exact v.p.gg (f0 1 (by decide)) (f38 5 (by decide)) (ff 1 (by decide) (by decide) (by decide) (by decide)) (ff 42 (by decide) (by decide) (by decide) (by decide))
  · exact v.b.gg (ff 47 (by decide) (by decide) (by decide) (by decide)) (ff 48 (by decide) (by decide) (by decide) (by decide)) (ff 49 (by decide) (by decide) (by decide) (by decide)) rfl (fun _ _ _ => rfl) (fun a y _ _ => fb a y) (Int.le_refl _)
  · exact v.l.gg (ff 33 (by decide) (by decide) (by decide) (by decide)) (ff 34 (by decide) (by decide) (by decide) (by decide)) (ff 50 (by decide) (by decide) (by decide) (by decide)) (ff 51 (by decide) (by decide) (by decide) (by decide)) rfl (fun _ _ _ => rfl) (fun a y _ _ => fb a y) (Int.le_refl _)
  · exact v.i.gg (ff 36 (by decide) (by decide) (by decide) (by decide)) (f38 22 (by decide)) (ff 37 (by decide) (by decide) (by decide) (by decide)) (ff 52 (by decide) (by decide) (by decide) (by decide))
  · exact v.f.gg (ff 2 (by decide) (by decide) (by decide) (by decide)) (ff 15 (by decide) (by decide) (by decide) (by decide)) (ff 16 (by decide) (by decide) (by decide) (by decide)) (by rw [ff 3 (by decide) (by decide) (by decide) (by decide)]) (ff 39 (by decide) (by decide) (by decide) (by decide))
theorem wi_b {σ : Int → Int} (w : vw σ) {y u : Int} (p : wi σ y u) : (2 ≤ u / 289 ∧ u / 289 ≤ 16) ∧ (2 ≤ u / 17 % 17 ∧ u / 17 % 17 ≤ 16) ∧ 2 ≤ u % 17 ∧ u % 17 ≤ 16 :=
  ⟨mb_r w (by decide) (by decide) p.1, mb_r w (by decide) (by decide) p.2.1, mb_r w (by decide) (by decide) p.2.2.1⟩
theorem b3 {β : Int → Int} {a b e : Int} (h0 : β 0 = a) (h1 : β 1 = b) (h2 : β 2 = e) (a0 : 2 ≤ a ∧ a ≤ 16) (b0 : 2 ≤ b ∧ b ≤ 16) (e0 : 2 ≤ e ∧ e ≤ 16) : ∀ k, 0 ≤ k → k ≤ 2 → 2 ≤ β k ∧ β k ≤ 16 := by
  intro k k0 k1
  have : k = 0 ∨ k = 1 ∨ k = 2 := by omega
  rcases this with z | z | z <;> subst z
  · rw [h0]; exact a0
  · rw [h1]; exact b0
  · rw [h2]; exact e0
theorem a_prove {k : Int} (hc : c ≤ 599) (k0 : -2147483648 ≤ k) (k1 : k ≤ 2147483647) : ag L x 127 219 [(0, k)] 0 c := by
  intro d S h n v
  have hX := v.s.x.e
  have hF := v.s.f.e
  have hM := v.s.m
  simp (disch := omega) only [mx_vt_h, mx_vt_m, mx_cmp_0, mx_cmp_1, mx_cmp_2, mx_cmp_3, mx_cmp_4, mx_u_s, mx_u_a, mx_u_k, mx_z_a, mx_z_s, mx_t_a, mx_t_2, mx_t_1, mx_t_0, mx_gd_T, mx_gd_t, mx_br_T, mx_br_F, mx_br_t, mx_br_f, mx_br_n, mx_cl_T, mx_cl_t, mx_re_T, mx_re_t, mx_rt_v, mx_rt_0, mx_cu_t, mx_w_id, mx_l_id, mx_b_0, mx_b_1, mx_b_r, mx_nl_0, mx_nl_1, mx_nl_2, mx_nl_n, mx_nl_l, mx_sw_n, mx_sw_h, mx_sw_m, Int.reduceLE, Int.reduceLT, Int.reduceEq, Int.reduceAdd, Int.reduceSub, Int.reduceMul, Int.reduceNeg, Int.reduceToNat, and_self, true_and, and_true, false_and, and_false, true_or, or_true, false_or, or_false, not_true_eq_false, not_false_eq_true, eq_self, rw_X11_prove, hX, hF]
  refine mx_W_r (c_goTo v.s.f v.t.w v.t.r v.o v.f.z v.f.f ?_ ?_)
  · intro g f c1 q1 nk
    have v1 := v.r' f c1 q1
    have e39 := f.f 39 (by decide) (by decide)
    show mx_W (mx_ex _ _ _ _ [_] _ _ _) _
    simp (disch := omega) only [mx_vt_h, mx_vt_m, mx_cmp_0, mx_cmp_1, mx_cmp_2, mx_cmp_3, mx_cmp_4, mx_u_s, mx_u_a, mx_u_k, mx_z_a, mx_z_s, mx_t_a, mx_t_2, mx_t_1, mx_t_0, mx_gd_T, mx_gd_t, mx_br_T, mx_br_F, mx_br_t, mx_br_f, mx_br_n, mx_cl_T, mx_cl_t, mx_re_T, mx_re_t, mx_rt_v, mx_rt_0, mx_cu_t, mx_w_id, mx_l_id, mx_b_0, mx_b_1, mx_b_r, mx_nl_0, mx_nl_1, mx_nl_2, mx_nl_n, mx_nl_l, mx_sw_n, mx_sw_h, mx_sw_m, Int.reduceLE, Int.reduceLT, Int.reduceEq, Int.reduceAdd, Int.reduceSub, Int.reduceMul, Int.reduceNeg, Int.reduceToNat, and_self, true_and, and_true, false_and, and_false, true_or, or_true, false_or, or_false, not_true_eq_false, not_false_eq_true, eq_self, rw_X11_prove]
    refine mx_W_s ?_
    simp (disch := omega) only [mx_vt_h, mx_vt_m, mx_cmp_0, mx_cmp_1, mx_cmp_2, mx_cmp_3, mx_cmp_4, mx_u_s, mx_u_a, mx_u_k, mx_z_a, mx_z_s, mx_t_a, mx_t_2, mx_t_1, mx_t_0, mx_gd_T, mx_gd_t, mx_br_T, mx_br_F, mx_br_t, mx_br_f, mx_br_n, mx_cl_T, mx_cl_t, mx_re_T, mx_re_t, mx_rt_v, mx_rt_0, mx_cu_t, mx_w_id, mx_l_id, mx_b_0, mx_b_1, mx_b_r, mx_nl_0, mx_nl_1, mx_nl_2, mx_nl_n, mx_nl_l, mx_sw_n, mx_sw_h, mx_sw_m, Int.reduceLE, Int.reduceLT, Int.reduceEq, Int.reduceAdd, Int.reduceSub, Int.reduceMul, Int.reduceNeg, Int.reduceToNat, and_self, true_and, and_true, false_and, and_false, true_or, or_true, false_or, or_false, not_true_eq_false, not_false_eq_true, eq_self, rw_X12_prove, hM.e]
    refine mx_W_r (c_findW hM v1.t.w k0 k1 ?_ ?_)
    · intro g2 f2 _
      show mx_W (mx_ex _ _ _ _ [_] _ _ _) _
      simp (disch := omega) only [mx_vt_h, mx_vt_m, mx_cmp_0, mx_cmp_1, mx_cmp_2, mx_cmp_3, mx_cmp_4, mx_u_s, mx_u_a, mx_u_k, mx_z_a, mx_z_s, mx_t_a, mx_t_2, mx_t_1, mx_t_0, mx_gd_T, mx_gd_t, mx_br_T, mx_br_F, mx_br_t, mx_br_f, mx_br_n, mx_cl_T, mx_cl_t, mx_re_T, mx_re_t, mx_rt_v, mx_rt_0, mx_cu_t, mx_w_id, mx_l_id, mx_b_0, mx_b_1, mx_b_r, mx_nl_0, mx_nl_1, mx_nl_2, mx_nl_n, mx_nl_l, mx_sw_n, mx_sw_h, mx_sw_m, Int.reduceLE, Int.reduceLT, Int.reduceEq, Int.reduceAdd, Int.reduceSub, Int.reduceMul, Int.reduceNeg, Int.reduceToNat, and_self, true_and, and_true, false_and, and_false, true_or, or_true, false_or, or_false, not_true_eq_false, not_false_eq_true, eq_self, rw_X12_prove]
      exact mx_W_s ⟨⟨_, rfl, rfl⟩, (v1.m f2).w hc⟩
    · intro g2 u f2 u0 u1 wu ce
      rw [e39] at ce wu
      have lt := cT_lt u0 u1 wu
      have ge := (cT_r (σ := h 39) (x := 63) u0).1
      rw [ce] at lt ge
      rcases nk with nk | nk
      · exact absurd ge (Int.not_le.mpr nk)
      · exact absurd nk (Int.not_le.mpr lt)
  · intro g u f c1 q1 u0 u1 wu ce b0 b1 b2
    have v1 := v.r' f c1 q1
    have e39 := f.f 39 (by decide) (by decide)
    have w := v1.t.w
    have hN := w.N
    have wb := wi_b v.t.w wu
    have r3 : g 3 3 = g 39 0 := v1.t.r.c
    show mx_W (mx_ex _ _ _ _ [_] _ _ _) _
    have o1 : ∀ q, ¬ q = 0 → mx_u g 0 10 (g 39 0) q = g q := fun q z => mx_u_a z
    have rr1 : rr S (mx_u g 0 10 (g 39 0)) n 3 (g 39) := v1.t.r.gg (by rw [o1 3 (by decide)]) (by rw [o1 3 (by decide)]) (o1 4 (by decide)) (o1 5 (by decide)) (o1 6 (by decide)) rfl (fun _ _ _ => rfl) (fun q a _ => o1 q (by omega)) (Int.le_refl _)
    have e8 : mx_u g 0 10 (g 39 0) 8 = g 8 := o1 8 (by decide)
    have bb1 := b3 (β := g 8) b0 b1 b2 wb.1 wb.2.1 wb.2.2
    have ih := fun l3 l4 => c_prv_l (d := d + 9) (n := n) (h := mx_u g 0 10 (g 39 0)) (σ := g 39) (k := k) (i := 0) (l3 := l3) (l4 := l4) v.s rr1 w (by rw [e8]; exact bb1) mx_u_s (by omega)
    rw [e8, Int.zero_mul, fo_0] at ih
    simp (disch := omega) only [mx_vt_h, mx_vt_m, mx_cmp_0, mx_cmp_1, mx_cmp_2, mx_cmp_3, mx_cmp_4, mx_u_s, mx_u_a, mx_u_k, mx_z_a, mx_z_s, mx_t_a, mx_t_2, mx_t_1, mx_t_0, mx_gd_T, mx_gd_t, mx_br_T, mx_br_F, mx_br_t, mx_br_f, mx_br_n, mx_cl_T, mx_cl_t, mx_re_T, mx_re_t, mx_rt_v, mx_rt_0, mx_cu_t, mx_w_id, mx_l_id, mx_b_0, mx_b_1, mx_b_r, mx_nl_0, mx_nl_1, mx_nl_2, mx_nl_n, mx_nl_l, mx_sw_n, mx_sw_h, mx_sw_m, Int.reduceLE, Int.reduceLT, Int.reduceEq, Int.reduceAdd, Int.reduceSub, Int.reduceMul, Int.reduceNeg, Int.reduceToNat, and_self, true_and, and_true, false_and, and_false, true_or, or_true, false_or, or_false, not_true_eq_false, not_false_eq_true, eq_self, rw_X11_prove, hX, hF, r3, ih]
    refine mx_W_s ?_
    obtain ⟨g1, eg⟩ : ∃ g1, id (fo (mx_u g 0 10 (g 39 0)) 30 0 (rf (g 39) (g 8)) (g 39 0 * 3) = g1) := ⟨_, rfl⟩
    have eg : fo (mx_u g 0 10 (g 39 0)) 30 0 (rf (g 39) (g 8)) (g 39 0 * 3) = g1 := eg
    try rw [eg]
    have G1 : ∀ q, ¬ q = 0 → ¬ q = 30 → g1 q = g q := fun q a b => by rw [← eg, fo_o b, mx_u_a a]
    have e139 := G1 39 (by decide) (by decide)
    simp (disch := omega) only [mx_vt_h, mx_vt_m, mx_cmp_0, mx_cmp_1, mx_cmp_2, mx_cmp_3, mx_cmp_4, mx_u_s, mx_u_a, mx_u_k, mx_z_a, mx_z_s, mx_t_a, mx_t_2, mx_t_1, mx_t_0, mx_gd_T, mx_gd_t, mx_br_T, mx_br_F, mx_br_t, mx_br_f, mx_br_n, mx_cl_T, mx_cl_t, mx_re_T, mx_re_t, mx_rt_v, mx_rt_0, mx_cu_t, mx_w_id, mx_l_id, mx_b_0, mx_b_1, mx_b_r, mx_nl_0, mx_nl_1, mx_nl_2, mx_nl_n, mx_nl_l, mx_sw_n, mx_sw_h, mx_sw_m, Int.reduceLE, Int.reduceLT, Int.reduceEq, Int.reduceAdd, Int.reduceSub, Int.reduceMul, Int.reduceNeg, Int.reduceToNat, and_self, true_and, and_true, false_and, and_false, true_or, or_true, false_or, or_false, not_true_eq_false, not_false_eq_true, eq_self, rw_X12_prove, hM.e]
    refine mx_W_r (c_findW hM (by rw [e139]; exact w) k0 k1 ?_ ?_)
    · intro g2 f2 nk
      rw [e139, e39] at nk
      have lt := cT_lt u0 u1 wu
      have ge := (cT_r (σ := h 39) (x := 63) u0).1
      rw [ce] at lt ge
      rcases nk with nk | nk
      · exact absurd ge (Int.not_le.mpr nk)
      · exact absurd nk (Int.not_le.mpr lt)
    · intro g2 u2 f2 u20 u21 wu2 ce2 b20 b21 b22
      rw [e139, e39] at ce2 wu2
      have eu := wi_u u20 u0 wu2 wu (by omega)
      subst eu
      have eb : ∀ e, 0 ≤ e → e ≤ 2 → g2 43 e = g 8 e := by
        intro e a b
        have : e = 0 ∨ e = 1 ∨ e = 2 := by omega
        rcases this with z | z | z <;> subst z
        · rw [b20, b0]
        · rw [b21, b1]
        · rw [b22, b2]
      show mx_W (mx_ex _ _ _ _ [_] _ _ _) _
      have e239 : g2 39 = g 39 := by rw [f2 39 (by decide), e139]
      have o2 : ∀ q, ¬ q = 38 → mx_u g2 38 15 (g 39 0) q = g2 q := fun q z => mx_u_a z
      have bb2 := b3 (β := g2 43) b20 b21 b22 wb.1 wb.2.1 wb.2.2
      have ih2 := c_prM_l (d := d + 8) (n := n) (h := mx_u g2 38 15 (g 39 0)) (k := k) (i := 0) hM (by rw [o2 39 (by decide), e239]; exact w) (by rw [o2 43 (by decide)]; exact bb2) (by rw [mx_u_s, o2 39 (by decide), e239]) (by rw [o2 39 (by decide), e239]; omega)
      rw [o2 39 (by decide), o2 43 (by decide), e239, Int.mul_zero, fo_0] at ih2
      simp (disch := omega) only [mx_vt_h, mx_vt_m, mx_cmp_0, mx_cmp_1, mx_cmp_2, mx_cmp_3, mx_cmp_4, mx_u_s, mx_u_a, mx_u_k, mx_z_a, mx_z_s, mx_t_a, mx_t_2, mx_t_1, mx_t_0, mx_gd_T, mx_gd_t, mx_br_T, mx_br_F, mx_br_t, mx_br_f, mx_br_n, mx_cl_T, mx_cl_t, mx_re_T, mx_re_t, mx_rt_v, mx_rt_0, mx_cu_t, mx_w_id, mx_l_id, mx_b_0, mx_b_1, mx_b_r, mx_nl_0, mx_nl_1, mx_nl_2, mx_nl_n, mx_nl_l, mx_sw_n, mx_sw_h, mx_sw_m, Int.reduceLE, Int.reduceLT, Int.reduceEq, Int.reduceAdd, Int.reduceSub, Int.reduceMul, Int.reduceNeg, Int.reduceToNat, and_self, true_and, and_true, false_and, and_false, true_or, or_true, false_or, or_false, not_true_eq_false, not_false_eq_true, eq_self, rw_X12_prove, hM.e, e239, ih2]
      refine mx_W_s ⟨⟨_, rfl, rfl⟩, ?_⟩
      have F : ∀ q, ¬ q = 0 → ¬ q = 30 → ¬ q = 38 → ¬ q = 46 → ¬ (43 ≤ q ∧ q ≤ 45) → fo (mx_u g2 38 15 (g 39 0)) 46 0 (rf (g 39) (g2 43)) (3 * g 39 0) q = g q := fun q a b c d e => by rw [fo_o d, mx_u_a c, f2 q (by omega), G1 q a b]
      refine v1.R hc F (fun k z => ?_) (fun k z => ?_) (rws.mk ?_ ?_ ?_)
      · rw [fo_o (by decide), mx_u_a (by decide), f2 0 (by decide), ← eg, fo_o (by decide), mx_u_k z]
      · rw [fo_o (by decide), mx_u_k z, f2 38 (by decide), G1 38 (by decide) (by decide)]
      · rw [fo_o (by decide), fo_o (by decide), mx_u_a (by decide), mx_u_s, f2 0 (by decide), ← eg, fo_o (by decide), mx_u_s]
      · rw [fo_o (by decide), mx_u_s]; exact hN
      · intro k a b
        rw [fo_o (a := 38) (by decide), mx_u_s] at b
        rw [fo_i a (by omega), fo_o (by decide), mx_u_a (by decide), f2 30 (by decide), ← eg, fo_i a (by omega)]
        rw [Int.sub_zero]
        exact (rf_c w eb a b).symm
end
