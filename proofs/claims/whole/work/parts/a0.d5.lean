/-! add -/
section
variable {L : Nat} {x : Nat → Int32} {S T h g : mx_H} {n m c : Int} {d : Nat}
/-- what nobody holds has been made -/
theorem Inv.gw (v : Inv L x S h n c) (hc : c ≤ 599) (o : ∀ b, b < n → T b = S b) (p : ∀ b, b < n → g b = h b) (l0 : n ≤ m) (l1 : m ≤ n + 24) : Inv L x T g m (c + 1) := by
  have vn := v.n
  refine v.B hc (fun b k q => by rw [o b (by unfold ok at q; omega)]) (fun b q => o b (by omega)) (o 7 (by omega)) (o 21 (by omega)) (fun b _ q => o b q) (fun b q _ _ _ => p b (by omega)) (fun b _ q _ => p b q) ?_ ?_ l0 l1
  · exact v.b.gg (p 47 (by omega)) (p 48 (by omega)) (p 49 (by omega)) (o 32 (by omega)) (fun b _ q => o b q) (fun b _ q _ => p b q) l0
  · exact v.l.gg (p 33 (by omega)) (p 34 (by omega)) (p 50 (by omega)) (p 51 (by omega)) (o 35 (by omega)) (fun b _ q => o b q) (fun b _ q _ => p b q) l0
/-- a sign from the end -/
def fe (σ : Int → Int) (a k : Int) : Int := if it σ a 3 - 1 - k < 0 then 0 else it σ a (4 + (it σ a 3 - 1 - k))
theorem fe_r {σ : Int → Int} {a k : Int} (w : nw σ a) (k0 : 0 ≤ k) : 0 ≤ fe σ a k ∧ fe σ a k ≤ 15 := by
  unfold fe; split
  · decide
  · exact w.s _ (by omega) (by omega)
theorem c_mfl {σ : Int → Int} {N p a k : Int} (r : nr S h N p σ a) (w : nw σ a) (k0 : 0 ≤ k ∧ k ≤ 5) : mx_M (d + 1) 41 [(2, p), (0, k)] S h n = some (some (0, fe σ a k), S, h, n) := by
  have hk := w.k
  have hn := w.n
  have rt := r.t
  have hp := c_hasPlace (d := d) (h := h) (n := n) (k := it σ a 3 - 1 - k) r w
  unfold fe
  by_cases q : it σ a 3 - 1 - k < 0
  · rw [if_pos q]
    rw [mx_b_f (by omega)] at hp
    simp (disch := omega) only [mx_vt_h, mx_vt_m, mx_cmp_0, mx_cmp_1, mx_cmp_2, mx_cmp_3, mx_cmp_4, mx_u_s, mx_u_a, mx_u_k, mx_z_a, mx_z_s, mx_t_a, mx_t_2, mx_t_1, mx_t_0, mx_gd_T, mx_gd_t, mx_br_T, mx_br_F, mx_br_t, mx_br_f, mx_br_n, mx_cl_T, mx_cl_t, mx_re_T, mx_re_t, mx_rt_v, mx_rt_0, mx_cu_t, mx_w_id, mx_l_id, mx_b_0, mx_b_1, mx_b_r, mx_nl_0, mx_nl_1, mx_nl_2, mx_nl_n, mx_nl_l, mx_sw_n, mx_sw_h, mx_sw_m, Int.reduceLE, Int.reduceLT, Int.reduceEq, Int.reduceAdd, Int.reduceSub, Int.reduceMul, Int.reduceNeg, Int.reduceToNat, and_self, true_and, and_true, false_and, and_false, true_or, or_true, false_or, or_false, not_true_eq_false, not_false_eq_true, eq_self, rw_X4_markFromLast, r.t, r.q, r.l, hp]
  · rw [if_neg q]
    rw [mx_b_t (by omega)] at hp
    simp (disch := omega) only [mx_vt_h, mx_vt_m, mx_cmp_0, mx_cmp_1, mx_cmp_2, mx_cmp_3, mx_cmp_4, mx_u_s, mx_u_a, mx_u_k, mx_z_a, mx_z_s, mx_t_a, mx_t_2, mx_t_1, mx_t_0, mx_gd_T, mx_gd_t, mx_br_T, mx_br_F, mx_br_t, mx_br_f, mx_br_n, mx_cl_T, mx_cl_t, mx_re_T, mx_re_t, mx_rt_v, mx_rt_0, mx_cu_t, mx_w_id, mx_l_id, mx_b_0, mx_b_1, mx_b_r, mx_nl_0, mx_nl_1, mx_nl_2, mx_nl_n, mx_nl_l, mx_sw_n, mx_sw_h, mx_sw_m, Int.reduceLE, Int.reduceLT, Int.reduceEq, Int.reduceAdd, Int.reduceSub, Int.reduceMul, Int.reduceNeg, Int.reduceToNat, and_self, true_and, and_true, false_and, and_false, true_or, or_true, false_or, or_false, not_true_eq_false, not_false_eq_true, eq_self, rw_X4_markFromLast, r.t, r.q, r.l, hp, r.s (it σ a 3 - 1 - k) (by omega) (by omega)]
theorem c_feM (hM : sh_M S) {a k : Int} (a0 : 0 ≤ a ∧ a ≤ 5) (w : nw (h 39) a) (k0 : 0 ≤ k ∧ k ≤ 5) : mx_M (d + 1) 215 [(2, 38), (0, a), (0, k)] S h n = some (some (0, fe (h 39) a k), S, h, n) := by
  have hn := w.n
  unfold fe
  by_cases q : it (h 39) a 3 - 1 - k < 0
  · rw [if_pos q]
    simp (disch := omega) only [mx_vt_h, mx_vt_m, mx_cmp_0, mx_cmp_1, mx_cmp_2, mx_cmp_3, mx_cmp_4, mx_u_s, mx_u_a, mx_u_k, mx_z_a, mx_z_s, mx_t_a, mx_t_2, mx_t_1, mx_t_0, mx_gd_T, mx_gd_t, mx_br_T, mx_br_F, mx_br_t, mx_br_f, mx_br_n, mx_cl_T, mx_cl_t, mx_re_T, mx_re_t, mx_rt_v, mx_rt_0, mx_cu_t, mx_w_id, mx_l_id, mx_b_0, mx_b_1, mx_b_r, mx_nl_0, mx_nl_1, mx_nl_2, mx_nl_n, mx_nl_l, mx_sw_n, mx_sw_h, mx_sw_m, Int.reduceLE, Int.reduceLT, Int.reduceEq, Int.reduceAdd, Int.reduceSub, Int.reduceMul, Int.reduceNeg, Int.reduceToNat, and_self, true_and, and_true, false_and, and_false, true_or, or_true, false_or, or_false, not_true_eq_false, not_false_eq_true, eq_self, rw_X12_fromEnd, hM.e, c_its hM]
  · rw [if_neg q]
    simp (disch := omega) only [mx_vt_h, mx_vt_m, mx_cmp_0, mx_cmp_1, mx_cmp_2, mx_cmp_3, mx_cmp_4, mx_u_s, mx_u_a, mx_u_k, mx_z_a, mx_z_s, mx_t_a, mx_t_2, mx_t_1, mx_t_0, mx_gd_T, mx_gd_t, mx_br_T, mx_br_F, mx_br_t, mx_br_f, mx_br_n, mx_cl_T, mx_cl_t, mx_re_T, mx_re_t, mx_rt_v, mx_rt_0, mx_cu_t, mx_w_id, mx_l_id, mx_b_0, mx_b_1, mx_b_r, mx_nl_0, mx_nl_1, mx_nl_2, mx_nl_n, mx_nl_l, mx_sw_n, mx_sw_h, mx_sw_m, Int.reduceLE, Int.reduceLT, Int.reduceEq, Int.reduceAdd, Int.reduceSub, Int.reduceMul, Int.reduceNeg, Int.reduceToNat, and_self, true_and, and_true, false_and, and_false, true_or, or_true, false_or, or_false, not_true_eq_false, not_false_eq_true, eq_self, rw_X12_fromEnd, hM.e, c_its hM]
def ssg (σ : Int → Int) (a b z i : Int) : Int := fe σ a (z - 1 - i) + fe σ b (z - 1 - i)
theorem c_add_g (s : shp S L) {σ : Int → Int} {p r a b N z i : Int} {l8 : Option mx_V} {R : mx_R} (na : nr S h N p σ a) (nb : nr S h N r σ b) (wa : nw σ a) (wb : nw σ b) (l0 : 53 ≤ N) (tN : S N (-2) = 20) (lN : S N (-1) = z) (z0 : 1 ≤ z ∧ z ≤ 6) (i0 : 0 ≤ i ∧ i ≤ z) (G : ∀ j, 0 ≤ j → j < z → ssg σ a b z j ≤ 15)
    (hE : 6 ≤ h 3 3 ∧ R = some (some (0, -2), S, fo h N 0 (ssg σ a b z) z, n) ∨ h 3 3 ≤ 5 ∧ mx_M (d + 1) 91 [(2, 3), (0, 0), (0, it σ a 1), (0, 0), (2, N)] S (fo h N 0 (ssg σ a b z) z) n = R ∧ ∃ w T g m, R = some (some (0, w), T, g, m)) :
    mx_ex (d + 2) 124 73 [some (2, 0), some (0, a), some (0, b), some (2, p), some (2, r), some (0, z), some (2, N), some (0, i), l8] [] S (fo h N 0 (ssg σ a b z) i) n = R := by
  have hX := s.x.e
  have hF := s.f.e
  have ka := wa.k
  have kb := wb.k
  have ta := na.t
  have tb := nb.t
  have na' : nr S (fo h N 0 (ssg σ a b z) i) N p σ a := na.gg (fun _ _ _ => rfl) (fun _ _ _ => fo_o (by omega)) (Int.le_refl _)
  have nb' : nr S (fo h N 0 (ssg σ a b z) i) N r σ b := nb.gg (fun _ _ _ => rfl) (fun _ _ _ => fo_o (by omega)) (Int.le_refl _)
  rw [rh_X11_add_73]
  by_cases q : i < z
  · have ih := fun l8 => c_add_g s (i := i + 1) (l8 := l8) na nb wa wb l0 tN lN z0 (by omega) G hE
    rw [← fo_s0 i0.1] at ih
    have Gi := G i i0.1 q
    have fa := fe_r wa (k := z - 1 - i) (by omega)
    have fb := fe_r wb (k := z - 1 - i) (by omega)
    have ca := c_mfl (d := d) (n := n) (k := z - 1 - i) na' wa (by omega)
    have cb := c_mfl (d := d) (n := n) (k := z - 1 - i) nb' wb (by omega)
    unfold ssg at ih Gi ca cb ⊢
    simp (disch := omega) only [mx_vt_h, mx_vt_m, mx_cmp_0, mx_cmp_1, mx_cmp_2, mx_cmp_3, mx_cmp_4, mx_u_s, mx_u_a, mx_u_k, mx_z_a, mx_z_s, mx_t_a, mx_t_2, mx_t_1, mx_t_0, mx_gd_T, mx_gd_t, mx_br_T, mx_br_F, mx_br_t, mx_br_f, mx_br_n, mx_cl_T, mx_cl_t, mx_re_T, mx_re_t, mx_rt_v, mx_rt_0, mx_cu_t, mx_w_id, mx_l_id, mx_b_0, mx_b_1, mx_b_r, mx_nl_0, mx_nl_1, mx_nl_2, mx_nl_n, mx_nl_l, mx_sw_n, mx_sw_h, mx_sw_m, Int.reduceLE, Int.reduceLT, Int.reduceEq, Int.reduceAdd, Int.reduceSub, Int.reduceMul, Int.reduceNeg, Int.reduceToNat, and_self, true_and, and_true, false_and, and_false, true_or, or_true, false_or, or_false, not_true_eq_false, not_false_eq_true, eq_self, rw_X11_add, rw_X11_add_1, hX, hF, ta, tb, tN, lN, ca, cb]
    exact ih _
  · have ei : i = z := by omega
    subst ei
    have e3 : fo h N 0 (ssg σ a b i) i 3 3 = h 3 3 := by rw [fo_o (by omega)]
    rcases hE with ⟨q1, q2⟩ | ⟨q1, q2, w, T, g, m, q3⟩
    · rw [q2]
      simp (disch := omega) only [mx_vt_h, mx_vt_m, mx_cmp_0, mx_cmp_1, mx_cmp_2, mx_cmp_3, mx_cmp_4, mx_u_s, mx_u_a, mx_u_k, mx_z_a, mx_z_s, mx_t_a, mx_t_2, mx_t_1, mx_t_0, mx_gd_T, mx_gd_t, mx_br_T, mx_br_F, mx_br_t, mx_br_f, mx_br_n, mx_cl_T, mx_cl_t, mx_re_T, mx_re_t, mx_rt_v, mx_rt_0, mx_cu_t, mx_w_id, mx_l_id, mx_b_0, mx_b_1, mx_b_r, mx_nl_0, mx_nl_1, mx_nl_2, mx_nl_n, mx_nl_l, mx_sw_n, mx_sw_h, mx_sw_m, Int.reduceLE, Int.reduceLT, Int.reduceEq, Int.reduceAdd, Int.reduceSub, Int.reduceMul, Int.reduceNeg, Int.reduceToNat, and_self, true_and, and_true, false_and, and_false, true_or, or_true, false_or, or_false, not_true_eq_false, not_false_eq_true, eq_self, rw_X11_add, rw_X11_add_1, hX, hF, e3]
    · rw [q3] at q2 ⊢
      simp (disch := omega) only [mx_vt_h, mx_vt_m, mx_cmp_0, mx_cmp_1, mx_cmp_2, mx_cmp_3, mx_cmp_4, mx_u_s, mx_u_a, mx_u_k, mx_z_a, mx_z_s, mx_t_a, mx_t_2, mx_t_1, mx_t_0, mx_gd_T, mx_gd_t, mx_br_T, mx_br_F, mx_br_t, mx_br_f, mx_br_n, mx_cl_T, mx_cl_t, mx_re_T, mx_re_t, mx_rt_v, mx_rt_0, mx_cu_t, mx_w_id, mx_l_id, mx_b_0, mx_b_1, mx_b_r, mx_nl_0, mx_nl_1, mx_nl_2, mx_nl_n, mx_nl_l, mx_sw_n, mx_sw_h, mx_sw_m, Int.reduceLE, Int.reduceLT, Int.reduceEq, Int.reduceAdd, Int.reduceSub, Int.reduceMul, Int.reduceNeg, Int.reduceToNat, and_self, true_and, and_true, false_and, and_false, true_or, or_true, false_or, or_false, not_true_eq_false, not_false_eq_true, eq_self, rw_X11_add, rw_X11_add_1, hX, hF, e3, ta, na'.e, q2]
termination_by (z - i).toNat
decreasing_by omega
theorem c_add_b (s : shp S L) {σ : Int → Int} {p r a b N z i : Int} {l8 : Option mx_V} (na : nr S h N p σ a) (nb : nr S h N r σ b) (wa : nw σ a) (wb : nw σ b) (l0 : 53 ≤ N) (tN : S N (-2) = 20) (lN : S N (-1) = z) (z0 : 1 ≤ z ∧ z ≤ 6) (i0 : 0 ≤ i ∧ i ≤ z) (G : ∃ j, i ≤ j ∧ j < z ∧ 15 < ssg σ a b z j) :
    ∃ g, mx_ex (d + 2) 124 73 [some (2, 0), some (0, a), some (0, b), some (2, p), some (2, r), some (0, z), some (2, N), some (0, i), l8] [] S (fo h N 0 (ssg σ a b z) i) n = some (some (0, -4), S, g, n) ∧ ∀ b, ¬ b = N → g b = h b := by
  have hX := s.x.e
  have hF := s.f.e
  have ka := wa.k
  have kb := wb.k
  have ta := na.t
  have tb := nb.t
  have na' : nr S (fo h N 0 (ssg σ a b z) i) N p σ a := na.gg (fun _ _ _ => rfl) (fun _ _ _ => fo_o (by omega)) (Int.le_refl _)
  have nb' : nr S (fo h N 0 (ssg σ a b z) i) N r σ b := nb.gg (fun _ _ _ => rfl) (fun _ _ _ => fo_o (by omega)) (Int.le_refl _)
  obtain ⟨j, j0, j1, j2⟩ := G
  have q : i < z := by omega
  have fa := fe_r wa (k := z - 1 - i) (by omega)
  have fb := fe_r wb (k := z - 1 - i) (by omega)
  have ca := c_mfl (d := d) (n := n) (k := z - 1 - i) na' wa (by omega)
  have cb := c_mfl (d := d) (n := n) (k := z - 1 - i) nb' wb (by omega)
  rw [rh_X11_add_73]
  by_cases u : 15 < ssg σ a b z i
  · refine ⟨fo h N 0 (ssg σ a b z) i, ?_, fun b q => fo_o q⟩
    unfold ssg at u ca cb ⊢
    simp (disch := omega) only [mx_vt_h, mx_vt_m, mx_cmp_0, mx_cmp_1, mx_cmp_2, mx_cmp_3, mx_cmp_4, mx_u_s, mx_u_a, mx_u_k, mx_z_a, mx_z_s, mx_t_a, mx_t_2, mx_t_1, mx_t_0, mx_gd_T, mx_gd_t, mx_br_T, mx_br_F, mx_br_t, mx_br_f, mx_br_n, mx_cl_T, mx_cl_t, mx_re_T, mx_re_t, mx_rt_v, mx_rt_0, mx_cu_t, mx_w_id, mx_l_id, mx_b_0, mx_b_1, mx_b_r, mx_nl_0, mx_nl_1, mx_nl_2, mx_nl_n, mx_nl_l, mx_sw_n, mx_sw_h, mx_sw_m, Int.reduceLE, Int.reduceLT, Int.reduceEq, Int.reduceAdd, Int.reduceSub, Int.reduceMul, Int.reduceNeg, Int.reduceToNat, and_self, true_and, and_true, false_and, and_false, true_or, or_true, false_or, or_false, not_true_eq_false, not_false_eq_true, eq_self, rw_X11_add, rw_X11_add_1, hX, hF, ta, tb, tN, lN, ca, cb]
  · have ji : ¬ j = i := fun e => u (by rw [← e]; exact j2)
    have ih := fun l8 => c_add_b s (i := i + 1) (l8 := l8) na nb wa wb l0 tN lN z0 (by omega) ⟨j, by omega, j1, j2⟩
    rw [← fo_s0 i0.1] at ih
    obtain ⟨g, e, f⟩ := ih (some (0, ssg σ a b z i))
    refine ⟨g, ?_, f⟩
    unfold ssg at u ca cb e ⊢
    simp (disch := omega) only [mx_vt_h, mx_vt_m, mx_cmp_0, mx_cmp_1, mx_cmp_2, mx_cmp_3, mx_cmp_4, mx_u_s, mx_u_a, mx_u_k, mx_z_a, mx_z_s, mx_t_a, mx_t_2, mx_t_1, mx_t_0, mx_gd_T, mx_gd_t, mx_br_T, mx_br_F, mx_br_t, mx_br_f, mx_br_n, mx_cl_T, mx_cl_t, mx_re_T, mx_re_t, mx_rt_v, mx_rt_0, mx_cu_t, mx_w_id, mx_l_id, mx_b_0, mx_b_1, mx_b_r, mx_nl_0, mx_nl_1, mx_nl_2, mx_nl_n, mx_nl_l, mx_sw_n, mx_sw_h, mx_sw_m, Int.reduceLE, Int.reduceLT, Int.reduceEq, Int.reduceAdd, Int.reduceSub, Int.reduceMul, Int.reduceNeg, Int.reduceToNat, and_self, true_and, and_true, false_and, and_false, true_or, or_true, false_or, or_false, not_true_eq_false, not_false_eq_true, eq_self, rw_X11_add, rw_X11_add_1, hX, hF, ta, tb, tN, lN, ca, cb]
    exact e
termination_by (z - i).toNat
decreasing_by omega
theorem c_addM_g (hM : sh_M S) {a b z : Int} {i : Nat} {l6 : Option mx_V} {R : mx_R} (a0 : 0 ≤ a ∧ a ≤ 5) (b0 : 0 ≤ b ∧ b ≤ 5) (wa : nw (h 39) a) (wb : nw (h 39) b) (z0 : 1 ≤ z ∧ z ≤ 6) (i0 : (i : Int) ≤ z) (G : ∀ j, 0 ≤ j → j < z → ssg (h 39) a b z j ≤ 15)
    (hE : mx_M (d + 2) 177 [(2, 38), (0, 0), (0, it (h 39) a 1), (0, 0), (0, z), (0, (pk (fun i => (ssg (h 39) a b z i).toNat) z.toNat : Nat))] S h n = R) (hR : ∃ w T g m, R = some (some (0, w), T, g, m)) :
    mx_ex (d + 3) 216 78 [some (2, 38), some (0, a), some (0, b), some (0, z), some (0, (pk (fun i => (ssg (h 39) a b z i).toNat) i : Nat)), some (0, z - 1 - i), l6] [] S h n = R := by
  have hM1 := hM.e
  rw [rh_X12_add_78]
  by_cases q : (i : Int) < z
  · have ih := fun l6 => c_addM_g hM (i := i + 1) (l6 := l6) a0 b0 wa wb z0 (by omega) G hE hR
    have Gi := G i (by omega) q
    have fa := fe_r wa (k := z - 1 - i) (by omega)
    have fb := fe_r wb (k := z - 1 - i) (by omega)
    have ca := c_feM (d := d + 1) (n := n) (k := z - 1 - i) hM a0 wa (by omega)
    have cb := c_feM (d := d + 1) (n := n) (k := z - 1 - i) hM b0 wb (by omega)
    have sr : ∀ j : Nat, j < i + 1 → (ssg (h 39) a b z j).toNat < 16 := fun j hj => by
      have := G j (by omega) (by omega)
      omega
    have pr := pk_r (f := fun i => (ssg (h 39) a b z i).toNat) i (fun j hj => sr j (by omega))
    have p6 : (16 : Nat) ^ i ≤ 16 ^ 5 := Nat.pow_le_pow_right (by decide) (by omega)
    have p5 : (16 : Nat) ^ 5 = 1048576 := rfl
    have s0 : 0 ≤ ssg (h 39) a b z i := by unfold ssg; omega
    have e1 : (((ssg (h 39) a b z i).toNat : Nat) : Int) = fe (h 39) a (z - 1 - i) + fe (h 39) b (z - 1 - i) := by
      have : (((ssg (h 39) a b z i).toNat : Nat) : Int) = ssg (h 39) a b z i := by omega
      rw [this]; rfl
    have pu := n_put (pk (fun i => (ssg (h 39) a b z i).toNat) i) (ssg (h 39) a b z i).toNat (by omega) (sr i (by omega))
    rw [e1] at pu
    have pS : pk (fun i => (ssg (h 39) a b z i).toNat) (i + 1) = pk (fun i => (ssg (h 39) a b z i).toNat) i * 16 + (ssg (h 39) a b z i).toNat := rfl
    rw [pS, ← pu] at ih
    have ei : z - 1 - ((i + 1 : Nat) : Int) = z - 1 - i + -1 := by omega
    rw [ei] at ih
    unfold ssg at Gi
    simp (disch := omega) only [mx_vt_h, mx_vt_m, mx_cmp_0, mx_cmp_1, mx_cmp_2, mx_cmp_3, mx_cmp_4, mx_u_s, mx_u_a, mx_u_k, mx_z_a, mx_z_s, mx_t_a, mx_t_2, mx_t_1, mx_t_0, mx_gd_T, mx_gd_t, mx_br_T, mx_br_F, mx_br_t, mx_br_f, mx_br_n, mx_cl_T, mx_cl_t, mx_re_T, mx_re_t, mx_rt_v, mx_rt_0, mx_cu_t, mx_w_id, mx_l_id, mx_b_0, mx_b_1, mx_b_r, mx_nl_0, mx_nl_1, mx_nl_2, mx_nl_n, mx_nl_l, mx_sw_n, mx_sw_h, mx_sw_m, Int.reduceLE, Int.reduceLT, Int.reduceEq, Int.reduceAdd, Int.reduceSub, Int.reduceMul, Int.reduceNeg, Int.reduceToNat, and_self, true_and, and_true, false_and, and_false, true_or, or_true, false_or, or_false, not_true_eq_false, not_false_eq_true, eq_self, rw_X12_add, rw_X12_add_1, hM1, ca, cb]
    exact ih _
  · have ei : (i : Int) = z := by omega
    have ez : z.toNat = i := by omega
    rw [ez] at hE
    obtain ⟨w, T, g, m, q3⟩ := hR
    have ci := c_its (d := d + 2) (n := n) (h := h) (a := a) (k := 1) hM (by omega) (by omega) (by decide) (by omega)
    rw [q3] at hE ⊢
    simp (disch := omega) only [mx_vt_h, mx_vt_m, mx_cmp_0, mx_cmp_1, mx_cmp_2, mx_cmp_3, mx_cmp_4, mx_u_s, mx_u_a, mx_u_k, mx_z_a, mx_z_s, mx_t_a, mx_t_2, mx_t_1, mx_t_0, mx_gd_T, mx_gd_t, mx_br_T, mx_br_F, mx_br_t, mx_br_f, mx_br_n, mx_cl_T, mx_cl_t, mx_re_T, mx_re_t, mx_rt_v, mx_rt_0, mx_cu_t, mx_w_id, mx_l_id, mx_b_0, mx_b_1, mx_b_r, mx_nl_0, mx_nl_1, mx_nl_2, mx_nl_n, mx_nl_l, mx_sw_n, mx_sw_h, mx_sw_m, Int.reduceLE, Int.reduceLT, Int.reduceEq, Int.reduceAdd, Int.reduceSub, Int.reduceMul, Int.reduceNeg, Int.reduceToNat, and_self, true_and, and_true, false_and, and_false, true_or, or_true, false_or, or_false, not_true_eq_false, not_false_eq_true, eq_self, rw_X12_add, rw_X12_add_1, hM1, ci, hE]
termination_by (z - i).toNat
decreasing_by omega
theorem c_addM_b (hM : sh_M S) {a b z : Int} {i : Int} {l6 : Option mx_V} {P : Int} (a0 : 0 ≤ a ∧ a ≤ 5) (b0 : 0 ≤ b ∧ b ≤ 5) (wa : nw (h 39) a) (wb : nw (h 39) b) (z0 : 1 ≤ z ∧ z ≤ 6) (i0 : 0 ≤ i ∧ i ≤ z) (G : ∃ j, i ≤ j ∧ j < z ∧ 15 < ssg (h 39) a b z j) :
    mx_ex (d + 3) 216 78 [some (2, 38), some (0, a), some (0, b), some (0, z), some (0, P), some (0, z - 1 - i), l6] [] S h n = some (some (0, -4), S, h, n) := by
  have hM1 := hM.e
  obtain ⟨j, j0, j1, j2⟩ := G
  have fa := fe_r wa (k := z - 1 - i) (by omega)
  have fb := fe_r wb (k := z - 1 - i) (by omega)
  have ca := c_feM (d := d + 1) (n := n) (k := z - 1 - i) hM a0 wa (by omega)
  have cb := c_feM (d := d + 1) (n := n) (k := z - 1 - i) hM b0 wb (by omega)
  rw [rh_X12_add_78]
  by_cases u : 15 < ssg (h 39) a b z i
  · unfold ssg at u
    simp (disch := omega) only [mx_vt_h, mx_vt_m, mx_cmp_0, mx_cmp_1, mx_cmp_2, mx_cmp_3, mx_cmp_4, mx_u_s, mx_u_a, mx_u_k, mx_z_a, mx_z_s, mx_t_a, mx_t_2, mx_t_1, mx_t_0, mx_gd_T, mx_gd_t, mx_br_T, mx_br_F, mx_br_t, mx_br_f, mx_br_n, mx_cl_T, mx_cl_t, mx_re_T, mx_re_t, mx_rt_v, mx_rt_0, mx_cu_t, mx_w_id, mx_l_id, mx_b_0, mx_b_1, mx_b_r, mx_nl_0, mx_nl_1, mx_nl_2, mx_nl_n, mx_nl_l, mx_sw_n, mx_sw_h, mx_sw_m, Int.reduceLE, Int.reduceLT, Int.reduceEq, Int.reduceAdd, Int.reduceSub, Int.reduceMul, Int.reduceNeg, Int.reduceToNat, and_self, true_and, and_true, false_and, and_false, true_or, or_true, false_or, or_false, not_true_eq_false, not_false_eq_true, eq_self, rw_X12_add, rw_X12_add_1, hM1, ca, cb]
  · have ji : ¬ j = i := fun e => u (by rw [← e]; exact j2)
    have ih := fun P l6 => c_addM_b hM (i := i + 1) (l6 := l6) (P := P) a0 b0 wa wb z0 (by omega) ⟨j, by omega, j1, j2⟩
    have ei : z - 1 - (i + 1) = z - 1 - i + -1 := by omega
    rw [ei] at ih
    unfold ssg at u
    simp (disch := omega) only [mx_vt_h, mx_vt_m, mx_cmp_0, mx_cmp_1, mx_cmp_2, mx_cmp_3, mx_cmp_4, mx_u_s, mx_u_a, mx_u_k, mx_z_a, mx_z_s, mx_t_a, mx_t_2, mx_t_1, mx_t_0, mx_gd_T, mx_gd_t, mx_br_T, mx_br_F, mx_br_t, mx_br_f, mx_br_n, mx_cl_T, mx_cl_t, mx_re_T, mx_re_t, mx_rt_v, mx_rt_0, mx_cu_t, mx_w_id, mx_l_id, mx_b_0, mx_b_1, mx_b_r, mx_nl_0, mx_nl_1, mx_nl_2, mx_nl_n, mx_nl_l, mx_sw_n, mx_sw_h, mx_sw_m, Int.reduceLE, Int.reduceLT, Int.reduceEq, Int.reduceAdd, Int.reduceSub, Int.reduceMul, Int.reduceNeg, Int.reduceToNat, and_self, true_and, and_true, false_and, and_false, true_or, or_true, false_or, or_false, not_true_eq_false, not_false_eq_true, eq_self, rw_X12_add, rw_X12_add_1, hM1, ca, cb]
    exact ih _ _
termination_by (z - i).toNat
decreasing_by omega
end
