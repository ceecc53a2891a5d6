section
variable {L : Nat} {x : Nat → Int32} {S h : mx_H} {n : Int} {d : Nat}
theorem c_clsW (hM : sh_M S) : mx_W (mx_M (d + 1) 156 [(2, 38)] S h n) (fun v S' g n' => v = none ∧ S' = S ∧ n' = n ∧ sh_M S' ∧ (∀ b, ¬ b = 39 → g b = h b) ∧ g 39 = cl0 (h 39)) := by
  obtain ⟨g, e, f, k⟩ := c_cls (d := d) (h := h) (n := n) hM
  rw [e]
  exact mx_W_s ⟨rfl, rfl, rfl, hM, f, k⟩
theorem n_M (s : S 38 (-2) = 13) : mx_W (mx_M (d + 2) 154 [(2, 38)] S h 39) (fun v S' h' n' => v = none ∧ n' = 53 ∧ (∀ b, b < 38 → S' b = S b ∧ h' b = h b) ∧ sh_M S' ∧ h' 38 = h 38 ∧ (∃ ρ, h' 39 = cl0 ρ ∧ ρ 2 = 1) ∧ ∀ k, 0 ≤ k → k ≤ 3 → h' 47 k = -1 ∧ h' 50 k = 0) := by
  simp (disch := omega) only [mx_vt_h, mx_vt_m, mx_cmp_0, mx_cmp_1, mx_cmp_2, mx_cmp_3, mx_cmp_4, mx_u_s, mx_u_a, mx_u_k, mx_z_a, mx_z_s, mx_t_a, mx_t_2, mx_t_1, mx_t_0, mx_gd_T, mx_gd_t, mx_br_T, mx_br_F, mx_br_t, mx_br_f, mx_br_n, mx_cl_T, mx_cl_t, mx_re_T, mx_re_t, mx_rt_v, mx_rt_0, mx_cu_t, mx_w_id, mx_l_id, mx_b_0, mx_b_1, mx_b_r, mx_nl_0, mx_nl_1, mx_nl_2, mx_nl_n, mx_nl_l, mx_sw_n, mx_sw_h, mx_sw_m, Int.reduceLE, Int.reduceLT, Int.reduceEq, Int.reduceAdd, Int.reduceSub, Int.reduceMul, Int.reduceNeg, Int.reduceToNat, and_self, true_and, and_true, false_and, and_false, true_or, or_true, false_or, or_false, not_true_eq_false, not_false_eq_true, eq_self, rw_X12_init, rw_X12_init_1, s]
  refine mx_W_rm (c_clsW (sh_M.mk ?_)) ?_
  · simp (disch := omega) only [mx_u_a, mx_u_k, mx_u_s, mx_t_a, mx_t_2, mx_t_1, s, and_self]
  rintro v S1 g n1 ⟨rfl, e1, rfl, M, f, k⟩
  have F1 : ∀ b, b < 38 → S1 b = S b := fun b b0 => by
    rw [e1]
    simp (disch := omega) only [mx_u_a, mx_t_a]
  have F2 : ∀ b, b < 38 → g b = h b := fun b b0 => by
    rw [f b (by omega)]
    simp (disch := omega) only [mx_u_a, mx_z_a]
  have F3 : g 38 = h 38 := by
    rw [f 38 (by decide)]
    simp (disch := omega) only [mx_u_a, mx_z_a]
  have F4 : ∀ k, 0 ≤ k → k ≤ 3 → g 47 k = -1 ∧ g 50 k = 0 := fun j j0 j1 => by
    rw [f 47 (by decide), f 50 (by decide)]
    have : j = 0 ∨ j = 1 ∨ j = 2 ∨ j = 3 := by omega
    rcases this with z | z | z | z <;> subst z <;> simp (disch := omega) only [mx_u_a, mx_u_k, mx_u_s, mx_z_a, mx_z_s, and_self]
  clear e1 f
  simp (disch := omega) only [mx_vt_h, mx_vt_m, mx_cmp_0, mx_cmp_1, mx_cmp_2, mx_cmp_3, mx_cmp_4, mx_u_s, mx_u_a, mx_u_k, mx_z_a, mx_z_s, mx_t_a, mx_t_2, mx_t_1, mx_t_0, mx_gd_T, mx_gd_t, mx_br_T, mx_br_F, mx_br_t, mx_br_f, mx_br_n, mx_cl_T, mx_cl_t, mx_re_T, mx_re_t, mx_rt_v, mx_rt_0, mx_cu_t, mx_w_id, mx_l_id, mx_b_0, mx_b_1, mx_b_r, mx_nl_0, mx_nl_1, mx_nl_2, mx_nl_n, mx_nl_l, mx_sw_n, mx_sw_h, mx_sw_m, Int.reduceLE, Int.reduceLT, Int.reduceEq, Int.reduceAdd, Int.reduceSub, Int.reduceMul, Int.reduceNeg, Int.reduceToNat, and_self, true_and, and_true, false_and, and_false, true_or, or_true, false_or, or_false, not_true_eq_false, not_false_eq_true, eq_self, rw_X12_init, rw_X12_init_1, Option.toList, List.nil_append]
  refine mx_W_s ⟨rfl, rfl, fun b b0 => ⟨F1 b b0, F2 b b0⟩, M, F3, ⟨_, k, ?_⟩, F4⟩
  simp (disch := omega) only [mx_u_a, mx_u_k, mx_u_s]
/-- what holds at first -/
theorem n_I : mx_W (mx_M (d + 3) 98 [(2, 0)] (mx_t (st_gS L) 0 7 0) (mx_z (st_gh x) 0) 1) (fun v S1 h1 n1 => v = none ∧ n1 = 38 ∧ mx_W (mx_M (d + 3) 154 [(2, 38)] (mx_t S1 38 13 0) (mx_z h1 38) 39) (fun v2 S2 h2 n2 => v2 = none ∧ Inv L x S2 h2 n2 0)) := by
  have gn : ∀ a, a < 0 → mx_t (st_gS L) 0 7 0 a = st_gS L a := fun a q => mx_t_a (by omega)
  refine mx_W_m (n_C (d := d) mx_t_2 (by rw [gn (-3) (by decide), gn (-4) (by decide)]; exact ⟨rfl, rfl, rfl, rfl⟩)) ?_
  rintro v S1 h1 n1 ⟨rfl, rfl, N, sF, v17, v23, sX, g0, g2, g4, g5, g15, gk, g361, g362⟩
  refine ⟨rfl, rfl, ?_⟩
  refine mx_W_m (n_M (d := d + 1) mx_t_2) ?_
  rintro v S2 h2 n2 ⟨rfl, rfl, F, sM, z38, ⟨ρ, r39, ρ2⟩, k47⟩
  refine ⟨rfl, ?_⟩
  have FS : ∀ b, b < 38 → S2 b = S1 b := fun b q => by rw [(F b q).1, mx_t_a (by omega)]
  have Fh : ∀ b, b < 38 → h2 b = h1 b := fun b q => by rw [(F b q).2, mx_z_a (by omega)]
  have h38 : ∀ k, h2 38 k = 0 := fun k => by rw [z38, mx_z_s]
  have e0 := Fh 0 (by decide)
  have e3 := Fh 3 (by decide)
  have e2 := Fh 2 (by decide)
  refine Inv.mk (shp.mk sM (sh_F.mk ?_) (sv.mk ?_) (sv.mk ?_) (sh_X.mk ?_) ?_) ?_ (by decide) (by decide) (stt.mk ?_ (rr.mk ?_ ?_ ?_ ?_ ?_ ?_) ?_ ?_) (kpt.mk ?_ ?_ ?_ ?_ ?_ ?_) (tpe.mk ?_ ?_ ?_ ?_) (rws.mk ?_ ?_ ?_) (shs.mk ?_ ?_) (slv.mk ?_) (trc.mk ?_ ?_ ?_) (fnd.mk ?_ ?_ ?_ ?_ ?_ ?_)
  · have e := sF.e
    simp (disch := omega) only [FS]; exact e
  · have e := v17.e
    simp only [Int.reduceAdd] at e ⊢
    simp (disch := omega) only [FS]; exact e
  · have e := v23.e
    simp only [Int.reduceAdd] at e ⊢
    simp (disch := omega) only [FS]; exact e
  · have e := sX.e
    simp (disch := omega) only [FS]; exact e
  · intro a q; rw [FS a (by omega), (N a q).1]; exact gn a q
  · intro a q; rw [Fh a (by omega), (N a q).2, mx_z_a (by omega)]
  · rw [r39]; exact cl0_w
  · rw [r39, cl0_0, e3]; exact g2.2.2.1
  · rw [r39, cl0_1, e3]; exact g2.2.2.2.1
  · intro e a b; rw [r39, (cl0_e a b).1]; show h2 4 e = 2; rw [Fh 4 (by decide)]; exact g4 e a b
  · intro e a b; rw [r39, (cl0_e a b).2]; show h2 5 e = 16; rw [Fh 5 (by decide)]; exact g5 e a b
  · intro l k l0 l1; rw [r39, cl0_1] at l1; omega
  · intro i i0 i1; rw [r39, cl0_0] at i1; omega
  · intro i j i0 i1; rw [r39, cl0_0] at i1; omega
  · rw [r39, cl0_2, ρ2, e0]; exact g0.2.2.1
  · rw [e0, h38]; exact g0.2.1
  · exact Or.inl (h38 3)
  · intro q; rw [h38] at q; omega
  · intro q; rw [h38] at q; omega
  · intro q; rw [h38] at q; omega
  · intro q; rw [h38] at q; omega
  · rw [e0, h38]; exact g0.1
  · rw [h38]; decide
  · intro k a b; rw [h38] at b; omega
  · intro k a b; rw [h38] at b; omega
  · rw [e0, h38]; exact g0.2.2.2
  · rw [h38]; decide
  · intro k a b; rw [h38] at b; omega
  · intro k k0 k1
    refine Or.inl ⟨(k47 k k0 k1).1, ?_⟩
    rw [FS 32 (by decide)]; exact (gk k k0 k1).1
  · intro k l k0 k1 l0 l1 q z; have := (k47 k k0 k1).1; omega
  · intro k k0 k1
    have a := gk k k0 k1
    refine Or.inr (Or.inl ⟨?_, (k47 k k0 k1).2, ?_⟩)
    · rw [Fh 33 (by decide), a.2.2]; decide
    · rw [FS 35 (by decide)]; exact a.2.1
  · rw [Fh 36 (by decide), g361]; decide
  · refine Or.inl ⟨?_, ?_⟩
    · rw [Fh 36 (by decide)]; exact g362
    · rw [h38, Fh 36 (by decide), g361]
  · intro k a b; rw [h38] at b; omega
  · intro k a b _; rw [Fh 15 (by decide)]; exact g15 k
  · intro q; rw [e2, e3, g2.1, g2.2.2.2.2] at q; omega
  · intro q; rw [e2, e3, g2.2.1, g2.2.2.2.2] at q; omega
  · rw [e3, g2.2.2.2.2]; decide
  · rw [e2, e3, g2.1, g2.2.2.2.2]; decide
  · rw [e2, e3, g2.2.1, g2.2.2.2.2]; decide
end
