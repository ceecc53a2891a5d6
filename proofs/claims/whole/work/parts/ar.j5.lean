section
variable {L : Nat} {x : Nat → Int32} {c : Int}
theorem a_valley (hc : c ≤ 599) : ag L x 100 174 [] 0 c := by
  intro d S h n v
  have hX := v.s.x.e
  have hF := v.s.f.e
  have hM := v.s.m.e
  have vn := v.n
  have vc := v.c
  have pc := v.p.c
  have pr := v.p.r
  have n5 : 53 ≤ n := vn.1
  obtain ⟨g0, e0, X0, D0, s0⟩ := C_tp (d := d + 1) v
  have W : ws L x (mx_u S 22 3 1) (mx_u h 0 1 0) := ws.mk (fun a q => by rw [mx_u_a (by omega)]; exact v.s.n a q) (fun a q => by rw [mx_u_a (by omega)]; exact v.g a q)
  have J := J_tl (L := L) (x := x) (d := d + 1) (dR := d + 2) (M := h 38 5) (a1 := 1) s0 n5 W X0 D0 (i := 0) (by omega) (l5 := none) (l6 := none)
  rcases J with ⟨p', S1, h1, n1, eC, X1, D1, Z⟩ | ⟨p', σ', S1, h1, n1, eC, X1, D1, z2, Z⟩
  · have eT := e0.trans eC
    have T0 : ∀ b, b < n → ¬ b = 27 → ¬ b = 22 → S1 b = S b := fun b q0 q1 q2 => by rw [D1.S0 b q0 q1, mx_u_a q2]
    have G0 : ∀ b, b < n → ¬ (22 ≤ b ∧ b ≤ 28) → ¬ b = 0 → h1 b = h b := fun b q0 q1 q2 => by rw [D1.g0 b q0 q1, mx_u_a q2]
    have m1 := D1.m
    have e00 := T0 0 (by omega) (by decide) (by decide)
    have cs := X1.c.s
    have w1 : ws L x S1 h1 := W.d D1 n5
    have mT : sh_M S1 := by
      refine sh_M.mk ?_
      have oT : ∀ b, 38 ≤ b → b ≤ 52 → S1 b = S b := fun b b0 b1 => T0 b (by omega) (by omega) (by omega)
      simp (disch := omega) only [oT]; exact hM
    simp (disch := omega) only [mx_vt_h, mx_vt_m, mx_cmp_0, mx_cmp_1, mx_cmp_2, mx_cmp_3, mx_cmp_4, mx_u_s, mx_u_a, mx_u_k, mx_z_a, mx_z_s, mx_t_a, mx_t_2, mx_t_1, mx_t_0, mx_gd_T, mx_gd_t, mx_br_T, mx_br_F, mx_br_t, mx_br_f, mx_br_n, mx_cl_T, mx_cl_t, mx_re_T, mx_re_t, mx_rt_v, mx_rt_0, mx_cu_t, mx_w_id, mx_l_id, mx_b_0, mx_b_1, mx_b_r, mx_nl_0, mx_nl_1, mx_nl_2, mx_nl_n, mx_nl_l, mx_sw_n, mx_sw_h, mx_sw_m, Int.reduceLE, Int.reduceLT, Int.reduceEq, Int.reduceAdd, Int.reduceSub, Int.reduceMul, Int.reduceNeg, Int.reduceToNat, and_self, true_and, and_true, false_and, and_false, true_or, or_true, false_or, or_false, not_true_eq_false, not_false_eq_true, eq_self, rw_X11_valley, hX, pc, eT, e00, X1.s.e, cs]
    refine mx_W_s ?_
    obtain ⟨g, e, F1, F38, F5, F39⟩ := R_v0 (L := L) (x := x) (d := d + 2) (S := S1) (h := h1) (n := n1) (t := h 1) (N := h 38 5) (p' := p') mT w1 (fun k a b => by rw [G0 42 (by omega) (by decide) (by decide)]; exact (v.p.t k a b).symm) (fun k a b => by rw [v.p.t k a b]; exact v.p.b k a b) (by rw [G0 38 (by omega) (by decide) (by decide)]) pr.2 pr.1 (by rw [G0 39 (by omega) (by decide) (by decide)]; exact Z)
    show mx_W (mx_M (d + 2 + 10) 174 [(2, 38)] S1 h1 n1) _
    rw [e]
    refine mx_W_s ⟨⟨_, rfl, rfl⟩, ?_⟩
    have T22 : ∀ k, ¬ k = 3 → S1 22 k = S 22 k := fun k q => by rw [D1.S0 22 (by omega) (by decide), mx_u_k q]
    have T27 : ∀ k, k < 0 → S1 27 k = S 27 k := fun k q => by rw [D1.S4 k q, mx_u_a (by decide)]
    have h10 : h1 0 = mx_u h 0 1 0 0 := D1.g0 0 (by omega) (by decide)
    obtain ⟨g', eg⟩ : ∃ g' : mx_H, id (∀ b, g' b = if b = 39 then h 39 else g b) := ⟨fun b => if b = 39 then h 39 else g b, fun _ => rfl⟩
    have eg : ∀ b, g' b = if b = 39 then h 39 else g b := eg
    have k39 : g' 39 = h 39 := by rw [eg, if_pos rfl]
    have ko : ∀ b, ¬ b = 39 → g' b = g b := fun b q => by rw [eg, if_neg q]
    have F : ∀ b, b < n → ¬ (22 ≤ b ∧ b ≤ 28) → ¬ b = 0 → ¬ b = 38 → ¬ b = 41 → g' b = h b := fun b q0 q1 q2 q3 q4 => by
      by_cases z : b = 39
      · rw [z]; exact k39
      · rw [ko b z, F1 b q3 z q4, G0 b q0 q1 q2]
    have f0 : ∀ k, ¬ k = 1 → g' 0 k = h 0 k := fun k q => by rw [ko 0 (by decide), F1 0 (by decide) (by decide) (by decide), h10, mx_u_k q]
    have f01 : g' 0 1 = 0 := by rw [ko 0 (by decide), F1 0 (by decide) (by decide) (by decide), h10, mx_u_s]
    have f38 : ∀ k, k < 5 ∨ 10 < k → g' 38 k = h 38 k := fun k q => by rw [ko 38 (by decide), F38 k q, G0 38 (by omega) (by decide) (by decide)]
    have F' : ∀ b, b < n → (b < 0 ∨ 0 < b ∧ b < 22 ∨ 28 < b ∧ b < 38 ∨ b = 39 ∨ b = 40 ∨ 41 < b) → g' b = h b := fun b q0 q1 => F b q0 (by omega) (by omega) (by omega) (by omega)
    have V : Inv L x S1 g' n1 (c + 1) := by
      refine v.TX hc ?_ ?_ ?_ (fun b q => T0 b (by omega) (by omega) (by omega)) (T0 32 (by omega) (by decide) (by decide)) (T0 35 (by omega) (by decide) (by decide)) (fun b _ q => T0 b q (by omega) (by omega)) (fun b a0 a1 a2 a3 a4 a5 a6 => F b (by omega) a6 a3 a4 a2) f01 (by rw [ko 38 (by decide)]; exact F5) ?_ (f38 22 (by decide)) (fun b a0 a1 => F' b a1 (by omega)) ?_ (by omega) (by omega)
      · exact v.t.gg k39 (f0 6 (by decide)) (by rw [F' 3 (by omega) (by decide)]) (by rw [F' 3 (by omega) (by decide)]) (F' 4 (by omega) (by decide)) (F' 5 (by omega) (by decide)) (F' 6 (by omega) (by decide)) (T0 7 (by omega) (by decide) (by decide)) (fun b _ q => T0 b q (by omega) (by omega)) (fun b a0 a1 => F' b a1 (by omega)) (by omega)
      · exact v.k.gg v.t k39 (F' 40 (by omega) (by decide)) (f0 5 (by decide)) (f0 7 (by decide)) (f38 3 (by decide)) (by rw [F' 17 (by omega) (by decide)]) (by rw [F' 17 (by omega) (by decide)]) (F' 18 (by omega) (by decide)) (F' 19 (by omega) (by decide)) (F' 20 (by omega) (by decide)) (T0 7 (by omega) (by decide) (by decide)) (T0 21 (by omega) (by decide) (by decide)) (fun b _ q => T0 b q (by omega) (by omega)) (fun b a0 a1 => F' b a1 (by omega)) (by omega)
      · intro b k r
        by_cases z : b = 27
        · subst z; exact T27 k (by unfold ok at r; omega)
        · by_cases y : b = 22
          · subst y; exact T22 k (by unfold ok at r; omega)
          · rw [T0 b (by unfold ok at r; omega) z y]
      · exact v.r.gg (f0 10 (by decide)) (f38 15 (by decide)) (F' 30 (by omega) (by decide)) (F' 46 (by omega) (by decide))
      · exact (v.f.gg (F' 2 (by omega) (by decide)) (F' 15 (by omega) (by decide)) (F' 16 (by omega) (by decide)) (by rw [F' 3 (by omega) (by decide)]) k39).cc
    have G39 : ∀ k, 0 ≤ k → k ≤ 92 → g 39 k = h 39 k := fun k a b => by rw [F39 k a b, G0 39 (by omega) (by decide) (by decide)]
    refine V.q (fun k a b _ => by rw [k39]; exact G39 k a b) (fun b q _ => (ko b q).symm) (fun k _ => by rw [ko 0 (by decide)]) ?_
    have := f0 6 (by decide)
    rw [ko 0 (by decide)] at this
    rw [this, v.t.u, G39 2 (by decide) (by decide)]
  · have eT := e0.trans eC
    have T1 : ∀ b, b < n → ¬ b = 27 → ¬ b = 22 → S1 b = S b := fun b q0 q1 q2 => by rw [D1.f.S0 b q0 q1, mx_u_a q2]
    have G1 : ∀ b, b < n → ¬ (22 ≤ b ∧ b ≤ 28) → ¬ b = 0 → h1 b = h b := fun b q0 q1 q2 => by rw [D1.f.g0 b q0 q1, mx_u_a q2]
    have m1 := D1.f.m
    have WN := D1.w.N
    have e00 := T1 0 (by omega) (by decide) (by decide)
    have v3 : sv S1 3 := by
      refine sv.mk ?_
      have := v.s.f.v.e
      simp only [Int.reduceAdd] at this ⊢
      rw [T1 3 (by omega) (by decide) (by decide), T1 4 (by omega) (by decide) (by decide), T1 5 (by omega) (by decide) (by decide), T1 6 (by omega) (by decide) (by decide), T1 7 (by omega) (by decide) (by decide)]
      exact this
    have e33 := T1 3 (by omega) (by decide) (by decide)
    simp (disch := omega) only [mx_vt_h, mx_vt_m, mx_cmp_0, mx_cmp_1, mx_cmp_2, mx_cmp_3, mx_cmp_4, mx_u_s, mx_u_a, mx_u_k, mx_z_a, mx_z_s, mx_t_a, mx_t_2, mx_t_1, mx_t_0, mx_gd_T, mx_gd_t, mx_br_T, mx_br_F, mx_br_t, mx_br_f, mx_br_n, mx_cl_T, mx_cl_t, mx_re_T, mx_re_t, mx_rt_v, mx_rt_0, mx_cu_t, mx_w_id, mx_l_id, mx_b_0, mx_b_1, mx_b_r, mx_nl_0, mx_nl_1, mx_nl_2, mx_nl_n, mx_nl_l, mx_sw_n, mx_sw_h, mx_sw_m, Int.reduceLE, Int.reduceLT, Int.reduceEq, Int.reduceAdd, Int.reduceSub, Int.reduceMul, Int.reduceNeg, Int.reduceToNat, and_self, true_and, and_true, false_and, and_false, true_or, or_true, false_or, or_false, not_true_eq_false, not_false_eq_true, eq_self, rw_X11_valley, hX, hF, pc, eT, e00, e33, X1.s.e]
    refine mx_W_r (c_become v3 (D1.f.sv s0 n5) D1.r D1.w (by decide) (by decide) (by omega) (by decide) ?_)
    intro T g1 m B
    have B4 : ∀ k, k < 0 → T 7 k = S1 7 k := B.S4
    have Bl : ∀ j, 0 ≤ j → j < σ' 0 → n1 ≤ T 7 j ∧ n1 ≤ T (T 7 j) 2 := B.l
    have m0 := B.m0
    have T0 : ∀ b, b < n → ¬ b = 7 → ¬ b = 27 → ¬ b = 22 → T b = S b := fun b q0 q1 q2 q3 => by
      have := B.S0 b (by omega) q1
      rw [this, T1 b q0 q2 q3]
    have G0 : ∀ b, b < n → ¬ (3 ≤ b ∧ b ≤ 6) → ¬ (22 ≤ b ∧ b ≤ 28) → ¬ b = 0 → g1 b = h b := fun b q0 q1 q2 q3 => by
      have := B.g0 b (by omega) q1
      rw [this, G1 b q0 q2 q3]
    have t00 := T0 0 (by omega) (by decide) (by decide) (by decide)
    have t33 := T0 3 (by omega) (by decide) (by decide) (by decide)
    have c3 : g1 3 3 = σ' 0 := B.r.c
    show mx_W (mx_ex _ _ _ _ [] _ _ _) _
    simp (disch := omega) only [mx_vt_h, mx_vt_m, mx_cmp_0, mx_cmp_1, mx_cmp_2, mx_cmp_3, mx_cmp_4, mx_u_s, mx_u_a, mx_u_k, mx_z_a, mx_z_s, mx_t_a, mx_t_2, mx_t_1, mx_t_0, mx_gd_T, mx_gd_t, mx_br_T, mx_br_F, mx_br_t, mx_br_f, mx_br_n, mx_cl_T, mx_cl_t, mx_re_T, mx_re_t, mx_rt_v, mx_rt_0, mx_cu_t, mx_w_id, mx_l_id, mx_b_0, mx_b_1, mx_b_r, mx_nl_0, mx_nl_1, mx_nl_2, mx_nl_n, mx_nl_l, mx_sw_n, mx_sw_h, mx_sw_m, Int.reduceLE, Int.reduceLT, Int.reduceEq, Int.reduceAdd, Int.reduceSub, Int.reduceMul, Int.reduceNeg, Int.reduceToNat, and_self, true_and, and_true, false_and, and_false, true_or, or_true, false_or, or_false, not_true_eq_false, not_false_eq_true, eq_self, rw_X11_valley, t00, t33, hX, hF, c3]
    refine mx_W_s ?_
    obtain ⟨g2, e2⟩ : ∃ g2, id (mx_u g1 0 10 0 = g2) := ⟨_, rfl⟩
    have e2 : mx_u g1 0 10 0 = g2 := e2
    rw [e2]
    have f2 : ∀ b, ¬ b = 0 → g2 b = g1 b := fun b q => by rw [← e2, mx_u_a q]
    have mT : sh_M T := by
      refine sh_M.mk ?_
      have oT : ∀ b, 38 ≤ b → b ≤ 52 → T b = S b := fun b b0 b1 => T0 b (by omega) (by omega) (by omega) (by omega)
      simp (disch := omega) only [oT]; exact hM
    have G2 : ∀ b, b < n → ¬ (3 ≤ b ∧ b ≤ 6) → ¬ (22 ≤ b ∧ b ≤ 28) → ¬ b = 0 → g2 b = h b := fun b q0 q1 q2 q3 => by rw [f2 b q3, G0 b q0 q1 q2 q3]
    have w2 : ws L x T g2 := ws.mk (fun a q => by rw [T0 a (by omega) (by omega) (by omega) (by omega)]; exact v.s.n a q) (fun a q => by rw [G2 a (by omega) (by omega) (by omega) (by omega)]; exact v.g a q)
    obtain ⟨g, e, F1, F38, F5, F15, F39⟩ := R_v1 (L := L) (x := x) (d := d + 2) (S := T) (h := g2) (n := m) (t := h 1) (N := h 38 5) (p' := p') (σ' := σ') mT w2 (fun k a b => by rw [G2 42 (by omega) (by decide) (by decide) (by decide)]; exact (v.p.t k a b).symm) (fun k a b => by rw [v.p.t k a b]; exact v.p.b k a b) (by rw [G2 38 (by omega) (by decide) (by decide) (by decide)]) pr.2 pr.1 (by rw [G2 39 (by omega) (by decide) (by decide) (by decide)]; exact Z)
    show mx_W (mx_M (d + 2 + 10) 174 [(2, 38)] T g2 m) _
    rw [e]
    refine mx_W_s ⟨⟨_, rfl, rfl⟩, ?_⟩
    have T22 : ∀ k, ¬ k = 3 → T 22 k = S 22 k := fun k q => by
      have := B.S0 22 (by omega) (by decide)
      rw [this, D1.f.S0 22 (by omega) (by decide), mx_u_k q]
    have T27 : ∀ k, k < 0 → T 27 k = S 27 k := fun k q => by
      have := B.S0 27 (by omega) (by decide)
      rw [this, D1.f.S4 k q, mx_u_a (by decide)]
    have T7 : ∀ k, k < 0 → T 7 k = S 7 k := fun k q => by rw [B4 k q, T1 7 (by omega) (by decide) (by decide)]
    have F : ∀ b, b < n → ¬ (3 ≤ b ∧ b ≤ 6) → ¬ (22 ≤ b ∧ b ≤ 28) → ¬ b = 0 → ¬ b = 38 → ¬ b = 39 → ¬ b = 41 → g b = h b := fun b q0 q1 q2 q3 q4 q5 q6 => by rw [F1 b q4 q5 q6, G2 b q0 q1 q2 q3]
    have F' : ∀ b, b < n → (b < 0 ∨ 0 < b ∧ b < 3 ∨ 6 < b ∧ b < 22 ∨ 28 < b ∧ b < 38 ∨ b = 40 ∨ 41 < b) → g b = h b := fun b q0 q1 => F b q0 (by omega) (by omega) (by omega) (by omega) (by omega) (by omega)
    have h10 : h1 0 = mx_u h 0 1 0 0 := D1.f.g0 0 (by omega) (by decide)
    have g10 : g1 0 = mx_u h 0 1 0 0 := by
      have := B.g0 0 (by omega) (by decide)
      rw [this, h10]
    have g00 : g 0 = mx_u g1 0 10 0 0 := by rw [F1 0 (by decide) (by decide) (by decide), ← e2]
    have f0 : ∀ k, ¬ k = 1 → ¬ k = 10 → g 0 k = h 0 k := fun k q r => by rw [g00, mx_u_k r, g10, mx_u_k q]
    have f01 : g 0 1 = 0 := by rw [g00, mx_u_k (by decide), g10, mx_u_s]
    have f10 : g 0 10 = 0 := by rw [g00, mx_u_s]
    have f38 : ∀ k, k < 5 ∨ 10 < k ∧ ¬ k = 15 → g 38 k = h 38 k := fun k q => by rw [F38 k q, G2 38 (by omega) (by decide) (by decide) (by decide)]
    have fB : ∀ b, ¬ b = 38 → ¬ b = 39 → ¬ b = 41 → ¬ b = 0 → g b = g1 b := fun b q0 q1 q2 q3 => by rw [F1 b q0 q1 q2, f2 b q3]
    have g3 : g 3 = g1 3 := fB 3 (by decide) (by decide) (by decide) (by decide)
    have e40 : g 40 = h 40 := F' 40 (by omega) (by decide)
    have h13 : h1 3 = h 3 := G1 3 (by omega) (by decide) (by decide)
    refine v.TX hc (stt.mk (by rw [F39]; exact D1.w) ?_ ?_ ?_) (kpt.mk ?_ ?_ ?_ ?_ ?_ ?_) ?_ (fun b q => T0 b (by omega) (by omega) (by omega) (by omega)) (T0 32 (by omega) (by decide) (by decide) (by decide)) (T0 35 (by omega) (by decide) (by decide) (by decide)) (fun b _ q => T0 b q (by omega) (by omega) (by omega)) (fun b a0 a1 a2 a3 a4 a5 a6 => F b (by omega) a5 a6 a3 a4 a1 a2) f01 F5 ?_ (f38 22 (by decide)) (fun b a0 a1 => F' b a1 (by omega)) ?_ (by omega) (by omega)
    · rw [F39]
      exact B.r.gg (by rw [g3]) (by rw [g3]) (fB 4 (by decide) (by decide) (by decide) (by decide)) (fB 5 (by decide) (by decide) (by decide) (by decide)) (fB 6 (by decide) (by decide) (by decide) (by decide)) rfl (fun _ _ _ => rfl) (fun b b0 _ => fB b (by omega) (by omega) (by omega) (by omega)) (Int.le_refl _)
    · intro i j i0 i1 j0 j1 z
      rw [F39] at i1 j1
      exact B.d i j i0 i1 j0 j1 z
    · rw [F39, z2, cl0_2, f0 6 (by decide) (by decide)]; exact v.t.u
    · rw [f0 5 (by decide) (by decide), f38 3 (by decide)]; exact v.k.b
    · rw [f38 3 (by decide)]; exact v.k.c
    · rw [f38 3 (by decide), e40]; exact v.k.w
    · rw [f38 3 (by decide), e40]
      intro q
      exact (v.k.r q).gg (by rw [F' 17 (by omega) (by decide)]) (by rw [F' 17 (by omega) (by decide)]) (F' 18 (by omega) (by decide)) (F' 19 (by omega) (by decide)) (F' 20 (by omega) (by decide)) (T0 21 (by omega) (by decide) (by decide) (by decide)) (fun b _ r => T0 b r (by omega) (by omega) (by omega)) (fun b a0 a1 => F' b a1 (by omega)) (by omega)
    · rw [f38 3 (by decide), f0 7 (by decide) (by decide), e40]; exact v.k.u
    · rw [f38 3 (by decide)]
      intro q i j i0 i1 j0 j1
      rw [F39] at i1
      rw [e40] at j1
      have li := Bl i i0 i1
      have rj : CRoomNumbersLaw_law_r7303_6997d3.nr S h n (S 21 j) (h 40) j := (v.k.r q).n j j0 j1
      have p0 := rj.p0
      have p1 := rj.p1
      have q1 := rj.q1
      rw [T0 21 (by omega) (by decide) (by decide) (by decide), T0 (S 21 j) p1 (by omega) (by omega) (by omega)]
      omega
    · intro b k r
      by_cases z : b = 27
      · subst z; exact T27 k (by unfold ok at r; omega)
      · by_cases y : b = 22
        · subst y; exact T22 k (by unfold ok at r; omega)
        · by_cases u : b = 7
          · subst u; exact T7 k (by unfold ok at r; omega)
          · rw [T0 b (by unfold ok at r; omega) u z y]
    · exact rws.mk (by rw [f10, F15]) (by rw [F15]; decide) (fun k a b => by rw [F15] at b; omega)
    · have vv := v.f.v
      have u := B.u (by rw [h13]; omega) (by rw [h13]; omega)
      have u2 : g 3 5 = h 3 5 + (1 + σ' 0) := by rw [g3, u, h13]; omega
      exact v.f.nn (F' 2 (by omega) (by decide)) (F' 15 (by omega) (by decide)) u2 (by omega) (by omega)
end
