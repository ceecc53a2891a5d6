section
variable {L : Nat} {x : Nat → Int32} {S T h g : mx_H} {n m c : Int} {d : Nat}
theorem a_sheet {a s z : Int} (hc : c ≤ 599) : ag L x 132 227 [(0, a), (0, s), (0, z)] 0 c := by
  intro d S h n v
  have hX := v.s.x.e
  have hM := v.s.m.e
  have vn := v.n
  by_cases q : 0 ≤ a ∧ a ≤ 3
  · by_cases s0 : -1 ≤ s ∧ s ≤ 3
    · by_cases s1 : s = -1
      · subst s1
        simp (disch := omega) only [mx_vt_h, mx_vt_m, mx_cmp_0, mx_cmp_1, mx_cmp_2, mx_cmp_3, mx_cmp_4, mx_u_s, mx_u_a, mx_u_k, mx_z_a, mx_z_s, mx_t_a, mx_t_2, mx_t_1, mx_t_0, mx_gd_T, mx_gd_t, mx_br_T, mx_br_F, mx_br_t, mx_br_f, mx_br_n, mx_cl_T, mx_cl_t, mx_re_T, mx_re_t, mx_rt_v, mx_rt_0, mx_cu_t, mx_w_id, mx_l_id, mx_b_0, mx_b_1, mx_b_r, mx_nl_0, mx_nl_1, mx_nl_2, mx_nl_n, mx_nl_l, mx_sw_n, mx_sw_h, mx_sw_m, Int.reduceLE, Int.reduceLT, Int.reduceEq, Int.reduceAdd, Int.reduceSub, Int.reduceMul, Int.reduceNeg, Int.reduceToNat, and_self, true_and, and_true, false_and, and_false, true_or, or_true, false_or, or_false, not_true_eq_false, not_false_eq_true, eq_self, rw_X11_sheet, hX, c_xSh, mx_b_t q, c_within, mx_b_t s0]
        refine mx_W_s ?_
        have m2 : sh_M (mx_u S 32 a (-1)) := by
          refine sh_M.mk ?_
          simp (disch := omega) only [mx_u_a]; exact hM
        have hM2 := m2.e
        have ih := fun l2 l3 => c_shl (S := mx_u S 32 a (-1)) (h := mx_u (mx_u h 47 a (-1)) 48 a 0) (n := n) (d := d + 12) (a := a) (k := 0) (l2 := l2) (l3 := l3) m2 q (by decide) (by decide)
        rw [zr_0] at ih
        simp (disch := omega) only [mx_vt_h, mx_vt_m, mx_cmp_0, mx_cmp_1, mx_cmp_2, mx_cmp_3, mx_cmp_4, mx_u_s, mx_u_a, mx_u_k, mx_z_a, mx_z_s, mx_t_a, mx_t_2, mx_t_1, mx_t_0, mx_gd_T, mx_gd_t, mx_br_T, mx_br_F, mx_br_t, mx_br_f, mx_br_n, mx_cl_T, mx_cl_t, mx_re_T, mx_re_t, mx_rt_v, mx_rt_0, mx_cu_t, mx_w_id, mx_l_id, mx_b_0, mx_b_1, mx_b_r, mx_nl_0, mx_nl_1, mx_nl_2, mx_nl_n, mx_nl_l, mx_sw_n, mx_sw_h, mx_sw_m, Int.reduceLE, Int.reduceLT, Int.reduceEq, Int.reduceAdd, Int.reduceSub, Int.reduceMul, Int.reduceNeg, Int.reduceToNat, and_self, true_and, and_true, false_and, and_false, true_or, or_true, false_or, or_false, not_true_eq_false, not_false_eq_true, eq_self, rw_X12_sheet, hM, c_mSh, mx_b_t q, c_in, mx_b_t s0, ih]
        refine mx_W_s ⟨⟨_, rfl, rfl⟩, ?_⟩
        have f : ∀ b, ¬ (47 ≤ b ∧ b ≤ 49) → zr (mx_u (mx_u h 47 a (-1)) 48 a 0) a 40 b = h b := fun b u => by rw [zr_o (by omega), mx_u_a (by omega), mx_u_a (by omega)]
        have hS : ∀ b, ¬ b = 32 → mx_u S 32 a (-1) b = S b := fun b u => mx_u_a u
        refine v.B hc ?_ (fun b b0 => hS b (by omega)) (hS 7 (by decide)) (hS 21 (by decide)) (fun b b0 _ => hS b (by omega)) (fun b b0 b1 b2 b3 => f b (by omega)) (fun b b0 b1 b2 => f b (by omega)) ?_ ?_ (Int.le_refl _) (by omega)
        · intro b k b0
          by_cases z : b = 32
          · subst z
            have : k < 0 := by unfold ok at b0; omega
            rw [mx_u_k (by omega)]
          · rw [hS b z]
        · have e47 : ∀ k, ¬ k = a → zr (mx_u (mx_u h 47 a (-1)) 48 a 0) a 40 47 k = h 47 k := fun k u => by rw [zr_o (by decide), mx_u_a (by decide), mx_u_k u]
          have e47' : zr (mx_u (mx_u h 47 a (-1)) 48 a 0) a 40 47 a = -1 := by rw [zr_o (by decide), mx_u_a (by decide), mx_u_s]
          have e48 : ∀ k, ¬ k = a → zr (mx_u (mx_u h 47 a (-1)) 48 a 0) a 40 48 k = h 48 k := fun k u => by rw [zr_o (by decide), mx_u_k u, mx_u_a (by decide)]
          refine shs.mk ?_ ?_
          · intro k k0 k1
            by_cases ka : k = a
            · subst ka
              exact Or.inl ⟨e47', mx_u_s⟩
            · rw [e47 k ka, e48 k ka, mx_u_k ka]
              rcases v.b.s k k0 k1 with z | ⟨rk, rj⟩
              · exact Or.inl z
              · have zk := rk.z0
                have pk := rk.p
                have ik := rk.i
                refine Or.inr ⟨rk.gg (fun b b0 _ => hS b (by omega)) (fun b b0 b1 b2 => f b (by omega)) (Int.le_refl _), fun j j0 j1 => ?_⟩
                have rj := rj j j0 j1
                rw [hS _ (by omega), f _ (by omega)]
                have : zr (mx_u (mx_u h 47 a (-1)) 48 a 0) a 40 49 (40 * k + j) = h 49 (40 * k + j) := by
                  unfold zr; rw [if_neg (by omega), mx_u_a (by decide), mx_u_a (by decide)]
                rw [this]; exact rj
          · intro k l k0 k1 l0 l1 kl z1 z2
            by_cases ka : k = a
            · subst ka; rw [e47'] at z1; omega
            · by_cases la : l = a
              · subst la; rw [e47'] at z2; omega
              · rw [e47 k ka] at z1
                rw [e47 l la] at z2
                rcases v.b.s k k0 k1 with z | ⟨rk, _⟩
                · omega
                · rcases v.b.s l l0 l1 with z | ⟨rl, _⟩
                  · omega
                  · have pk := rk.p
                    have pl := rl.p
                    rw [mx_u_k ka, mx_u_k la, hS _ (by omega), hS _ (by omega)]
                    exact v.b.d k l k0 k1 l0 l1 kl z1 z2
        · exact v.l.gg (f 33 (by decide)) (f 34 (by decide)) (f 50 (by decide)) (f 51 (by decide)) (hS 35 (by decide)) (fun b b0 _ => hS b (by omega)) (fun b b0 b1 b2 => f b (by omega)) (Int.le_refl _)
      · by_cases z0 : 40 < z
        · refine ag_p v hc (y := -1) ?_ ?_
          · simp (disch := omega) only [mx_vt_h, mx_vt_m, mx_cmp_0, mx_cmp_1, mx_cmp_2, mx_cmp_3, mx_cmp_4, mx_u_s, mx_u_a, mx_u_k, mx_z_a, mx_z_s, mx_t_a, mx_t_2, mx_t_1, mx_t_0, mx_gd_T, mx_gd_t, mx_br_T, mx_br_F, mx_br_t, mx_br_f, mx_br_n, mx_cl_T, mx_cl_t, mx_re_T, mx_re_t, mx_rt_v, mx_rt_0, mx_cu_t, mx_w_id, mx_l_id, mx_b_0, mx_b_1, mx_b_r, mx_nl_0, mx_nl_1, mx_nl_2, mx_nl_n, mx_nl_l, mx_sw_n, mx_sw_h, mx_sw_m, Int.reduceLE, Int.reduceLT, Int.reduceEq, Int.reduceAdd, Int.reduceSub, Int.reduceMul, Int.reduceNeg, Int.reduceToNat, and_self, true_and, and_true, false_and, and_false, true_or, or_true, false_or, or_false, not_true_eq_false, not_false_eq_true, eq_self, rw_X11_sheet, hX, c_xSh, mx_b_t q, c_within, mx_b_t s0]
          · simp (disch := omega) only [mx_vt_h, mx_vt_m, mx_cmp_0, mx_cmp_1, mx_cmp_2, mx_cmp_3, mx_cmp_4, mx_u_s, mx_u_a, mx_u_k, mx_z_a, mx_z_s, mx_t_a, mx_t_2, mx_t_1, mx_t_0, mx_gd_T, mx_gd_t, mx_br_T, mx_br_F, mx_br_t, mx_br_f, mx_br_n, mx_cl_T, mx_cl_t, mx_re_T, mx_re_t, mx_rt_v, mx_rt_0, mx_cu_t, mx_w_id, mx_l_id, mx_b_0, mx_b_1, mx_b_r, mx_nl_0, mx_nl_1, mx_nl_2, mx_nl_n, mx_nl_l, mx_sw_n, mx_sw_h, mx_sw_m, Int.reduceLE, Int.reduceLT, Int.reduceEq, Int.reduceAdd, Int.reduceSub, Int.reduceMul, Int.reduceNeg, Int.reduceToNat, and_self, true_and, and_true, false_and, and_false, true_or, or_true, false_or, or_false, not_true_eq_false, not_false_eq_true, eq_self, rw_X12_sheet, hM, c_mSh, mx_b_t q, c_in, mx_b_t s0]
        · by_cases z1 : z < 0
          · refine ag_p v hc (y := -14) ?_ ?_
            · simp (disch := omega) only [mx_vt_h, mx_vt_m, mx_cmp_0, mx_cmp_1, mx_cmp_2, mx_cmp_3, mx_cmp_4, mx_u_s, mx_u_a, mx_u_k, mx_z_a, mx_z_s, mx_t_a, mx_t_2, mx_t_1, mx_t_0, mx_gd_T, mx_gd_t, mx_br_T, mx_br_F, mx_br_t, mx_br_f, mx_br_n, mx_cl_T, mx_cl_t, mx_re_T, mx_re_t, mx_rt_v, mx_rt_0, mx_cu_t, mx_w_id, mx_l_id, mx_b_0, mx_b_1, mx_b_r, mx_nl_0, mx_nl_1, mx_nl_2, mx_nl_n, mx_nl_l, mx_sw_n, mx_sw_h, mx_sw_m, Int.reduceLE, Int.reduceLT, Int.reduceEq, Int.reduceAdd, Int.reduceSub, Int.reduceMul, Int.reduceNeg, Int.reduceToNat, and_self, true_and, and_true, false_and, and_false, true_or, or_true, false_or, or_false, not_true_eq_false, not_false_eq_true, eq_self, rw_X11_sheet, hX, c_xSh, mx_b_t q, c_within, mx_b_t s0]
            · simp (disch := omega) only [mx_vt_h, mx_vt_m, mx_cmp_0, mx_cmp_1, mx_cmp_2, mx_cmp_3, mx_cmp_4, mx_u_s, mx_u_a, mx_u_k, mx_z_a, mx_z_s, mx_t_a, mx_t_2, mx_t_1, mx_t_0, mx_gd_T, mx_gd_t, mx_br_T, mx_br_F, mx_br_t, mx_br_f, mx_br_n, mx_cl_T, mx_cl_t, mx_re_T, mx_re_t, mx_rt_v, mx_rt_0, mx_cu_t, mx_w_id, mx_l_id, mx_b_0, mx_b_1, mx_b_r, mx_nl_0, mx_nl_1, mx_nl_2, mx_nl_n, mx_nl_l, mx_sw_n, mx_sw_h, mx_sw_m, Int.reduceLE, Int.reduceLT, Int.reduceEq, Int.reduceAdd, Int.reduceSub, Int.reduceMul, Int.reduceNeg, Int.reduceToNat, and_self, true_and, and_true, false_and, and_false, true_or, or_true, false_or, or_false, not_true_eq_false, not_false_eq_true, eq_self, rw_X12_sheet, hM, c_mSh, mx_b_t q, c_in, mx_b_t s0]
          · have mz : (if (0 : Int) < z then z else 0) = z := by split <;> omega
            simp (disch := omega) only [mx_vt_h, mx_vt_m, mx_cmp_0, mx_cmp_1, mx_cmp_2, mx_cmp_3, mx_cmp_4, mx_u_s, mx_u_a, mx_u_k, mx_z_a, mx_z_s, mx_t_a, mx_t_2, mx_t_1, mx_t_0, mx_gd_T, mx_gd_t, mx_br_T, mx_br_F, mx_br_t, mx_br_f, mx_br_n, mx_cl_T, mx_cl_t, mx_re_T, mx_re_t, mx_rt_v, mx_rt_0, mx_cu_t, mx_w_id, mx_l_id, mx_b_0, mx_b_1, mx_b_r, mx_nl_0, mx_nl_1, mx_nl_2, mx_nl_n, mx_nl_l, mx_sw_n, mx_sw_h, mx_sw_m, Int.reduceLE, Int.reduceLT, Int.reduceEq, Int.reduceAdd, Int.reduceSub, Int.reduceMul, Int.reduceNeg, Int.reduceToNat, and_self, true_and, and_true, false_and, and_false, true_or, or_true, false_or, or_false, not_true_eq_false, not_false_eq_true, eq_self, rw_X11_sheet, rw_X5_init, hX, c_xSh, mx_b_t q, c_within, mx_b_t s0, mz]
            refine mx_W_s ?_
            obtain ⟨T, eT⟩ : ∃ T, id (mx_u (mx_u (mx_t (mx_t S n 12 0) (n + 1) 21 z) n 1 (n + 1)) 32 a n = T) := ⟨_, rfl⟩
            have eT : mx_u (mx_u (mx_t (mx_t S n 12 0) (n + 1) 21 z) n 1 (n + 1)) 32 a n = T := eT
            obtain ⟨g0, eg⟩ : ∃ g0, id (mx_z (mx_u (mx_z h n) n 0 s) (n + 1) = g0) := ⟨_, rfl⟩
            have eg : mx_z (mx_u (mx_z h n) n 0 s) (n + 1) = g0 := eg
            have hS : ∀ b, ¬ b = 32 → b < n → T b = S b := fun b u w => by rw [← eT, mx_u_a u, mx_u_a (by omega), mx_t_a (by omega), mx_t_a (by omega)]
            have h32 : ∀ k, ¬ k = a → T 32 k = S 32 k := fun k u => by rw [← eT, mx_u_k u, mx_u_a (by omega), mx_t_a (by omega), mx_t_a (by omega)]
            have h32a : T 32 a = n := by rw [← eT, mx_u_s]
            have Tn2 : T n (-2) = 12 := by rw [← eT, mx_u_a (by omega), mx_u_k (by omega), mx_t_a (by omega), mx_t_2]
            have Tn1 : T n 1 = n + 1 := by rw [← eT, mx_u_a (by omega), mx_u_s]
            have Ti2 : T (n + 1) (-2) = 21 := by rw [← eT, mx_u_a (by omega), mx_u_a (by omega), mx_t_2]
            have Ti1 : T (n + 1) (-1) = z := by rw [← eT, mx_u_a (by omega), mx_u_a (by omega), mx_t_1]
            have hg : ∀ b, b < n → g0 b = h b := fun b u => by rw [← eg, mx_z_a (by omega), mx_u_a (by omega), mx_z_a (by omega)]
            have gn : g0 n 0 = s := by rw [← eg, mx_z_a (by omega), mx_u_s]
            have gi : ∀ j, g0 (n + 1) j = 0 := fun j => by rw [← eg, mx_z_s]
            try rw [eT]
            try rw [eg]
            have m2 : sh_M T := by
              refine sh_M.mk ?_
              simp (disch := omega) only [hS]; exact hM
            have hM2 := m2.e
            have ih := fun l2 l3 => c_shl (S := T) (h := mx_u (mx_u g0 47 a s) 48 a z) (n := n + 1 + 1) (d := d + 12) (a := a) (k := 0) (l2 := l2) (l3 := l3) m2 q (by decide) (by decide)
            rw [zr_0] at ih
            simp (disch := omega) only [mx_vt_h, mx_vt_m, mx_cmp_0, mx_cmp_1, mx_cmp_2, mx_cmp_3, mx_cmp_4, mx_u_s, mx_u_a, mx_u_k, mx_z_a, mx_z_s, mx_t_a, mx_t_2, mx_t_1, mx_t_0, mx_gd_T, mx_gd_t, mx_br_T, mx_br_F, mx_br_t, mx_br_f, mx_br_n, mx_cl_T, mx_cl_t, mx_re_T, mx_re_t, mx_rt_v, mx_rt_0, mx_cu_t, mx_w_id, mx_l_id, mx_b_0, mx_b_1, mx_b_r, mx_nl_0, mx_nl_1, mx_nl_2, mx_nl_n, mx_nl_l, mx_sw_n, mx_sw_h, mx_sw_m, Int.reduceLE, Int.reduceLT, Int.reduceEq, Int.reduceAdd, Int.reduceSub, Int.reduceMul, Int.reduceNeg, Int.reduceToNat, and_self, true_and, and_true, false_and, and_false, true_or, or_true, false_or, or_false, not_true_eq_false, not_false_eq_true, eq_self, rw_X12_sheet, hM2, c_mSh, mx_b_t q, c_in, mx_b_t s0, ih]
            refine mx_W_s ⟨⟨_, rfl, rfl⟩, ?_⟩
            obtain ⟨g, eq⟩ : ∃ g, id (zr (mx_u (mx_u g0 47 a s) 48 a z) a 40 = g) := ⟨_, rfl⟩
            have eq : zr (mx_u (mx_u g0 47 a s) 48 a z) a 40 = g := eq
            rw [eq]
            have f0 : ∀ b, ¬ (47 ≤ b ∧ b ≤ 49) → g b = g0 b := fun b u => by rw [← eq, zr_o (by omega), mx_u_a (by omega), mx_u_a (by omega)]
            have f : ∀ b, ¬ (47 ≤ b ∧ b ≤ 49) → b < n → g b = h b := fun b u w => by rw [f0 b u, hg b w]
            have e47 : ∀ k, ¬ k = a → g 47 k = h 47 k := fun k u => by rw [← eq, zr_o (by decide), mx_u_a (by decide), mx_u_k u, hg _ (by omega)]
            have e47' : g 47 a = s := by rw [← eq, zr_o (by decide), mx_u_a (by decide), mx_u_s]
            have e48 : ∀ k, ¬ k = a → g 48 k = h 48 k := fun k u => by rw [← eq, zr_o (by decide), mx_u_k u, mx_u_a (by decide), hg _ (by omega)]
            have e48' : g 48 a = z := by rw [← eq, zr_o (by decide), mx_u_s]
            have e49 : ∀ k j, ¬ k = a → 0 ≤ k → 0 ≤ j → j < 40 → g 49 (40 * k + j) = h 49 (40 * k + j) := fun k j u u1 u2 u3 => by rw [← eq]; unfold zr; rw [if_neg (by omega), mx_u_a (by decide), mx_u_a (by decide), hg _ (by omega)]
            have e49' : ∀ j, 0 ≤ j → j < 40 → g 49 (40 * a + j) = 0 := fun j u1 u2 => by rw [← eq]; unfold zr; rw [if_pos (by omega)]
            clear eq eT eg
            refine v.B hc ?_ (fun b b0 => hS b (by omega) (by omega)) (hS 7 (by decide) (by omega)) (hS 21 (by decide) (by omega)) (fun b b0 b1 => hS b (by omega) b1) (fun b b0 b1 b2 b3 => f b (by omega) (by omega)) (fun b b0 b1 b2 => f b (by omega) b1) ?_ ?_ (by omega) (by omega)
            · intro b k b0
              by_cases z : b = 32
              · subst z
                have : k < 0 := by unfold ok at b0; omega
                exact h32 k (by omega)
              · rw [hS b z (by unfold ok at b0; omega)]
            · refine shs.mk ?_ ?_
              · intro k k0 k1
                by_cases ka : k = a
                · subst ka
                  refine Or.inr ?_
                  rw [h32a, e47', e48', Tn1]
                  refine ⟨sr.mk (by omega) Tn2 (by rw [f0 n (by omega)]; exact gn) (by omega) (by rw [Tn1]; omega) (by rw [Tn1]; exact Ti2) (by rw [Tn1]; exact Ti1) (by omega), fun j j0 j1 => ?_⟩
                  rw [f0 _ (by omega), gi, e49' j j0 (by omega)]
                · rw [e47 k ka, e48 k ka, h32 k ka]
                  rcases v.b.s k k0 k1 with z | ⟨rk, rj⟩
                  · exact Or.inl z
                  · have zk := rk.z0
                    have pk := rk.p
                    have ik := rk.i
                    refine Or.inr ⟨rk.gg (fun b b0 b1 => hS b (by omega) b1) (fun b b0 b1 b2 => f b (by omega) b1) (by omega), fun j j0 j1 => ?_⟩
                    have rj := rj j j0 j1
                    rw [hS _ (by omega) (by omega), f _ (by omega) (by omega), e49 k j ka k0 j0 (by omega)]; exact rj
              · intro k l k0 k1 l0 l1 kl z1 z2
                by_cases ka : k = a
                · have la : ¬ l = a := by omega
                  subst ka
                  rw [e47 l la] at z2
                  rcases v.b.s l l0 l1 with z | ⟨rl, _⟩
                  · omega
                  · have pl := rl.p
                    have il := rl.i
                    rw [h32a, Tn1, h32 l la, hS _ (by omega) (by omega)]; omega
                · rw [e47 k ka] at z1
                  rcases v.b.s k k0 k1 with z | ⟨rk, _⟩
                  · omega
                  · have pk := rk.p
                    have ik := rk.i
                    by_cases la : l = a
                    · subst la
                      rw [h32a, Tn1, h32 k ka, hS _ (by omega) (by omega)]; omega
                    · rw [e47 l la] at z2
                      rcases v.b.s l l0 l1 with z | ⟨rl, _⟩
                      · omega
                      · have pl := rl.p
                        rw [h32 k ka, h32 l la, hS _ (by omega) (by omega), hS _ (by omega) (by omega)]
                        exact v.b.d k l k0 k1 l0 l1 kl z1 z2
            · exact v.l.gg (f 33 (by decide) (by omega)) (f 34 (by decide) (by omega)) (f 50 (by decide) (by omega)) (f 51 (by decide) (by omega)) (hS 35 (by decide) (by omega)) (fun b b0 b1 => hS b (by omega) b1) (fun b b0 b1 b2 => f b (by omega) b1) (by omega)
    · refine ag_p v hc (y := -1) ?_ ?_
      · simp (disch := omega) only [mx_vt_h, mx_vt_m, mx_cmp_0, mx_cmp_1, mx_cmp_2, mx_cmp_3, mx_cmp_4, mx_u_s, mx_u_a, mx_u_k, mx_z_a, mx_z_s, mx_t_a, mx_t_2, mx_t_1, mx_t_0, mx_gd_T, mx_gd_t, mx_br_T, mx_br_F, mx_br_t, mx_br_f, mx_br_n, mx_cl_T, mx_cl_t, mx_re_T, mx_re_t, mx_rt_v, mx_rt_0, mx_cu_t, mx_w_id, mx_l_id, mx_b_0, mx_b_1, mx_b_r, mx_nl_0, mx_nl_1, mx_nl_2, mx_nl_n, mx_nl_l, mx_sw_n, mx_sw_h, mx_sw_m, Int.reduceLE, Int.reduceLT, Int.reduceEq, Int.reduceAdd, Int.reduceSub, Int.reduceMul, Int.reduceNeg, Int.reduceToNat, and_self, true_and, and_true, false_and, and_false, true_or, or_true, false_or, or_false, not_true_eq_false, not_false_eq_true, eq_self, rw_X11_sheet, c_xSh, mx_b_t q, c_within, mx_b_f s0]
      · simp (disch := omega) only [mx_vt_h, mx_vt_m, mx_cmp_0, mx_cmp_1, mx_cmp_2, mx_cmp_3, mx_cmp_4, mx_u_s, mx_u_a, mx_u_k, mx_z_a, mx_z_s, mx_t_a, mx_t_2, mx_t_1, mx_t_0, mx_gd_T, mx_gd_t, mx_br_T, mx_br_F, mx_br_t, mx_br_f, mx_br_n, mx_cl_T, mx_cl_t, mx_re_T, mx_re_t, mx_rt_v, mx_rt_0, mx_cu_t, mx_w_id, mx_l_id, mx_b_0, mx_b_1, mx_b_r, mx_nl_0, mx_nl_1, mx_nl_2, mx_nl_n, mx_nl_l, mx_sw_n, mx_sw_h, mx_sw_m, Int.reduceLE, Int.reduceLT, Int.reduceEq, Int.reduceAdd, Int.reduceSub, Int.reduceMul, Int.reduceNeg, Int.reduceToNat, and_self, true_and, and_true, false_and, and_false, true_or, or_true, false_or, or_false, not_true_eq_false, not_false_eq_true, eq_self, rw_X12_sheet, c_mSh, mx_b_t q, c_in, mx_b_f s0]
  · refine ag_p v hc (y := -1) ?_ ?_
    · simp (disch := omega) only [mx_vt_h, mx_vt_m, mx_cmp_0, mx_cmp_1, mx_cmp_2, mx_cmp_3, mx_cmp_4, mx_u_s, mx_u_a, mx_u_k, mx_z_a, mx_z_s, mx_t_a, mx_t_2, mx_t_1, mx_t_0, mx_gd_T, mx_gd_t, mx_br_T, mx_br_F, mx_br_t, mx_br_f, mx_br_n, mx_cl_T, mx_cl_t, mx_re_T, mx_re_t, mx_rt_v, mx_rt_0, mx_cu_t, mx_w_id, mx_l_id, mx_b_0, mx_b_1, mx_b_r, mx_nl_0, mx_nl_1, mx_nl_2, mx_nl_n, mx_nl_l, mx_sw_n, mx_sw_h, mx_sw_m, Int.reduceLE, Int.reduceLT, Int.reduceEq, Int.reduceAdd, Int.reduceSub, Int.reduceMul, Int.reduceNeg, Int.reduceToNat, and_self, true_and, and_true, false_and, and_false, true_or, or_true, false_or, or_false, not_true_eq_false, not_false_eq_true, eq_self, rw_X11_sheet, c_xSh, mx_b_f q]
    · simp (disch := omega) only [mx_vt_h, mx_vt_m, mx_cmp_0, mx_cmp_1, mx_cmp_2, mx_cmp_3, mx_cmp_4, mx_u_s, mx_u_a, mx_u_k, mx_z_a, mx_z_s, mx_t_a, mx_t_2, mx_t_1, mx_t_0, mx_gd_T, mx_gd_t, mx_br_T, mx_br_F, mx_br_t, mx_br_f, mx_br_n, mx_cl_T, mx_cl_t, mx_re_T, mx_re_t, mx_rt_v, mx_rt_0, mx_cu_t, mx_w_id, mx_l_id, mx_b_0, mx_b_1, mx_b_r, mx_nl_0, mx_nl_1, mx_nl_2, mx_nl_n, mx_nl_l, mx_sw_n, mx_sw_h, mx_sw_m, Int.reduceLE, Int.reduceLT, Int.reduceEq, Int.reduceAdd, Int.reduceSub, Int.reduceMul, Int.reduceNeg, Int.reduceToNat, and_self, true_and, and_true, false_and, and_false, true_or, or_true, false_or, or_false, not_true_eq_false, not_false_eq_true, eq_self, rw_X12_sheet, c_mSh, mx_b_f q]
end
