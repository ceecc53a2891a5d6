/-! The program's finder: third bases -/
theorem bz_tst3 {P : Int → Prop} {c : Int} (h1 : 2 ≤ c) (h2 : c < 17) : (mx_and (bz 2 17 P) (mx_shl 1 c) = 0) = ¬ P c := by
  rw [bt_tst2 (by omega) (by omega)]
  unfold bz
  rw [propext (bm_t (by decide))]
  have e : ((c.toNat : Nat) : Int) = c := by omega
  rw [e]
  apply propext
  constructor
  · intro q p; exact q ⟨by omega, by omega, by omega, p⟩
  · intro q p; exact q p.2.2.2
theorem bz_e0 {P : Int → Prop} : (bz 2 17 P = 0) = ∀ k, 2 ≤ k → k < 17 → ¬ P k := by
  unfold bz; rw [bm_e0 (by decide)]
  apply propext
  constructor
  · intro q k k0 k1 p
    have e : ((k.toNat : Nat) : Int) = k := by omega
    exact q k.toNat (by omega) (by rw [e]; exact ⟨k0, k1, p⟩)
  · intro q k k1 ⟨a, b, p⟩; exact q k a b p
def tl (σ : Int → Int) (l : Int) : Prop := tc σ l 0 ∧ tc σ l 1 ∧ tc σ l 2
theorem tt_7 {σ : Int → Int} {l : Int} : (tt σ l = 7) = tl σ l := by
  rw [tt_v]; unfold tl
  apply propext
  by_cases c0 : tc σ l 0 <;> by_cases c1 : tc σ l 1 <;> by_cases c2 : tc σ l 2 <;> simp [c0, c1, c2, mx_b_t, mx_b_f, mx_b, mx_if]
/-- the bases of evening 2 that are left once the lines below k were looked at -/
def t3 (σ : Int → Int) (P : Int → Prop) (x b c k : Int) : Int → Prop := fun d => P d ∧ ∀ j, 0 ≤ j → j < k → bt x j.toNat → tl σ j → hl σ (tb b c d) j
def f8 (h g : mx_H) (b c : Int) : Prop := (∀ a, ¬ a = 8 → g a = h a) ∧ (g 8 0 = b) ∧ (g 8 1 = c)
theorem f8.mk {h g : mx_H} {b c : Int} (x0 : ∀ a, ¬ a = 8 → g a = h a) (x1 : g 8 0 = b) (x2 : g 8 1 = c) : f8 h g b c := (And.intro x0 (And.intro x1 x2))
theorem f8.f {h g : mx_H} {b c : Int} (q : f8 h g b c) : ∀ a, ¬ a = 8 → g a = h a := (And.left q)
theorem f8.b {h g : mx_H} {b c : Int} (q : f8 h g b c) : g 8 0 = b := (And.left (And.right q))
theorem f8.c {h g : mx_H} {b c : Int} (q : f8 h g b c) : g 8 1 = c := (And.right (And.right q))
section
variable {d : Nat} {S h : mx_H} {n : Int} {σ : Int → Int} {Q : Option mx_V → mx_H → mx_H → Int → Prop}
theorem c_tb_l (hS : sh_F S) (w : vw σ) (r : lr h σ) (t : tw h σ) (tt0 : ∀ l, 0 ≤ l → l < σ 1 → h 12 l = tt σ l) {b c x k : Int} {P : Int → Prop} {l4 : Option mx_V} (b0 : 2 ≤ b) (b1 : b ≤ 16) (c0 : 2 ≤ c) (c1 : c ≤ 16) (k0 : 0 ≤ k) (k1 : k ≤ σ 1) {g : mx_H} (f : f8 h g b c)
    (hX : ∀ g, f8 h g b c → Q (some (0, bz 2 17 (t3 σ P x b c (σ 1)))) S g n) :
    mx_W (mx_ex (d + 2) 31 94 [some (2, 2), some (0, b), some (0, c), some (0, x), l4, some (0, bz 2 17 (t3 σ P x b c k)), some (0, k)] [] S g n) Q := by
  have hL := w.L
  have rg : lr g σ := r.m (fun a x _ => f.f a x)
  have tg : tw g σ := t.m (fun a x _ => f.f a x)
  have gL := rg.L
  rw [rh_X2_thirdBases_94]
  by_cases q : k < σ 1
  · have g12 : g 12 k = tt σ k := by rw [f.f 12 (by decide)]; exact tt0 k k0 q
    by_cases z : bz 2 17 (t3 σ P x b c k) = 0
    · have e : bz 2 17 (t3 σ P x b c (σ 1)) = 0 := by
        rw [bz_e0] at z ⊢
        intro d d0 d1 p; exact z d d0 d1 ⟨p.1, fun j j0 j1 => p.2 j j0 (by omega)⟩
      have hX := hX g f
      rw [e] at hX
      simp (disch := omega) only [mx_vt_h, mx_vt_m, mx_cmp_0, mx_cmp_1, mx_cmp_2, mx_cmp_3, mx_cmp_4, mx_u_s, mx_u_a, mx_u_k, mx_z_a, mx_z_s, mx_t_a, mx_t_2, mx_t_1, mx_t_0, mx_gd_T, mx_gd_t, mx_br_T, mx_br_F, mx_br_t, mx_br_f, mx_br_n, mx_cl_T, mx_cl_t, mx_re_T, mx_re_t, mx_rt_v, mx_rt_0, mx_cu_t, mx_w_id, mx_l_id, mx_b_0, mx_b_1, mx_b_r, mx_nl_0, mx_nl_1, mx_nl_2, mx_nl_n, mx_nl_l, mx_sw_n, mx_sw_h, mx_sw_m, Int.reduceLE, Int.reduceLT, Int.reduceEq, Int.reduceAdd, Int.reduceSub, Int.reduceMul, Int.reduceNeg, Int.reduceToNat, and_self, true_and, and_true, false_and, and_false, true_or, or_true, false_or, or_false, not_true_eq_false, not_false_eq_true, eq_self, rw_X2_thirdBases, rw_X2_thirdBases_1, hS.e, gL, z]
      exact mx_W_s hX
    · have skip : ¬ (bt x k.toNat ∧ tl σ k) → bz 2 17 (t3 σ P x b c (k + 1)) = bz 2 17 (t3 σ P x b c k) := by
        intro s
        refine bz_c (fun d _ _ => ?_)
        constructor
        · rintro ⟨p, q⟩; exact ⟨p, fun j j0 j1 => q j j0 (by omega)⟩
        · rintro ⟨p, q⟩
          refine ⟨p, fun j j0 j1 u v => ?_⟩
          by_cases e : j = k
          · rw [e] at u v; exact absurd ⟨u, v⟩ s
          · exact q j j0 (by omega) u v
      by_cases u : bt x k.toNat
      · by_cases v : tl σ k
        · have v7 : tt σ k = 7 := by rw [tt_7]; exact v
          have hc := fun R hX => c_bth (d := d) (n := n) (h := g) (l := k) (e := 2) (P := t3 σ P x b c k) (Q := R) hS w rg tg k0 q (by decide) (by decide) (fun j a y => by
            have := tc_r w k0 q a
            have : j = 0 ∨ j = 1 := by omega
            rcases this with e | e <;> rw [e]
            · rw [f.b]; omega
            · rw [f.c]; omega) hX
          simp (disch := omega) only [mx_vt_h, mx_vt_m, mx_cmp_0, mx_cmp_1, mx_cmp_2, mx_cmp_3, mx_cmp_4, mx_u_s, mx_u_a, mx_u_k, mx_z_a, mx_z_s, mx_t_a, mx_t_2, mx_t_1, mx_t_0, mx_gd_T, mx_gd_t, mx_br_T, mx_br_F, mx_br_t, mx_br_f, mx_br_n, mx_cl_T, mx_cl_t, mx_re_T, mx_re_t, mx_rt_v, mx_rt_0, mx_cu_t, mx_w_id, mx_l_id, mx_b_0, mx_b_1, mx_b_r, mx_nl_0, mx_nl_1, mx_nl_2, mx_nl_n, mx_nl_l, mx_sw_n, mx_sw_h, mx_sw_m, Int.reduceLE, Int.reduceLT, Int.reduceEq, Int.reduceAdd, Int.reduceSub, Int.reduceMul, Int.reduceNeg, Int.reduceToNat, and_self, true_and, and_true, false_and, and_false, true_or, or_true, false_or, or_false, not_true_eq_false, not_false_eq_true, eq_self, rw_X2_thirdBases, rw_X2_thirdBases_1, hS.e, gL, z, bt_tst, mx_b_t u, g12, v7]
          refine mx_W_r (hc _ ?_)
          intro g2 q2
          show mx_W (mx_ex _ _ _ _ [_] _ _ _) _
          simp (disch := omega) only [mx_vt_h, mx_vt_m, mx_cmp_0, mx_cmp_1, mx_cmp_2, mx_cmp_3, mx_cmp_4, mx_u_s, mx_u_a, mx_u_k, mx_z_a, mx_z_s, mx_t_a, mx_t_2, mx_t_1, mx_t_0, mx_gd_T, mx_gd_t, mx_br_T, mx_br_F, mx_br_t, mx_br_f, mx_br_n, mx_cl_T, mx_cl_t, mx_re_T, mx_re_t, mx_rt_v, mx_rt_0, mx_cu_t, mx_w_id, mx_l_id, mx_b_0, mx_b_1, mx_b_r, mx_nl_0, mx_nl_1, mx_nl_2, mx_nl_n, mx_nl_l, mx_sw_n, mx_sw_h, mx_sw_m, Int.reduceLE, Int.reduceLT, Int.reduceEq, Int.reduceAdd, Int.reduceSub, Int.reduceMul, Int.reduceNeg, Int.reduceToNat, and_self, true_and, and_true, false_and, and_false, true_or, or_true, false_or, or_false, not_true_eq_false, not_false_eq_true, eq_self, rw_X2_thirdBases, rw_X2_thirdBases_1]
          have e : bz 2 17 (fun d => t3 σ P x b c k d ∧ hl σ (up (g 8) 2 d) k) = bz 2 17 (t3 σ P x b c (k + 1)) := by
            refine bz_c (fun d _ _ => ?_)
            have eh : hl σ (up (g 8) 2 d) k = hl σ (tb b c d) k := hl_t (fun j hj => by
              have := tc_r w k0 q hj
              have : j = 0 ∨ j = 1 ∨ j = 2 := by omega
              rcases this with e | e | e <;> subst e
              · exact f.b
              · exact f.c
              · rfl)
            rw [eh]
            constructor
            · rintro ⟨⟨p, q⟩, s⟩
              refine ⟨p, fun j j0 j1 u v => ?_⟩
              by_cases e : j = k
              · rw [e]; exact s
              · exact q j j0 (by omega) u v
            · rintro ⟨p, q⟩; exact ⟨⟨p, fun j j0 j1 => q j j0 (by omega)⟩, q k k0 (by omega) u v⟩
          rw [e]
          exact c_tb_l hS w r t tt0 b0 b1 c0 c1 (k := k + 1) (by omega) (by omega) (f8.mk (fun a ha => by rw [q2.f a ha]; exact f.f a ha) (by rw [q2.k 0 (by decide)]; exact f.b) (by rw [q2.k 1 (by decide)]; exact f.c)) hX
        · have v7 : ¬ tt σ k = 7 := by rw [tt_7]; exact v
          have ih := fun l4 => c_tb_l hS w r t tt0 (l4 := l4) b0 b1 c0 c1 (k := k + 1) (by omega) (by omega) f hX
          rw [skip (fun s => v s.2)] at ih
          simp (disch := omega) only [mx_vt_h, mx_vt_m, mx_cmp_0, mx_cmp_1, mx_cmp_2, mx_cmp_3, mx_cmp_4, mx_u_s, mx_u_a, mx_u_k, mx_z_a, mx_z_s, mx_t_a, mx_t_2, mx_t_1, mx_t_0, mx_gd_T, mx_gd_t, mx_br_T, mx_br_F, mx_br_t, mx_br_f, mx_br_n, mx_cl_T, mx_cl_t, mx_re_T, mx_re_t, mx_rt_v, mx_rt_0, mx_cu_t, mx_w_id, mx_l_id, mx_b_0, mx_b_1, mx_b_r, mx_nl_0, mx_nl_1, mx_nl_2, mx_nl_n, mx_nl_l, mx_sw_n, mx_sw_h, mx_sw_m, Int.reduceLE, Int.reduceLT, Int.reduceEq, Int.reduceAdd, Int.reduceSub, Int.reduceMul, Int.reduceNeg, Int.reduceToNat, and_self, true_and, and_true, false_and, and_false, true_or, or_true, false_or, or_false, not_true_eq_false, not_false_eq_true, eq_self, rw_X2_thirdBases, rw_X2_thirdBases_1, hS.e, gL, z, bt_tst, mx_b_t u, g12, v7]
          exact ih _
      · have ih := fun l4 => c_tb_l hS w r t tt0 (l4 := l4) b0 b1 c0 c1 (k := k + 1) (by omega) (by omega) f hX
        rw [skip (fun s => u s.1)] at ih
        simp (disch := omega) only [mx_vt_h, mx_vt_m, mx_cmp_0, mx_cmp_1, mx_cmp_2, mx_cmp_3, mx_cmp_4, mx_u_s, mx_u_a, mx_u_k, mx_z_a, mx_z_s, mx_t_a, mx_t_2, mx_t_1, mx_t_0, mx_gd_T, mx_gd_t, mx_br_T, mx_br_F, mx_br_t, mx_br_f, mx_br_n, mx_cl_T, mx_cl_t, mx_re_T, mx_re_t, mx_rt_v, mx_rt_0, mx_cu_t, mx_w_id, mx_l_id, mx_b_0, mx_b_1, mx_b_r, mx_nl_0, mx_nl_1, mx_nl_2, mx_nl_n, mx_nl_l, mx_sw_n, mx_sw_h, mx_sw_m, Int.reduceLE, Int.reduceLT, Int.reduceEq, Int.reduceAdd, Int.reduceSub, Int.reduceMul, Int.reduceNeg, Int.reduceToNat, and_self, true_and, and_true, false_and, and_false, true_or, or_true, false_or, or_false, not_true_eq_false, not_false_eq_true, eq_self, rw_X2_thirdBases, rw_X2_thirdBases_1, hS.e, gL, z, bt_tst, mx_b_f u]
        exact ih _
  · have e : k = σ 1 := by omega
    subst e
    simp (disch := omega) only [mx_vt_h, mx_vt_m, mx_cmp_0, mx_cmp_1, mx_cmp_2, mx_cmp_3, mx_cmp_4, mx_u_s, mx_u_a, mx_u_k, mx_z_a, mx_z_s, mx_t_a, mx_t_2, mx_t_1, mx_t_0, mx_gd_T, mx_gd_t, mx_br_T, mx_br_F, mx_br_t, mx_br_f, mx_br_n, mx_cl_T, mx_cl_t, mx_re_T, mx_re_t, mx_rt_v, mx_rt_0, mx_cu_t, mx_w_id, mx_l_id, mx_b_0, mx_b_1, mx_b_r, mx_nl_0, mx_nl_1, mx_nl_2, mx_nl_n, mx_nl_l, mx_sw_n, mx_sw_h, mx_sw_m, Int.reduceLE, Int.reduceLT, Int.reduceEq, Int.reduceAdd, Int.reduceSub, Int.reduceMul, Int.reduceNeg, Int.reduceToNat, and_self, true_and, and_true, false_and, and_false, true_or, or_true, false_or, or_false, not_true_eq_false, not_false_eq_true, eq_self, rw_X2_thirdBases, rw_X2_thirdBases_1, hS.e, gL]
    exact mx_W_s (hX g f)
termination_by (σ 1 - k).toNat
/-- thirdBases -/
theorem c_tb (hS : sh_F S) (w : vw σ) (r : lr h σ) (t : tw h σ) (tt0 : ∀ l, 0 ≤ l → l < σ 1 → h 12 l = tt σ l) {Λ : Int → Int → Prop} (m : lim h Λ) {b c x : Int} (b0 : 2 ≤ b) (b1 : b ≤ 16) (c0 : 2 ≤ c) (c1 : c ≤ 16)
    (hX : ∀ g, (∀ a, ¬ a = 8 → g a = h a) → Q (some (0, bz 2 17 (t3 σ (IL Λ b c) x b c (σ 1)))) S g n) :
    mx_W (mx_M (d + 2) 31 [(2, 2), (0, b), (0, c), (0, x)] S h n) Q := by
  have hL := w.L
  have m0 := m 0 (by decide) (by decide)
  have m1 := m 1 (by decide) (by decide)
  have m2 := m 2 (by decide) (by decide)
  have m3 := m (3 + b) (by omega) (by omega)
  have m4 := m (20 + b) (by omega) (by omega)
  have m5 := m (37 + c) (by omega) (by omega)
  have none0 : ¬ (Λ 0 b ∧ Λ 1 c ∧ Λ (3 + b) c) → bz 2 17 (t3 σ (IL Λ b c) x b c (σ 1)) = 0 := by
    intro q
    rw [bz_e0]; intro d _ _ p
    exact q ⟨p.1.1, p.1.2.1, p.1.2.2.2.1⟩
  have hX0 := hX h (fun _ _ => rfl)
  by_cases p0 : Λ 0 b
  · by_cases p1 : Λ 1 c ∧ Λ (3 + b) c
    · have ih := fun l4 => c_tb_l (d := d) (n := n) (Q := Q) (k := 0) (l4 := l4) (P := fun d => (Λ 2 d ∧ Λ (20 + b) d) ∧ Λ (37 + c) d) (x := x) hS w r t tt0 b0 b1 c0 c1 (by decide) (by omega) (g := mx_u (mx_u h 8 0 b) 8 1 c) (f8.mk (fun a ha => by rw [mx_u_a ha, mx_u_a ha]) (by rw [mx_u_k (by decide), mx_u_s]) (by rw [mx_u_s])) (by
        intro g f
        have e : bz 2 17 (t3 σ (fun d => (Λ 2 d ∧ Λ (20 + b) d) ∧ Λ (37 + c) d) x b c (σ 1)) = bz 2 17 (t3 σ (IL Λ b c) x b c (σ 1)) :=
          bz_c (fun d _ _ => ⟨fun ⟨⟨⟨u, v⟩, z⟩, y⟩ => ⟨⟨p0, p1.1, u, p1.2, v, z⟩, y⟩, fun ⟨⟨_, _, u, _, v, z⟩, y⟩ => ⟨⟨⟨u, v⟩, z⟩, y⟩⟩)
        rw [e]; exact hX g f.f)
      have e : bz 2 17 (t3 σ (fun d => (Λ 2 d ∧ Λ (20 + b) d) ∧ Λ (37 + c) d) x b c 0) = bz 2 17 (fun d => (Λ 2 d ∧ Λ (20 + b) d) ∧ Λ (37 + c) d) :=
        bz_c (fun d _ _ => ⟨fun u => u.1, fun u => ⟨u, fun j _ _ => by omega⟩⟩)
      rw [e] at ih
      simp (disch := omega) only [mx_vt_h, mx_vt_m, mx_cmp_0, mx_cmp_1, mx_cmp_2, mx_cmp_3, mx_cmp_4, mx_u_s, mx_u_a, mx_u_k, mx_z_a, mx_z_s, mx_t_a, mx_t_2, mx_t_1, mx_t_0, mx_gd_T, mx_gd_t, mx_br_T, mx_br_F, mx_br_t, mx_br_f, mx_br_n, mx_cl_T, mx_cl_t, mx_re_T, mx_re_t, mx_rt_v, mx_rt_0, mx_cu_t, mx_w_id, mx_l_id, mx_b_0, mx_b_1, mx_b_r, mx_nl_0, mx_nl_1, mx_nl_2, mx_nl_n, mx_nl_l, mx_sw_n, mx_sw_h, mx_sw_m, Int.reduceLE, Int.reduceLT, Int.reduceEq, Int.reduceAdd, Int.reduceSub, Int.reduceMul, Int.reduceNeg, Int.reduceToNat, and_self, true_and, and_true, false_and, and_false, true_or, or_true, false_or, or_false, not_true_eq_false, not_false_eq_true, eq_self, rw_X2_thirdBases, rw_X2_thirdBases_1, hS.e, m0, m1, m2, m3, m4, m5, bz_tst, mx_b_t p0, bz_bm, bz_tst3, p1]
      exact ih _
    · rw [none0 (fun q => p1 ⟨q.2.1, q.2.2⟩)] at hX0
      simp (disch := omega) only [mx_vt_h, mx_vt_m, mx_cmp_0, mx_cmp_1, mx_cmp_2, mx_cmp_3, mx_cmp_4, mx_u_s, mx_u_a, mx_u_k, mx_z_a, mx_z_s, mx_t_a, mx_t_2, mx_t_1, mx_t_0, mx_gd_T, mx_gd_t, mx_br_T, mx_br_F, mx_br_t, mx_br_f, mx_br_n, mx_cl_T, mx_cl_t, mx_re_T, mx_re_t, mx_rt_v, mx_rt_0, mx_cu_t, mx_w_id, mx_l_id, mx_b_0, mx_b_1, mx_b_r, mx_nl_0, mx_nl_1, mx_nl_2, mx_nl_n, mx_nl_l, mx_sw_n, mx_sw_h, mx_sw_m, Int.reduceLE, Int.reduceLT, Int.reduceEq, Int.reduceAdd, Int.reduceSub, Int.reduceMul, Int.reduceNeg, Int.reduceToNat, and_self, true_and, and_true, false_and, and_false, true_or, or_true, false_or, or_false, not_true_eq_false, not_false_eq_true, eq_self, rw_X2_thirdBases, rw_X2_thirdBases_1, hS.e, m0, m1, m2, m3, m4, m5, bz_tst, mx_b_t p0, bz_bm, bz_tst3, p1]
      exact mx_W_s hX0
  · rw [none0 (fun q => p0 q.1)] at hX0
    simp (disch := omega) only [mx_vt_h, mx_vt_m, mx_cmp_0, mx_cmp_1, mx_cmp_2, mx_cmp_3, mx_cmp_4, mx_u_s, mx_u_a, mx_u_k, mx_z_a, mx_z_s, mx_t_a, mx_t_2, mx_t_1, mx_t_0, mx_gd_T, mx_gd_t, mx_br_T, mx_br_F, mx_br_t, mx_br_f, mx_br_n, mx_cl_T, mx_cl_t, mx_re_T, mx_re_t, mx_rt_v, mx_rt_0, mx_cu_t, mx_w_id, mx_l_id, mx_b_0, mx_b_1, mx_b_r, mx_nl_0, mx_nl_1, mx_nl_2, mx_nl_n, mx_nl_l, mx_sw_n, mx_sw_h, mx_sw_m, Int.reduceLE, Int.reduceLT, Int.reduceEq, Int.reduceAdd, Int.reduceSub, Int.reduceMul, Int.reduceNeg, Int.reduceToNat, and_self, true_and, and_true, false_and, and_false, true_or, or_true, false_or, or_false, not_true_eq_false, not_false_eq_true, eq_self, rw_X2_thirdBases, rw_X2_thirdBases_1, hS.e, m0, m1, m2, m3, m4, m5, bz_tst, mx_b_f p0]
    exact mx_W_s hX0
end
