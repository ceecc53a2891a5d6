/-! The reference goes through worlds -/
def fi (σ : Int → Int) (x : Int) (h0 h : mx_H) (t : Int) : Prop := (∀ a, a < 43 ∨ 45 < a → h a = h0 a) ∧ (∀ e, 0 ≤ e → e ≤ 2 → h 44 e = bz 2 17 (mb σ e)) ∧ (h 45 0 = bz 2 17 (fun b => ∃ u, 0 ≤ u ∧ u < t ∧ wi σ x u ∧ u / 289 = b)) ∧ (h 45 1 = bz 2 17 (fun b => ∃ u, 0 ≤ u ∧ u < t ∧ wi σ x u ∧ u / 17 % 17 = b)) ∧ (h 45 2 = bz 2 17 (fun b => ∃ u, 0 ≤ u ∧ u < t ∧ wi σ x u ∧ u % 17 = b))
theorem fi.mk {σ : Int → Int} {x : Int} {h0 h : mx_H} {t : Int} (x0 : ∀ a, a < 43 ∨ 45 < a → h a = h0 a) (x1 : ∀ e, 0 ≤ e → e ≤ 2 → h 44 e = bz 2 17 (mb σ e)) (x2 : h 45 0 = bz 2 17 (fun b => ∃ u, 0 ≤ u ∧ u < t ∧ wi σ x u ∧ u / 289 = b)) (x3 : h 45 1 = bz 2 17 (fun b => ∃ u, 0 ≤ u ∧ u < t ∧ wi σ x u ∧ u / 17 % 17 = b)) (x4 : h 45 2 = bz 2 17 (fun b => ∃ u, 0 ≤ u ∧ u < t ∧ wi σ x u ∧ u % 17 = b)) : fi σ x h0 h t := (And.intro x0 (And.intro x1 (And.intro x2 (And.intro x3 x4))))
theorem fi.f {σ : Int → Int} {x : Int} {h0 h : mx_H} {t : Int} (q : fi σ x h0 h t) : ∀ a, a < 43 ∨ 45 < a → h a = h0 a := (And.left q)
theorem fi.m {σ : Int → Int} {x : Int} {h0 h : mx_H} {t : Int} (q : fi σ x h0 h t) : ∀ e, 0 ≤ e → e ≤ 2 → h 44 e = bz 2 17 (mb σ e) := (And.left (And.right q))
theorem fi.s0 {σ : Int → Int} {x : Int} {h0 h : mx_H} {t : Int} (q : fi σ x h0 h t) : h 45 0 = bz 2 17 (fun b => ∃ u, 0 ≤ u ∧ u < t ∧ wi σ x u ∧ u / 289 = b) := (And.left (And.right (And.right q)))
theorem fi.s1 {σ : Int → Int} {x : Int} {h0 h : mx_H} {t : Int} (q : fi σ x h0 h t) : h 45 1 = bz 2 17 (fun b => ∃ u, 0 ≤ u ∧ u < t ∧ wi σ x u ∧ u / 17 % 17 = b) := (And.left (And.right (And.right (And.right q))))
theorem fi.s2 {σ : Int → Int} {x : Int} {h0 h : mx_H} {t : Int} (q : fi σ x h0 h t) : h 45 2 = bz 2 17 (fun b => ∃ u, 0 ≤ u ∧ u < t ∧ wi σ x u ∧ u % 17 = b) := (And.right (And.right (And.right (And.right q))))
theorem fi_k {σ : Int → Int} {x : Int} {h0 h : mx_H} {t u : Int} (f : fi σ x h0 h t) (h1 : t ≤ u) (k : ∀ v, t ≤ v → v < u → ¬ wi σ x v) : fi σ x h0 h u := by
  have key : ∀ (g : Int → Int) (b : Int), (∃ v, 0 ≤ v ∧ v < t ∧ wi σ x v ∧ g v = b) ↔ (∃ v, 0 ≤ v ∧ v < u ∧ wi σ x v ∧ g v = b) := by
    intro g b
    constructor
    · rintro ⟨v, a, b, c, e⟩; exact ⟨v, a, by omega, c, e⟩
    · rintro ⟨v, a, b, c, e⟩
      by_cases q : v < t
      · exact ⟨v, a, q, c, e⟩
      · exact absurd c (k v (by omega) b)
  refine fi.mk f.f f.m ?_ ?_ ?_
  · rw [f.s0]; exact bz_c (fun b _ _ => key (fun u => u / 289) b)
  · rw [f.s1]; exact bz_c (fun b _ _ => key (fun u => u / 17 % 17) b)
  · rw [f.s2]; exact bz_c (fun b _ _ => key (fun u => u % 17) b)
theorem fi_t {σ : Int → Int} {x t : Int} (g : Int → Int) (q : wi σ x t) (h0 : 0 ≤ t) {a : Int} (h1 : 2 ≤ a) (h2 : a < 17) (e : g t = a) :
    mx_or (bz 2 17 (fun b => ∃ u, 0 ≤ u ∧ u < t ∧ wi σ x u ∧ g u = b)) (mx_shl 1 a) = bz 2 17 (fun b => ∃ u, 0 ≤ u ∧ u < t + 1 ∧ wi σ x u ∧ g u = b) := by
  rw [bz_o h1 h2]
  apply bz_c
  intro k _ _
  constructor
  · rintro (⟨u, a, b, c, d⟩ | r)
    · exact ⟨u, a, by omega, c, d⟩
    · exact ⟨t, h0, by omega, q, by rw [r, e]⟩
  · rintro ⟨u, a, b, c, d⟩
    by_cases r : u = t
    · right; rw [← d, r, e]
    · exact Or.inl ⟨u, a, by omega, c, d⟩
section
variable {d : Nat} {S h0 : mx_H} {n : Int} {Q : Option mx_V → mx_H → mx_H → Int → Prop} {σ : Int → Int} {x most : Int}
theorem fw_c (hS : sh_M S) (w : vw σ) (hσ : h0 39 = σ) {a b c : Int} (a0 : 2 ≤ a) (a1 : a ≤ 16) (b0 : 2 ≤ b) (b1 : b ≤ 16) (c0 : 2 ≤ c) (c1 : c ≤ 17) (ma : mb σ 0 a) {h : mx_H} (f : fi σ x h0 h (a * 289 + b * 17 + c))
    (hn : cT σ x (a * 289 + b * 17 + c) < most) (hm : most ≤ 10000)
    (hX : ∀ h' l6, fi σ x h0 h' (a * 289 + b * 17 + 17) → cT σ x (a * 289 + b * 17 + 17) < most → mx_W (mx_ex (d + 6) 195 46 [some (2, 38), some (0, x), some (0, most), some (0, cT σ x (a * 289 + b * 17 + 17)), some (0, a), some (0, b + 1), l6] [] S h' n) Q)
    (hR : ∀ h' u, (∀ a, a < 43 ∨ 45 < a → h' a = h0 a) → 0 ≤ u → u < 4913 → wi σ x u → cT σ x u + 1 = most → h' 43 0 = u / 289 → h' 43 1 = u / 17 % 17 → h' 43 2 = u % 17 → Q (some (0, most)) S h' n) :
    mx_W (mx_ex (d + 6) 195 71 [some (2, 38), some (0, x), some (0, most), some (0, cT σ x (a * 289 + b * 17 + c)), some (0, a), some (0, b), some (0, c)] [] S h n) Q := by
  have hm0 := f.m 0 (by omega) (by omega)
  have hm1 := f.m 1 (by omega) (by omega)
  have hm2 := f.m 2 (by omega) (by omega)
  have e1 : (a * 289 + b * 17 + c) % 17 = c ∨ c = 17 := by omega
  have hr := cT_r (σ := σ) (x := x) (t := a * 289 + b * 17 + c) (by omega)
  rw [rh_X12_findWorlds_71]
  by_cases q : c ≤ 16
  · have e1 : (a * 289 + b * 17 + c) / 289 = a := by omega
    have e2 : (a * 289 + b * 17 + c) / 17 % 17 = b := by omega
    have e3 : (a * 289 + b * 17 + c) % 17 = c := by omega
    have e4 : a * 289 + b * 17 + (c + 1) = a * 289 + b * 17 + c + 1 := by omega
    have ew : wi σ x (a * 289 + b * 17 + c) ↔ mb σ 1 b ∧ mb σ 2 c ∧ hs σ (tb a b c) x 0 := by
      unfold wi wd; rw [e1, e2, e3]; exact ⟨fun t => t.2, fun t => ⟨ma, t⟩⟩
    by_cases m1 : mb σ 1 b
    · let h3 := mx_u (mx_u (mx_u h 43 0 a) 43 1 b) 43 2 c
      have h39 : h3 39 = σ := by simp only [h3]; rw [mx_u_a (by decide), mx_u_a (by decide), mx_u_a (by decide), f.f 39 (by decide), hσ]
      have r0 : h3 43 0 = a := by simp only [h3]; rw [mx_u_k (by decide), mx_u_k (by decide), mx_u_s]
      have r1 : h3 43 1 = b := by simp only [h3]; rw [mx_u_k (by decide), mx_u_s]
      have r2 : h3 43 2 = c := by simp only [h3]; rw [mx_u_s]
      have r3 : ∀ e, 0 ≤ e → e ≤ 2 → h3 43 e = tb a b c e := by
        intro e ea eb
        have : e = 0 ∨ e = 1 ∨ e = 2 := by omega
        rcases this with r | r | r <;> subst r
        · rw [r0]; rfl
        · rw [r1]; rfl
        · rw [r2]; rfl
      have hb : bb σ (h3 43) := bb_3 w (by
        intro e ea eb
        have : e = 0 ∨ e = 1 ∨ e = 2 := by omega
        rcases this with r | r | r <;> subst r <;> omega)
      have f3 : ∀ b, b < 43 ∨ 45 < b → h3 b = h0 b := by
        intro k hk; simp only [h3]; rw [mx_u_a (by omega), mx_u_a (by omega), mx_u_a (by omega)]; exact f.f k hk
      have hc := c_holdAll (d := d) (n := n) (h := h3) (x := x) hS (h39 ▸ w) (h39.symm ▸ hb)
      rw [h39, mx_b_i (hs_c w r3 (by omega))] at hc
      simp only [h3] at hc
      by_cases g : mb σ 2 c ∧ hs σ (tb a b c) x 0
      · have wt := ew.mpr ⟨m1, g⟩
        let h6 := mx_u (mx_u (mx_u h3 45 0 (mx_or (h 45 0) (mx_shl 1 a))) 45 1 (mx_or (h 45 1) (mx_shl 1 b))) 45 2 (mx_or (h 45 2) (mx_shl 1 c))
        have f6 : fi σ x h0 h6 (a * 289 + b * 17 + c + 1) := by
          refine fi.mk ?_ ?_ ?_ ?_ ?_
          · intro k hk; simp only [h6]; rw [mx_u_a (by omega), mx_u_a (by omega), mx_u_a (by omega)]; exact f3 k hk
          · intro e ea eb; simp only [h6, h3]; simp (disch := omega) only [mx_u_a]; exact f.m e ea eb
          · simp only [h6]; simp (disch := omega) only [mx_u_k, mx_u_s]; rw [f.s0, fi_t (fun u => u / 289) wt (by omega) a0 (by omega) e1]
          · simp only [h6]; simp (disch := omega) only [mx_u_k, mx_u_s]; rw [f.s1, fi_t (fun u => u / 17 % 17) wt (by omega) b0 (by omega) e2]
          · simp only [h6]; simp (disch := omega) only [mx_u_k, mx_u_s]; rw [f.s2, fi_t (fun u => u % 17) wt (by omega) c0 (by omega) e3]
        have eS : cT σ x (a * 289 + b * 17 + c + 1) = cT σ x (a * 289 + b * 17 + c) + 1 := by rw [cT_S (by omega), mx_b_t wt]
        by_cases qm : cT σ x (a * 289 + b * 17 + c) + 1 = most
        · simp (disch := omega) only [mx_vt_h, mx_vt_m, mx_cmp_0, mx_cmp_1, mx_cmp_2, mx_cmp_3, mx_cmp_4, mx_u_s, mx_u_a, mx_u_k, mx_z_a, mx_z_s, mx_t_a, mx_t_2, mx_t_1, mx_t_0, mx_gd_T, mx_gd_t, mx_br_T, mx_br_F, mx_br_t, mx_br_f, mx_br_n, mx_cl_T, mx_cl_t, mx_re_T, mx_re_t, mx_rt_v, mx_rt_0, mx_cu_t, mx_w_id, mx_l_id, mx_b_0, mx_b_1, mx_b_r, mx_nl_0, mx_nl_1, mx_nl_2, mx_nl_n, mx_nl_l, mx_sw_n, mx_sw_h, mx_sw_m, Int.reduceLE, Int.reduceLT, Int.reduceEq, Int.reduceAdd, Int.reduceSub, Int.reduceMul, Int.reduceNeg, Int.reduceToNat, and_self, true_and, and_true, false_and, and_false, true_or, or_true, false_or, or_false, not_true_eq_false, not_false_eq_true, eq_self, rw_X12_findWorlds, rw_X12_findWorlds_1, hS.e, hm1, hm2, bz_tst, mx_b_t m1, mx_b_t g.1, hc, mx_b_t g.2, qm]
          refine mx_W_s ?_
          refine hR h6 (a * 289 + b * 17 + c) f6.f (by omega) (by omega) wt qm ?_ ?_ ?_
          · rw [e1]; simp only [h6]; simp (disch := omega) only [mx_u_a]; exact r0
          · rw [e2]; simp only [h6]; simp (disch := omega) only [mx_u_a]; exact r1
          · rw [e3]; simp only [h6]; simp (disch := omega) only [mx_u_a]; exact r2
        · have ih := fw_c hS w hσ a0 a1 b0 b1 (c := c + 1) (by omega) (by omega) ma (h := h6) (by rw [e4]; exact f6) (by rw [e4, eS]; omega) hm hX hR
          rw [e4, eS] at ih
          simp (disch := omega) only [mx_vt_h, mx_vt_m, mx_cmp_0, mx_cmp_1, mx_cmp_2, mx_cmp_3, mx_cmp_4, mx_u_s, mx_u_a, mx_u_k, mx_z_a, mx_z_s, mx_t_a, mx_t_2, mx_t_1, mx_t_0, mx_gd_T, mx_gd_t, mx_br_T, mx_br_F, mx_br_t, mx_br_f, mx_br_n, mx_cl_T, mx_cl_t, mx_re_T, mx_re_t, mx_rt_v, mx_rt_0, mx_cu_t, mx_w_id, mx_l_id, mx_b_0, mx_b_1, mx_b_r, mx_nl_0, mx_nl_1, mx_nl_2, mx_nl_n, mx_nl_l, mx_sw_n, mx_sw_h, mx_sw_m, Int.reduceLE, Int.reduceLT, Int.reduceEq, Int.reduceAdd, Int.reduceSub, Int.reduceMul, Int.reduceNeg, Int.reduceToNat, and_self, true_and, and_true, false_and, and_false, true_or, or_true, false_or, or_false, not_true_eq_false, not_false_eq_true, eq_self, rw_X12_findWorlds, rw_X12_findWorlds_1, hS.e, hm1, hm2, bz_tst, mx_b_t m1, mx_b_t g.1, hc, mx_b_t g.2, qm]
          exact ih
      · have wt : ¬ wi σ x (a * 289 + b * 17 + c) := fun t => g (ew.mp t).2
        have eS : cT σ x (a * 289 + b * 17 + c + 1) = cT σ x (a * 289 + b * 17 + c) := by rw [cT_S (by omega), mx_b_f wt]; omega
        have f6 : fi σ x h0 h3 (a * 289 + b * 17 + c + 1) := by
          refine fi_k (t := a * 289 + b * 17 + c) ?_ (by omega) (fun v v0 v1 => by
            have : v = a * 289 + b * 17 + c := by omega
            rw [this]; exact wt)
          refine fi.mk f3 ?_ ?_ ?_ ?_
          · intro e ea eb; simp only [h3]; simp (disch := omega) only [mx_u_a]; exact f.m e ea eb
          · simp only [h3]; simp (disch := omega) only [mx_u_a]; exact f.s0
          · simp only [h3]; simp (disch := omega) only [mx_u_a]; exact f.s1
          · simp only [h3]; simp (disch := omega) only [mx_u_a]; exact f.s2
        have ih := fw_c hS w hσ a0 a1 b0 b1 (c := c + 1) (by omega) (by omega) ma (h := h3) (by rw [e4]; exact f6) (by rw [e4, eS]; omega) hm hX hR
        rw [e4, eS] at ih
        by_cases g1 : mb σ 2 c
        · have g2 : ¬ hs σ (tb a b c) x 0 := fun t => g ⟨g1, t⟩
          simp (disch := omega) only [mx_vt_h, mx_vt_m, mx_cmp_0, mx_cmp_1, mx_cmp_2, mx_cmp_3, mx_cmp_4, mx_u_s, mx_u_a, mx_u_k, mx_z_a, mx_z_s, mx_t_a, mx_t_2, mx_t_1, mx_t_0, mx_gd_T, mx_gd_t, mx_br_T, mx_br_F, mx_br_t, mx_br_f, mx_br_n, mx_cl_T, mx_cl_t, mx_re_T, mx_re_t, mx_rt_v, mx_rt_0, mx_cu_t, mx_w_id, mx_l_id, mx_b_0, mx_b_1, mx_b_r, mx_nl_0, mx_nl_1, mx_nl_2, mx_nl_n, mx_nl_l, mx_sw_n, mx_sw_h, mx_sw_m, Int.reduceLE, Int.reduceLT, Int.reduceEq, Int.reduceAdd, Int.reduceSub, Int.reduceMul, Int.reduceNeg, Int.reduceToNat, and_self, true_and, and_true, false_and, and_false, true_or, or_true, false_or, or_false, not_true_eq_false, not_false_eq_true, eq_self, rw_X12_findWorlds, rw_X12_findWorlds_1, hS.e, hm1, hm2, bz_tst, mx_b_t m1, mx_b_t g1, hc, mx_b_f g2]
          exact ih
        · simp (disch := omega) only [mx_vt_h, mx_vt_m, mx_cmp_0, mx_cmp_1, mx_cmp_2, mx_cmp_3, mx_cmp_4, mx_u_s, mx_u_a, mx_u_k, mx_z_a, mx_z_s, mx_t_a, mx_t_2, mx_t_1, mx_t_0, mx_gd_T, mx_gd_t, mx_br_T, mx_br_F, mx_br_t, mx_br_f, mx_br_n, mx_cl_T, mx_cl_t, mx_re_T, mx_re_t, mx_rt_v, mx_rt_0, mx_cu_t, mx_w_id, mx_l_id, mx_b_0, mx_b_1, mx_b_r, mx_nl_0, mx_nl_1, mx_nl_2, mx_nl_n, mx_nl_l, mx_sw_n, mx_sw_h, mx_sw_m, Int.reduceLE, Int.reduceLT, Int.reduceEq, Int.reduceAdd, Int.reduceSub, Int.reduceMul, Int.reduceNeg, Int.reduceToNat, and_self, true_and, and_true, false_and, and_false, true_or, or_true, false_or, or_false, not_true_eq_false, not_false_eq_true, eq_self, rw_X12_findWorlds, rw_X12_findWorlds_1, hS.e, hm1, hm2, bz_tst, mx_b_t m1, mx_b_f g1]
          exact ih
    · have k : ∀ v, a * 289 + b * 17 + c ≤ v → v < a * 289 + b * 17 + 17 → ¬ wi σ x v := by
        intro v v0 v1 ⟨_, t, _⟩
        have : v / 17 % 17 = b := by omega
        rw [this] at t; exact m1 t
      have eS := cT_k (t := a * 289 + b * 17 + c) (u := a * 289 + b * 17 + 17) (by omega) (by omega) k
      have ih := fun l6 => hX h l6 (fi_k f (by omega) k) (by omega)
      rw [eS] at ih
      simp (disch := omega) only [mx_vt_h, mx_vt_m, mx_cmp_0, mx_cmp_1, mx_cmp_2, mx_cmp_3, mx_cmp_4, mx_u_s, mx_u_a, mx_u_k, mx_z_a, mx_z_s, mx_t_a, mx_t_2, mx_t_1, mx_t_0, mx_gd_T, mx_gd_t, mx_br_T, mx_br_F, mx_br_t, mx_br_f, mx_br_n, mx_cl_T, mx_cl_t, mx_re_T, mx_re_t, mx_rt_v, mx_rt_0, mx_cu_t, mx_w_id, mx_l_id, mx_b_0, mx_b_1, mx_b_r, mx_nl_0, mx_nl_1, mx_nl_2, mx_nl_n, mx_nl_l, mx_sw_n, mx_sw_h, mx_sw_m, Int.reduceLE, Int.reduceLT, Int.reduceEq, Int.reduceAdd, Int.reduceSub, Int.reduceMul, Int.reduceNeg, Int.reduceToNat, and_self, true_and, and_true, false_and, and_false, true_or, or_true, false_or, or_false, not_true_eq_false, not_false_eq_true, eq_self, rw_X12_findWorlds, rw_X12_findWorlds_1, hS.e, hm1, bz_tst, mx_b_f m1]
      exact ih _
  · have e : c = 17 := by omega
    subst e
    simp (disch := omega) only [mx_vt_h, mx_vt_m, mx_cmp_0, mx_cmp_1, mx_cmp_2, mx_cmp_3, mx_cmp_4, mx_u_s, mx_u_a, mx_u_k, mx_z_a, mx_z_s, mx_t_a, mx_t_2, mx_t_1, mx_t_0, mx_gd_T, mx_gd_t, mx_br_T, mx_br_F, mx_br_t, mx_br_f, mx_br_n, mx_cl_T, mx_cl_t, mx_re_T, mx_re_t, mx_rt_v, mx_rt_0, mx_cu_t, mx_w_id, mx_l_id, mx_b_0, mx_b_1, mx_b_r, mx_nl_0, mx_nl_1, mx_nl_2, mx_nl_n, mx_nl_l, mx_sw_n, mx_sw_h, mx_sw_m, Int.reduceLE, Int.reduceLT, Int.reduceEq, Int.reduceAdd, Int.reduceSub, Int.reduceMul, Int.reduceNeg, Int.reduceToNat, and_self, true_and, and_true, false_and, and_false, true_or, or_true, false_or, or_false, not_true_eq_false, not_false_eq_true, eq_self, rw_X12_findWorlds, rw_X12_findWorlds_1]
    exact hX _ _ f hn
termination_by (17 - c).toNat
theorem fw_b (hS : sh_M S) (w : vw σ) (hσ : h0 39 = σ) {a b : Int} {l6 : Option mx_V} (a0 : 2 ≤ a) (a1 : a ≤ 16) (b0 : 2 ≤ b) (b1 : b ≤ 17) {h : mx_H} (f : fi σ x h0 h (a * 289 + b * 17))
    (hn : cT σ x (a * 289 + b * 17) < most) (hm : most ≤ 10000)
    (hX : ∀ h' l5 l6, fi σ x h0 h' (a * 289 + 289) → cT σ x (a * 289 + 289) < most → mx_W (mx_ex (d + 6) 195 36 [some (2, 38), some (0, x), some (0, most), some (0, cT σ x (a * 289 + 289)), some (0, a + 1), l5, l6] [] S h' n) Q)
    (hR : ∀ h' u, (∀ a, a < 43 ∨ 45 < a → h' a = h0 a) → 0 ≤ u → u < 4913 → wi σ x u → cT σ x u + 1 = most → h' 43 0 = u / 289 → h' 43 1 = u / 17 % 17 → h' 43 2 = u % 17 → Q (some (0, most)) S h' n) :
    mx_W (mx_ex (d + 6) 195 46 [some (2, 38), some (0, x), some (0, most), some (0, cT σ x (a * 289 + b * 17)), some (0, a), some (0, b), l6] [] S h n) Q := by
  have hm0 := f.m 0 (by omega) (by omega)
  have hr := cT_r (σ := σ) (x := x) (t := a * 289 + b * 17) (by omega)
  rw [rh_X12_findWorlds_46]
  by_cases q : b ≤ 16
  · by_cases m0 : mb σ 0 a
    · have k : ∀ v, a * 289 + b * 17 ≤ v → v < a * 289 + b * 17 + 2 → ¬ wi σ x v := by
        intro v v0 v1 ⟨_, _, t, _⟩
        have := mb_r w (by omega) (by omega) t
        omega
      have eS := cT_k (t := a * 289 + b * 17) (u := a * 289 + b * 17 + 2) (by omega) (by omega) k
      have e4 : a * 289 + b * 17 + 17 = a * 289 + (b + 1) * 17 := by omega
      have hc := fw_c (Q := Q) (d := d) (n := n) (most := most) (c := 2) hS w hσ a0 a1 b0 q (by omega) (by omega) m0 (fi_k f (by omega) k) (by omega) hm (by
        intro h' l6 f' hn'
        rw [e4] at f' hn' ⊢
        exact fw_b hS w hσ a0 a1 (b := b + 1) (by omega) (by omega) f' hn' hm hX hR) hR
      rw [eS] at hc
      simp (disch := omega) only [mx_vt_h, mx_vt_m, mx_cmp_0, mx_cmp_1, mx_cmp_2, mx_cmp_3, mx_cmp_4, mx_u_s, mx_u_a, mx_u_k, mx_z_a, mx_z_s, mx_t_a, mx_t_2, mx_t_1, mx_t_0, mx_gd_T, mx_gd_t, mx_br_T, mx_br_F, mx_br_t, mx_br_f, mx_br_n, mx_cl_T, mx_cl_t, mx_re_T, mx_re_t, mx_rt_v, mx_rt_0, mx_cu_t, mx_w_id, mx_l_id, mx_b_0, mx_b_1, mx_b_r, mx_nl_0, mx_nl_1, mx_nl_2, mx_nl_n, mx_nl_l, mx_sw_n, mx_sw_h, mx_sw_m, Int.reduceLE, Int.reduceLT, Int.reduceEq, Int.reduceAdd, Int.reduceSub, Int.reduceMul, Int.reduceNeg, Int.reduceToNat, and_self, true_and, and_true, false_and, and_false, true_or, or_true, false_or, or_false, not_true_eq_false, not_false_eq_true, eq_self, rw_X12_findWorlds, rw_X12_findWorlds_1, hS.e, hm0, bz_tst, mx_b_t m0]
      exact hc
    · have k : ∀ v, a * 289 + b * 17 ≤ v → v < a * 289 + 289 → ¬ wi σ x v := by
        intro v v0 v1 ⟨t, _⟩
        have : v / 289 = a := by omega
        rw [this] at t; exact m0 t
      have eS := cT_k (t := a * 289 + b * 17) (u := a * 289 + 289) (by omega) (by omega) k
      have ih := fun l5 l6 => hX h l5 l6 (fi_k f (by omega) k) (by omega)
      rw [eS] at ih
      simp (disch := omega) only [mx_vt_h, mx_vt_m, mx_cmp_0, mx_cmp_1, mx_cmp_2, mx_cmp_3, mx_cmp_4, mx_u_s, mx_u_a, mx_u_k, mx_z_a, mx_z_s, mx_t_a, mx_t_2, mx_t_1, mx_t_0, mx_gd_T, mx_gd_t, mx_br_T, mx_br_F, mx_br_t, mx_br_f, mx_br_n, mx_cl_T, mx_cl_t, mx_re_T, mx_re_t, mx_rt_v, mx_rt_0, mx_cu_t, mx_w_id, mx_l_id, mx_b_0, mx_b_1, mx_b_r, mx_nl_0, mx_nl_1, mx_nl_2, mx_nl_n, mx_nl_l, mx_sw_n, mx_sw_h, mx_sw_m, Int.reduceLE, Int.reduceLT, Int.reduceEq, Int.reduceAdd, Int.reduceSub, Int.reduceMul, Int.reduceNeg, Int.reduceToNat, and_self, true_and, and_true, false_and, and_false, true_or, or_true, false_or, or_false, not_true_eq_false, not_false_eq_true, eq_self, rw_X12_findWorlds, rw_X12_findWorlds_1, hS.e, hm0, bz_tst, mx_b_f m0]
      exact ih _ _
  · have e : b = 17 := by omega
    subst e
    simp (disch := omega) only [mx_vt_h, mx_vt_m, mx_cmp_0, mx_cmp_1, mx_cmp_2, mx_cmp_3, mx_cmp_4, mx_u_s, mx_u_a, mx_u_k, mx_z_a, mx_z_s, mx_t_a, mx_t_2, mx_t_1, mx_t_0, mx_gd_T, mx_gd_t, mx_br_T, mx_br_F, mx_br_t, mx_br_f, mx_br_n, mx_cl_T, mx_cl_t, mx_re_T, mx_re_t, mx_rt_v, mx_rt_0, mx_cu_t, mx_w_id, mx_l_id, mx_b_0, mx_b_1, mx_b_r, mx_nl_0, mx_nl_1, mx_nl_2, mx_nl_n, mx_nl_l, mx_sw_n, mx_sw_h, mx_sw_m, Int.reduceLE, Int.reduceLT, Int.reduceEq, Int.reduceAdd, Int.reduceSub, Int.reduceMul, Int.reduceNeg, Int.reduceToNat, and_self, true_and, and_true, false_and, and_false, true_or, or_true, false_or, or_false, not_true_eq_false, not_false_eq_true, eq_self, rw_X12_findWorlds, rw_X12_findWorlds_1]
    exact hX _ _ _ f hn
termination_by (17 - b).toNat
theorem fw_a (hS : sh_M S) (w : vw σ) (hσ : h0 39 = σ) {a : Int} {l5 l6 : Option mx_V} (a0 : 2 ≤ a) (a1 : a ≤ 17) {h : mx_H} (f : fi σ x h0 h (a * 289))
    (hn : cT σ x (a * 289) < most) (hm : most ≤ 10000)
    (hX : ∀ h', fi σ x h0 h' 4913 → cT σ x 4913 < most → Q (some (0, cT σ x 4913)) S h' n)
    (hR : ∀ h' u, (∀ a, a < 43 ∨ 45 < a → h' a = h0 a) → 0 ≤ u → u < 4913 → wi σ x u → cT σ x u + 1 = most → h' 43 0 = u / 289 → h' 43 1 = u / 17 % 17 → h' 43 2 = u % 17 → Q (some (0, most)) S h' n) :
    mx_W (mx_ex (d + 6) 195 36 [some (2, 38), some (0, x), some (0, most), some (0, cT σ x (a * 289)), some (0, a), l5, l6] [] S h n) Q := by
  rw [rh_X12_findWorlds_36]
  by_cases q : a ≤ 16
  · have k : ∀ v, a * 289 ≤ v → v < a * 289 + 2 * 17 → ¬ wi σ x v := by
      intro v v0 v1 ⟨_, t, _⟩
      have := mb_r w (by omega) (by omega) t
      omega
    have eS := cT_k (t := a * 289) (u := a * 289 + 2 * 17) (by omega) (by omega) k
    have e4 : a * 289 + 289 = (a + 1) * 289 := by omega
    have hc := fun l6 => fw_b (l6 := l6) (Q := Q) (d := d) (n := n) (most := most) (b := 2) hS w hσ a0 q (by omega) (by omega) (fi_k f (by omega) k) (by omega) hm (by
      intro h' l5 l6 f' hn'
      rw [e4] at f' hn' ⊢
      exact fw_a hS w hσ (a := a + 1) (by omega) (by omega) f' hn' hm hX hR) hR
    rw [eS] at hc
    simp (disch := omega) only [mx_vt_h, mx_vt_m, mx_cmp_0, mx_cmp_1, mx_cmp_2, mx_cmp_3, mx_cmp_4, mx_u_s, mx_u_a, mx_u_k, mx_z_a, mx_z_s, mx_t_a, mx_t_2, mx_t_1, mx_t_0, mx_gd_T, mx_gd_t, mx_br_T, mx_br_F, mx_br_t, mx_br_f, mx_br_n, mx_cl_T, mx_cl_t, mx_re_T, mx_re_t, mx_rt_v, mx_rt_0, mx_cu_t, mx_w_id, mx_l_id, mx_b_0, mx_b_1, mx_b_r, mx_nl_0, mx_nl_1, mx_nl_2, mx_nl_n, mx_nl_l, mx_sw_n, mx_sw_h, mx_sw_m, Int.reduceLE, Int.reduceLT, Int.reduceEq, Int.reduceAdd, Int.reduceSub, Int.reduceMul, Int.reduceNeg, Int.reduceToNat, and_self, true_and, and_true, false_and, and_false, true_or, or_true, false_or, or_false, not_true_eq_false, not_false_eq_true, eq_self, rw_X12_findWorlds, rw_X12_findWorlds_1]
    exact hc _
  · have e : a = 17 := by omega
    subst e
    simp (disch := omega) only [mx_vt_h, mx_vt_m, mx_cmp_0, mx_cmp_1, mx_cmp_2, mx_cmp_3, mx_cmp_4, mx_u_s, mx_u_a, mx_u_k, mx_z_a, mx_z_s, mx_t_a, mx_t_2, mx_t_1, mx_t_0, mx_gd_T, mx_gd_t, mx_br_T, mx_br_F, mx_br_t, mx_br_f, mx_br_n, mx_cl_T, mx_cl_t, mx_re_T, mx_re_t, mx_rt_v, mx_rt_0, mx_cu_t, mx_w_id, mx_l_id, mx_b_0, mx_b_1, mx_b_r, mx_nl_0, mx_nl_1, mx_nl_2, mx_nl_n, mx_nl_l, mx_sw_n, mx_sw_h, mx_sw_m, Int.reduceLE, Int.reduceLT, Int.reduceEq, Int.reduceAdd, Int.reduceSub, Int.reduceMul, Int.reduceNeg, Int.reduceToNat, and_self, true_and, and_true, false_and, and_false, true_or, or_true, false_or, or_false, not_true_eq_false, not_false_eq_true, eq_self, rw_X12_findWorlds, rw_X12_findWorlds_1]
    exact mx_W_s (hX _ f hn)
termination_by (17 - a).toNat
theorem fw_e {h : mx_H} (hS : sh_M S) (w : vw (h 39)) (hm1 : 1 ≤ most) (hm : most ≤ 10000)
    (hX : ∀ h', fi (h 39) x h h' 4913 → cT (h 39) x 4913 < most → Q (some (0, cT (h 39) x 4913)) S h' n)
    (hR : ∀ h' u, (∀ a, a < 43 ∨ 45 < a → h' a = h a) → 0 ≤ u → u < 4913 → wi (h 39) x u → cT (h 39) x u + 1 = most → h' 43 0 = u / 289 → h' 43 1 = u / 17 % 17 → h' 43 2 = u % 17 → Q (some (0, most)) S h' n) :
    mx_W (mx_M (d + 6) 195 [(2, 38), (0, x), (0, most)] S h n) Q := by
  let h1 := mx_u (mx_u h 44 0 (bz 2 17 (mb (h 39) 0))) 45 0 0
  let h2 := mx_u (mx_u h1 44 1 (bz 2 17 (mb (h 39) 1))) 45 1 0
  let h3 := mx_u (mx_u h2 44 2 (bz 2 17 (mb (h 39) 2))) 45 2 0
  have k : ∀ v, 0 ≤ v → v < 2 * 289 → ¬ wi (h 39) x v := by
    intro v v0 v1 ⟨t, _⟩
    have := mb_r w (by omega) (by omega) t
    omega
  have eS := cT_k (t := 0) (u := 2 * 289) (by omega) (by omega) k
  rw [cT_0] at eS
  have key : ∀ (g : Int → Int), (0 : Int) = bz 2 17 (fun b => ∃ u, 0 ≤ u ∧ u < 0 ∧ wi (h 39) x u ∧ g u = b) := by
    intro g
    have : bz 2 17 (fun b => ∃ u, 0 ≤ u ∧ u < 0 ∧ wi (h 39) x u ∧ g u = b) = bz 2 17 (fun _ => False) := by
      apply bz_c; intro b _ _
      constructor
      · rintro ⟨u, a, b, _⟩; omega
      · exact False.elim
    rw [this]; unfold bz
    rw [eq_comm, bm_e0 (by decide)]; intro k _ ⟨_, _, f⟩; exact f
  have f : fi (h 39) x h h3 (2 * 289) := by
    refine fi_k (t := 0) ?_ (by omega) k
    refine fi.mk ?_ ?_ ?_ ?_ ?_
    · intro b hb; simp only [h3, h2, h1]; simp (disch := omega) only [mx_u_a]
    · intro e ea eb
      have : e = 0 ∨ e = 1 ∨ e = 2 := by omega
      rcases this with r | r | r <;> subst r <;> simp only [h3, h2, h1] <;> simp (disch := omega) only [mx_u_a, mx_u_k, mx_u_s]
    · simp only [h3, h2, h1]; simp (disch := omega) only [mx_u_a, mx_u_k, mx_u_s]; exact key _
    · simp only [h3, h2, h1]; simp (disch := omega) only [mx_u_a, mx_u_k, mx_u_s]; exact key _
    · simp only [h3, h2, h1]; simp (disch := omega) only [mx_u_a, mx_u_k, mx_u_s]; exact key _
  have hc := fun l5 l6 => fw_a (l5 := l5) (l6 := l6) (Q := Q) (d := d) (n := n) (most := most) (a := 2) hS w rfl (by omega) (by omega) f (by omega) hm hX hR
  rw [eS] at hc
  have m0 := c_may1 (d := d + 2) (n := n) (h := h) (e := 0) hS w (by omega) (by omega)
  have m1 := c_may1 (d := d + 2) (n := n) (h := h1) (e := 1) hS (by simp only [h1]; simp (disch := omega) only [mx_u_a]; exact w) (by omega) (by omega)
  have m2 := c_may1 (d := d + 2) (n := n) (h := h2) (e := 2) hS (by simp only [h2, h1]; simp (disch := omega) only [mx_u_a]; exact w) (by omega) (by omega)
  simp only [h2, h1] at m1 m2
  simp (disch := omega) only [mx_u_a] at m1 m2
  simp (disch := omega) only [mx_vt_h, mx_vt_m, mx_cmp_0, mx_cmp_1, mx_cmp_2, mx_cmp_3, mx_cmp_4, mx_u_s, mx_u_a, mx_u_k, mx_z_a, mx_z_s, mx_t_a, mx_t_2, mx_t_1, mx_t_0, mx_gd_T, mx_gd_t, mx_br_T, mx_br_F, mx_br_t, mx_br_f, mx_br_n, mx_cl_T, mx_cl_t, mx_re_T, mx_re_t, mx_rt_v, mx_rt_0, mx_cu_t, mx_w_id, mx_l_id, mx_b_0, mx_b_1, mx_b_r, mx_nl_0, mx_nl_1, mx_nl_2, mx_nl_n, mx_nl_l, mx_sw_n, mx_sw_h, mx_sw_m, Int.reduceLE, Int.reduceLT, Int.reduceEq, Int.reduceAdd, Int.reduceSub, Int.reduceMul, Int.reduceNeg, Int.reduceToNat, and_self, true_and, and_true, false_and, and_false, true_or, or_true, false_or, or_false, not_true_eq_false, not_false_eq_true, eq_self, rw_X12_findWorlds, rw_X12_findWorlds_1, rh_X12_findWorlds_2, hS.e, m0, m1, m2]
  exact hc _ _
end
