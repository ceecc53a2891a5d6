section
variable {L : Nat} {x : Nat → Int32} {S T h g : mx_H} {n m c : Int} {d : Nat}
theorem sh_M.t {t l : Int} (hM : sh_M S) (n0 : 53 ≤ n) : sh_M (mx_t S n t l) := by
  have he := hM.e
  refine sh_M.mk ?_
  simp (disch := omega) only [mx_t_a]; exact he
theorem sgP {σ : Int → Int} {a b z j : Int} (wa : nw σ a) (wb : nw σ b) (z0 : 1 ≤ z ∧ z ≤ 6) (G : ∀ j, 0 ≤ j → j < z → ssg σ a b z j ≤ 15) (j0 : 0 ≤ j) (j1 : j < z) : sg ((pk (fun i => (ssg σ a b z i).toNat) z.toNat : Nat) : Int) z j = ssg σ a b z j := by
  have sr : ∀ i : Nat, i < z.toNat → (ssg σ a b z i).toNat < 16 := fun i hi => by
    have := G i (by omega) (by omega)
    omega
  have pr := pk_r (f := fun i => (ssg σ a b z i).toNat) z.toNat sr
  have p6 : (16 : Nat) ^ z.toNat ≤ 16 ^ 6 := Nat.pow_le_pow_right (by decide) (by omega)
  have p5 : (16 : Nat) ^ 6 = 16777216 := rfl
  have fa := fe_r wa (k := z - 1 - j) (by omega)
  have fb := fe_r wb (k := z - 1 - j) (by omega)
  have s0 : 0 ≤ ssg σ a b z j := by unfold ssg; omega
  unfold sg
  have ek : 4 * (z - 1 - j) = (((⟨(4 * (z - 1 - j)).toNat, by omega⟩ : Fin 32).val : Nat) : Int) := by simp only; omega
  rw [ek, n_get _ (by omega)]
  have pd := pk_d (f := fun i => (ssg σ a b z i).toNat) (z - 1 - j).toNat j.toNat (fun i hi => sr i (by omega))
  have ez : j.toNat + 1 + (z - 1 - j).toNat = z.toNat := by omega
  have ep : (2 : Nat) ^ (4 * (z - 1 - j)).toNat = 16 ^ (z - 1 - j).toNat := by
    have : (4 * (z - 1 - j)).toNat = 4 * (z - 1 - j).toNat := by omega
    rw [this, Nat.pow_mul]
  rw [ez] at pd
  simp only [ep]
  rw [pd]
  have ej : ((j.toNat : Nat) : Int) = j := by omega
  simp only [ej]; omega
theorem a_add {a b : Int} (hc : c ≤ 599) : ag L x 124 216 [(0, a), (0, b)] 0 c := by
  intro d S h n v
  have hX := v.s.x.e
  have hF := v.s.f.e
  have hM := v.s.m
  have w := v.t.w
  have hN := w.N
  have vn := v.n
  have r3 : h 3 3 = h 39 0 := v.t.r.c
  by_cases qa : 0 ≤ a ∧ a < h 39 0
  · have ra := v.nr qa
    have wa := v.nw qa
    have pa := ra.p0
    have ka := wa.k
    have la := wa.n
    have ea := wa.e
    by_cases qb : 0 ≤ b ∧ b < h 39 0
    · have rb := v.nr qb
      have wb := v.nw qb
      have pb := rb.p0
      have kb := wb.k
      have lb := wb.n
      have ca := fun m pc L st => c_kindV (d := d + 11) (n := n) (m := m) (pc := pc) (L := L) (st := st) ra wa
      have cb := fun m pc L st => c_kindV (d := d + 11) (n := n) (m := m) (pc := pc) (L := L) (st := st) rb wb
      by_cases k0 : it (h 39) a 0 = 0
      · by_cases k1 : it (h 39) b 0 = 0
        · obtain ⟨z, ez⟩ : ∃ z, id ((if it (h 39) a 3 < it (h 39) b 3 then it (h 39) b 3 else it (h 39) a 3) = z) := ⟨_, rfl⟩
          have ez : (if it (h 39) a 3 < it (h 39) b 3 then it (h 39) b 3 else it (h 39) a 3) = z := ez
          have z0 : 1 ≤ z ∧ z ≤ 6 := by rw [← ez]; split <;> omega
          have ta : S (S 7 a) (-2) = 1 := by rw [ra.t, k0]; rfl
          have tb : S (S 7 b) (-2) = 1 := by rw [rb.t, k1]; rfl
          have oS : ∀ t l q, q < n → mx_t S n t l q = S q := fun t l q hq => mx_t_a (by omega)
          have na : nr (mx_t S n 20 z) (mx_z h n) n (S 7 a) (h 39) a := ra.gg (fun q _ hq => oS _ _ q hq) (fun q _ hq => mx_z_a (by omega)) (by omega)
          have nb : nr (mx_t S n 20 z) (mx_z h n) n (S 7 b) (h 39) b := rb.gg (fun q _ hq => oS _ _ q hq) (fun q _ hq => mx_z_a (by omega)) (by omega)
          have s1 : shp (mx_t S n 20 z) L := v.s.tt (by omega)
          have m1 : sh_M (mx_t S n 20 z) := hM.t (by omega)
          have h33 : mx_z h n 3 3 = h 39 0 := by rw [mx_z_a (by omega)]; exact r3
          by_cases G : ∀ j, 0 ≤ j → j < z → ssg (h 39) a b z j ≤ 15
          · have p1 : ∀ q, q < n → fo (mx_z h n) n 0 (ssg (h 39) a b z) z q = h q := fun q hq => by rw [fo_o (by omega), mx_z_a (by omega)]
            have P0 : (0 : Int) ≤ ((pk (fun i => (ssg (h 39) a b z i).toNat) z.toNat : Nat) : Int) := by omega
            -- the reference, over any heap that has the same numbers
            have ref : ∀ (T g : mx_H) (m : Int) (R : mx_R), sh_M T → g 39 = h 39 → mx_M (d + 11) 177 [(2, 38), (0, 0), (0, it (h 39) a 1), (0, 0), (0, z), (0, ((pk (fun i => (ssg (h 39) a b z i).toNat) z.toNat : Nat) : Int))] T g m = R → (∃ w T g m, R = some (some (0, w), T, g, m)) → mx_M (d + 12) 216 [(2, 38), (0, a), (0, b)] T g m = R := by
              intro T g m R hT g39 e hR
              have ih := fun l6 => c_addM_g (d := d + 9) (n := m) (S := T) (h := g) (a := a) (b := b) (z := z) (i := 0) (l6 := l6) (R := R) hT (by omega) (by omega) (by rw [g39]; exact wa) (by rw [g39]; exact wb) z0 (by omega) (by rw [g39]; exact G) (by rw [g39]; exact e) hR
              rw [g39] at ih
              have e0 : z - 1 - ((0 : Nat) : Int) = z - 1 := by omega
              rw [e0] at ih
              have ci := fun a0 k0 k1 => c_its (d := d + 11) (n := m) (h := g) (a := a0) (k := k0) hT k1
              have cn := fun v => c_isNote (d := d + 10) (n := m) (h := g) (v := v) hT (by rw [g39]; exact w)
              rw [g39] at cn
              rw [g39] at ci
              by_cases lt : it (h 39) b 3 < it (h 39) a 3
              · have zz : z = it (h 39) a 3 := by rw [← ez]; split <;> omega
                simp (disch := omega) only [mx_vt_h, mx_vt_m, mx_cmp_0, mx_cmp_1, mx_cmp_2, mx_cmp_3, mx_cmp_4, mx_u_s, mx_u_a, mx_u_k, mx_z_a, mx_z_s, mx_t_a, mx_t_2, mx_t_1, mx_t_0, mx_gd_T, mx_gd_t, mx_br_T, mx_br_F, mx_br_t, mx_br_f, mx_br_n, mx_cl_T, mx_cl_t, mx_re_T, mx_re_t, mx_rt_v, mx_rt_0, mx_cu_t, mx_w_id, mx_l_id, mx_b_0, mx_b_1, mx_b_r, mx_nl_0, mx_nl_1, mx_nl_2, mx_nl_n, mx_nl_l, mx_sw_n, mx_sw_h, mx_sw_m, Int.reduceLE, Int.reduceLT, Int.reduceEq, Int.reduceAdd, Int.reduceSub, Int.reduceMul, Int.reduceNeg, Int.reduceToNat, and_self, true_and, and_true, false_and, and_false, true_or, or_true, false_or, or_false, not_true_eq_false, not_false_eq_true, eq_self, rw_X12_add, rw_X12_add_1, hT.e, cn, mx_b_t qa, mx_b_t qb, ci, k0, k1]
                rw [← zz]
                exact ih _
              · have zz : z = it (h 39) b 3 := by rw [← ez]; split <;> omega
                simp (disch := omega) only [mx_vt_h, mx_vt_m, mx_cmp_0, mx_cmp_1, mx_cmp_2, mx_cmp_3, mx_cmp_4, mx_u_s, mx_u_a, mx_u_k, mx_z_a, mx_z_s, mx_t_a, mx_t_2, mx_t_1, mx_t_0, mx_gd_T, mx_gd_t, mx_br_T, mx_br_F, mx_br_t, mx_br_f, mx_br_n, mx_cl_T, mx_cl_t, mx_re_T, mx_re_t, mx_rt_v, mx_rt_0, mx_cu_t, mx_w_id, mx_l_id, mx_b_0, mx_b_1, mx_b_r, mx_nl_0, mx_nl_1, mx_nl_2, mx_nl_n, mx_nl_l, mx_sw_n, mx_sw_h, mx_sw_m, Int.reduceLE, Int.reduceLT, Int.reduceEq, Int.reduceAdd, Int.reduceSub, Int.reduceMul, Int.reduceNeg, Int.reduceToNat, and_self, true_and, and_true, false_and, and_false, true_or, or_true, false_or, or_false, not_true_eq_false, not_false_eq_true, eq_self, rw_X12_add, rw_X12_add_1, hT.e, cn, mx_b_t qa, mx_b_t qb, ci, k0, k1]
                rw [← zz]
                exact ih _
            by_cases N6 : h 39 0 = 6
            · have ih := fun l8 => c_add_g (d := d + 10) (n := n + 1) (S := mx_t S n 20 z) (h := mx_z h n) (i := 0) (l8 := l8) (N := n) (z := z) (R := _) s1 na nb wa wb (by omega) mx_t_2 mx_t_1 z0 (by omega) G (Or.inl ⟨by omega, rfl⟩)
              rw [fo_0] at ih
              simp (disch := omega) only [mx_vt_h, mx_vt_m, mx_cmp_0, mx_cmp_1, mx_cmp_2, mx_cmp_3, mx_cmp_4, mx_u_s, mx_u_a, mx_u_k, mx_z_a, mx_z_s, mx_t_a, mx_t_2, mx_t_1, mx_t_0, mx_gd_T, mx_gd_t, mx_br_T, mx_br_F, mx_br_t, mx_br_f, mx_br_n, mx_cl_T, mx_cl_t, mx_re_T, mx_re_t, mx_rt_v, mx_rt_0, mx_cu_t, mx_w_id, mx_l_id, mx_b_0, mx_b_1, mx_b_r, mx_nl_0, mx_nl_1, mx_nl_2, mx_nl_n, mx_nl_l, mx_sw_n, mx_sw_h, mx_sw_m, Int.reduceLE, Int.reduceLT, Int.reduceEq, Int.reduceAdd, Int.reduceSub, Int.reduceMul, Int.reduceNeg, Int.reduceToNat, and_self, true_and, and_true, false_and, and_false, true_or, or_true, false_or, or_false, not_true_eq_false, not_false_eq_true, eq_self, rw_X11_add, rw_X11_add_1, rw_X4_kind, hX, hF, v.na1 qa, v.na1 qb, ta, tb, ra.q, rb.q, ra.l, rb.l, ez, ih]
              refine mx_W_s ?_
              rw [ref (mx_t S n 20 z) _ (n + 1) (some (some (0, -2), mx_t S n 20 z, fo (mx_z h n) n 0 (ssg (h 39) a b z) z, n + 1)) m1 (p1 39 (by omega)) ?_ ⟨_, _, _, _, rfl⟩]
              · exact mx_W_s ⟨⟨_, rfl, rfl⟩, v.gw hc (fun q hq => oS _ _ q hq) p1 (by omega) (by omega)⟩
              · have e390 : fo (mx_z h n) n 0 (ssg (h 39) a b z) z 39 = h 39 := p1 39 (by omega)
                simp (disch := omega) only [mx_vt_h, mx_vt_m, mx_cmp_0, mx_cmp_1, mx_cmp_2, mx_cmp_3, mx_cmp_4, mx_u_s, mx_u_a, mx_u_k, mx_z_a, mx_z_s, mx_t_a, mx_t_2, mx_t_1, mx_t_0, mx_gd_T, mx_gd_t, mx_br_T, mx_br_F, mx_br_t, mx_br_f, mx_br_n, mx_cl_T, mx_cl_t, mx_re_T, mx_re_t, mx_rt_v, mx_rt_0, mx_cu_t, mx_w_id, mx_l_id, mx_b_0, mx_b_1, mx_b_r, mx_nl_0, mx_nl_1, mx_nl_2, mx_nl_n, mx_nl_l, mx_sw_n, mx_sw_h, mx_sw_m, Int.reduceLE, Int.reduceLT, Int.reduceEq, Int.reduceAdd, Int.reduceSub, Int.reduceMul, Int.reduceNeg, Int.reduceToNat, and_self, true_and, and_true, false_and, and_false, true_or, or_true, false_or, or_false, not_true_eq_false, not_false_eq_true, eq_self, rw_X12_note, rw_X12_note_1, m1.e, hM.e, c_in, mx_b_t (c := (0 : Int) ≤ 0 ∧ (0 : Int) ≤ 5) (by omega), c_isEvening, mx_b_t ea, mx_b_t (c := (0 : Int) ≤ 0 ∧ (0 : Int) ≤ 6) (by omega), mx_b_t z0, e390, N6]
            · have c3 : fo (mx_z h n) n 0 (ssg (h 39) a b z) z 3 3 = h 39 0 := by rw [p1 3 (by omega)]; exact r3
              obtain ⟨T, g, eA, A⟩ := c_addNote (d := d + 6) (S := mx_t S n 20 z) (h := fo (mx_z h n) n 0 (ssg (h 39) a b z) z) (n := n + 1) (v := 3) (k := 0) (e := it (h 39) a 1) (a := 0) (mk := n) s1.f.v (by omega) (by decide) (by omega) (by omega)
              rw [c3] at eA
              have ih := fun l8 => c_add_g (d := d + 10) (n := n + 1) (S := mx_t S n 20 z) (h := mx_z h n) (i := 0) (l8 := l8) (N := n) (z := z) (R := _) s1 na nb wa wb (by omega) mx_t_2 mx_t_1 z0 (by omega) G (Or.inr ⟨by omega, eA, _, _, _, _, rfl⟩)
              rw [fo_0] at ih
              simp (disch := omega) only [mx_vt_h, mx_vt_m, mx_cmp_0, mx_cmp_1, mx_cmp_2, mx_cmp_3, mx_cmp_4, mx_u_s, mx_u_a, mx_u_k, mx_z_a, mx_z_s, mx_t_a, mx_t_2, mx_t_1, mx_t_0, mx_gd_T, mx_gd_t, mx_br_T, mx_br_F, mx_br_t, mx_br_f, mx_br_n, mx_cl_T, mx_cl_t, mx_re_T, mx_re_t, mx_rt_v, mx_rt_0, mx_cu_t, mx_w_id, mx_l_id, mx_b_0, mx_b_1, mx_b_r, mx_nl_0, mx_nl_1, mx_nl_2, mx_nl_n, mx_nl_l, mx_sw_n, mx_sw_h, mx_sw_m, Int.reduceLE, Int.reduceLT, Int.reduceEq, Int.reduceAdd, Int.reduceSub, Int.reduceMul, Int.reduceNeg, Int.reduceToNat, and_self, true_and, and_true, false_and, and_false, true_or, or_true, false_or, or_false, not_true_eq_false, not_false_eq_true, eq_self, rw_X11_add, rw_X11_add_1, rw_X4_kind, hX, hF, v.na1 qa, v.na1 qb, ta, tb, ra.q, rb.q, ra.l, rb.l, ez, ih]
              refine mx_W_s ?_
              have g39 : g 39 = h 39 := by rw [A.g0 39 (by omega) (by decide), p1 39 (by omega)]
              have mT : sh_M T := by
                have he := hM.e
                have oT : ∀ b, 38 ≤ b → b ≤ 52 → T b = S b := fun b b0 b1 => by rw [A.S0 b (by omega) (by omega), mx_t_a (by omega)]
                refine sh_M.mk ?_
                simp (disch := omega) only [oT]; exact he
              obtain ⟨H, eH, M⟩ := c_noteM (d := d + 9) (n := n + 1 + 1) (h := g) (s := ((pk (fun i => (ssg (h 39) a b z i).toNat) z.toNat : Nat) : Int)) (k := 0) (e := it (h 39) a 1) (a := 0) (z := z) mT (by rw [g39]; omega) (by decide) ea (by decide) z0 P0
              rw [g39] at eH
              rw [ref T g _ _ mT g39 eH ⟨_, _, _, _, rfl⟩]
              refine mx_W_s ⟨⟨_, rfl, rfl⟩, ?_⟩
              have nn : n + 1 + 1 = n + 2 := by omega
              rw [nn]
              refine v.N1 hc (by omega) A (fun q hq => oS _ _ q hq) mx_t_2 mx_t_1 p1 (fun j j0 j1 => ?_) M
              rw [fo_i (by omega) (by omega), Int.sub_zero, sgP wa wb z0 G j0 j1]
          · have G2 : ∃ j, 0 ≤ j ∧ j < z ∧ 15 < ssg (h 39) a b z j := by
              refine Classical.byContradiction (fun u => G (fun j j0 j1 => ?_))
              refine Classical.byContradiction (fun y => u ⟨j, j0, j1, by omega⟩)
            obtain ⟨g, ih, fg⟩ := c_add_b (d := d + 10) (n := n + 1) (S := mx_t S n 20 z) (h := mx_z h n) (i := 0) (l8 := none) (N := n) (z := z) s1 na nb wa wb (by omega) mx_t_2 mx_t_1 z0 (by omega) G2
            rw [fo_0] at ih
            have p1 : ∀ q, q < n → g q = h q := fun q hq => by rw [fg q (by omega), mx_z_a (by omega)]
            simp (disch := omega) only [mx_vt_h, mx_vt_m, mx_cmp_0, mx_cmp_1, mx_cmp_2, mx_cmp_3, mx_cmp_4, mx_u_s, mx_u_a, mx_u_k, mx_z_a, mx_z_s, mx_t_a, mx_t_2, mx_t_1, mx_t_0, mx_gd_T, mx_gd_t, mx_br_T, mx_br_F, mx_br_t, mx_br_f, mx_br_n, mx_cl_T, mx_cl_t, mx_re_T, mx_re_t, mx_rt_v, mx_rt_0, mx_cu_t, mx_w_id, mx_l_id, mx_b_0, mx_b_1, mx_b_r, mx_nl_0, mx_nl_1, mx_nl_2, mx_nl_n, mx_nl_l, mx_sw_n, mx_sw_h, mx_sw_m, Int.reduceLE, Int.reduceLT, Int.reduceEq, Int.reduceAdd, Int.reduceSub, Int.reduceMul, Int.reduceNeg, Int.reduceToNat, and_self, true_and, and_true, false_and, and_false, true_or, or_true, false_or, or_false, not_true_eq_false, not_false_eq_true, eq_self, rw_X11_add, rw_X11_add_1, rw_X4_kind, hX, hF, v.na1 qa, v.na1 qb, ta, tb, ra.q, rb.q, ra.l, rb.l, ez, ih]
            refine mx_W_s ?_
            have g39 : g 39 = h 39 := p1 39 (by omega)
            have ih2 := fun l6 => c_addM_b (d := d + 9) (n := n + 1) (S := mx_t S n 20 z) (h := g) (a := a) (b := b) (z := z) (i := 0) (l6 := l6) (P := 0) m1 (by omega) (by omega) (by rw [g39]; exact wa) (by rw [g39]; exact wb) z0 (by omega) (by rw [g39]; exact G2)
            have e0 : z - 1 - (0 : Int) = z - 1 := by omega
            rw [e0] at ih2
            have ci := fun a0 k0 k1 => c_its (d := d + 11) (n := n + 1) (h := g) (a := a0) (k := k0) m1 k1
            have cn := fun v => c_isNote (d := d + 10) (n := n + 1) (h := g) (v := v) m1 (by rw [g39]; exact w)
            rw [g39] at cn
            rw [g39] at ci
            have fin : mx_M (d + 12) 216 [(2, 38), (0, a), (0, b)] (mx_t S n 20 z) g (n + 1) = some (some (0, -4), mx_t S n 20 z, g, n + 1) := by
              by_cases lt : it (h 39) b 3 < it (h 39) a 3
              · have zz : z = it (h 39) a 3 := by rw [← ez]; split <;> omega
                simp (disch := omega) only [mx_vt_h, mx_vt_m, mx_cmp_0, mx_cmp_1, mx_cmp_2, mx_cmp_3, mx_cmp_4, mx_u_s, mx_u_a, mx_u_k, mx_z_a, mx_z_s, mx_t_a, mx_t_2, mx_t_1, mx_t_0, mx_gd_T, mx_gd_t, mx_br_T, mx_br_F, mx_br_t, mx_br_f, mx_br_n, mx_cl_T, mx_cl_t, mx_re_T, mx_re_t, mx_rt_v, mx_rt_0, mx_cu_t, mx_w_id, mx_l_id, mx_b_0, mx_b_1, mx_b_r, mx_nl_0, mx_nl_1, mx_nl_2, mx_nl_n, mx_nl_l, mx_sw_n, mx_sw_h, mx_sw_m, Int.reduceLE, Int.reduceLT, Int.reduceEq, Int.reduceAdd, Int.reduceSub, Int.reduceMul, Int.reduceNeg, Int.reduceToNat, and_self, true_and, and_true, false_and, and_false, true_or, or_true, false_or, or_false, not_true_eq_false, not_false_eq_true, eq_self, rw_X12_add, rw_X12_add_1, m1.e, hM.e, cn, mx_b_t qa, mx_b_t qb, ci, k0, k1]
                rw [← zz]
                exact ih2 _
              · have zz : z = it (h 39) b 3 := by rw [← ez]; split <;> omega
                simp (disch := omega) only [mx_vt_h, mx_vt_m, mx_cmp_0, mx_cmp_1, mx_cmp_2, mx_cmp_3, mx_cmp_4, mx_u_s, mx_u_a, mx_u_k, mx_z_a, mx_z_s, mx_t_a, mx_t_2, mx_t_1, mx_t_0, mx_gd_T, mx_gd_t, mx_br_T, mx_br_F, mx_br_t, mx_br_f, mx_br_n, mx_cl_T, mx_cl_t, mx_re_T, mx_re_t, mx_rt_v, mx_rt_0, mx_cu_t, mx_w_id, mx_l_id, mx_b_0, mx_b_1, mx_b_r, mx_nl_0, mx_nl_1, mx_nl_2, mx_nl_n, mx_nl_l, mx_sw_n, mx_sw_h, mx_sw_m, Int.reduceLE, Int.reduceLT, Int.reduceEq, Int.reduceAdd, Int.reduceSub, Int.reduceMul, Int.reduceNeg, Int.reduceToNat, and_self, true_and, and_true, false_and, and_false, true_or, or_true, false_or, or_false, not_true_eq_false, not_false_eq_true, eq_self, rw_X12_add, rw_X12_add_1, m1.e, hM.e, cn, mx_b_t qa, mx_b_t qb, ci, k0, k1]
                rw [← zz]
                exact ih2 _
            rw [fin]
            exact mx_W_s ⟨⟨_, rfl, rfl⟩, v.gw hc (fun q hq => oS _ _ q hq) p1 (by omega) (by omega)⟩
        · have ta : S (S 7 a) (-2) = 1 := by rw [ra.t, k0]; rfl
          refine ag_p v hc (y := -4) ?_ ?_
          · simp (disch := omega) only [mx_vt_h, mx_vt_m, mx_cmp_0, mx_cmp_1, mx_cmp_2, mx_cmp_3, mx_cmp_4, mx_u_s, mx_u_a, mx_u_k, mx_z_a, mx_z_s, mx_t_a, mx_t_2, mx_t_1, mx_t_0, mx_gd_T, mx_gd_t, mx_br_T, mx_br_F, mx_br_t, mx_br_f, mx_br_n, mx_cl_T, mx_cl_t, mx_re_T, mx_re_t, mx_rt_v, mx_rt_0, mx_cu_t, mx_w_id, mx_l_id, mx_b_0, mx_b_1, mx_b_r, mx_nl_0, mx_nl_1, mx_nl_2, mx_nl_n, mx_nl_l, mx_sw_n, mx_sw_h, mx_sw_m, Int.reduceLE, Int.reduceLT, Int.reduceEq, Int.reduceAdd, Int.reduceSub, Int.reduceMul, Int.reduceNeg, Int.reduceToNat, and_self, true_and, and_true, false_and, and_false, true_or, or_true, false_or, or_false, not_true_eq_false, not_false_eq_true, eq_self, rw_X11_add, rw_X11_add_1, rw_X4_kind, hX, hF, v.na1 qa, v.na1 qb, ta, cb, k1]
          · simp (disch := omega) only [mx_vt_h, mx_vt_m, mx_cmp_0, mx_cmp_1, mx_cmp_2, mx_cmp_3, mx_cmp_4, mx_u_s, mx_u_a, mx_u_k, mx_z_a, mx_z_s, mx_t_a, mx_t_2, mx_t_1, mx_t_0, mx_gd_T, mx_gd_t, mx_br_T, mx_br_F, mx_br_t, mx_br_f, mx_br_n, mx_cl_T, mx_cl_t, mx_re_T, mx_re_t, mx_rt_v, mx_rt_0, mx_cu_t, mx_w_id, mx_l_id, mx_b_0, mx_b_1, mx_b_r, mx_nl_0, mx_nl_1, mx_nl_2, mx_nl_n, mx_nl_l, mx_sw_n, mx_sw_h, mx_sw_m, Int.reduceLE, Int.reduceLT, Int.reduceEq, Int.reduceAdd, Int.reduceSub, Int.reduceMul, Int.reduceNeg, Int.reduceToNat, and_self, true_and, and_true, false_and, and_false, true_or, or_true, false_or, or_false, not_true_eq_false, not_false_eq_true, eq_self, rw_X12_add, rw_X12_add_1, hM.e, c_isNote hM w, mx_b_t qa, mx_b_t qb, c_its hM, k0, k1]
      · refine ag_p v hc (y := -4) ?_ ?_
        · simp (disch := omega) only [mx_vt_h, mx_vt_m, mx_cmp_0, mx_cmp_1, mx_cmp_2, mx_cmp_3, mx_cmp_4, mx_u_s, mx_u_a, mx_u_k, mx_z_a, mx_z_s, mx_t_a, mx_t_2, mx_t_1, mx_t_0, mx_gd_T, mx_gd_t, mx_br_T, mx_br_F, mx_br_t, mx_br_f, mx_br_n, mx_cl_T, mx_cl_t, mx_re_T, mx_re_t, mx_rt_v, mx_rt_0, mx_cu_t, mx_w_id, mx_l_id, mx_b_0, mx_b_1, mx_b_r, mx_nl_0, mx_nl_1, mx_nl_2, mx_nl_n, mx_nl_l, mx_sw_n, mx_sw_h, mx_sw_m, Int.reduceLE, Int.reduceLT, Int.reduceEq, Int.reduceAdd, Int.reduceSub, Int.reduceMul, Int.reduceNeg, Int.reduceToNat, and_self, true_and, and_true, false_and, and_false, true_or, or_true, false_or, or_false, not_true_eq_false, not_false_eq_true, eq_self, rw_X11_add, rw_X11_add_1, hX, hF, v.na1 qa, v.na1 qb, ca, k0]
        · simp (disch := omega) only [mx_vt_h, mx_vt_m, mx_cmp_0, mx_cmp_1, mx_cmp_2, mx_cmp_3, mx_cmp_4, mx_u_s, mx_u_a, mx_u_k, mx_z_a, mx_z_s, mx_t_a, mx_t_2, mx_t_1, mx_t_0, mx_gd_T, mx_gd_t, mx_br_T, mx_br_F, mx_br_t, mx_br_f, mx_br_n, mx_cl_T, mx_cl_t, mx_re_T, mx_re_t, mx_rt_v, mx_rt_0, mx_cu_t, mx_w_id, mx_l_id, mx_b_0, mx_b_1, mx_b_r, mx_nl_0, mx_nl_1, mx_nl_2, mx_nl_n, mx_nl_l, mx_sw_n, mx_sw_h, mx_sw_m, Int.reduceLE, Int.reduceLT, Int.reduceEq, Int.reduceAdd, Int.reduceSub, Int.reduceMul, Int.reduceNeg, Int.reduceToNat, and_self, true_and, and_true, false_and, and_false, true_or, or_true, false_or, or_false, not_true_eq_false, not_false_eq_true, eq_self, rw_X12_add, rw_X12_add_1, hM.e, c_isNote hM w, mx_b_t qa, mx_b_t qb, c_its hM, k0]
    · refine ag_p v hc (y := -1) ?_ ?_
      · simp (disch := omega) only [mx_vt_h, mx_vt_m, mx_cmp_0, mx_cmp_1, mx_cmp_2, mx_cmp_3, mx_cmp_4, mx_u_s, mx_u_a, mx_u_k, mx_z_a, mx_z_s, mx_t_a, mx_t_2, mx_t_1, mx_t_0, mx_gd_T, mx_gd_t, mx_br_T, mx_br_F, mx_br_t, mx_br_f, mx_br_n, mx_cl_T, mx_cl_t, mx_re_T, mx_re_t, mx_rt_v, mx_rt_0, mx_cu_t, mx_w_id, mx_l_id, mx_b_0, mx_b_1, mx_b_r, mx_nl_0, mx_nl_1, mx_nl_2, mx_nl_n, mx_nl_l, mx_sw_n, mx_sw_h, mx_sw_m, Int.reduceLE, Int.reduceLT, Int.reduceEq, Int.reduceAdd, Int.reduceSub, Int.reduceMul, Int.reduceNeg, Int.reduceToNat, and_self, true_and, and_true, false_and, and_false, true_or, or_true, false_or, or_false, not_true_eq_false, not_false_eq_true, eq_self, rw_X11_add, rw_X11_add_1, hX, hF, v.na1 qa, v.na0 qb]
      · simp (disch := omega) only [mx_vt_h, mx_vt_m, mx_cmp_0, mx_cmp_1, mx_cmp_2, mx_cmp_3, mx_cmp_4, mx_u_s, mx_u_a, mx_u_k, mx_z_a, mx_z_s, mx_t_a, mx_t_2, mx_t_1, mx_t_0, mx_gd_T, mx_gd_t, mx_br_T, mx_br_F, mx_br_t, mx_br_f, mx_br_n, mx_cl_T, mx_cl_t, mx_re_T, mx_re_t, mx_rt_v, mx_rt_0, mx_cu_t, mx_w_id, mx_l_id, mx_b_0, mx_b_1, mx_b_r, mx_nl_0, mx_nl_1, mx_nl_2, mx_nl_n, mx_nl_l, mx_sw_n, mx_sw_h, mx_sw_m, Int.reduceLE, Int.reduceLT, Int.reduceEq, Int.reduceAdd, Int.reduceSub, Int.reduceMul, Int.reduceNeg, Int.reduceToNat, and_self, true_and, and_true, false_and, and_false, true_or, or_true, false_or, or_false, not_true_eq_false, not_false_eq_true, eq_self, rw_X12_add, rw_X12_add_1, hM.e, c_isNote hM w, mx_b_t qa, mx_b_f qb]
  · refine ag_p v hc (y := -1) ?_ ?_
    · by_cases qb : 0 ≤ b ∧ b < h 39 0
      · simp (disch := omega) only [mx_vt_h, mx_vt_m, mx_cmp_0, mx_cmp_1, mx_cmp_2, mx_cmp_3, mx_cmp_4, mx_u_s, mx_u_a, mx_u_k, mx_z_a, mx_z_s, mx_t_a, mx_t_2, mx_t_1, mx_t_0, mx_gd_T, mx_gd_t, mx_br_T, mx_br_F, mx_br_t, mx_br_f, mx_br_n, mx_cl_T, mx_cl_t, mx_re_T, mx_re_t, mx_rt_v, mx_rt_0, mx_cu_t, mx_w_id, mx_l_id, mx_b_0, mx_b_1, mx_b_r, mx_nl_0, mx_nl_1, mx_nl_2, mx_nl_n, mx_nl_l, mx_sw_n, mx_sw_h, mx_sw_m, Int.reduceLE, Int.reduceLT, Int.reduceEq, Int.reduceAdd, Int.reduceSub, Int.reduceMul, Int.reduceNeg, Int.reduceToNat, and_self, true_and, and_true, false_and, and_false, true_or, or_true, false_or, or_false, not_true_eq_false, not_false_eq_true, eq_self, rw_X11_add, rw_X11_add_1, hX, hF, v.na0 qa, v.na1 qb]
      · simp (disch := omega) only [mx_vt_h, mx_vt_m, mx_cmp_0, mx_cmp_1, mx_cmp_2, mx_cmp_3, mx_cmp_4, mx_u_s, mx_u_a, mx_u_k, mx_z_a, mx_z_s, mx_t_a, mx_t_2, mx_t_1, mx_t_0, mx_gd_T, mx_gd_t, mx_br_T, mx_br_F, mx_br_t, mx_br_f, mx_br_n, mx_cl_T, mx_cl_t, mx_re_T, mx_re_t, mx_rt_v, mx_rt_0, mx_cu_t, mx_w_id, mx_l_id, mx_b_0, mx_b_1, mx_b_r, mx_nl_0, mx_nl_1, mx_nl_2, mx_nl_n, mx_nl_l, mx_sw_n, mx_sw_h, mx_sw_m, Int.reduceLE, Int.reduceLT, Int.reduceEq, Int.reduceAdd, Int.reduceSub, Int.reduceMul, Int.reduceNeg, Int.reduceToNat, and_self, true_and, and_true, false_and, and_false, true_or, or_true, false_or, or_false, not_true_eq_false, not_false_eq_true, eq_self, rw_X11_add, rw_X11_add_1, hX, hF, v.na0 qa, v.na0 qb]
    · simp (disch := omega) only [mx_vt_h, mx_vt_m, mx_cmp_0, mx_cmp_1, mx_cmp_2, mx_cmp_3, mx_cmp_4, mx_u_s, mx_u_a, mx_u_k, mx_z_a, mx_z_s, mx_t_a, mx_t_2, mx_t_1, mx_t_0, mx_gd_T, mx_gd_t, mx_br_T, mx_br_F, mx_br_t, mx_br_f, mx_br_n, mx_cl_T, mx_cl_t, mx_re_T, mx_re_t, mx_rt_v, mx_rt_0, mx_cu_t, mx_w_id, mx_l_id, mx_b_0, mx_b_1, mx_b_r, mx_nl_0, mx_nl_1, mx_nl_2, mx_nl_n, mx_nl_l, mx_sw_n, mx_sw_h, mx_sw_m, Int.reduceLE, Int.reduceLT, Int.reduceEq, Int.reduceAdd, Int.reduceSub, Int.reduceMul, Int.reduceNeg, Int.reduceToNat, and_self, true_and, and_true, false_and, and_false, true_or, or_true, false_or, or_false, not_true_eq_false, not_false_eq_true, eq_self, rw_X12_add, rw_X12_add_1, hM.e, c_isNote hM w, mx_b_f qa]
end
