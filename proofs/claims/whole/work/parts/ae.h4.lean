/-! Names, numbers, signs of a text -/
def wds (k : Nat) : List Nat := (st_en k).2.2
def wch (k : Nat) (j : Int) : Int := (((wds k).getD j.toNat 0 : Nat) : Int)
def wln (k : Nat) : Int := ((wds k).length : Int)
theorem wd_l : ∀ k : Fin 24, wln k.val ≤ 7 := by decide +kernel
theorem wd_c : ∀ k : Fin 24, ∀ j : Fin 7, (j.val : Int) < wln k.val → 97 ≤ wch k.val j.val ∧ wch k.val j.val ≤ 122 := by decide +kernel
theorem i2c_e {v : Int} (v0 : 97 ≤ v) (v1 : v ≤ 122) : mx_i2c v = v := by
  have key : ∀ j : Fin 128, mx_i2c (j.val : Int) = (j.val : Int) := by decide +kernel
  have h := key ⟨v.toNat, by omega⟩
  have e : ((v.toNat : Nat) : Int) = v := by omega
  simp only [e] at h; exact h
theorem shr_0 {v : Int} (v0 : 0 ≤ v) (v1 : v ≤ 100) : mx_shr v 0 = v := by
  have e : ((v.toNat : Nat) : Int) = v := by omega
  have := n_shr v.toNat (by omega) ⟨0, by decide⟩
  rw [e] at this
  have z : (((⟨0, by decide⟩ : Fin 32).val : Nat) : Int) = 0 := rfl
  rw [z] at this
  rw [this]; simp; omega
/-- the text constants stand -/
def ws (L : Nat) (x : Nat → Int32) (S h : mx_H) : Prop := (∀ a, a < 0 → S a = st_gS L a) ∧ (∀ a, a < 0 → h a = st_gh x a)
theorem ws.mk {L : Nat} {x : Nat → Int32} {S h : mx_H} (x0 : ∀ a, a < 0 → S a = st_gS L a) (x1 : ∀ a, a < 0 → h a = st_gh x a) : ws L x S h := (And.intro x0 x1)
theorem ws.sS {L : Nat} {x : Nat → Int32} {S h : mx_H} (q : ws L x S h) : ∀ a, a < 0 → S a = st_gS L a := (And.left q)
theorem ws.hh {L : Nat} {x : Nat → Int32} {S h : mx_H} (q : ws L x S h) : ∀ a, a < 0 → h a = st_gh x a := (And.right q)
section
variable {L : Nat} {x : Nat → Int32} {S h : mx_H} {n : Int} {d : Nat} {A : Int} {k : Nat}
theorem ws.s (w : ws L x S h) (k0 : k < 24) (eA : A = -10 - (k : Int)) : S A (-2) = 30 ∧ S A 0 = A - 30 ∧ h A 1 = 0 ∧ S (A - 30) (-2) = 25 ∧ S (A - 30) (-1) = wln k := by
  have ek : (-40 - (A - 30)).toNat = k := by omega
  refine ⟨?_, ?_, ?_, ?_, ?_⟩
  · rw [w.sS A (by omega)]; unfold st_gS; rw [if_neg (by omega), if_neg (by omega), if_pos (by omega)]; rfl
  · rw [w.sS A (by omega)]; unfold st_gS; rw [if_neg (by omega), if_neg (by omega), if_pos (by omega)]; rfl
  · rw [w.hh A (by omega)]; unfold st_gh; rw [if_neg (by omega), if_neg (by omega), if_neg (by omega), if_neg (by omega)]
  · rw [w.sS _ (by omega)]; unfold st_gS; rw [if_neg (by omega), if_neg (by omega), if_neg (by omega), if_pos (by omega)]; rfl
  · rw [w.sS _ (by omega)]; unfold st_gS; rw [if_neg (by omega), if_neg (by omega), if_neg (by omega), if_pos (by omega), ek]; rfl
theorem ws.c (w : ws L x S h) (k0 : k < 24) (eA : A = -10 - (k : Int)) {j : Int} : h (A - 30) j = wch k j := by
  have ek : (-40 - (A - 30)).toNat = k := by omega
  rw [w.hh _ (by omega)]; unfold st_gh; rw [if_neg (by omega), if_neg (by omega), if_neg (by omega), if_pos (by omega), ek]; rfl
theorem c_len (w : ws L x S h) (k0 : k < 24) (eA : A = -10 - (k : Int)) : mx_M (d + 1) 249 [(2, A)] S h n = some (some (0, wln k), S, h, n) := by
  have f := w.s k0 eA
  have l := wd_l ⟨k, k0⟩
  have l : wln k ≤ 7 := l
  have l0 : 0 ≤ wln k := by unfold wln; omega
  simp (disch := omega) only [mx_vt_h, mx_vt_m, mx_cmp_0, mx_cmp_1, mx_cmp_2, mx_cmp_3, mx_cmp_4, mx_u_s, mx_u_a, mx_u_k, mx_z_a, mx_z_s, mx_t_a, mx_t_2, mx_t_1, mx_t_0, mx_gd_T, mx_gd_t, mx_br_T, mx_br_F, mx_br_t, mx_br_f, mx_br_n, mx_cl_T, mx_cl_t, mx_re_T, mx_re_t, mx_rt_v, mx_rt_0, mx_cu_t, mx_w_id, mx_l_id, mx_b_0, mx_b_1, mx_b_r, mx_nl_0, mx_nl_1, mx_nl_2, mx_nl_n, mx_nl_l, mx_sw_n, mx_sw_h, mx_sw_m, Int.reduceLE, Int.reduceLT, Int.reduceEq, Int.reduceAdd, Int.reduceSub, Int.reduceMul, Int.reduceNeg, Int.reduceToNat, and_self, true_and, and_true, false_and, and_false, true_or, or_true, false_or, or_false, not_true_eq_false, not_false_eq_true, eq_self, rw_J0_length_8abf5, rw_J0_coder_7d493, f, shr_0]
theorem c_chA (w : ws L x S h) (k0 : k < 24) (eA : A = -10 - (k : Int)) {j : Int} (j0 : 0 ≤ j) (j1 : j < wln k) : mx_M (d + 4) 250 [(2, A), (0, j)] S h n = some (some (0, wch k j), S, h, n) := by
  have f := w.s k0 eA
  have l : wln k ≤ 7 := wd_l ⟨k, k0⟩
  have c := wd_c ⟨k, k0⟩ ⟨j.toNat, by omega⟩ (by simp only; omega)
  have ej : ((j.toNat : Nat) : Int) = j := by omega
  simp only [ej] at c
  have hc : h (A - 30) j = wch k j := w.c k0 eA
  have a5 : mx_and (wch k j) 255 = wch k j := by rw [and255]; omega
  simp (disch := omega) only [mx_vt_h, mx_vt_m, mx_cmp_0, mx_cmp_1, mx_cmp_2, mx_cmp_3, mx_cmp_4, mx_u_s, mx_u_a, mx_u_k, mx_z_a, mx_z_s, mx_t_a, mx_t_2, mx_t_1, mx_t_0, mx_gd_T, mx_gd_t, mx_br_T, mx_br_F, mx_br_t, mx_br_f, mx_br_n, mx_cl_T, mx_cl_t, mx_re_T, mx_re_t, mx_rt_v, mx_rt_0, mx_cu_t, mx_w_id, mx_l_id, mx_b_0, mx_b_1, mx_b_r, mx_nl_0, mx_nl_1, mx_nl_2, mx_nl_n, mx_nl_l, mx_sw_n, mx_sw_h, mx_sw_m, Int.reduceLE, Int.reduceLT, Int.reduceEq, Int.reduceAdd, Int.reduceSub, Int.reduceMul, Int.reduceNeg, Int.reduceToNat, and_self, true_and, and_true, false_and, and_false, true_or, or_true, false_or, or_false, not_true_eq_false, not_false_eq_true, eq_self, rw_J0_charAt_5068e, rw_J0_isLatin1_aae02, rw_J1_charAt_3b067, rw_J0_checkIndex_df160, rw_J3_checkIndex_8e157, f, hc, a5, i2c_e]
end
/-- a token is a name -/
def nmm (t : Int → Int) (N p : Int) (k : Nat) : Prop := tso t N p = 1 ∧ tpl t N p - tst t N p = wln k ∧ ∀ j, 0 ≤ j → j < wln k → t (tst t N p + j) = wch k j
def tnu (t : Int → Int) (N lo hi p : Int) : Prop := tso t N p = 2 ∧ lo ≤ tva t N p ∧ tva t N p ≤ hi
def tby (t : Int → Int) (N c p : Int) : Prop := tso t N p = 3 ∧ tva t N p = c
/-- the teller stands at the token from p on -/
def CX (t : Int → Int) (N p : Int) (S h : mx_H) : Prop := (tS S) ∧ (h 1 = t) ∧ (N ≤ 200) ∧ (0 ≤ p ∧ p ≤ N) ∧ (CT t N p h)
theorem CX.mk {t : Int → Int} {N p : Int} {S h : mx_H} (x0 : tS S) (x1 : h 1 = t) (x2 : N ≤ 200) (x3 : 0 ≤ p ∧ p ≤ N) (x4 : CT t N p h) : CX t N p S h := (And.intro x0 (And.intro x1 (And.intro x2 (And.intro x3 x4))))
theorem CX.s {t : Int → Int} {N p : Int} {S h : mx_H} (q : CX t N p S h) : tS S := (And.left q)
theorem CX.t {t : Int → Int} {N p : Int} {S h : mx_H} (q : CX t N p S h) : h 1 = t := (And.left (And.right q))
theorem CX.N2 {t : Int → Int} {N p : Int} {S h : mx_H} (q : CX t N p S h) : N ≤ 200 := (And.left (And.right (And.right q)))
theorem CX.p0 {t : Int → Int} {N p : Int} {S h : mx_H} (q : CX t N p S h) : 0 ≤ p ∧ p ≤ N := (And.left (And.right (And.right (And.right q))))
theorem CX.c {t : Int → Int} {N p : Int} {S h : mx_H} (q : CX t N p S h) : CT t N p h := (And.right (And.right (And.right (And.right q))))
def RX (t : Int → Int) (N p : Int) (S h : mx_H) : Prop := (sh_M S) ∧ (∀ k, 0 ≤ k → k < N → h 42 k = t k) ∧ (∀ k, 0 ≤ k → k < N → 0 ≤ t k ∧ t k ≤ 255) ∧ (N ≤ 200) ∧ (0 ≤ p ∧ p ≤ N) ∧ (RT t N p h)
theorem RX.mk {t : Int → Int} {N p : Int} {S h : mx_H} (x0 : sh_M S) (x1 : ∀ k, 0 ≤ k → k < N → h 42 k = t k) (x2 : ∀ k, 0 ≤ k → k < N → 0 ≤ t k ∧ t k ≤ 255) (x3 : N ≤ 200) (x4 : 0 ≤ p ∧ p ≤ N) (x5 : RT t N p h) : RX t N p S h := (And.intro x0 (And.intro x1 (And.intro x2 (And.intro x3 (And.intro x4 x5)))))
theorem RX.m {t : Int → Int} {N p : Int} {S h : mx_H} (q : RX t N p S h) : sh_M S := (And.left q)
theorem RX.t {t : Int → Int} {N p : Int} {S h : mx_H} (q : RX t N p S h) : ∀ k, 0 ≤ k → k < N → h 42 k = t k := (And.left (And.right q))
theorem RX.b {t : Int → Int} {N p : Int} {S h : mx_H} (q : RX t N p S h) : ∀ k, 0 ≤ k → k < N → 0 ≤ t k ∧ t k ≤ 255 := (And.left (And.right (And.right q)))
theorem RX.N2 {t : Int → Int} {N p : Int} {S h : mx_H} (q : RX t N p S h) : N ≤ 200 := (And.left (And.right (And.right (And.right q))))
theorem RX.p0 {t : Int → Int} {N p : Int} {S h : mx_H} (q : RX t N p S h) : 0 ≤ p ∧ p ≤ N := (And.left (And.right (And.right (And.right (And.right q)))))
theorem RX.c {t : Int → Int} {N p : Int} {S h : mx_H} (q : RX t N p S h) : RT t N p h := (And.right (And.right (And.right (And.right (And.right q)))))
section
variable {L : Nat} {x : Nat → Int32} {S h : mx_H} {n : Int} {d : Nat} {t : Int → Int} {N p : Int}
theorem CX.nx (X : CX t N p S h) : ∃ g, mx_M (d + 2) 70 [(2, 22)] S h n = some (none, S, g, n) ∧ (∀ b, ¬ b = 22 → g b = h b) ∧ CX t N (tpl t N p) S g := by
  have r := tpl_r (t := t) X.p0.2
  have r2 := tst_r (t := t) X.p0.2
  have p0 := X.p0
  obtain ⟨g, e, f, c⟩ := c_next (d := d) (n := n) (p := tpl t N p) X.s X.t X.c.N X.N2 X.c.p (by omega)
  exact ⟨g, e, f, CX.mk X.s (by rw [f 1 (by decide)]; exact X.t) X.N2 (by omega) c⟩
theorem RX.nx (X : RX t N p S h) : ∃ g, mx_M (d + 2) 165 [(2, 38)] S h n = some (none, S, g, n) ∧ fM h g ∧ g 38 10 = h 38 10 ∧ RX t N (tpl t N p) S g := by
  have r := tpl_r (t := t) X.p0.2
  have r2 := tst_r (t := t) X.p0.2
  have p0 := X.p0
  obtain ⟨g, e, f, c, k⟩ := c_nextM (d := d) (n := n) (p := tpl t N p) X.m X.t X.b X.c.N X.N2 X.c.p (by omega)
  exact ⟨g, e, f, k, RX.mk X.m (fun k a b => by rw [f.1 42 (by decide)]; exact X.t k a b) X.b X.N2 (by omega) c⟩
theorem CX.u (X : CX t N p S h) {lo hi : Int} (q : tnu t N lo hi p) : ∃ g, mx_M (d + 3) 67 [(2, 22), (0, lo), (0, hi)] S h n = some (some (0, tva t N p), S, g, n) ∧ (∀ b, ¬ b = 22 → g b = h b) ∧ CX t N (tpl t N p) S g := by
  have se := X.s.e
  obtain ⟨q0, q1, q2⟩ := q
  have k := X.c.k
  have v := X.c.v
  rw [q0] at k
  obtain ⟨g, e, f, c⟩ := X.nx (d := d) (n := n)
  refine ⟨g, ?_, f, c⟩
  simp (disch := omega) only [mx_vt_h, mx_vt_m, mx_cmp_0, mx_cmp_1, mx_cmp_2, mx_cmp_3, mx_cmp_4, mx_u_s, mx_u_a, mx_u_k, mx_z_a, mx_z_s, mx_t_a, mx_t_2, mx_t_1, mx_t_0, mx_gd_T, mx_gd_t, mx_br_T, mx_br_F, mx_br_t, mx_br_f, mx_br_n, mx_cl_T, mx_cl_t, mx_re_T, mx_re_t, mx_rt_v, mx_rt_0, mx_cu_t, mx_w_id, mx_l_id, mx_b_0, mx_b_1, mx_b_r, mx_nl_0, mx_nl_1, mx_nl_2, mx_nl_n, mx_nl_l, mx_sw_n, mx_sw_h, mx_sw_m, Int.reduceLE, Int.reduceLT, Int.reduceEq, Int.reduceAdd, Int.reduceSub, Int.reduceMul, Int.reduceNeg, Int.reduceToNat, and_self, true_and, and_true, false_and, and_false, true_or, or_true, false_or, or_false, not_true_eq_false, not_false_eq_true, eq_self, rw_X7_number, se, k, v, e, Option.toList, List.nil_append]
theorem CX.u0 (X : CX t N p S h) {lo hi : Int} (q : ¬ tnu t N lo hi p) : mx_M (d + 3) 67 [(2, 22), (0, lo), (0, hi)] S h n = some (some (0, -1), S, h, n) := by
  have se := X.s.e
  have k := X.c.k
  have v := X.c.v
  by_cases q0 : tso t N p = 2
  · by_cases q1 : tva t N p < lo
    · simp (disch := omega) only [mx_vt_h, mx_vt_m, mx_cmp_0, mx_cmp_1, mx_cmp_2, mx_cmp_3, mx_cmp_4, mx_u_s, mx_u_a, mx_u_k, mx_z_a, mx_z_s, mx_t_a, mx_t_2, mx_t_1, mx_t_0, mx_gd_T, mx_gd_t, mx_br_T, mx_br_F, mx_br_t, mx_br_f, mx_br_n, mx_cl_T, mx_cl_t, mx_re_T, mx_re_t, mx_rt_v, mx_rt_0, mx_cu_t, mx_w_id, mx_l_id, mx_b_0, mx_b_1, mx_b_r, mx_nl_0, mx_nl_1, mx_nl_2, mx_nl_n, mx_nl_l, mx_sw_n, mx_sw_h, mx_sw_m, Int.reduceLE, Int.reduceLT, Int.reduceEq, Int.reduceAdd, Int.reduceSub, Int.reduceMul, Int.reduceNeg, Int.reduceToNat, and_self, true_and, and_true, false_and, and_false, true_or, or_true, false_or, or_false, not_true_eq_false, not_false_eq_true, eq_self, rw_X7_number, se, k, v, q0]
    · have q2 : hi < tva t N p := Classical.byContradiction (fun z => q ⟨q0, by omega, by omega⟩)
      simp (disch := omega) only [mx_vt_h, mx_vt_m, mx_cmp_0, mx_cmp_1, mx_cmp_2, mx_cmp_3, mx_cmp_4, mx_u_s, mx_u_a, mx_u_k, mx_z_a, mx_z_s, mx_t_a, mx_t_2, mx_t_1, mx_t_0, mx_gd_T, mx_gd_t, mx_br_T, mx_br_F, mx_br_t, mx_br_f, mx_br_n, mx_cl_T, mx_cl_t, mx_re_T, mx_re_t, mx_rt_v, mx_rt_0, mx_cu_t, mx_w_id, mx_l_id, mx_b_0, mx_b_1, mx_b_r, mx_nl_0, mx_nl_1, mx_nl_2, mx_nl_n, mx_nl_l, mx_sw_n, mx_sw_h, mx_sw_m, Int.reduceLE, Int.reduceLT, Int.reduceEq, Int.reduceAdd, Int.reduceSub, Int.reduceMul, Int.reduceNeg, Int.reduceToNat, and_self, true_and, and_true, false_and, and_false, true_or, or_true, false_or, or_false, not_true_eq_false, not_false_eq_true, eq_self, rw_X7_number, se, k, v, q0]
  · simp (disch := omega) only [mx_vt_h, mx_vt_m, mx_cmp_0, mx_cmp_1, mx_cmp_2, mx_cmp_3, mx_cmp_4, mx_u_s, mx_u_a, mx_u_k, mx_z_a, mx_z_s, mx_t_a, mx_t_2, mx_t_1, mx_t_0, mx_gd_T, mx_gd_t, mx_br_T, mx_br_F, mx_br_t, mx_br_f, mx_br_n, mx_cl_T, mx_cl_t, mx_re_T, mx_re_t, mx_rt_v, mx_rt_0, mx_cu_t, mx_w_id, mx_l_id, mx_b_0, mx_b_1, mx_b_r, mx_nl_0, mx_nl_1, mx_nl_2, mx_nl_n, mx_nl_l, mx_sw_n, mx_sw_h, mx_sw_m, Int.reduceLE, Int.reduceLT, Int.reduceEq, Int.reduceAdd, Int.reduceSub, Int.reduceMul, Int.reduceNeg, Int.reduceToNat, and_self, true_and, and_true, false_and, and_false, true_or, or_true, false_or, or_false, not_true_eq_false, not_false_eq_true, eq_self, rw_X7_number, se, k, q0]
theorem CX.b (X : CX t N p S h) {c : Int} (q : tby t N c p) : ∃ g, mx_M (d + 3) 68 [(2, 22), (0, c)] S h n = some (some (0, 1), S, g, n) ∧ (∀ b, ¬ b = 22 → g b = h b) ∧ CX t N (tpl t N p) S g := by
  have se := X.s.e
  obtain ⟨q0, q1⟩ := q
  have k := X.c.k
  have v := X.c.v
  rw [q0] at k
  rw [q1] at v
  obtain ⟨g, e, f, c⟩ := X.nx (d := d) (n := n)
  refine ⟨g, ?_, f, c⟩
  simp (disch := omega) only [mx_vt_h, mx_vt_m, mx_cmp_0, mx_cmp_1, mx_cmp_2, mx_cmp_3, mx_cmp_4, mx_u_s, mx_u_a, mx_u_k, mx_z_a, mx_z_s, mx_t_a, mx_t_2, mx_t_1, mx_t_0, mx_gd_T, mx_gd_t, mx_br_T, mx_br_F, mx_br_t, mx_br_f, mx_br_n, mx_cl_T, mx_cl_t, mx_re_T, mx_re_t, mx_rt_v, mx_rt_0, mx_cu_t, mx_w_id, mx_l_id, mx_b_0, mx_b_1, mx_b_r, mx_nl_0, mx_nl_1, mx_nl_2, mx_nl_n, mx_nl_l, mx_sw_n, mx_sw_h, mx_sw_m, Int.reduceLE, Int.reduceLT, Int.reduceEq, Int.reduceAdd, Int.reduceSub, Int.reduceMul, Int.reduceNeg, Int.reduceToNat, and_self, true_and, and_true, false_and, and_false, true_or, or_true, false_or, or_false, not_true_eq_false, not_false_eq_true, eq_self, rw_X7_takes, se, k, v, e]
theorem CX.b0 (X : CX t N p S h) {c : Int} (q : ¬ tby t N c p) : mx_M (d + 3) 68 [(2, 22), (0, c)] S h n = some (some (0, 0), S, h, n) := by
  have se := X.s.e
  have k := X.c.k
  have v := X.c.v
  by_cases q0 : tso t N p = 3
  · have q1 : ¬ tva t N p = c := fun z => q ⟨q0, z⟩
    simp (disch := omega) only [mx_vt_h, mx_vt_m, mx_cmp_0, mx_cmp_1, mx_cmp_2, mx_cmp_3, mx_cmp_4, mx_u_s, mx_u_a, mx_u_k, mx_z_a, mx_z_s, mx_t_a, mx_t_2, mx_t_1, mx_t_0, mx_gd_T, mx_gd_t, mx_br_T, mx_br_F, mx_br_t, mx_br_f, mx_br_n, mx_cl_T, mx_cl_t, mx_re_T, mx_re_t, mx_rt_v, mx_rt_0, mx_cu_t, mx_w_id, mx_l_id, mx_b_0, mx_b_1, mx_b_r, mx_nl_0, mx_nl_1, mx_nl_2, mx_nl_n, mx_nl_l, mx_sw_n, mx_sw_h, mx_sw_m, Int.reduceLE, Int.reduceLT, Int.reduceEq, Int.reduceAdd, Int.reduceSub, Int.reduceMul, Int.reduceNeg, Int.reduceToNat, and_self, true_and, and_true, false_and, and_false, true_or, or_true, false_or, or_false, not_true_eq_false, not_false_eq_true, eq_self, rw_X7_takes, se, k, v, q0, q1]
  · simp (disch := omega) only [mx_vt_h, mx_vt_m, mx_cmp_0, mx_cmp_1, mx_cmp_2, mx_cmp_3, mx_cmp_4, mx_u_s, mx_u_a, mx_u_k, mx_z_a, mx_z_s, mx_t_a, mx_t_2, mx_t_1, mx_t_0, mx_gd_T, mx_gd_t, mx_br_T, mx_br_F, mx_br_t, mx_br_f, mx_br_n, mx_cl_T, mx_cl_t, mx_re_T, mx_re_t, mx_rt_v, mx_rt_0, mx_cu_t, mx_w_id, mx_l_id, mx_b_0, mx_b_1, mx_b_r, mx_nl_0, mx_nl_1, mx_nl_2, mx_nl_n, mx_nl_l, mx_sw_n, mx_sw_h, mx_sw_m, Int.reduceLE, Int.reduceLT, Int.reduceEq, Int.reduceAdd, Int.reduceSub, Int.reduceMul, Int.reduceNeg, Int.reduceToNat, and_self, true_and, and_true, false_and, and_false, true_or, or_true, false_or, or_false, not_true_eq_false, not_false_eq_true, eq_self, rw_X7_takes, se, k, q0]
theorem dvv_e (p0 : 0 ≤ p ∧ p ≤ N) (q0 : tso t N p = 2) : (tva t N p = dvv t (tst t N p) (tpl t N p) ∧ 0 ≤ tva t N p ∧ tva t N p ≤ 99) ∨ (tva t N p = -1 ∧ dvv t (tst t N p) (tpl t N p) = 999) := by
  have rp := tpl_r (t := t) p0.2
  have e0 : ¬ N ≤ tst t N p := fun z => by have := tso_0.mpr z; omega
  by_cases l : tpl t N p - tst t N p ≤ 2
  · have w := wrt_r p0.1 p0.2 q0 l
    have e : tva t N p = wrt t (tst t N p) (tpl t N p) := by unfold tva; rw [if_pos q0, if_pos l]
    refine Or.inl ⟨?_, by rw [e]; exact w⟩
    rw [e]; unfold wrt dvv
    by_cases z : tpl t N p = tst t N p + 1
    · rw [if_pos z, if_neg (by omega), if_pos z]
    · rw [if_neg z, if_neg (by omega), if_neg z, if_pos (by omega)]; omega
  · refine Or.inr ⟨by unfold tva; rw [if_pos q0, if_neg l], ?_⟩
    unfold dvv; rw [if_neg (by omega), if_neg (by omega), if_neg (by omega)]
theorem ttk_2 : ttk t N p = 2 ↔ tso t N p = 2 ∨ tso t N p = 3 ∧ t (tst t N p) = -1 := by
  unfold ttk
  have := tso_r (t := t) (N := N) (p := p)
  split <;> omega
theorem RX.k2 (X : RX t N p S h) : ttk t N p = 2 ↔ tso t N p = 2 := by
  have r := tst_r (t := t) X.p0.2
  have p0 := X.p0
  rw [ttk_2]
  constructor
  · rintro (a | ⟨a, b⟩)
    · exact a
    · have e0 : ¬ N ≤ tst t N p := fun z => by have := tso_0.mpr z; omega
      have := X.b (tst t N p) (by omega) (by omega)
      omega
  · exact Or.inl
theorem RX.u (X : RX t N p S h) {lo hi : Int} (l0 : 0 ≤ lo) (h0 : hi ≤ 99) (q : tnu t N lo hi p) : ∃ g, mx_M (d + 3) 168 [(2, 38), (0, lo), (0, hi)] S h n = some (some (0, 1), S, g, n) ∧ fM h g ∧ g 38 10 = tva t N p ∧ RX t N (tpl t N p) S g := by
  have hM1 := X.m.e
  obtain ⟨q0, q1, q2⟩ := q
  have k := X.c.k
  rw [X.k2.mpr q0] at k
  have v := X.c.v q0
  have dv := dvv_e X.p0 q0
  have ev : h 38 9 = tva t N p := by rw [v]; omega
  have X2 : RX t N p S (mx_u h 38 10 (tva t N p)) := RX.mk X.m (fun k a b => by rw [mx_u_a (by decide)]; exact X.t k a b) X.b X.N2 X.p0 (RT.mk (by rw [mx_u_k (by decide)]; exact X.c.N) (by rw [mx_u_k (by decide)]; exact X.c.p) (by rw [mx_u_k (by decide)]; exact X.c.s) (by rw [mx_u_k (by decide)]; exact X.c.k) (fun z => by rw [mx_u_k (by decide)]; exact X.c.v z))
  obtain ⟨g, e, f, g10, c⟩ := X2.nx (d := d) (n := n)
  refine ⟨g, ?_, ⟨fun b b0 => by rw [f.1 b b0, mx_u_a b0], fun k k0 => by rw [f.2 k k0, mx_u_k (by omega)]⟩, by rw [g10, mx_u_s], c⟩
  simp (disch := omega) only [mx_vt_h, mx_vt_m, mx_cmp_0, mx_cmp_1, mx_cmp_2, mx_cmp_3, mx_cmp_4, mx_u_s, mx_u_a, mx_u_k, mx_z_a, mx_z_s, mx_t_a, mx_t_2, mx_t_1, mx_t_0, mx_gd_T, mx_gd_t, mx_br_T, mx_br_F, mx_br_t, mx_br_f, mx_br_n, mx_cl_T, mx_cl_t, mx_re_T, mx_re_t, mx_rt_v, mx_rt_0, mx_cu_t, mx_w_id, mx_l_id, mx_b_0, mx_b_1, mx_b_r, mx_nl_0, mx_nl_1, mx_nl_2, mx_nl_n, mx_nl_l, mx_sw_n, mx_sw_h, mx_sw_m, Int.reduceLE, Int.reduceLT, Int.reduceEq, Int.reduceAdd, Int.reduceSub, Int.reduceMul, Int.reduceNeg, Int.reduceToNat, and_self, true_and, and_true, false_and, and_false, true_or, or_true, false_or, or_false, not_true_eq_false, not_false_eq_true, eq_self, rw_X12_takesNumber, hM1, k, ev, c_in, mx_b_t (c := lo ≤ tva t N p ∧ tva t N p ≤ hi) ⟨q1, q2⟩, e]
theorem RX.u0 (X : RX t N p S h) {lo hi : Int} (l0 : 0 ≤ lo) (h0 : hi ≤ 99) (q : ¬ tnu t N lo hi p) : mx_M (d + 3) 168 [(2, 38), (0, lo), (0, hi)] S h n = some (some (0, 0), S, h, n) := by
  have hM1 := X.m.e
  have k := X.c.k
  by_cases q0 : tso t N p = 2
  · rw [X.k2.mpr q0] at k
    have v := X.c.v q0
    have dv := dvv_e X.p0 q0
    have f : ¬ (lo ≤ h 38 9 ∧ h 38 9 ≤ hi) := fun z => q ⟨q0, by omega, by omega⟩
    simp (disch := omega) only [mx_vt_h, mx_vt_m, mx_cmp_0, mx_cmp_1, mx_cmp_2, mx_cmp_3, mx_cmp_4, mx_u_s, mx_u_a, mx_u_k, mx_z_a, mx_z_s, mx_t_a, mx_t_2, mx_t_1, mx_t_0, mx_gd_T, mx_gd_t, mx_br_T, mx_br_F, mx_br_t, mx_br_f, mx_br_n, mx_cl_T, mx_cl_t, mx_re_T, mx_re_t, mx_rt_v, mx_rt_0, mx_cu_t, mx_w_id, mx_l_id, mx_b_0, mx_b_1, mx_b_r, mx_nl_0, mx_nl_1, mx_nl_2, mx_nl_n, mx_nl_l, mx_sw_n, mx_sw_h, mx_sw_m, Int.reduceLE, Int.reduceLT, Int.reduceEq, Int.reduceAdd, Int.reduceSub, Int.reduceMul, Int.reduceNeg, Int.reduceToNat, and_self, true_and, and_true, false_and, and_false, true_or, or_true, false_or, or_false, not_true_eq_false, not_false_eq_true, eq_self, rw_X12_takesNumber, hM1, k, c_in, mx_b_f f]
  · have k2 : ¬ h 38 8 = 2 := by rw [k]; exact fun z => q0 (X.k2.mp z)
    simp (disch := omega) only [mx_vt_h, mx_vt_m, mx_cmp_0, mx_cmp_1, mx_cmp_2, mx_cmp_3, mx_cmp_4, mx_u_s, mx_u_a, mx_u_k, mx_z_a, mx_z_s, mx_t_a, mx_t_2, mx_t_1, mx_t_0, mx_gd_T, mx_gd_t, mx_br_T, mx_br_F, mx_br_t, mx_br_f, mx_br_n, mx_cl_T, mx_cl_t, mx_re_T, mx_re_t, mx_rt_v, mx_rt_0, mx_cu_t, mx_w_id, mx_l_id, mx_b_0, mx_b_1, mx_b_r, mx_nl_0, mx_nl_1, mx_nl_2, mx_nl_n, mx_nl_l, mx_sw_n, mx_sw_h, mx_sw_m, Int.reduceLE, Int.reduceLT, Int.reduceEq, Int.reduceAdd, Int.reduceSub, Int.reduceMul, Int.reduceNeg, Int.reduceToNat, and_self, true_and, and_true, false_and, and_false, true_or, or_true, false_or, or_false, not_true_eq_false, not_false_eq_true, eq_self, rw_X12_takesNumber, hM1, k2]
theorem RX.kb (X : RX t N p S h) {c : Int} (c0 : 0 ≤ c) : ttk t N p = 3 + c ↔ tby t N c p := by
  unfold tby ttk
  have := tso_r (t := t) (N := N) (p := p)
  by_cases q : tso t N p = 3
  · have e : tva t N p = t (tst t N p) := by unfold tva; rw [if_neg (by omega), if_pos q]
    rw [if_pos q, e]; omega
  · rw [if_neg q]; omega
theorem RX.y (X : RX t N p S h) {c : Int} (c0 : 0 ≤ c ∧ c ≤ 255) (q : tby t N c p) : ∃ g, mx_M (d + 3) 167 [(2, 38), (0, c)] S h n = some (some (0, 1), S, g, n) ∧ fM h g ∧ g 38 10 = h 38 10 ∧ RX t N (tpl t N p) S g := by
  have hM1 := X.m.e
  have k := X.c.k
  rw [(X.kb c0.1).mpr q] at k
  obtain ⟨g, e, f, g10, c⟩ := X.nx (d := d) (n := n)
  refine ⟨g, ?_, f, g10, c⟩
  simp (disch := omega) only [mx_vt_h, mx_vt_m, mx_cmp_0, mx_cmp_1, mx_cmp_2, mx_cmp_3, mx_cmp_4, mx_u_s, mx_u_a, mx_u_k, mx_z_a, mx_z_s, mx_t_a, mx_t_2, mx_t_1, mx_t_0, mx_gd_T, mx_gd_t, mx_br_T, mx_br_F, mx_br_t, mx_br_f, mx_br_n, mx_cl_T, mx_cl_t, mx_re_T, mx_re_t, mx_rt_v, mx_rt_0, mx_cu_t, mx_w_id, mx_l_id, mx_b_0, mx_b_1, mx_b_r, mx_nl_0, mx_nl_1, mx_nl_2, mx_nl_n, mx_nl_l, mx_sw_n, mx_sw_h, mx_sw_m, Int.reduceLE, Int.reduceLT, Int.reduceEq, Int.reduceAdd, Int.reduceSub, Int.reduceMul, Int.reduceNeg, Int.reduceToNat, and_self, true_and, and_true, false_and, and_false, true_or, or_true, false_or, or_false, not_true_eq_false, not_false_eq_true, eq_self, rw_X12_takesByte, hM1, k, e]
theorem RX.y0 (X : RX t N p S h) {c : Int} (c0 : 0 ≤ c ∧ c ≤ 255) (q : ¬ tby t N c p) : mx_M (d + 3) 167 [(2, 38), (0, c)] S h n = some (some (0, 0), S, h, n) := by
  have hM1 := X.m.e
  have k := X.c.k
  have kn : ¬ h 38 8 = 3 + c := by rw [k]; exact fun z => q ((X.kb c0.1).mp z)
  simp (disch := omega) only [mx_vt_h, mx_vt_m, mx_cmp_0, mx_cmp_1, mx_cmp_2, mx_cmp_3, mx_cmp_4, mx_u_s, mx_u_a, mx_u_k, mx_z_a, mx_z_s, mx_t_a, mx_t_2, mx_t_1, mx_t_0, mx_gd_T, mx_gd_t, mx_br_T, mx_br_F, mx_br_t, mx_br_f, mx_br_n, mx_cl_T, mx_cl_t, mx_re_T, mx_re_t, mx_rt_v, mx_rt_0, mx_cu_t, mx_w_id, mx_l_id, mx_b_0, mx_b_1, mx_b_r, mx_nl_0, mx_nl_1, mx_nl_2, mx_nl_n, mx_nl_l, mx_sw_n, mx_sw_h, mx_sw_m, Int.reduceLE, Int.reduceLT, Int.reduceEq, Int.reduceAdd, Int.reduceSub, Int.reduceMul, Int.reduceNeg, Int.reduceToNat, and_self, true_and, and_true, false_and, and_false, true_or, or_true, false_or, or_false, not_true_eq_false, not_false_eq_true, eq_self, rw_X12_takesByte, hM1, kn]
end
