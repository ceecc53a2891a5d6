/-! alike -/
def sgn (b v k : Int) : Int := Int.tmod (dvs b v k.toNat) b
theorem dvs_s {b v : Int} : ∀ k, dvs b v (k + 1) = dvs b (v / b) k := by
  intro k
  induction k with
  | zero => rfl
  | succ k ih =>
    have e : dvs b v (k + 1 + 1) = dvs b v (k + 1) / b := rfl
    rw [e, ih]; rfl
theorem dvs_c {b : Int} (b0 : 2 ≤ b) : ∀ (f : Nat) (r : Int), 0 ≤ r → r < 2 ^ f → dvs b r (cnt b f r).toNat = 0 := by
  intro f
  induction f with
  | zero =>
    intro r r0 r1
    have : r = 0 := by
      have : (2 : Int) ^ 0 = 1 := rfl
      omega
    subst this; rfl
  | succ f ih =>
    intro r r0 r1
    by_cases q : r ≤ 0
    · have : r = 0 := by omega
      subst this; rfl
    · have e : cnt b (f + 1) r = cnt b f (r / b) + 1 := by simp only [cnt]; rw [if_neg q]
      have c := cnt_r (b := b) f (r / b)
      have e2 : (cnt b f (r / b) + 1).toNat = (cnt b f (r / b)).toNat + 1 := by omega
      rw [e, e2, dvs_s]
      exact ih _ (dv_r r0 b0).1 (dv_h r0 b0 r1)
theorem dvs_z {b v : Int} (b0 : 2 ≤ b) (v0 : 0 ≤ v ∧ v ≤ 9999) : dvs b v (sz b v).toNat = 0 := by
  have c := cnt_r (b := b) 14 (v / b)
  have d := dv_r v0.1 b0
  have e : (sz b v).toNat = (cnt b 14 (v / b)).toNat + 1 := by unfold sz; omega
  rw [e, dvs_s]
  exact dvs_c b0 14 _ d.1 (p14 (by omega))
theorem dvs_e {b v : Int} (b0 : 2 ≤ b) (v0 : 0 ≤ v) (k : Nat) : dvs b v k = dvs b v (k + 1) * b + sgn b v k := by
  have r := (dvs_r v0 b0 k).1
  unfold sgn
  have e : ((k : Int)).toNat = k := by omega
  rw [e, Int.tmod_eq_emod_of_nonneg r]
  have e2 : dvs b v (k + 1) = dvs b v k / b := rfl
  rw [e2]
  have := Int.mul_ediv_add_emod (dvs b v k) b
  rw [Int.mul_comm] at this
  exact this.symm
/-- the same signs by a base as by the first -/
def al2 (b0 v b : Int) : Prop := sz b v = sz b0 v ∧ ∀ k, 0 ≤ k → k < sz b v → sgn b v k = sgn b0 v k
theorem al2_s {b0 v b : Int} (h0 : 2 ≤ b0) (h1 : b0 ≤ b) (v0 : 0 ≤ v) (v1 : v < b0) : al2 b0 v b := by
  have e : ∀ b, b0 ≤ b → sz b v = 1 := fun b q => by
    have : v / b = 0 := Int.ediv_eq_zero_of_lt v0 (by omega)
    unfold sz; rw [this]; rfl
  have t : ∀ b, b0 ≤ b → sgn b v 0 = v := fun b q => by
    unfold sgn
    exact Int.tmod_eq_of_lt v0 (by show v < b; omega)
  refine ⟨by rw [e b h1, e b0 (by omega)], fun k k0 k1 => ?_⟩
  rw [e b h1] at k1
  have : k = 0 := by omega
  subst this
  rw [t b h1, t b0 (by omega)]
theorem al2_n {b0 v b : Int} (h0 : 2 ≤ b0) (h1 : b0 < b) (v0 : b0 ≤ v) (v1 : v ≤ 9999) : ¬ al2 b0 v b := by
  rintro ⟨e, f⟩
  have v2 : 0 ≤ v := by omega
  have zr := sz_r b v
  have key : ∀ j : Nat, (j : Int) ≤ sz b v → dvs b0 v ((sz b v).toNat - j) ≤ dvs b v ((sz b v).toNat - j) := by
    intro j
    induction j with
    | zero =>
      intro _
      have a := dvs_z (v := v) h0 ⟨v2, v1⟩
      have b' := dvs_z (b := b) (v := v) (by omega) ⟨v2, v1⟩
      rw [← e] at a
      rw [Nat.sub_zero, a, b']; exact Int.le_refl _
    | succ j ih =>
      intro hj
      have ih := ih (by omega)
      have ek : (sz b v).toNat - j = (sz b v).toNat - (j + 1) + 1 := by omega
      rw [ek] at ih
      have s := f (((sz b v).toNat - (j + 1) : Nat) : Int) (by omega) (by omega)
      rw [dvs_e h0 v2 ((sz b v).toNat - (j + 1)), dvs_e (b := b) (by omega) v2 ((sz b v).toNat - (j + 1)), s]
      have p0 := (dvs_r v2 h0 ((sz b v).toNat - (j + 1) + 1)).1
      have p1 := (dvs_r (b := b) v2 (by omega) ((sz b v).toNat - (j + 1) + 1)).1
      have m1 : dvs b0 v ((sz b v).toNat - (j + 1) + 1) * b0 ≤ dvs b v ((sz b v).toNat - (j + 1) + 1) * b0 := Int.mul_le_mul_of_nonneg_right ih (by omega)
      have m2 : dvs b v ((sz b v).toNat - (j + 1) + 1) * b0 ≤ dvs b v ((sz b v).toNat - (j + 1) + 1) * b := Int.mul_le_mul_of_nonneg_left (by omega) p1
      omega
  have k1 := key ((sz b v).toNat - 1) (by omega)
  have e1 : (sz b v).toNat - ((sz b v).toNat - 1) = 1 := by omega
  rw [e1] at k1
  have a0 := dvs_e h0 v2 0
  have b0' := dvs_e (b := b) (by omega) v2 0
  have s0 := f 0 (by decide) (by omega)
  have z0 : ((0 : Nat) : Int) = 0 := rfl
  rw [z0] at a0 b0'
  rw [s0] at b0'
  have d0 : dvs b0 v 0 = v := rfl
  have d1 : dvs b v 0 = v := rfl
  rw [d0] at a0
  rw [d1] at b0'
  have q1 : 1 ≤ dvs b0 v (0 + 1) := by
    show 1 ≤ v / b0
    exact Int.le_ediv_of_mul_le (by omega) (by omega)
  have k1 : dvs b0 v (0 + 1) ≤ dvs b v (0 + 1) := k1
  have m1 : dvs b0 v (0 + 1) * b0 < dvs b0 v (0 + 1) * b := Int.mul_lt_mul_of_pos_left h1 (by omega)
  have m2 : dvs b0 v (0 + 1) * b ≤ dvs b v (0 + 1) * b := Int.mul_le_mul_of_nonneg_right k1 (by omega)
  omega
section
variable {S h : mx_H} {n : Int} {d : Nat} {P : Int → Prop}
/-- all bases from one on are alike to the first -/
def alf (P : Int → Prop) (b0 v b : Int) : Prop := ∀ k, b ≤ k → k ≤ 16 → P k → al2 b0 v k
theorem c_ia_k {b0 b v k s : Int} (h0 : 2 ≤ b0 ∧ b0 ≤ 16) (h1 : 2 ≤ b ∧ b ≤ 16) (v0 : 0 ≤ v ∧ v ≤ 9999) (k0 : 0 ≤ k ∧ k ≤ sz b v) {A : Prop}
    (hE : ∀ l4, mx_ex (d + 1) 212 4 [some (0, v), some (0, s), some (0, b0), some (0, b + 1), l4] [] S h n = some (some (0, mx_b A), S, h, n)) :
    mx_ex (d + 1) 212 47 [some (0, v), some (0, s), some (0, b0), some (0, b), some (0, k)] [] S h n = some (some (0, mx_b ((∀ j, k ≤ j → j < sz b v → sgn b v j = sgn b0 v j) ∧ A)), S, h, n) := by
  have zr := sz_r b v
  rw [rh_X12_isAlike_47]
  by_cases q : k < sz b v
  · have c1 : mx_M d 209 [(0, v), (0, b), (0, k)] S h n = some (some (0, sgn b v k), S, h, n) := c_sfe h1 v0 (by omega)
    have c2 : mx_M d 209 [(0, v), (0, b0), (0, k)] S h n = some (some (0, sgn b0 v k), S, h, n) := c_sfe h0 v0 (by omega)
    by_cases z : sgn b v k = sgn b0 v k
    · have ih := c_ia_k (k := k + 1) h0 h1 v0 (by omega) hE
      have e : ((∀ j, k + 1 ≤ j → j < sz b v → sgn b v j = sgn b0 v j) ∧ A) ↔ ((∀ j, k ≤ j → j < sz b v → sgn b v j = sgn b0 v j) ∧ A) := by
        constructor
        · rintro ⟨f, a⟩
          refine ⟨fun j j0 j1 => ?_, a⟩
          by_cases y : j = k
          · rw [y]; exact z
          · exact f j (by omega) j1
        · rintro ⟨f, a⟩; exact ⟨fun j j0 j1 => f j (by omega) j1, a⟩
      rw [mx_b_i e] at ih
      simp (disch := omega) only [mx_vt_h, mx_vt_m, mx_cmp_0, mx_cmp_1, mx_cmp_2, mx_cmp_3, mx_cmp_4, mx_u_s, mx_u_a, mx_u_k, mx_z_a, mx_z_s, mx_t_a, mx_t_2, mx_t_1, mx_t_0, mx_gd_T, mx_gd_t, mx_br_T, mx_br_F, mx_br_t, mx_br_f, mx_br_n, mx_cl_T, mx_cl_t, mx_re_T, mx_re_t, mx_rt_v, mx_rt_0, mx_cu_t, mx_w_id, mx_l_id, mx_b_0, mx_b_1, mx_b_r, mx_nl_0, mx_nl_1, mx_nl_2, mx_nl_n, mx_nl_l, mx_sw_n, mx_sw_h, mx_sw_m, Int.reduceLE, Int.reduceLT, Int.reduceEq, Int.reduceAdd, Int.reduceSub, Int.reduceMul, Int.reduceNeg, Int.reduceToNat, and_self, true_and, and_true, false_and, and_false, true_or, or_true, false_or, or_false, not_true_eq_false, not_false_eq_true, eq_self, rw_X12_isAlike, c_signsOf h1 v0, c1, c2, z]
      exact ih
    · simp (disch := omega) only [mx_vt_h, mx_vt_m, mx_cmp_0, mx_cmp_1, mx_cmp_2, mx_cmp_3, mx_cmp_4, mx_u_s, mx_u_a, mx_u_k, mx_z_a, mx_z_s, mx_t_a, mx_t_2, mx_t_1, mx_t_0, mx_gd_T, mx_gd_t, mx_br_T, mx_br_F, mx_br_t, mx_br_f, mx_br_n, mx_cl_T, mx_cl_t, mx_re_T, mx_re_t, mx_rt_v, mx_rt_0, mx_cu_t, mx_w_id, mx_l_id, mx_b_0, mx_b_1, mx_b_r, mx_nl_0, mx_nl_1, mx_nl_2, mx_nl_n, mx_nl_l, mx_sw_n, mx_sw_h, mx_sw_m, Int.reduceLE, Int.reduceLT, Int.reduceEq, Int.reduceAdd, Int.reduceSub, Int.reduceMul, Int.reduceNeg, Int.reduceToNat, and_self, true_and, and_true, false_and, and_false, true_or, or_true, false_or, or_false, not_true_eq_false, not_false_eq_true, eq_self, rw_X12_isAlike, c_signsOf h1 v0, c1, c2, z]
      rw [mx_b_f (fun y => z (y.1 k (by omega) q))]
  · have e : A ↔ ((∀ j, k ≤ j → j < sz b v → sgn b v j = sgn b0 v j) ∧ A) := ⟨fun a => ⟨fun j j0 j1 => absurd j1 (by omega), a⟩, fun y => y.2⟩
    rw [mx_b_i e] at hE
    simp (disch := omega) only [mx_vt_h, mx_vt_m, mx_cmp_0, mx_cmp_1, mx_cmp_2, mx_cmp_3, mx_cmp_4, mx_u_s, mx_u_a, mx_u_k, mx_z_a, mx_z_s, mx_t_a, mx_t_2, mx_t_1, mx_t_0, mx_gd_T, mx_gd_t, mx_br_T, mx_br_F, mx_br_t, mx_br_f, mx_br_n, mx_cl_T, mx_cl_t, mx_re_T, mx_re_t, mx_rt_v, mx_rt_0, mx_cu_t, mx_w_id, mx_l_id, mx_b_0, mx_b_1, mx_b_r, mx_nl_0, mx_nl_1, mx_nl_2, mx_nl_n, mx_nl_l, mx_sw_n, mx_sw_h, mx_sw_m, Int.reduceLE, Int.reduceLT, Int.reduceEq, Int.reduceAdd, Int.reduceSub, Int.reduceMul, Int.reduceNeg, Int.reduceToNat, and_self, true_and, and_true, false_and, and_false, true_or, or_true, false_or, or_false, not_true_eq_false, not_false_eq_true, eq_self, rw_X12_isAlike, c_signsOf h1 v0]
    exact hE _
termination_by (sz b v - k).toNat
decreasing_by omega
theorem c_ia_b {b0 b v f : Int} {l4 : Option mx_V} (h0 : 2 ≤ b0 ∧ b0 ≤ 16) (p0 : P b0) (nb : ∀ k, 2 ≤ k → k < b0 → ¬ P k) (v0 : 0 ≤ v ∧ v ≤ 9999) (h1 : 2 ≤ b ∧ b ≤ 17) (f0 : b ≤ b0 ∧ f = 0 ∨ b0 < b ∧ f = b0) :
    mx_ex (d + 1) 212 4 [some (0, v), some (0, bz 2 17 P), some (0, f), some (0, b), l4] [] S h n = some (some (0, mx_b (alf P b0 v b)), S, h, n) := by
  rw [rh_X12_isAlike_4]
  by_cases q : b ≤ 16
  · by_cases p : P b
    · have bb : b0 ≤ b := by
        refine Classical.byContradiction (fun u => nb b h1.1 (by omega) p)
      have ih := fun l4 => c_ia_b (f := b0) (b := b + 1) (l4 := l4) h0 p0 nb v0 (by omega) (Or.inr ⟨by omega, rfl⟩)
      have e : ((∀ j, 0 ≤ j → j < sz b v → sgn b v j = sgn b0 v j) ∧ alf P b0 v (b + 1)) → sz b v = sz b0 v → alf P b0 v b := by
        rintro ⟨y, a⟩ z k k0 k1 pk
        by_cases u : k = b
        · rw [u]; exact ⟨z, y⟩
        · exact a k (by omega) k1 pk
      have e2 : alf P b0 v b → (sz b v = sz b0 v ∧ (∀ j, 0 ≤ j → j < sz b v → sgn b v j = sgn b0 v j) ∧ alf P b0 v (b + 1)) := by
        intro a
        have ab := a b (by omega) q p
        exact ⟨ab.1, ab.2, fun k k0 k1 pk => a k (by omega) k1 pk⟩
      have ff : f = 0 ∧ b = b0 ∨ f = b0 ∧ ¬ f = 0 := by omega
      by_cases z : sz b v = sz b0 v
      · have ik := c_ia_k (d := d) (S := S) (h := h) (n := n) (s := bz 2 17 P) (k := 0) (b := b) (v := v) h0 (by omega) v0 (by have := sz_r b v; omega) ih
        have ee : ((∀ j, 0 ≤ j → j < sz b v → sgn b v j = sgn b0 v j) ∧ alf P b0 v (b + 1)) ↔ alf P b0 v b := ⟨fun y => e y z, fun a => (e2 a).2⟩
        rw [mx_b_i ee] at ik
        rcases ff with ⟨f1, f2⟩ | ⟨f1, f2⟩
        · subst f2
          simp (disch := omega) only [mx_vt_h, mx_vt_m, mx_cmp_0, mx_cmp_1, mx_cmp_2, mx_cmp_3, mx_cmp_4, mx_u_s, mx_u_a, mx_u_k, mx_z_a, mx_z_s, mx_t_a, mx_t_2, mx_t_1, mx_t_0, mx_gd_T, mx_gd_t, mx_br_T, mx_br_F, mx_br_t, mx_br_f, mx_br_n, mx_cl_T, mx_cl_t, mx_re_T, mx_re_t, mx_rt_v, mx_rt_0, mx_cu_t, mx_w_id, mx_l_id, mx_b_0, mx_b_1, mx_b_r, mx_nl_0, mx_nl_1, mx_nl_2, mx_nl_n, mx_nl_l, mx_sw_n, mx_sw_h, mx_sw_m, Int.reduceLE, Int.reduceLT, Int.reduceEq, Int.reduceAdd, Int.reduceSub, Int.reduceMul, Int.reduceNeg, Int.reduceToNat, and_self, true_and, and_true, false_and, and_false, true_or, or_true, false_or, or_false, not_true_eq_false, not_false_eq_true, eq_self, rw_X12_isAlike, bz_tst, mx_b_t p, f1, c_signsOf (b := b) (v := v) (by omega) v0]
          exact ik
        · subst f1
          simp (disch := omega) only [mx_vt_h, mx_vt_m, mx_cmp_0, mx_cmp_1, mx_cmp_2, mx_cmp_3, mx_cmp_4, mx_u_s, mx_u_a, mx_u_k, mx_z_a, mx_z_s, mx_t_a, mx_t_2, mx_t_1, mx_t_0, mx_gd_T, mx_gd_t, mx_br_T, mx_br_F, mx_br_t, mx_br_f, mx_br_n, mx_cl_T, mx_cl_t, mx_re_T, mx_re_t, mx_rt_v, mx_rt_0, mx_cu_t, mx_w_id, mx_l_id, mx_b_0, mx_b_1, mx_b_r, mx_nl_0, mx_nl_1, mx_nl_2, mx_nl_n, mx_nl_l, mx_sw_n, mx_sw_h, mx_sw_m, Int.reduceLE, Int.reduceLT, Int.reduceEq, Int.reduceAdd, Int.reduceSub, Int.reduceMul, Int.reduceNeg, Int.reduceToNat, and_self, true_and, and_true, false_and, and_false, true_or, or_true, false_or, or_false, not_true_eq_false, not_false_eq_true, eq_self, rw_X12_isAlike, bz_tst, mx_b_t p, f2, c_signsOf (b := b) (v := v) (by omega) v0, c_signsOf h0 v0, z]
          exact ik
      · rw [mx_b_f (fun a => z (e2 a).1)]
        rcases ff with ⟨f1, f2⟩ | ⟨f1, f2⟩
        · subst f2; exact absurd rfl z
        · subst f1
          simp (disch := omega) only [mx_vt_h, mx_vt_m, mx_cmp_0, mx_cmp_1, mx_cmp_2, mx_cmp_3, mx_cmp_4, mx_u_s, mx_u_a, mx_u_k, mx_z_a, mx_z_s, mx_t_a, mx_t_2, mx_t_1, mx_t_0, mx_gd_T, mx_gd_t, mx_br_T, mx_br_F, mx_br_t, mx_br_f, mx_br_n, mx_cl_T, mx_cl_t, mx_re_T, mx_re_t, mx_rt_v, mx_rt_0, mx_cu_t, mx_w_id, mx_l_id, mx_b_0, mx_b_1, mx_b_r, mx_nl_0, mx_nl_1, mx_nl_2, mx_nl_n, mx_nl_l, mx_sw_n, mx_sw_h, mx_sw_m, Int.reduceLE, Int.reduceLT, Int.reduceEq, Int.reduceAdd, Int.reduceSub, Int.reduceMul, Int.reduceNeg, Int.reduceToNat, and_self, true_and, and_true, false_and, and_false, true_or, or_true, false_or, or_false, not_true_eq_false, not_false_eq_true, eq_self, rw_X12_isAlike, bz_tst, mx_b_t p, f2, c_signsOf (b := b) (v := v) (by omega) v0, c_signsOf h0 v0, z]
    · have ih := fun l4 => c_ia_b (f := f) (b := b + 1) (l4 := l4) h0 p0 nb v0 (by omega) (by
        by_cases u : b = b0
        · rw [u] at p; exact absurd p0 p
        · omega)
      have e : alf P b0 v (b + 1) ↔ alf P b0 v b := by
        constructor
        · intro a k k0 k1 pk
          by_cases u : k = b
          · rw [u] at pk; exact absurd pk p
          · exact a k (by omega) k1 pk
        · intro a k k0 k1 pk; exact a k (by omega) k1 pk
      rw [mx_b_i e] at ih
      simp (disch := omega) only [mx_vt_h, mx_vt_m, mx_cmp_0, mx_cmp_1, mx_cmp_2, mx_cmp_3, mx_cmp_4, mx_u_s, mx_u_a, mx_u_k, mx_z_a, mx_z_s, mx_t_a, mx_t_2, mx_t_1, mx_t_0, mx_gd_T, mx_gd_t, mx_br_T, mx_br_F, mx_br_t, mx_br_f, mx_br_n, mx_cl_T, mx_cl_t, mx_re_T, mx_re_t, mx_rt_v, mx_rt_0, mx_cu_t, mx_w_id, mx_l_id, mx_b_0, mx_b_1, mx_b_r, mx_nl_0, mx_nl_1, mx_nl_2, mx_nl_n, mx_nl_l, mx_sw_n, mx_sw_h, mx_sw_m, Int.reduceLE, Int.reduceLT, Int.reduceEq, Int.reduceAdd, Int.reduceSub, Int.reduceMul, Int.reduceNeg, Int.reduceToNat, and_self, true_and, and_true, false_and, and_false, true_or, or_true, false_or, or_false, not_true_eq_false, not_false_eq_true, eq_self, rw_X12_isAlike, bz_tst, mx_b_f p]
      exact ih _
  · rw [mx_b_t (c := alf P b0 v b) (fun k k0 k1 => absurd k1 (by omega))]
    simp (disch := omega) only [mx_vt_h, mx_vt_m, mx_cmp_0, mx_cmp_1, mx_cmp_2, mx_cmp_3, mx_cmp_4, mx_u_s, mx_u_a, mx_u_k, mx_z_a, mx_z_s, mx_t_a, mx_t_2, mx_t_1, mx_t_0, mx_gd_T, mx_gd_t, mx_br_T, mx_br_F, mx_br_t, mx_br_f, mx_br_n, mx_cl_T, mx_cl_t, mx_re_T, mx_re_t, mx_rt_v, mx_rt_0, mx_cu_t, mx_w_id, mx_l_id, mx_b_0, mx_b_1, mx_b_r, mx_nl_0, mx_nl_1, mx_nl_2, mx_nl_n, mx_nl_l, mx_sw_n, mx_sw_h, mx_sw_m, Int.reduceLE, Int.reduceLT, Int.reduceEq, Int.reduceAdd, Int.reduceSub, Int.reduceMul, Int.reduceNeg, Int.reduceToNat, and_self, true_and, and_true, false_and, and_false, true_or, or_true, false_or, or_false, not_true_eq_false, not_false_eq_true, eq_self, rw_X12_isAlike]
termination_by (17 - b).toNat
decreasing_by all_goals omega
theorem c_isAl {b0 v : Int} (h0 : 2 ≤ b0 ∧ b0 ≤ 16) (p0 : P b0) (nb : ∀ k, 2 ≤ k → k < b0 → ¬ P k) (v0 : 0 ≤ v ∧ v ≤ 9999) : mx_M (d + 1) 212 [(0, v), (0, bz 2 17 P)] S h n = some (some (0, mx_b (alf P b0 v 2)), S, h, n) := by
  have ih := fun l4 => c_ia_b (d := d) (S := S) (h := h) (n := n) (f := 0) (b := 2) (v := v) (l4 := l4) h0 p0 nb v0 (by decide) (Or.inl ⟨by omega, rfl⟩)
  simp (disch := omega) only [mx_vt_h, mx_vt_m, mx_cmp_0, mx_cmp_1, mx_cmp_2, mx_cmp_3, mx_cmp_4, mx_u_s, mx_u_a, mx_u_k, mx_z_a, mx_z_s, mx_t_a, mx_t_2, mx_t_1, mx_t_0, mx_gd_T, mx_gd_t, mx_br_T, mx_br_F, mx_br_t, mx_br_f, mx_br_n, mx_cl_T, mx_cl_t, mx_re_T, mx_re_t, mx_rt_v, mx_rt_0, mx_cu_t, mx_w_id, mx_l_id, mx_b_0, mx_b_1, mx_b_r, mx_nl_0, mx_nl_1, mx_nl_2, mx_nl_n, mx_nl_l, mx_sw_n, mx_sw_h, mx_sw_m, Int.reduceLE, Int.reduceLT, Int.reduceEq, Int.reduceAdd, Int.reduceSub, Int.reduceMul, Int.reduceNeg, Int.reduceToNat, and_self, true_and, and_true, false_and, and_false, true_or, or_true, false_or, or_false, not_true_eq_false, not_false_eq_true, eq_self, rw_X12_isAlike]
  exact ih _
theorem c_al_n {b0 v : Int} {l0 l2 : Option mx_V} (h0 : 2 ≤ b0 ∧ b0 ≤ 16) (p0 : P b0) (nb : ∀ k, 2 ≤ k → k < b0 → ¬ P k) (v0 : 0 ≤ v ∧ v ≤ 10000) (no : ∀ u, v ≤ u → u ≤ 9999 → ¬ alf P b0 u 2) : mx_ex (d + 2) 213 22 [l0, some (0, bz 2 17 P), l2, some (0, v)] [] S h n = some (some (0, -3), S, h, n) := by
  rw [rh_X12_alike_22]
  by_cases q : v ≤ 9999
  · have ih := fun l2 => c_al_n (v := v + 1) (l0 := l0) (l2 := l2) h0 p0 nb (by omega) (fun u a b => no u (by omega) b)
    have ci := c_isAl (d := d) (S := S) (h := h) (n := n) (v := v) h0 p0 nb (by omega)
    rw [mx_b_f (no v (by omega) q)] at ci
    simp (disch := omega) only [mx_vt_h, mx_vt_m, mx_cmp_0, mx_cmp_1, mx_cmp_2, mx_cmp_3, mx_cmp_4, mx_u_s, mx_u_a, mx_u_k, mx_z_a, mx_z_s, mx_t_a, mx_t_2, mx_t_1, mx_t_0, mx_gd_T, mx_gd_t, mx_br_T, mx_br_F, mx_br_t, mx_br_f, mx_br_n, mx_cl_T, mx_cl_t, mx_re_T, mx_re_t, mx_rt_v, mx_rt_0, mx_cu_t, mx_w_id, mx_l_id, mx_b_0, mx_b_1, mx_b_r, mx_nl_0, mx_nl_1, mx_nl_2, mx_nl_n, mx_nl_l, mx_sw_n, mx_sw_h, mx_sw_m, Int.reduceLE, Int.reduceLT, Int.reduceEq, Int.reduceAdd, Int.reduceSub, Int.reduceMul, Int.reduceNeg, Int.reduceToNat, and_self, true_and, and_true, false_and, and_false, true_or, or_true, false_or, or_false, not_true_eq_false, not_false_eq_true, eq_self, rw_X12_alike, ci]
    exact ih _
  · simp (disch := omega) only [mx_vt_h, mx_vt_m, mx_cmp_0, mx_cmp_1, mx_cmp_2, mx_cmp_3, mx_cmp_4, mx_u_s, mx_u_a, mx_u_k, mx_z_a, mx_z_s, mx_t_a, mx_t_2, mx_t_1, mx_t_0, mx_gd_T, mx_gd_t, mx_br_T, mx_br_F, mx_br_t, mx_br_f, mx_br_n, mx_cl_T, mx_cl_t, mx_re_T, mx_re_t, mx_rt_v, mx_rt_0, mx_cu_t, mx_w_id, mx_l_id, mx_b_0, mx_b_1, mx_b_r, mx_nl_0, mx_nl_1, mx_nl_2, mx_nl_n, mx_nl_l, mx_sw_n, mx_sw_h, mx_sw_m, Int.reduceLE, Int.reduceLT, Int.reduceEq, Int.reduceAdd, Int.reduceSub, Int.reduceMul, Int.reduceNeg, Int.reduceToNat, and_self, true_and, and_true, false_and, and_false, true_or, or_true, false_or, or_false, not_true_eq_false, not_false_eq_true, eq_self, rw_X12_alike]
termination_by (10000 - v).toNat
decreasing_by omega
end
section
variable {L : Nat} {x : Nat → Int32} {S T h g : mx_H} {n m c : Int} {d : Nat}
theorem a_alike {s v : Int} (hc : c ≤ 599) (s0 : -2147483648 ≤ s) (s1 : s ≤ 2147483647) : ag L x 122 213 [(0, s), (0, v)] 0 c := by
  intro d S h n I
  rcases set_x s0 s1 with ⟨P, eP, e⟩ | ⟨e1, e2⟩
  · subst eP
    by_cases v0 : 0 ≤ v ∧ v ≤ 9999
    · obtain ⟨b', b0', b1', b2'⟩ := e
      have e : ∃ b, 2 ≤ b ∧ b ≤ 16 ∧ P b := ⟨b', b0', b1', b2'⟩
      obtain ⟨b, b0, b1, b2, b3, b4⟩ := c_bat (d := d + 11) (S := S) (h := h) (n := n) (P := P) (k := 0) (by decide) (kc_p b0' b1' b2')
      have nb := kc_z b0 b3
      have ci := c_isAl (d := d + 10) (S := S) (h := h) (n := n) (v := v) ⟨b0, b1⟩ b2 nb v0
      by_cases k1 : kc P 15 = 1
      · have al : alf P b v 2 := fun k k0 k2 pk => by
          have h1 := kc_1 k1 k0 b1 pk b2
          have h2 := kc_1 k1 b0 k2 b2 pk
          have : k = b := by omega
          rw [this]; exact ⟨rfl, fun _ _ _ => rfl⟩
        rw [mx_b_t al] at ci
        refine ag_p I hc (y := v) ?_ ?_
        · simp (disch := omega) only [mx_vt_h, mx_vt_m, mx_cmp_0, mx_cmp_1, mx_cmp_2, mx_cmp_3, mx_cmp_4, mx_u_s, mx_u_a, mx_u_k, mx_z_a, mx_z_s, mx_t_a, mx_t_2, mx_t_1, mx_t_0, mx_gd_T, mx_gd_t, mx_br_T, mx_br_F, mx_br_t, mx_br_f, mx_br_n, mx_cl_T, mx_cl_t, mx_re_T, mx_re_t, mx_rt_v, mx_rt_0, mx_cu_t, mx_w_id, mx_l_id, mx_b_0, mx_b_1, mx_b_r, mx_nl_0, mx_nl_1, mx_nl_2, mx_nl_n, mx_nl_l, mx_sw_n, mx_sw_h, mx_sw_m, Int.reduceLE, Int.reduceLT, Int.reduceEq, Int.reduceAdd, Int.reduceSub, Int.reduceMul, Int.reduceNeg, Int.reduceToNat, and_self, true_and, and_true, false_and, and_false, true_or, or_true, false_or, or_false, not_true_eq_false, not_false_eq_true, eq_self, rw_X11_alike, c_set_t e, c_within, mx_b_t v0, c_bc, k1]
        · simp (disch := omega) only [mx_vt_h, mx_vt_m, mx_cmp_0, mx_cmp_1, mx_cmp_2, mx_cmp_3, mx_cmp_4, mx_u_s, mx_u_a, mx_u_k, mx_z_a, mx_z_s, mx_t_a, mx_t_2, mx_t_1, mx_t_0, mx_gd_T, mx_gd_t, mx_br_T, mx_br_F, mx_br_t, mx_br_f, mx_br_n, mx_cl_T, mx_cl_t, mx_re_T, mx_re_t, mx_rt_v, mx_rt_0, mx_cu_t, mx_w_id, mx_l_id, mx_b_0, mx_b_1, mx_b_r, mx_nl_0, mx_nl_1, mx_nl_2, mx_nl_n, mx_nl_l, mx_sw_n, mx_sw_h, mx_sw_m, Int.reduceLE, Int.reduceLT, Int.reduceEq, Int.reduceAdd, Int.reduceSub, Int.reduceMul, Int.reduceNeg, Int.reduceToNat, and_self, true_and, and_true, false_and, and_false, true_or, or_true, false_or, or_false, not_true_eq_false, not_false_eq_true, eq_self, rw_X12_alike, c_seM_t e, c_in, mx_b_t v0]
          rw [rh_X12_alike_22]
          simp (disch := omega) only [mx_vt_h, mx_vt_m, mx_cmp_0, mx_cmp_1, mx_cmp_2, mx_cmp_3, mx_cmp_4, mx_u_s, mx_u_a, mx_u_k, mx_z_a, mx_z_s, mx_t_a, mx_t_2, mx_t_1, mx_t_0, mx_gd_T, mx_gd_t, mx_br_T, mx_br_F, mx_br_t, mx_br_f, mx_br_n, mx_cl_T, mx_cl_t, mx_re_T, mx_re_t, mx_rt_v, mx_rt_0, mx_cu_t, mx_w_id, mx_l_id, mx_b_0, mx_b_1, mx_b_r, mx_nl_0, mx_nl_1, mx_nl_2, mx_nl_n, mx_nl_l, mx_sw_n, mx_sw_h, mx_sw_m, Int.reduceLE, Int.reduceLT, Int.reduceEq, Int.reduceAdd, Int.reduceSub, Int.reduceMul, Int.reduceNeg, Int.reduceToNat, and_self, true_and, and_true, false_and, and_false, true_or, or_true, false_or, or_false, not_true_eq_false, not_false_eq_true, eq_self, rw_X12_alike, ci]
      · by_cases lt : v < b
        · have al : alf P b v 2 := fun k k0 k2 pk => by
            refine al2_s b0 ?_ v0.1 lt
            refine Classical.byContradiction (fun u => nb k k0 (by omega) pk)
          rw [mx_b_t al] at ci
          refine ag_p I hc (y := v) ?_ ?_
          · simp (disch := omega) only [mx_vt_h, mx_vt_m, mx_cmp_0, mx_cmp_1, mx_cmp_2, mx_cmp_3, mx_cmp_4, mx_u_s, mx_u_a, mx_u_k, mx_z_a, mx_z_s, mx_t_a, mx_t_2, mx_t_1, mx_t_0, mx_gd_T, mx_gd_t, mx_br_T, mx_br_F, mx_br_t, mx_br_f, mx_br_n, mx_cl_T, mx_cl_t, mx_re_T, mx_re_t, mx_rt_v, mx_rt_0, mx_cu_t, mx_w_id, mx_l_id, mx_b_0, mx_b_1, mx_b_r, mx_nl_0, mx_nl_1, mx_nl_2, mx_nl_n, mx_nl_l, mx_sw_n, mx_sw_h, mx_sw_m, Int.reduceLE, Int.reduceLT, Int.reduceEq, Int.reduceAdd, Int.reduceSub, Int.reduceMul, Int.reduceNeg, Int.reduceToNat, and_self, true_and, and_true, false_and, and_false, true_or, or_true, false_or, or_false, not_true_eq_false, not_false_eq_true, eq_self, rw_X11_alike, c_set_t e, c_within, mx_b_t v0, c_bc, k1, b4]
          · simp (disch := omega) only [mx_vt_h, mx_vt_m, mx_cmp_0, mx_cmp_1, mx_cmp_2, mx_cmp_3, mx_cmp_4, mx_u_s, mx_u_a, mx_u_k, mx_z_a, mx_z_s, mx_t_a, mx_t_2, mx_t_1, mx_t_0, mx_gd_T, mx_gd_t, mx_br_T, mx_br_F, mx_br_t, mx_br_f, mx_br_n, mx_cl_T, mx_cl_t, mx_re_T, mx_re_t, mx_rt_v, mx_rt_0, mx_cu_t, mx_w_id, mx_l_id, mx_b_0, mx_b_1, mx_b_r, mx_nl_0, mx_nl_1, mx_nl_2, mx_nl_n, mx_nl_l, mx_sw_n, mx_sw_h, mx_sw_m, Int.reduceLE, Int.reduceLT, Int.reduceEq, Int.reduceAdd, Int.reduceSub, Int.reduceMul, Int.reduceNeg, Int.reduceToNat, and_self, true_and, and_true, false_and, and_false, true_or, or_true, false_or, or_false, not_true_eq_false, not_false_eq_true, eq_self, rw_X12_alike, c_seM_t e, c_in, mx_b_t v0]
            rw [rh_X12_alike_22]
            simp (disch := omega) only [mx_vt_h, mx_vt_m, mx_cmp_0, mx_cmp_1, mx_cmp_2, mx_cmp_3, mx_cmp_4, mx_u_s, mx_u_a, mx_u_k, mx_z_a, mx_z_s, mx_t_a, mx_t_2, mx_t_1, mx_t_0, mx_gd_T, mx_gd_t, mx_br_T, mx_br_F, mx_br_t, mx_br_f, mx_br_n, mx_cl_T, mx_cl_t, mx_re_T, mx_re_t, mx_rt_v, mx_rt_0, mx_cu_t, mx_w_id, mx_l_id, mx_b_0, mx_b_1, mx_b_r, mx_nl_0, mx_nl_1, mx_nl_2, mx_nl_n, mx_nl_l, mx_sw_n, mx_sw_h, mx_sw_m, Int.reduceLE, Int.reduceLT, Int.reduceEq, Int.reduceAdd, Int.reduceSub, Int.reduceMul, Int.reduceNeg, Int.reduceToNat, and_self, true_and, and_true, false_and, and_false, true_or, or_true, false_or, or_false, not_true_eq_false, not_false_eq_true, eq_self, rw_X12_alike, ci]
        · have two : ∃ k, 2 ≤ k ∧ k ≤ 16 ∧ P k ∧ ¬ k = b := by
            refine Classical.byContradiction (fun u => k1 ?_)
            have uq : ∀ k, 2 ≤ k → k ≤ 16 → (P k ↔ k = b) := fun k a c => ⟨fun p => Classical.byContradiction (fun y => u ⟨k, a, c, p, y⟩), fun z => by rw [z]; exact b2⟩
            have := kc_u b0 uq 15 (by decide)
            rw [if_pos (by omega)] at this; exact this
          obtain ⟨k, k0, k2, pk, kb⟩ := two
          have bk : b < k := by
            refine Classical.byContradiction (fun u => nb k k0 (by omega) pk)
          have ih := fun l2 => c_al_n (d := d + 10) (S := S) (h := h) (n := n) (v := v) (l0 := some (2, 38)) (l2 := l2) ⟨b0, b1⟩ b2 nb (by omega) (fun u a c f => al2_n b0 bk (by omega) c (f k k0 k2 pk))
          refine ag_p I hc (y := -3) ?_ ?_
          · simp (disch := omega) only [mx_vt_h, mx_vt_m, mx_cmp_0, mx_cmp_1, mx_cmp_2, mx_cmp_3, mx_cmp_4, mx_u_s, mx_u_a, mx_u_k, mx_z_a, mx_z_s, mx_t_a, mx_t_2, mx_t_1, mx_t_0, mx_gd_T, mx_gd_t, mx_br_T, mx_br_F, mx_br_t, mx_br_f, mx_br_n, mx_cl_T, mx_cl_t, mx_re_T, mx_re_t, mx_rt_v, mx_rt_0, mx_cu_t, mx_w_id, mx_l_id, mx_b_0, mx_b_1, mx_b_r, mx_nl_0, mx_nl_1, mx_nl_2, mx_nl_n, mx_nl_l, mx_sw_n, mx_sw_h, mx_sw_m, Int.reduceLE, Int.reduceLT, Int.reduceEq, Int.reduceAdd, Int.reduceSub, Int.reduceMul, Int.reduceNeg, Int.reduceToNat, and_self, true_and, and_true, false_and, and_false, true_or, or_true, false_or, or_false, not_true_eq_false, not_false_eq_true, eq_self, rw_X11_alike, c_set_t e, c_within, mx_b_t v0, c_bc, k1, b4]
          · simp (disch := omega) only [mx_vt_h, mx_vt_m, mx_cmp_0, mx_cmp_1, mx_cmp_2, mx_cmp_3, mx_cmp_4, mx_u_s, mx_u_a, mx_u_k, mx_z_a, mx_z_s, mx_t_a, mx_t_2, mx_t_1, mx_t_0, mx_gd_T, mx_gd_t, mx_br_T, mx_br_F, mx_br_t, mx_br_f, mx_br_n, mx_cl_T, mx_cl_t, mx_re_T, mx_re_t, mx_rt_v, mx_rt_0, mx_cu_t, mx_w_id, mx_l_id, mx_b_0, mx_b_1, mx_b_r, mx_nl_0, mx_nl_1, mx_nl_2, mx_nl_n, mx_nl_l, mx_sw_n, mx_sw_h, mx_sw_m, Int.reduceLE, Int.reduceLT, Int.reduceEq, Int.reduceAdd, Int.reduceSub, Int.reduceMul, Int.reduceNeg, Int.reduceToNat, and_self, true_and, and_true, false_and, and_false, true_or, or_true, false_or, or_false, not_true_eq_false, not_false_eq_true, eq_self, rw_X12_alike, c_seM_t e, c_in, mx_b_t v0, ih]
    · refine ag_p I hc (y := -1) ?_ ?_
      · simp (disch := omega) only [mx_vt_h, mx_vt_m, mx_cmp_0, mx_cmp_1, mx_cmp_2, mx_cmp_3, mx_cmp_4, mx_u_s, mx_u_a, mx_u_k, mx_z_a, mx_z_s, mx_t_a, mx_t_2, mx_t_1, mx_t_0, mx_gd_T, mx_gd_t, mx_br_T, mx_br_F, mx_br_t, mx_br_f, mx_br_n, mx_cl_T, mx_cl_t, mx_re_T, mx_re_t, mx_rt_v, mx_rt_0, mx_cu_t, mx_w_id, mx_l_id, mx_b_0, mx_b_1, mx_b_r, mx_nl_0, mx_nl_1, mx_nl_2, mx_nl_n, mx_nl_l, mx_sw_n, mx_sw_h, mx_sw_m, Int.reduceLE, Int.reduceLT, Int.reduceEq, Int.reduceAdd, Int.reduceSub, Int.reduceMul, Int.reduceNeg, Int.reduceToNat, and_self, true_and, and_true, false_and, and_false, true_or, or_true, false_or, or_false, not_true_eq_false, not_false_eq_true, eq_self, rw_X11_alike, c_set_t e, c_within, mx_b_f v0]
      · simp (disch := omega) only [mx_vt_h, mx_vt_m, mx_cmp_0, mx_cmp_1, mx_cmp_2, mx_cmp_3, mx_cmp_4, mx_u_s, mx_u_a, mx_u_k, mx_z_a, mx_z_s, mx_t_a, mx_t_2, mx_t_1, mx_t_0, mx_gd_T, mx_gd_t, mx_br_T, mx_br_F, mx_br_t, mx_br_f, mx_br_n, mx_cl_T, mx_cl_t, mx_re_T, mx_re_t, mx_rt_v, mx_rt_0, mx_cu_t, mx_w_id, mx_l_id, mx_b_0, mx_b_1, mx_b_r, mx_nl_0, mx_nl_1, mx_nl_2, mx_nl_n, mx_nl_l, mx_sw_n, mx_sw_h, mx_sw_m, Int.reduceLE, Int.reduceLT, Int.reduceEq, Int.reduceAdd, Int.reduceSub, Int.reduceMul, Int.reduceNeg, Int.reduceToNat, and_self, true_and, and_true, false_and, and_false, true_or, or_true, false_or, or_false, not_true_eq_false, not_false_eq_true, eq_self, rw_X12_alike, c_seM_t e, c_in, mx_b_f v0]
  · refine ag_p I hc (y := -1) ?_ ?_
    · simp (disch := omega) only [mx_vt_h, mx_vt_m, mx_cmp_0, mx_cmp_1, mx_cmp_2, mx_cmp_3, mx_cmp_4, mx_u_s, mx_u_a, mx_u_k, mx_z_a, mx_z_s, mx_t_a, mx_t_2, mx_t_1, mx_t_0, mx_gd_T, mx_gd_t, mx_br_T, mx_br_F, mx_br_t, mx_br_f, mx_br_n, mx_cl_T, mx_cl_t, mx_re_T, mx_re_t, mx_rt_v, mx_rt_0, mx_cu_t, mx_w_id, mx_l_id, mx_b_0, mx_b_1, mx_b_r, mx_nl_0, mx_nl_1, mx_nl_2, mx_nl_n, mx_nl_l, mx_sw_n, mx_sw_h, mx_sw_m, Int.reduceLE, Int.reduceLT, Int.reduceEq, Int.reduceAdd, Int.reduceSub, Int.reduceMul, Int.reduceNeg, Int.reduceToNat, and_self, true_and, and_true, false_and, and_false, true_or, or_true, false_or, or_false, not_true_eq_false, not_false_eq_true, eq_self, rw_X11_alike, c_set_f e1]
    · simp (disch := omega) only [mx_vt_h, mx_vt_m, mx_cmp_0, mx_cmp_1, mx_cmp_2, mx_cmp_3, mx_cmp_4, mx_u_s, mx_u_a, mx_u_k, mx_z_a, mx_z_s, mx_t_a, mx_t_2, mx_t_1, mx_t_0, mx_gd_T, mx_gd_t, mx_br_T, mx_br_F, mx_br_t, mx_br_f, mx_br_n, mx_cl_T, mx_cl_t, mx_re_T, mx_re_t, mx_rt_v, mx_rt_0, mx_cu_t, mx_w_id, mx_l_id, mx_b_0, mx_b_1, mx_b_r, mx_nl_0, mx_nl_1, mx_nl_2, mx_nl_n, mx_nl_l, mx_sw_n, mx_sw_h, mx_sw_m, Int.reduceLE, Int.reduceLT, Int.reduceEq, Int.reduceAdd, Int.reduceSub, Int.reduceMul, Int.reduceNeg, Int.reduceToNat, and_self, true_and, and_true, false_and, and_false, true_or, or_true, false_or, or_false, not_true_eq_false, not_false_eq_true, eq_self, rw_X12_alike, c_seM_f e2]
end
