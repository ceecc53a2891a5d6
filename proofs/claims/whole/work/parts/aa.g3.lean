/-! Sets of bases -/
theorem bt_c1 : ∀ k : Fin 32, bt (-131069) k.val ↔ ¬ (2 ≤ k.val ∧ k.val ≤ 16) := by
  unfold bt; decide
theorem bt_c3 : ∀ k : Fin 32, bt 3 k.val ↔ k.val < 2 := by
  unfold bt; decide
theorem bz_bt {P : Int → Prop} {k : Nat} : bt (bz 2 17 P) k ↔ 2 ≤ k ∧ k ≤ 16 ∧ P k := by
  unfold bz; rw [bm_t (by decide)]
  constructor
  · rintro ⟨a, b, c, d⟩; exact ⟨by omega, by omega, d⟩
  · rintro ⟨a, b, c⟩; exact ⟨by omega, by omega, by omega, c⟩
theorem bz_i {P : Int → Prop} : 0 ≤ bz 2 17 P ∧ bz 2 17 P < 131072 := by
  have := bm_r (fun k => 2 ≤ (k : Int) ∧ (k : Int) < 17 ∧ P k) 17
  have p : (2 : Int) ^ 17 = 131072 := by decide
  rw [p] at this; exact this
theorem set_t {P : Int → Prop} (e : ∃ b, 2 ≤ b ∧ b ≤ 16 ∧ P b) : ¬ bz 2 17 P = 0 ∧ mx_and (bz 2 17 P) (-131069) = 0 ∧ 0 < bz 2 17 P ∧ mx_and (bz 2 17 P) 3 = 0 := by
  obtain ⟨b, b0, b1, b2⟩ := e
  have i := bz_i (P := P)
  have n : ¬ bz 2 17 P = 0 := by
    rw [bz_e0]; intro f; exact f b b0 (by omega) b2
  refine ⟨n, ?_, by omega, ?_⟩
  · refine bt_ext (bt_in_and _ _).1 (bt_in_and _ _).2 (by decide) (by decide) (fun k hk => ?_)
    rw [bt_and, bz_bt, bt_c1 ⟨k, hk⟩]
    constructor
    · rintro ⟨p, q⟩; exact absurd ⟨p.1, p.2.1⟩ q
    · intro p; exact absurd p bt_0
  · refine bt_ext (bt_in_and _ _).1 (bt_in_and _ _).2 (by decide) (by decide) (fun k hk => ?_)
    rw [bt_and, bz_bt, bt_c3 ⟨k, hk⟩]
    constructor
    · rintro ⟨p, q⟩
      have p := p.1
      simp only at q
      omega
    · intro p; exact absurd p bt_0
theorem set_x {s : Int} (s0 : -2147483648 ≤ s) (s1 : s ≤ 2147483647) : (∃ P, s = bz 2 17 P ∧ ∃ b, 2 ≤ b ∧ b ≤ 16 ∧ P b) ∨ ((s = 0 ∨ ¬ mx_and s (-131069) = 0) ∧ (s ≤ 0 ∨ 131072 ≤ s ∨ ¬ mx_and s 3 = 0)) := by
  by_cases C : ∀ k, k < 32 → bt s k → 2 ≤ k ∧ k ≤ 16
  · by_cases z : s = 0
    · exact Or.inr ⟨Or.inl z, Or.inl (by omega)⟩
    · have i := bz_i (P := fun k => bt s k.toNat)
      have e : s = bz 2 17 (fun k => bt s k.toNat) := by
        refine bt_ext s0 s1 (by omega) (by omega) (fun k hk => ?_)
        rw [bz_bt]
        have ek : ((k : Int)).toNat = k := by omega
        rw [ek]
        constructor
        · intro p; have := C k hk p; exact ⟨this.1, this.2, p⟩
        · exact fun p => p.2.2
      refine Or.inl ⟨_, e, ?_⟩
      refine Classical.byContradiction (fun u => z ?_)
      rw [e, bz_e0]
      intro k k0 k1 p
      exact u ⟨k, k0, by omega, p⟩
  · refine Or.inr ?_
    have C : ∃ k, k < 32 ∧ bt s k ∧ ¬ (2 ≤ k ∧ k ≤ 16) := by
      refine Classical.byContradiction (fun u => C (fun k hk p => ?_))
      exact Classical.byContradiction (fun y => u ⟨k, hk, p, y⟩)
    obtain ⟨k, k0, k1, k2⟩ := C
    refine ⟨Or.inr (fun e => ?_), ?_⟩
    · have : bt (mx_and s (-131069)) k := bt_and.mpr ⟨k1, (bt_c1 ⟨k, k0⟩).mpr k2⟩
      rw [e] at this; exact bt_0 this
    · by_cases a : s ≤ 0
      · exact Or.inl a
      · by_cases b : 131072 ≤ s
        · exact Or.inr (Or.inl b)
        · refine Or.inr (Or.inr (fun e => ?_))
          by_cases q : k < 2
          · have : bt (mx_and s 3) k := bt_and.mpr ⟨k1, (bt_c3 ⟨k, k0⟩).mpr q⟩
            rw [e] at this; exact bt_0 this
          · have es : ((s.toNat : Nat) : Int) = s := by omega
            rw [← es] at k1
            unfold bt at k1
            rw [← BitVec.testBit_toNat, n_B s.toNat (by omega)] at k1
            have l : s.toNat < 2 ^ k := Nat.lt_of_lt_of_le (show s.toNat < 2 ^ 17 by have : (2 : Nat) ^ 17 = 131072 := rfl; omega) (Nat.pow_le_pow_right (by decide) (by omega))
            rw [Nat.testBit_lt_two_pow l] at k1
            cases k1
section
variable {S h : mx_H} {n : Int} {d : Nat} {P : Int → Prop}
theorem c_set_t (e : ∃ b, 2 ≤ b ∧ b ≤ 16 ∧ P b) : mx_M d 150 [(0, bz 2 17 P)] S h n = some (some (0, 1), S, h, n) := by
  have t := set_t e
  simp (disch := omega) only [mx_vt_h, mx_vt_m, mx_cmp_0, mx_cmp_1, mx_cmp_2, mx_cmp_3, mx_cmp_4, mx_u_s, mx_u_a, mx_u_k, mx_z_a, mx_z_s, mx_t_a, mx_t_2, mx_t_1, mx_t_0, mx_gd_T, mx_gd_t, mx_br_T, mx_br_F, mx_br_t, mx_br_f, mx_br_n, mx_cl_T, mx_cl_t, mx_re_T, mx_re_t, mx_rt_v, mx_rt_0, mx_cu_t, mx_w_id, mx_l_id, mx_b_0, mx_b_1, mx_b_r, mx_nl_0, mx_nl_1, mx_nl_2, mx_nl_n, mx_nl_l, mx_sw_n, mx_sw_h, mx_sw_m, Int.reduceLE, Int.reduceLT, Int.reduceEq, Int.reduceAdd, Int.reduceSub, Int.reduceMul, Int.reduceNeg, Int.reduceToNat, and_self, true_and, and_true, false_and, and_false, true_or, or_true, false_or, or_false, not_true_eq_false, not_false_eq_true, eq_self, rw_X11_isSetOfBases, t.2.1]
theorem c_seM_t (e : ∃ b, 2 ≤ b ∧ b ≤ 16 ∧ P b) : mx_M d 211 [(0, bz 2 17 P)] S h n = some (some (0, 1), S, h, n) := by
  have t := set_t e
  have i := bz_i (P := P)
  simp (disch := omega) only [mx_vt_h, mx_vt_m, mx_cmp_0, mx_cmp_1, mx_cmp_2, mx_cmp_3, mx_cmp_4, mx_u_s, mx_u_a, mx_u_k, mx_z_a, mx_z_s, mx_t_a, mx_t_2, mx_t_1, mx_t_0, mx_gd_T, mx_gd_t, mx_br_T, mx_br_F, mx_br_t, mx_br_f, mx_br_n, mx_cl_T, mx_cl_t, mx_re_T, mx_re_t, mx_rt_v, mx_rt_0, mx_cu_t, mx_w_id, mx_l_id, mx_b_0, mx_b_1, mx_b_r, mx_nl_0, mx_nl_1, mx_nl_2, mx_nl_n, mx_nl_l, mx_sw_n, mx_sw_h, mx_sw_m, Int.reduceLE, Int.reduceLT, Int.reduceEq, Int.reduceAdd, Int.reduceSub, Int.reduceMul, Int.reduceNeg, Int.reduceToNat, and_self, true_and, and_true, false_and, and_false, true_or, or_true, false_or, or_false, not_true_eq_false, not_false_eq_true, eq_self, rw_X12_areBases, t.2.2.2]
theorem c_set_f {s : Int} (e : s = 0 ∨ ¬ mx_and s (-131069) = 0) : mx_M d 150 [(0, s)] S h n = some (some (0, 0), S, h, n) := by
  by_cases z : s = 0
  · simp (disch := omega) only [mx_vt_h, mx_vt_m, mx_cmp_0, mx_cmp_1, mx_cmp_2, mx_cmp_3, mx_cmp_4, mx_u_s, mx_u_a, mx_u_k, mx_z_a, mx_z_s, mx_t_a, mx_t_2, mx_t_1, mx_t_0, mx_gd_T, mx_gd_t, mx_br_T, mx_br_F, mx_br_t, mx_br_f, mx_br_n, mx_cl_T, mx_cl_t, mx_re_T, mx_re_t, mx_rt_v, mx_rt_0, mx_cu_t, mx_w_id, mx_l_id, mx_b_0, mx_b_1, mx_b_r, mx_nl_0, mx_nl_1, mx_nl_2, mx_nl_n, mx_nl_l, mx_sw_n, mx_sw_h, mx_sw_m, Int.reduceLE, Int.reduceLT, Int.reduceEq, Int.reduceAdd, Int.reduceSub, Int.reduceMul, Int.reduceNeg, Int.reduceToNat, and_self, true_and, and_true, false_and, and_false, true_or, or_true, false_or, or_false, not_true_eq_false, not_false_eq_true, eq_self, rw_X11_isSetOfBases, z]
  · have q : ¬ mx_and s (-131069) = 0 := by
      rcases e with e | e
      · exact absurd e z
      · exact e
    simp (disch := omega) only [mx_vt_h, mx_vt_m, mx_cmp_0, mx_cmp_1, mx_cmp_2, mx_cmp_3, mx_cmp_4, mx_u_s, mx_u_a, mx_u_k, mx_z_a, mx_z_s, mx_t_a, mx_t_2, mx_t_1, mx_t_0, mx_gd_T, mx_gd_t, mx_br_T, mx_br_F, mx_br_t, mx_br_f, mx_br_n, mx_cl_T, mx_cl_t, mx_re_T, mx_re_t, mx_rt_v, mx_rt_0, mx_cu_t, mx_w_id, mx_l_id, mx_b_0, mx_b_1, mx_b_r, mx_nl_0, mx_nl_1, mx_nl_2, mx_nl_n, mx_nl_l, mx_sw_n, mx_sw_h, mx_sw_m, Int.reduceLE, Int.reduceLT, Int.reduceEq, Int.reduceAdd, Int.reduceSub, Int.reduceMul, Int.reduceNeg, Int.reduceToNat, and_self, true_and, and_true, false_and, and_false, true_or, or_true, false_or, or_false, not_true_eq_false, not_false_eq_true, eq_self, rw_X11_isSetOfBases, z, q]
theorem c_seM_f {s : Int} (e : s ≤ 0 ∨ 131072 ≤ s ∨ ¬ mx_and s 3 = 0) : mx_M d 211 [(0, s)] S h n = some (some (0, 0), S, h, n) := by
  by_cases z : s ≤ 0
  · simp (disch := omega) only [mx_vt_h, mx_vt_m, mx_cmp_0, mx_cmp_1, mx_cmp_2, mx_cmp_3, mx_cmp_4, mx_u_s, mx_u_a, mx_u_k, mx_z_a, mx_z_s, mx_t_a, mx_t_2, mx_t_1, mx_t_0, mx_gd_T, mx_gd_t, mx_br_T, mx_br_F, mx_br_t, mx_br_f, mx_br_n, mx_cl_T, mx_cl_t, mx_re_T, mx_re_t, mx_rt_v, mx_rt_0, mx_cu_t, mx_w_id, mx_l_id, mx_b_0, mx_b_1, mx_b_r, mx_nl_0, mx_nl_1, mx_nl_2, mx_nl_n, mx_nl_l, mx_sw_n, mx_sw_h, mx_sw_m, Int.reduceLE, Int.reduceLT, Int.reduceEq, Int.reduceAdd, Int.reduceSub, Int.reduceMul, Int.reduceNeg, Int.reduceToNat, and_self, true_and, and_true, false_and, and_false, true_or, or_true, false_or, or_false, not_true_eq_false, not_false_eq_true, eq_self, rw_X12_areBases]
  · by_cases y : 131072 ≤ s
    · simp (disch := omega) only [mx_vt_h, mx_vt_m, mx_cmp_0, mx_cmp_1, mx_cmp_2, mx_cmp_3, mx_cmp_4, mx_u_s, mx_u_a, mx_u_k, mx_z_a, mx_z_s, mx_t_a, mx_t_2, mx_t_1, mx_t_0, mx_gd_T, mx_gd_t, mx_br_T, mx_br_F, mx_br_t, mx_br_f, mx_br_n, mx_cl_T, mx_cl_t, mx_re_T, mx_re_t, mx_rt_v, mx_rt_0, mx_cu_t, mx_w_id, mx_l_id, mx_b_0, mx_b_1, mx_b_r, mx_nl_0, mx_nl_1, mx_nl_2, mx_nl_n, mx_nl_l, mx_sw_n, mx_sw_h, mx_sw_m, Int.reduceLE, Int.reduceLT, Int.reduceEq, Int.reduceAdd, Int.reduceSub, Int.reduceMul, Int.reduceNeg, Int.reduceToNat, and_self, true_and, and_true, false_and, and_false, true_or, or_true, false_or, or_false, not_true_eq_false, not_false_eq_true, eq_self, rw_X12_areBases]
    · have q : ¬ mx_and s 3 = 0 := by
        rcases e with e | e | e
        · exact absurd e z
        · exact absurd e y
        · exact e
      simp (disch := omega) only [mx_vt_h, mx_vt_m, mx_cmp_0, mx_cmp_1, mx_cmp_2, mx_cmp_3, mx_cmp_4, mx_u_s, mx_u_a, mx_u_k, mx_z_a, mx_z_s, mx_t_a, mx_t_2, mx_t_1, mx_t_0, mx_gd_T, mx_gd_t, mx_br_T, mx_br_F, mx_br_t, mx_br_f, mx_br_n, mx_cl_T, mx_cl_t, mx_re_T, mx_re_t, mx_rt_v, mx_rt_0, mx_cu_t, mx_w_id, mx_l_id, mx_b_0, mx_b_1, mx_b_r, mx_nl_0, mx_nl_1, mx_nl_2, mx_nl_n, mx_nl_l, mx_sw_n, mx_sw_h, mx_sw_m, Int.reduceLE, Int.reduceLT, Int.reduceEq, Int.reduceAdd, Int.reduceSub, Int.reduceMul, Int.reduceNeg, Int.reduceToNat, and_self, true_and, and_true, false_and, and_false, true_or, or_true, false_or, or_false, not_true_eq_false, not_false_eq_true, eq_self, rw_X12_areBases, q]
/-- the best of the bases below b -/
def bst (P : Int → Prop) (v b m : Int) : Prop := (m = 0 ∧ ∀ k, 2 ≤ k → k < b → ¬ P k) ∨ (2 ≤ m ∧ m < b ∧ P m ∧ ∀ k, 2 ≤ k → k < b → P k → sz m v < sz k v ∨ sz m v = sz k v ∧ m ≤ k)
theorem bst_u {v b m r : Int} (x : bst P v b m) (y : bst P v b r) : m = r := by
  rcases x with ⟨x0, x1⟩ | ⟨x0, x1, x2, x3⟩
  · rcases y with ⟨y0, y1⟩ | ⟨y0, y1, y2, y3⟩
    · omega
    · exact absurd y2 (x1 r y0 y1)
  · rcases y with ⟨y0, y1⟩ | ⟨y0, y1, y2, y3⟩
    · exact absurd x2 (y1 m x0 x1)
    · have p := x3 r y0 y1 y2
      have q := y3 m x0 x1 x2
      omega
theorem bst_n {v b m : Int} (x : bst P v b m) (q : ¬ P b) : bst P v (b + 1) m := by
  rcases x with ⟨x0, x1⟩ | ⟨x0, x1, x2, x3⟩
  · refine Or.inl ⟨x0, fun k a c => ?_⟩
    by_cases e : k = b
    · rw [e]; exact q
    · exact x1 k a (by omega)
  · refine Or.inr ⟨x0, by omega, x2, fun k a c p => ?_⟩
    by_cases e : k = b
    · rw [e] at p; exact absurd p q
    · exact x3 k a (by omega) p
theorem bst_y {v b m : Int} (x : bst P v b m) (b0 : 2 ≤ b) (q : P b) (z : m = 0 ∨ sz b v < sz m v) : bst P v (b + 1) b := by
  refine Or.inr ⟨b0, by omega, q, fun k a c p => ?_⟩
  by_cases e : k = b
  · rw [e]; omega
  · rcases x with ⟨x0, x1⟩ | ⟨x0, x1, x2, x3⟩
    · exact absurd p (x1 k a (by omega))
    · have := x3 k a (by omega) p
      omega
theorem bst_o {v b m : Int} (x : bst P v b m) (m0 : ¬ m = 0) (z : ¬ sz b v < sz m v) : bst P v (b + 1) m := by
  rcases x with ⟨x0, x1⟩ | ⟨x0, x1, x2, x3⟩
  · exact absurd x0 m0
  · refine Or.inr ⟨x0, by omega, x2, fun k a c p => ?_⟩
    by_cases e : k = b
    · rw [e]; omega
    · exact x3 k a (by omega) p
theorem bst_r {v b m : Int} (x : bst P v b m) (b1 : b ≤ 17) : m = 0 ∨ 2 ≤ m ∧ m ≤ 16 := by
  rcases x with ⟨x0, x1⟩ | ⟨x0, x1, x2, x3⟩
  · exact Or.inl x0
  · exact Or.inr ⟨x0, by omega⟩
theorem c_sh_l {v b m : Int} {l0 : Option mx_V} (v0 : 0 ≤ v ∧ v ≤ 9999) (b0 : 2 ≤ b ∧ b ≤ 17) (x : bst P v b m) (m0 : ¬ m = 0) : ∃ r, bst P v 17 r ∧ mx_ex (d + 1) 123 29 [l0, some (0, v), some (0, bz 2 17 P), some (0, m), some (0, b)] [] S h n = some (some (0, r), S, h, n) := by
  have mr := bst_r x b0.2
  by_cases q : b < 17
  · by_cases p : P b
    · by_cases z : sz b v < sz m v
      · obtain ⟨r, r0, r1⟩ := c_sh_l (b := b + 1) (m := b) (l0 := l0) v0 (by omega) (bst_y x b0.1 p (Or.inr z)) (by omega)
        refine ⟨r, r0, ?_⟩
        rw [rh_X11_shortest_29]
        simp (disch := omega) only [mx_vt_h, mx_vt_m, mx_cmp_0, mx_cmp_1, mx_cmp_2, mx_cmp_3, mx_cmp_4, mx_u_s, mx_u_a, mx_u_k, mx_z_a, mx_z_s, mx_t_a, mx_t_2, mx_t_1, mx_t_0, mx_gd_T, mx_gd_t, mx_br_T, mx_br_F, mx_br_t, mx_br_f, mx_br_n, mx_cl_T, mx_cl_t, mx_re_T, mx_re_t, mx_rt_v, mx_rt_0, mx_cu_t, mx_w_id, mx_l_id, mx_b_0, mx_b_1, mx_b_r, mx_nl_0, mx_nl_1, mx_nl_2, mx_nl_n, mx_nl_l, mx_sw_n, mx_sw_h, mx_sw_m, Int.reduceLE, Int.reduceLT, Int.reduceEq, Int.reduceAdd, Int.reduceSub, Int.reduceMul, Int.reduceNeg, Int.reduceToNat, and_self, true_and, and_true, false_and, and_false, true_or, or_true, false_or, or_false, not_true_eq_false, not_false_eq_true, eq_self, rw_X11_shortest, bz_tst, mx_b_t p, c_howLong (b := b) (v := v) (by omega) v0, c_howLong (b := m) (v := v) (by omega) v0]
        exact r1
      · obtain ⟨r, r0, r1⟩ := c_sh_l (b := b + 1) (m := m) (l0 := l0) v0 (by omega) (bst_o x m0 z) m0
        refine ⟨r, r0, ?_⟩
        rw [rh_X11_shortest_29]
        simp (disch := omega) only [mx_vt_h, mx_vt_m, mx_cmp_0, mx_cmp_1, mx_cmp_2, mx_cmp_3, mx_cmp_4, mx_u_s, mx_u_a, mx_u_k, mx_z_a, mx_z_s, mx_t_a, mx_t_2, mx_t_1, mx_t_0, mx_gd_T, mx_gd_t, mx_br_T, mx_br_F, mx_br_t, mx_br_f, mx_br_n, mx_cl_T, mx_cl_t, mx_re_T, mx_re_t, mx_rt_v, mx_rt_0, mx_cu_t, mx_w_id, mx_l_id, mx_b_0, mx_b_1, mx_b_r, mx_nl_0, mx_nl_1, mx_nl_2, mx_nl_n, mx_nl_l, mx_sw_n, mx_sw_h, mx_sw_m, Int.reduceLE, Int.reduceLT, Int.reduceEq, Int.reduceAdd, Int.reduceSub, Int.reduceMul, Int.reduceNeg, Int.reduceToNat, and_self, true_and, and_true, false_and, and_false, true_or, or_true, false_or, or_false, not_true_eq_false, not_false_eq_true, eq_self, rw_X11_shortest, bz_tst, mx_b_t p, c_howLong (b := b) (v := v) (by omega) v0, c_howLong (b := m) (v := v) (by omega) v0]
        exact r1
    · obtain ⟨r, r0, r1⟩ := c_sh_l (b := b + 1) (m := m) (l0 := l0) v0 (by omega) (bst_n x p) m0
      refine ⟨r, r0, ?_⟩
      rw [rh_X11_shortest_29]
      simp (disch := omega) only [mx_vt_h, mx_vt_m, mx_cmp_0, mx_cmp_1, mx_cmp_2, mx_cmp_3, mx_cmp_4, mx_u_s, mx_u_a, mx_u_k, mx_z_a, mx_z_s, mx_t_a, mx_t_2, mx_t_1, mx_t_0, mx_gd_T, mx_gd_t, mx_br_T, mx_br_F, mx_br_t, mx_br_f, mx_br_n, mx_cl_T, mx_cl_t, mx_re_T, mx_re_t, mx_rt_v, mx_rt_0, mx_cu_t, mx_w_id, mx_l_id, mx_b_0, mx_b_1, mx_b_r, mx_nl_0, mx_nl_1, mx_nl_2, mx_nl_n, mx_nl_l, mx_sw_n, mx_sw_h, mx_sw_m, Int.reduceLE, Int.reduceLT, Int.reduceEq, Int.reduceAdd, Int.reduceSub, Int.reduceMul, Int.reduceNeg, Int.reduceToNat, and_self, true_and, and_true, false_and, and_false, true_or, or_true, false_or, or_false, not_true_eq_false, not_false_eq_true, eq_self, rw_X11_shortest, bz_tst, mx_b_f p]
      exact r1
  · have e : b = 17 := by omega
    subst e
    refine ⟨m, x, ?_⟩
    rw [rh_X11_shortest_29]
    simp (disch := omega) only [mx_vt_h, mx_vt_m, mx_cmp_0, mx_cmp_1, mx_cmp_2, mx_cmp_3, mx_cmp_4, mx_u_s, mx_u_a, mx_u_k, mx_z_a, mx_z_s, mx_t_a, mx_t_2, mx_t_1, mx_t_0, mx_gd_T, mx_gd_t, mx_br_T, mx_br_F, mx_br_t, mx_br_f, mx_br_n, mx_cl_T, mx_cl_t, mx_re_T, mx_re_t, mx_rt_v, mx_rt_0, mx_cu_t, mx_w_id, mx_l_id, mx_b_0, mx_b_1, mx_b_r, mx_nl_0, mx_nl_1, mx_nl_2, mx_nl_n, mx_nl_l, mx_sw_n, mx_sw_h, mx_sw_m, Int.reduceLE, Int.reduceLT, Int.reduceEq, Int.reduceAdd, Int.reduceSub, Int.reduceMul, Int.reduceNeg, Int.reduceToNat, and_self, true_and, and_true, false_and, and_false, true_or, or_true, false_or, or_false, not_true_eq_false, not_false_eq_true, eq_self, rw_X11_shortest]
termination_by (17 - b).toNat
decreasing_by all_goals omega
theorem c_shM_l {v b m : Int} {l0 l5 : Option mx_V} (v0 : 0 ≤ v ∧ v ≤ 9999) (b0 : 2 ≤ b ∧ b ≤ 17) (x : bst P v b m) : ∃ r, bst P v 17 r ∧ mx_ex (d + 1) 214 25 [l0, some (0, v), some (0, bz 2 17 P), some (0, m), some (0, b), l5] [] S h n = some (some (0, r), S, h, n) := by
  have mr := bst_r x b0.2
  by_cases q : b < 17
  · by_cases p : P b
    · by_cases m0 : m = 0
      · obtain ⟨r, r0, r1⟩ := c_shM_l (b := b + 1) (m := b) (l0 := l0) (l5 := some (0, 1)) v0 (by omega) (bst_y x b0.1 p (Or.inl m0))
        refine ⟨r, r0, ?_⟩
        rw [rh_X12_shortest_25]
        simp (disch := omega) only [mx_vt_h, mx_vt_m, mx_cmp_0, mx_cmp_1, mx_cmp_2, mx_cmp_3, mx_cmp_4, mx_u_s, mx_u_a, mx_u_k, mx_z_a, mx_z_s, mx_t_a, mx_t_2, mx_t_1, mx_t_0, mx_gd_T, mx_gd_t, mx_br_T, mx_br_F, mx_br_t, mx_br_f, mx_br_n, mx_cl_T, mx_cl_t, mx_re_T, mx_re_t, mx_rt_v, mx_rt_0, mx_cu_t, mx_w_id, mx_l_id, mx_b_0, mx_b_1, mx_b_r, mx_nl_0, mx_nl_1, mx_nl_2, mx_nl_n, mx_nl_l, mx_sw_n, mx_sw_h, mx_sw_m, Int.reduceLE, Int.reduceLT, Int.reduceEq, Int.reduceAdd, Int.reduceSub, Int.reduceMul, Int.reduceNeg, Int.reduceToNat, and_self, true_and, and_true, false_and, and_false, true_or, or_true, false_or, or_false, not_true_eq_false, not_false_eq_true, eq_self, rw_X12_shortest, bz_tst, mx_b_t p, m0]
        exact r1
      · by_cases z : sz b v < sz m v
        · obtain ⟨r, r0, r1⟩ := c_shM_l (b := b + 1) (m := b) (l0 := l0) (l5 := some (0, 1)) v0 (by omega) (bst_y x b0.1 p (Or.inr z))
          refine ⟨r, r0, ?_⟩
          rw [rh_X12_shortest_25]
          simp (disch := omega) only [mx_vt_h, mx_vt_m, mx_cmp_0, mx_cmp_1, mx_cmp_2, mx_cmp_3, mx_cmp_4, mx_u_s, mx_u_a, mx_u_k, mx_z_a, mx_z_s, mx_t_a, mx_t_2, mx_t_1, mx_t_0, mx_gd_T, mx_gd_t, mx_br_T, mx_br_F, mx_br_t, mx_br_f, mx_br_n, mx_cl_T, mx_cl_t, mx_re_T, mx_re_t, mx_rt_v, mx_rt_0, mx_cu_t, mx_w_id, mx_l_id, mx_b_0, mx_b_1, mx_b_r, mx_nl_0, mx_nl_1, mx_nl_2, mx_nl_n, mx_nl_l, mx_sw_n, mx_sw_h, mx_sw_m, Int.reduceLE, Int.reduceLT, Int.reduceEq, Int.reduceAdd, Int.reduceSub, Int.reduceMul, Int.reduceNeg, Int.reduceToNat, and_self, true_and, and_true, false_and, and_false, true_or, or_true, false_or, or_false, not_true_eq_false, not_false_eq_true, eq_self, rw_X12_shortest, bz_tst, mx_b_t p, c_signsOf (b := b) (v := v) (by omega) v0, c_signsOf (b := m) (v := v) (by omega) v0]
          exact r1
        · obtain ⟨r, r0, r1⟩ := c_shM_l (b := b + 1) (m := m) (l0 := l0) (l5 := some (0, 0)) v0 (by omega) (bst_o x m0 z)
          refine ⟨r, r0, ?_⟩
          rw [rh_X12_shortest_25]
          simp (disch := omega) only [mx_vt_h, mx_vt_m, mx_cmp_0, mx_cmp_1, mx_cmp_2, mx_cmp_3, mx_cmp_4, mx_u_s, mx_u_a, mx_u_k, mx_z_a, mx_z_s, mx_t_a, mx_t_2, mx_t_1, mx_t_0, mx_gd_T, mx_gd_t, mx_br_T, mx_br_F, mx_br_t, mx_br_f, mx_br_n, mx_cl_T, mx_cl_t, mx_re_T, mx_re_t, mx_rt_v, mx_rt_0, mx_cu_t, mx_w_id, mx_l_id, mx_b_0, mx_b_1, mx_b_r, mx_nl_0, mx_nl_1, mx_nl_2, mx_nl_n, mx_nl_l, mx_sw_n, mx_sw_h, mx_sw_m, Int.reduceLE, Int.reduceLT, Int.reduceEq, Int.reduceAdd, Int.reduceSub, Int.reduceMul, Int.reduceNeg, Int.reduceToNat, and_self, true_and, and_true, false_and, and_false, true_or, or_true, false_or, or_false, not_true_eq_false, not_false_eq_true, eq_self, rw_X12_shortest, bz_tst, mx_b_t p, c_signsOf (b := b) (v := v) (by omega) v0, c_signsOf (b := m) (v := v) (by omega) v0]
          exact r1
    · obtain ⟨r, r0, r1⟩ := c_shM_l (b := b + 1) (m := m) (l0 := l0) (l5 := some (0, 0)) v0 (by omega) (bst_n x p)
      refine ⟨r, r0, ?_⟩
      rw [rh_X12_shortest_25]
      simp (disch := omega) only [mx_vt_h, mx_vt_m, mx_cmp_0, mx_cmp_1, mx_cmp_2, mx_cmp_3, mx_cmp_4, mx_u_s, mx_u_a, mx_u_k, mx_z_a, mx_z_s, mx_t_a, mx_t_2, mx_t_1, mx_t_0, mx_gd_T, mx_gd_t, mx_br_T, mx_br_F, mx_br_t, mx_br_f, mx_br_n, mx_cl_T, mx_cl_t, mx_re_T, mx_re_t, mx_rt_v, mx_rt_0, mx_cu_t, mx_w_id, mx_l_id, mx_b_0, mx_b_1, mx_b_r, mx_nl_0, mx_nl_1, mx_nl_2, mx_nl_n, mx_nl_l, mx_sw_n, mx_sw_h, mx_sw_m, Int.reduceLE, Int.reduceLT, Int.reduceEq, Int.reduceAdd, Int.reduceSub, Int.reduceMul, Int.reduceNeg, Int.reduceToNat, and_self, true_and, and_true, false_and, and_false, true_or, or_true, false_or, or_false, not_true_eq_false, not_false_eq_true, eq_self, rw_X12_shortest, bz_tst, mx_b_f p]
      exact r1
  · have e : b = 17 := by omega
    subst e
    refine ⟨m, x, ?_⟩
    rw [rh_X12_shortest_25]
    simp (disch := omega) only [mx_vt_h, mx_vt_m, mx_cmp_0, mx_cmp_1, mx_cmp_2, mx_cmp_3, mx_cmp_4, mx_u_s, mx_u_a, mx_u_k, mx_z_a, mx_z_s, mx_t_a, mx_t_2, mx_t_1, mx_t_0, mx_gd_T, mx_gd_t, mx_br_T, mx_br_F, mx_br_t, mx_br_f, mx_br_n, mx_cl_T, mx_cl_t, mx_re_T, mx_re_t, mx_rt_v, mx_rt_0, mx_cu_t, mx_w_id, mx_l_id, mx_b_0, mx_b_1, mx_b_r, mx_nl_0, mx_nl_1, mx_nl_2, mx_nl_n, mx_nl_l, mx_sw_n, mx_sw_h, mx_sw_m, Int.reduceLE, Int.reduceLT, Int.reduceEq, Int.reduceAdd, Int.reduceSub, Int.reduceMul, Int.reduceNeg, Int.reduceToNat, and_self, true_and, and_true, false_and, and_false, true_or, or_true, false_or, or_false, not_true_eq_false, not_false_eq_true, eq_self, rw_X12_shortest]
termination_by (17 - b).toNat
decreasing_by all_goals omega
theorem kc_z {b : Int} (b0 : 2 ≤ b) (h : kc P (b - 2).toNat = 0) : ∀ k, 2 ≤ k → k < b → ¬ P k := by
  intro k k0 k1 p
  have a := kc_0 (P := P) k0
  rw [mx_b_t p] at a
  have r := (kc_r (P := P) (k - 2).toNat).1
  have m := kc_m (P := P) (k := (k + 1 - 2).toNat) ((b - 2).toNat - (k + 1 - 2).toNat)
  have e : (k + 1 - 2).toNat + ((b - 2).toNat - (k + 1 - 2).toNat) = (b - 2).toNat := by omega
  rw [e] at m
  omega
theorem kc_p {b : Int} (b0 : 2 ≤ b) (b1 : b ≤ 16) (p : P b) : 0 < kc P 15 := by
  have a := kc_0 (P := P) b0
  rw [mx_b_t p] at a
  have r := (kc_r (P := P) (b - 2).toNat).1
  have m := kc_m (P := P) (k := (b + 1 - 2).toNat) (15 - (b + 1 - 2).toNat)
  have e : (b + 1 - 2).toNat + (15 - (b + 1 - 2).toNat) = 15 := by omega
  rw [e] at m
  omega
end
section
variable {L : Nat} {x : Nat → Int32} {S T h g : mx_H} {n m c : Int} {d : Nat}
theorem a_shortest {v s : Int} (hc : c ≤ 599) (s0 : -2147483648 ≤ s) (s1 : s ≤ 2147483647) : ag L x 123 214 [(0, v), (0, s)] 0 c := by
  intro d S h n I
  by_cases v0 : 0 ≤ v ∧ v ≤ 9999
  · rcases set_x s0 s1 with ⟨P, eP, e⟩ | ⟨e1, e2⟩
    · subst eP
      obtain ⟨b', b0', b1', b2'⟩ := e
      have e : ∃ b, 2 ≤ b ∧ b ≤ 16 ∧ P b := ⟨b', b0', b1', b2'⟩
      obtain ⟨b, b0, b1, b2, b3, b4⟩ := c_bat (d := d + 11) (S := S) (h := h) (n := n) (P := P) (k := 0) (by decide) (kc_p b0' b1' b2')
      have nb := kc_z b0 b3
      have x0 : bst P v b 0 := Or.inl ⟨rfl, nb⟩
      have x1 : bst P v (b + 1) b := bst_y x0 b0 b2 (Or.inl rfl)
      obtain ⟨r, r0, r1⟩ := c_sh_l (d := d + 11) (S := S) (h := h) (n := n) (P := P) (v := v) (b := b + 1) (m := b) (l0 := some (2, 0)) v0 (by omega) x1 (by omega)
      obtain ⟨t, t0, t1⟩ := c_shM_l (d := d + 11) (S := S) (h := h) (n := n) (P := P) (v := v) (b := 2) (m := 0) (l0 := some (2, 38)) (l5 := none) v0 (by omega) (Or.inl ⟨rfl, fun k a c => by omega⟩)
      have et : t = r := bst_u t0 r0
      subst et
      refine ag_p I hc (y := t) ?_ ?_
      · simp (disch := omega) only [mx_vt_h, mx_vt_m, mx_cmp_0, mx_cmp_1, mx_cmp_2, mx_cmp_3, mx_cmp_4, mx_u_s, mx_u_a, mx_u_k, mx_z_a, mx_z_s, mx_t_a, mx_t_2, mx_t_1, mx_t_0, mx_gd_T, mx_gd_t, mx_br_T, mx_br_F, mx_br_t, mx_br_f, mx_br_n, mx_cl_T, mx_cl_t, mx_re_T, mx_re_t, mx_rt_v, mx_rt_0, mx_cu_t, mx_w_id, mx_l_id, mx_b_0, mx_b_1, mx_b_r, mx_nl_0, mx_nl_1, mx_nl_2, mx_nl_n, mx_nl_l, mx_sw_n, mx_sw_h, mx_sw_m, Int.reduceLE, Int.reduceLT, Int.reduceEq, Int.reduceAdd, Int.reduceSub, Int.reduceMul, Int.reduceNeg, Int.reduceToNat, and_self, true_and, and_true, false_and, and_false, true_or, or_true, false_or, or_false, not_true_eq_false, not_false_eq_true, eq_self, rw_X11_shortest, c_within, mx_b_t v0, c_set_t e, b4]
        rw [rh_X11_shortest_29]
        simp (disch := omega) only [mx_vt_h, mx_vt_m, mx_cmp_0, mx_cmp_1, mx_cmp_2, mx_cmp_3, mx_cmp_4, mx_u_s, mx_u_a, mx_u_k, mx_z_a, mx_z_s, mx_t_a, mx_t_2, mx_t_1, mx_t_0, mx_gd_T, mx_gd_t, mx_br_T, mx_br_F, mx_br_t, mx_br_f, mx_br_n, mx_cl_T, mx_cl_t, mx_re_T, mx_re_t, mx_rt_v, mx_rt_0, mx_cu_t, mx_w_id, mx_l_id, mx_b_0, mx_b_1, mx_b_r, mx_nl_0, mx_nl_1, mx_nl_2, mx_nl_n, mx_nl_l, mx_sw_n, mx_sw_h, mx_sw_m, Int.reduceLE, Int.reduceLT, Int.reduceEq, Int.reduceAdd, Int.reduceSub, Int.reduceMul, Int.reduceNeg, Int.reduceToNat, and_self, true_and, and_true, false_and, and_false, true_or, or_true, false_or, or_false, not_true_eq_false, not_false_eq_true, eq_self, rw_X11_shortest, bz_tst, mx_b_t b2, c_howLong (b := b) (v := v) (by omega) v0]
        exact r1
      · simp (disch := omega) only [mx_vt_h, mx_vt_m, mx_cmp_0, mx_cmp_1, mx_cmp_2, mx_cmp_3, mx_cmp_4, mx_u_s, mx_u_a, mx_u_k, mx_z_a, mx_z_s, mx_t_a, mx_t_2, mx_t_1, mx_t_0, mx_gd_T, mx_gd_t, mx_br_T, mx_br_F, mx_br_t, mx_br_f, mx_br_n, mx_cl_T, mx_cl_t, mx_re_T, mx_re_t, mx_rt_v, mx_rt_0, mx_cu_t, mx_w_id, mx_l_id, mx_b_0, mx_b_1, mx_b_r, mx_nl_0, mx_nl_1, mx_nl_2, mx_nl_n, mx_nl_l, mx_sw_n, mx_sw_h, mx_sw_m, Int.reduceLE, Int.reduceLT, Int.reduceEq, Int.reduceAdd, Int.reduceSub, Int.reduceMul, Int.reduceNeg, Int.reduceToNat, and_self, true_and, and_true, false_and, and_false, true_or, or_true, false_or, or_false, not_true_eq_false, not_false_eq_true, eq_self, rw_X12_shortest, c_in, mx_b_t v0, c_seM_t e, t1]
    · refine ag_p I hc (y := -1) ?_ ?_
      · simp (disch := omega) only [mx_vt_h, mx_vt_m, mx_cmp_0, mx_cmp_1, mx_cmp_2, mx_cmp_3, mx_cmp_4, mx_u_s, mx_u_a, mx_u_k, mx_z_a, mx_z_s, mx_t_a, mx_t_2, mx_t_1, mx_t_0, mx_gd_T, mx_gd_t, mx_br_T, mx_br_F, mx_br_t, mx_br_f, mx_br_n, mx_cl_T, mx_cl_t, mx_re_T, mx_re_t, mx_rt_v, mx_rt_0, mx_cu_t, mx_w_id, mx_l_id, mx_b_0, mx_b_1, mx_b_r, mx_nl_0, mx_nl_1, mx_nl_2, mx_nl_n, mx_nl_l, mx_sw_n, mx_sw_h, mx_sw_m, Int.reduceLE, Int.reduceLT, Int.reduceEq, Int.reduceAdd, Int.reduceSub, Int.reduceMul, Int.reduceNeg, Int.reduceToNat, and_self, true_and, and_true, false_and, and_false, true_or, or_true, false_or, or_false, not_true_eq_false, not_false_eq_true, eq_self, rw_X11_shortest, c_within, mx_b_t v0, c_set_f e1]
      · simp (disch := omega) only [mx_vt_h, mx_vt_m, mx_cmp_0, mx_cmp_1, mx_cmp_2, mx_cmp_3, mx_cmp_4, mx_u_s, mx_u_a, mx_u_k, mx_z_a, mx_z_s, mx_t_a, mx_t_2, mx_t_1, mx_t_0, mx_gd_T, mx_gd_t, mx_br_T, mx_br_F, mx_br_t, mx_br_f, mx_br_n, mx_cl_T, mx_cl_t, mx_re_T, mx_re_t, mx_rt_v, mx_rt_0, mx_cu_t, mx_w_id, mx_l_id, mx_b_0, mx_b_1, mx_b_r, mx_nl_0, mx_nl_1, mx_nl_2, mx_nl_n, mx_nl_l, mx_sw_n, mx_sw_h, mx_sw_m, Int.reduceLE, Int.reduceLT, Int.reduceEq, Int.reduceAdd, Int.reduceSub, Int.reduceMul, Int.reduceNeg, Int.reduceToNat, and_self, true_and, and_true, false_and, and_false, true_or, or_true, false_or, or_false, not_true_eq_false, not_false_eq_true, eq_self, rw_X12_shortest, c_in, mx_b_t v0, c_seM_f e2]
  · refine ag_p I hc (y := -1) ?_ ?_
    · simp (disch := omega) only [mx_vt_h, mx_vt_m, mx_cmp_0, mx_cmp_1, mx_cmp_2, mx_cmp_3, mx_cmp_4, mx_u_s, mx_u_a, mx_u_k, mx_z_a, mx_z_s, mx_t_a, mx_t_2, mx_t_1, mx_t_0, mx_gd_T, mx_gd_t, mx_br_T, mx_br_F, mx_br_t, mx_br_f, mx_br_n, mx_cl_T, mx_cl_t, mx_re_T, mx_re_t, mx_rt_v, mx_rt_0, mx_cu_t, mx_w_id, mx_l_id, mx_b_0, mx_b_1, mx_b_r, mx_nl_0, mx_nl_1, mx_nl_2, mx_nl_n, mx_nl_l, mx_sw_n, mx_sw_h, mx_sw_m, Int.reduceLE, Int.reduceLT, Int.reduceEq, Int.reduceAdd, Int.reduceSub, Int.reduceMul, Int.reduceNeg, Int.reduceToNat, and_self, true_and, and_true, false_and, and_false, true_or, or_true, false_or, or_false, not_true_eq_false, not_false_eq_true, eq_self, rw_X11_shortest, c_within, mx_b_f v0]
    · simp (disch := omega) only [mx_vt_h, mx_vt_m, mx_cmp_0, mx_cmp_1, mx_cmp_2, mx_cmp_3, mx_cmp_4, mx_u_s, mx_u_a, mx_u_k, mx_z_a, mx_z_s, mx_t_a, mx_t_2, mx_t_1, mx_t_0, mx_gd_T, mx_gd_t, mx_br_T, mx_br_F, mx_br_t, mx_br_f, mx_br_n, mx_cl_T, mx_cl_t, mx_re_T, mx_re_t, mx_rt_v, mx_rt_0, mx_cu_t, mx_w_id, mx_l_id, mx_b_0, mx_b_1, mx_b_r, mx_nl_0, mx_nl_1, mx_nl_2, mx_nl_n, mx_nl_l, mx_sw_n, mx_sw_h, mx_sw_m, Int.reduceLE, Int.reduceLT, Int.reduceEq, Int.reduceAdd, Int.reduceSub, Int.reduceMul, Int.reduceNeg, Int.reduceToNat, and_self, true_and, and_true, false_and, and_false, true_or, or_true, false_or, or_false, not_true_eq_false, not_false_eq_true, eq_self, rw_X12_shortest, c_in, mx_b_f v0]
end
