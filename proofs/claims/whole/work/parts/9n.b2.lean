/-! Narrowing a number -/
theorem shl_v (y : Int) (k : Fin 32) : mx_shl y k.val = (BitVec.ofInt 32 y <<< k.val).toInt := by
  have key : ∀ k : Fin 32, ((Int32.ofInt k.val &&& 31).toBitVec.smod 32).toNat = k.val := by decide
  unfold mx_shl Int32.toInt
  rw [Int32.toBitVec_shiftLeft, BitVec.shiftLeft_eq', key k]; rfl
theorem sh_24 (y : Int) : mx_shr (mx_shl y 24) 24 = mx_i2b y := by
  have e1 := shl_v y ⟨24, by decide⟩
  have e2 := bt_sh1 (mx_shl y 24) ⟨24, by decide⟩
  simp only at e1 e2
  have e1 : mx_shl y 24 = (BitVec.ofInt 32 y <<< 24).toInt := e1
  have e2 : mx_shr (mx_shl y 24) 24 = ((BitVec.ofInt 32 (mx_shl y 24)).sshiftRight 24).toInt := e2
  rw [e2, e1, bt_B]
  unfold mx_i2b
  rw [Int8.toInt_toInt32, Int32.toInt_toInt8, Int32.toInt_ofInt, BitVec.toInt_sshiftRight, BitVec.toInt_shiftLeft, Int.shiftRight_eq_div_pow, Nat.shiftLeft_eq, BitVec.toNat_ofInt]
  have z : Int32.size = 4294967296 := rfl
  have z1 : ((2 : Nat) ^ 32) = 4294967296 := rfl
  have z2 : ((2 : Nat) ^ 24) = 16777216 := rfl
  have z3 : ((2 : Nat) ^ 8) = 256 := rfl
  rw [z, z1, z2, z3]
  simp only [Int.bmod]
  omega
theorem sh_16 (y : Int) : mx_shr (mx_shl y 16) 16 = mx_i2s y := by
  have e1 := shl_v y ⟨16, by decide⟩
  have e2 := bt_sh1 (mx_shl y 16) ⟨16, by decide⟩
  simp only at e1 e2
  have e1 : mx_shl y 16 = (BitVec.ofInt 32 y <<< 16).toInt := e1
  have e2 : mx_shr (mx_shl y 16) 16 = ((BitVec.ofInt 32 (mx_shl y 16)).sshiftRight 16).toInt := e2
  rw [e2, e1, bt_B]
  unfold mx_i2s
  rw [Int16.toInt_toInt32, Int32.toInt_toInt16, Int32.toInt_ofInt, BitVec.toInt_sshiftRight, BitVec.toInt_shiftLeft, Int.shiftRight_eq_div_pow, Nat.shiftLeft_eq, BitVec.toNat_ofInt]
  have z : Int32.size = 4294967296 := rfl
  have z1 : ((2 : Nat) ^ 32) = 4294967296 := rfl
  have z2 : ((2 : Nat) ^ 16) = 65536 := rfl
  rw [z, z1, z2]
  simp only [Int.bmod]
  omega
theorem sh_0 {y : Int} (h1 : -2147483648 ≤ y) (h2 : y ≤ 2147483647) : mx_shr (mx_shl y 0) 0 = y := by
  have e1 := shl_v y ⟨0, by decide⟩
  have e2 := bt_sh1 (mx_shl y 0) ⟨0, by decide⟩
  have e1 : mx_shl y 0 = (BitVec.ofInt 32 y <<< 0).toInt := e1
  have e2 : mx_shr (mx_shl y 0) 0 = ((BitVec.ofInt 32 (mx_shl y 0)).sshiftRight 0).toInt := e2
  rw [e2, e1, bt_B]
  apply bt_ext _ _ h1 h2
  · intro k hk
    unfold bt
    rw [bt_B, BitVec.getLsbD_sshiftRight, BitVec.getLsbD_shiftLeft]
    simp [hk]
  · have := BitVec.le_toInt ((BitVec.ofInt 32 y <<< 0).sshiftRight 0)
    omega
  · have := BitVec.toInt_lt (x := (BitVec.ofInt 32 y <<< 0).sshiftRight 0)
    omega
/-- what a row of a sort holds of a number -/
noncomputable def nar (s y : Int) : Int := if s = 0 then mx_i2b y else if s = 1 then mx_i2s y else y
section
variable {d : Nat} {S h : mx_H} {n : Int}
theorem c_narX {p s y z : Int} (r : sr S h n p s z) : mx_M d 53 [(2, p), (0, y)] S h n = some (some (1, nar s y), S, h, n) := by
  have hs := r.s0
  have : s = 0 ∨ s = 1 ∨ s = 2 ∨ s = 3 := by omega
  rcases this with q | q | q | q <;> subst q <;> simp (disch := omega) only [mx_vt_h, mx_vt_m, mx_cmp_0, mx_cmp_1, mx_cmp_2, mx_cmp_3, mx_cmp_4, mx_u_s, mx_u_a, mx_u_k, mx_z_a, mx_z_s, mx_t_a, mx_t_2, mx_t_1, mx_t_0, mx_gd_T, mx_gd_t, mx_br_T, mx_br_F, mx_br_t, mx_br_f, mx_br_n, mx_cl_T, mx_cl_t, mx_re_T, mx_re_t, mx_rt_v, mx_rt_0, mx_cu_t, mx_w_id, mx_l_id, mx_b_0, mx_b_1, mx_b_r, mx_nl_0, mx_nl_1, mx_nl_2, mx_nl_n, mx_nl_l, mx_sw_n, mx_sw_h, mx_sw_m, Int.reduceLE, Int.reduceLT, Int.reduceEq, Int.reduceAdd, Int.reduceSub, Int.reduceMul, Int.reduceNeg, Int.reduceToNat, and_self, true_and, and_true, false_and, and_false, true_or, or_true, false_or, or_false, not_true_eq_false, not_false_eq_true, eq_self, rw_X5_narrowed, r.t, r.s] <;> rfl
theorem c_narM {s y : Int} (s0 : 0 ≤ s ∧ s ≤ 3) (h1 : -2147483648 ≤ y) (h2 : y ≤ 2147483647) : mx_M d 228 [(0, s), (0, y)] S h n = some (some (1, nar s y), S, h, n) := by
  have : s = 0 ∨ s = 1 ∨ s = 2 ∨ s = 3 := by omega
  rcases this with q | q | q | q <;> subst q <;> simp (disch := omega) only [mx_vt_h, mx_vt_m, mx_cmp_0, mx_cmp_1, mx_cmp_2, mx_cmp_3, mx_cmp_4, mx_u_s, mx_u_a, mx_u_k, mx_z_a, mx_z_s, mx_t_a, mx_t_2, mx_t_1, mx_t_0, mx_gd_T, mx_gd_t, mx_br_T, mx_br_F, mx_br_t, mx_br_f, mx_br_n, mx_cl_T, mx_cl_t, mx_re_T, mx_re_t, mx_rt_v, mx_rt_0, mx_cu_t, mx_w_id, mx_l_id, mx_b_0, mx_b_1, mx_b_r, mx_nl_0, mx_nl_1, mx_nl_2, mx_nl_n, mx_nl_l, mx_sw_n, mx_sw_h, mx_sw_m, Int.reduceLE, Int.reduceLT, Int.reduceEq, Int.reduceAdd, Int.reduceSub, Int.reduceMul, Int.reduceNeg, Int.reduceToNat, and_self, true_and, and_true, false_and, and_false, true_or, or_true, false_or, or_false, not_true_eq_false, not_false_eq_true, eq_self, rw_X12_narrowed, sh_24, sh_16, sh_0] <;> rfl
end
