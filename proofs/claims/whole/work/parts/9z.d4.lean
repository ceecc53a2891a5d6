/-! Small numbers and their bits -/
theorem n_B (y : Nat) (h : y < 4294967296) : (BitVec.ofInt 32 (y : Int)).toNat = y := by
  rw [BitVec.toNat_ofInt]
  have : ((2 : Nat) ^ 32 : Nat) = 4294967296 := rfl
  rw [this]; omega
theorem n_and (y z : Nat) (hy : y < 2147483648) (hz : z < 2147483648) : mx_and (y : Int) (z : Int) = ((y &&& z : Nat) : Int) := by
  unfold mx_and Int32.toInt
  rw [Int32.toBitVec_and]
  show (BitVec.ofInt 32 (y : Int) &&& BitVec.ofInt 32 (z : Int)).toInt = _
  have e : (BitVec.ofInt 32 (y : Int) &&& BitVec.ofInt 32 (z : Int)).toNat = y &&& z := by rw [BitVec.toNat_and, n_B y (by omega), n_B z (by omega)]
  have l : y &&& z ≤ y := Nat.and_le_left
  rw [BitVec.toInt_eq_toNat_of_lt (by rw [e]; omega), e]
theorem n_or (y z : Nat) (hy : y < 2147483648) (hz : z < 2147483648) : mx_or (y : Int) (z : Int) = ((y ||| z : Nat) : Int) := by
  unfold mx_or Int32.toInt
  rw [Int32.toBitVec_or]
  show (BitVec.ofInt 32 (y : Int) ||| BitVec.ofInt 32 (z : Int)).toInt = _
  have e : (BitVec.ofInt 32 (y : Int) ||| BitVec.ofInt 32 (z : Int)).toNat = y ||| z := by rw [BitVec.toNat_or, n_B y (by omega), n_B z (by omega)]
  have l : y ||| z < 2 ^ 31 := Nat.or_lt_two_pow (by omega) (by omega)
  have p : (2 : Nat) ^ 31 = 2147483648 := rfl
  rw [p] at l
  rw [BitVec.toInt_eq_toNat_of_lt (by rw [e]; omega), e]
theorem n_shl4 (y : Nat) (hy : y < 134217728) : mx_shl (y : Int) 4 = ((y * 16 : Nat) : Int) := by
  have e1 : mx_shl (y : Int) 4 = (BitVec.ofInt 32 (y : Int) <<< 4).toInt := shl_v (y : Int) ⟨4, by decide⟩
  have e : (BitVec.ofInt 32 (y : Int) <<< 4).toNat = y * 16 := by
    rw [BitVec.toNat_shiftLeft, n_B y (by omega), Nat.shiftLeft_eq]
    have p : (2 : Nat) ^ 32 = 4294967296 := rfl
    have p4 : (2 : Nat) ^ 4 = 16 := rfl
    rw [p, p4]; omega
  rw [e1, BitVec.toInt_eq_toNat_of_lt (by rw [e]; omega), e]
theorem n_shr (y : Nat) (hy : y < 2147483648) (k : Fin 32) : mx_shr (y : Int) (k.val : Int) = ((y / 2 ^ k.val : Nat) : Int) := by
  rw [bt_sh1 (y : Int) k, BitVec.toInt_sshiftRight]
  have e : (BitVec.ofInt 32 (y : Int)).toInt = (y : Int) := by
    rw [BitVec.toInt_eq_toNat_of_lt (by rw [n_B y (by omega)]; omega), n_B y (by omega)]
  rw [e, Int.shiftRight_eq_div_pow]
  simp
theorem n_put (P s : Nat) (hP : P < 134217728) (hs : s < 16) : mx_or (mx_shl (P : Int) 4) (s : Int) = ((P * 16 + s : Nat) : Int) := by
  rw [n_shl4 P hP, n_or (P * 16) s (by omega) (by omega)]
  have := Nat.shiftLeft_add_eq_or_of_lt (i := 4) (b := s) (by omega) P
  rw [Nat.shiftLeft_eq] at this
  have p4 : (2 : Nat) ^ 4 = 16 := rfl
  rw [p4] at this
  rw [← this]
theorem n_get (P : Nat) (hP : P < 2147483648) (k : Fin 32) : mx_and (mx_shr (P : Int) (k.val : Int)) 15 = ((P / 2 ^ k.val % 16 : Nat) : Int) := by
  rw [n_shr P hP k]
  have l : P / 2 ^ k.val ≤ P := Nat.div_le_self _ _
  have e := n_and (P / 2 ^ k.val) 15 (by omega) (by decide)
  have c15 : ((15 : Nat) : Int) = 15 := rfl
  rw [c15] at e
  rw [e]
  have m := Nat.and_two_pow_sub_one_eq_mod (P / 2 ^ k.val) 4
  have p4 : (2 : Nat) ^ 4 = 16 := rfl
  rw [p4] at m
  exact congrArg _ m
/-- signs put together -/
def pk (f : Nat → Nat) : Nat → Nat
  | 0 => 0
  | i + 1 => pk f i * 16 + f i
theorem pk_r {f : Nat → Nat} : ∀ z : Nat, (∀ i, i < z → f i < 16) → pk f z < 16 ^ z := by
  intro z
  induction z with
  | zero => intro _; simp [pk]
  | succ z ih =>
    intro h
    have := ih (fun i q => h i (by omega))
    have := h z (by omega)
    simp only [pk]
    rw [Nat.pow_succ]; omega
theorem pk_d {f : Nat → Nat} : ∀ (j z : Nat), (∀ i, i < z + 1 + j → f i < 16) → pk f (z + 1 + j) / 16 ^ j % 16 = f z := by
  intro j
  induction j with
  | zero =>
    intro z h
    have := h z (by omega)
    simp only [Nat.add_zero, Nat.pow_zero, Nat.div_one, pk]; omega
  | succ j ih =>
    intro z h
    have e : pk f (z + 1 + (j + 1)) = pk f (z + 1 + j) * 16 + f (z + 1 + j) := rfl
    have l := h (z + 1 + j) (by omega)
    have q : pk f (z + 1 + (j + 1)) / 16 = pk f (z + 1 + j) := by rw [e]; omega
    rw [Nat.pow_succ, Nat.mul_comm, ← Nat.div_div_eq_div_mul, q]
    exact ih z (fun i hi => h i (by omega))
