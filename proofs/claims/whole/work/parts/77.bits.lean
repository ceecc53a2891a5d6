/-! Sets of numbers as the bits of an int -/
def bt (x : Int) (k : Nat) : Prop := (BitVec.ofInt 32 x).getLsbD k = true
theorem bt_B (v : BitVec 32) : BitVec.ofInt 32 v.toInt = v := BitVec.ofInt_toInt
theorem bt_and {x y : Int} {k : Nat} : bt (mx_and x y) k ↔ bt x k ∧ bt y k := by
  unfold bt mx_and Int32.toInt; rw [bt_B]; simp
theorem bt_or {x y : Int} {k : Nat} : bt (mx_or x y) k ↔ bt x k ∨ bt y k := by
  unfold bt mx_or Int32.toInt; rw [bt_B]; simp
theorem bt_xor {x y : Int} {k : Nat} : bt (mx_xor x y) k ↔ ¬ (bt x k ↔ bt y k) := by
  unfold bt mx_xor Int32.toInt; rw [bt_B]; simp
theorem bt_in_and (x y : Int) : -2147483648 ≤ mx_and x y ∧ mx_and x y ≤ 2147483647 := by
  unfold mx_and Int32.toInt
  have h1 := BitVec.le_toInt (Int32.ofInt x &&& Int32.ofInt y).toBitVec
  have h2 := BitVec.toInt_lt (x := (Int32.ofInt x &&& Int32.ofInt y).toBitVec)
  omega
theorem bt_in_or (x y : Int) : -2147483648 ≤ mx_or x y ∧ mx_or x y ≤ 2147483647 := by
  unfold mx_or Int32.toInt
  have h1 := BitVec.le_toInt (Int32.ofInt x ||| Int32.ofInt y).toBitVec
  have h2 := BitVec.toInt_lt (x := (Int32.ofInt x ||| Int32.ofInt y).toBitVec)
  omega
theorem bt_ext {x y : Int} (h1 : -2147483648 ≤ x) (h2 : x ≤ 2147483647) (h3 : -2147483648 ≤ y) (h4 : y ≤ 2147483647) (e : ∀ k, k < 32 → (bt x k ↔ bt y k)) : x = y := by
  have : BitVec.ofInt 32 x = BitVec.ofInt 32 y := by
    apply BitVec.eq_of_getLsbD_eq
    intro i hi
    have := e i hi
    unfold bt at this
    exact Bool.eq_iff_iff.mpr this
  have h := congrArg BitVec.toInt this
  rw [BitVec.toInt_ofInt, BitVec.toInt_ofInt] at h
  simp only [Int.bmod] at h
  split at h <;> split at h <;> omega
theorem bt_hi {x : Int} {k : Nat} (h : 32 ≤ k) : ¬ bt x k := by
  unfold bt; rw [BitVec.getLsbD_of_ge _ _ h]; simp
theorem bt_0 {k : Nat} : ¬ bt 0 k := by
  unfold bt; simp
theorem bt_m1 {k : Nat} (h : k < 32) : bt (-1) k := by
  unfold bt
  have : BitVec.ofInt 32 (-1) = BitVec.allOnes 32 := by decide
  rw [this, BitVec.getLsbD_allOnes]; simp [h]
theorem bt_shn {b : Int} (h1 : 0 ≤ b) (h2 : b < 32) : ∃ k : Fin 32, b = (k.val : Int) := ⟨⟨b.toNat, by omega⟩, by simp; omega⟩
theorem bt_shl_v : ∀ k : Fin 31, mx_shl 1 k.val = 2 ^ k.val := by decide
theorem bt_1 {b : Int} {k : Nat} (h1 : 0 ≤ b) (h2 : b < 32) : bt (mx_shl 1 b) k ↔ b = k := by
  by_cases hk : k < 32
  · obtain ⟨j, rfl⟩ := bt_shn h1 h2
    have key : ∀ j i : Fin 32, ((BitVec.ofInt 32 (mx_shl 1 j.val)).getLsbD i.val = true ↔ j.val = i.val) := by decide
    have := key j ⟨k, hk⟩
    unfold bt; simp only at this; rw [this]; omega
  · constructor
    · intro h; exact absurd h (bt_hi (by omega))
    · intro h; omega
theorem bt_not {b : Int} {k : Nat} (hk : k < 32) : bt (mx_xor b (-1)) k ↔ ¬ bt b k := by
  rw [bt_xor]; simp [bt_m1 hk]
theorem bt_sh1 (x : Int) (k : Fin 32) : mx_shr x k.val = ((BitVec.ofInt 32 x).sshiftRight k.val).toInt := by
  have key : ∀ k : Fin 32, ((Int32.ofInt k.val &&& 31).toBitVec.smod 32).toNat = k.val := by decide
  unfold mx_shr Int32.toInt
  rw [Int32.toBitVec_shiftRight, BitVec.sshiftRight_eq', key k]; rfl
theorem bt_tst {x b : Int} (h1 : 0 ≤ b) (h2 : b < 32) : mx_and (mx_shr x b) 1 = mx_b (bt x b.toNat) := by
  obtain ⟨k, rfl⟩ := bt_shn h1 h2
  rw [bt_sh1]
  apply bt_ext (bt_in_and _ _).1 (bt_in_and _ _).2
  · by_cases q : bt x (k.val : Int).toNat
    · rw [mx_b_t q]; decide
    · rw [mx_b_f q]; decide
  · by_cases q : bt x (k.val : Int).toNat
    · rw [mx_b_t q]; decide
    · rw [mx_b_f q]; decide
  · intro j hj
    rw [bt_and]
    have e1 : bt 1 j ↔ j = 0 := by
      have : (BitVec.ofInt 32 1) = 1#32 := rfl
      unfold bt; rw [this, BitVec.getLsbD_one]; simp
    by_cases j0 : j = 0
    · subst j0
      have : bt (((BitVec.ofInt 32 x).sshiftRight k.val).toInt) 0 ↔ bt x k.val := by
        unfold bt; rw [bt_B, BitVec.getLsbD_sshiftRight]; simp [k.isLt]
      rw [this]
      simp only [e1, and_true]
      simp only [Int.toNat_natCast]
      by_cases q : bt x k.val
      · rw [mx_b_t q]; simp [e1, q]
      · rw [mx_b_f q]; simp [bt_0, q]
    · have h0 : ¬ bt 1 j := by rw [e1]; exact j0
      by_cases q : bt x (k.val : Int).toNat
      · rw [mx_b_t q]; simp [h0]
      · rw [mx_b_f q]; simp [h0, bt_0]
theorem bt_tst2 {x b : Int} (h1 : 0 ≤ b) (h2 : b < 32) : (mx_and x (mx_shl 1 b) = 0) = ¬ bt x b.toNat := by
  apply propext
  constructor
  · intro h q
    have : bt (mx_and x (mx_shl 1 b)) b.toNat := bt_and.mpr ⟨q, (bt_1 h1 h2).mpr (by omega)⟩
    rw [h] at this; exact bt_0 this
  · intro q
    apply bt_ext (bt_in_and _ _).1 (bt_in_and _ _).2 (by decide) (by decide)
    intro k hk
    rw [bt_and, bt_1 h1 h2]
    constructor
    · rintro ⟨p, e⟩; exfalso; apply q; rw [e]; simpa using p
    · intro p; exact absurd p bt_0
/-- the set of those below n for which p holds -/
noncomputable def bm (p : Nat → Prop) : Nat → Int
  | 0 => 0
  | n + 1 => bm p n + mx_if (p n) (2 ^ n) 0
theorem bm_r (p : Nat → Prop) (n : Nat) : 0 ≤ bm p n ∧ bm p n < 2 ^ n := by
  induction n with
  | zero => exact ⟨Int.le_refl 0, Int.zero_lt_one⟩
  | succ n ih =>
    simp only [bm]
    have : (2 : Int) ^ (n + 1) = 2 ^ n * 2 := Int.pow_succ _ _
    by_cases q : p n
    · rw [mx_if_t q]; omega
    · rw [mx_if_f q]; omega
theorem bm_n (p : Nat → Prop) (n : Nat) : ∃ m : Nat, bm p n = (m : Int) ∧ m < 2 ^ n ∧ ∀ k, (m.testBit k = true ↔ k < n ∧ p k) := by
  induction n with
  | zero => exact ⟨0, rfl, by decide, by intro k; simp⟩
  | succ n ih =>
    obtain ⟨m, e, l, t⟩ := ih
    have e2 : (2 : Nat) ^ (n + 1) = 2 ^ n * 2 := Nat.pow_succ _ _
    by_cases q : p n
    · refine ⟨2 ^ n + m, by simp only [bm]; rw [mx_if_t q, e]; simp; omega, by omega, ?_⟩
      intro k
      rcases Nat.lt_trichotomy k n with h | h | h
      · rw [Nat.testBit_two_pow_add_gt h, t]
        exact ⟨fun ⟨a, b⟩ => ⟨by omega, b⟩, fun ⟨a, b⟩ => ⟨h, b⟩⟩
      · subst h
        rw [Nat.testBit_two_pow_add_eq, Nat.testBit_lt_two_pow l]; simp [q]
      · constructor
        · intro hb; exfalso
          rw [Nat.testBit_lt_two_pow (Nat.lt_of_lt_of_le (by omega : 2 ^ n + m < 2 ^ (n + 1)) (Nat.pow_le_pow_right (by decide) h))] at hb
          exact Bool.noConfusion hb
        · intro hb; omega
    · refine ⟨m, by simp only [bm]; rw [mx_if_f q, e]; simp, by omega, ?_⟩
      intro k
      rw [t]
      constructor
      · rintro ⟨a, b⟩; exact ⟨by omega, b⟩
      · rintro ⟨a, b⟩
        refine ⟨?_, b⟩
        rcases Nat.lt_or_ge k n with h | h
        · exact h
        · have : k = n := by omega
          subst this; exact absurd b q
theorem bm_t {p : Nat → Prop} {n k : Nat} (hn : n ≤ 31) : bt (bm p n) k ↔ k < n ∧ p k := by
  obtain ⟨m, e, l, t⟩ := bm_n p n
  have hl : m < 2 ^ 32 := Nat.lt_of_lt_of_le l (Nat.pow_le_pow_right (by decide) (by omega))
  unfold bt; rw [e, BitVec.ofInt_natCast, BitVec.getLsbD_ofNat, ← t k]
  simp only [Bool.and_eq_true, decide_eq_true_eq, and_iff_right_iff_imp]
  intro h
  have := (t k).mp h
  omega
theorem bm_i {p : Nat → Prop} {n : Nat} (hn : n ≤ 31) : -2147483648 ≤ bm p n ∧ bm p n ≤ 2147483647 := by
  have h := bm_r p n
  have : (2 : Int) ^ n ≤ 2147483648 := by
    have h2 : (2 : Nat) ^ n ≤ 2 ^ 31 := Nat.pow_le_pow_right (by decide) hn
    have h3 : ((2 ^ n : Nat) : Int) = (2 : Int) ^ n := by simp
    omega
  omega
theorem bm_x {x : Int} {p : Nat → Prop} {n : Nat} (hn : n ≤ 31) (h1 : -2147483648 ≤ x) (h2 : x ≤ 2147483647) (e : ∀ k, k < 32 → (bt x k ↔ k < n ∧ p k)) : x = bm p n :=
  bt_ext h1 h2 (bm_i hn).1 (bm_i hn).2 (fun k hk => by rw [e k hk, bm_t hn])
theorem bm_c {p q : Nat → Prop} {n : Nat} (e : ∀ k, k < n → (p k ↔ q k)) : bm p n = bm q n := by
  induction n with
  | zero => rfl
  | succ n ih =>
    simp only [bm]; rw [ih (fun k hk => e k (by omega)), propext (e n (by omega))]
theorem bm_0 {n : Nat} : bm (fun _ => False) n = 0 := by
  induction n with
  | zero => rfl
  | succ n ih => simp only [bm]; rw [ih, mx_if_f id]; rfl
theorem bm_or {p : Nat → Prop} {n : Nat} {b : Int} (hn : n ≤ 31) (h1 : 0 ≤ b) (h2 : b < n) : mx_or (bm p n) (mx_shl 1 b) = bm (fun k => p k ∨ b = k) n := by
  apply bm_x hn (bt_in_or _ _).1 (bt_in_or _ _).2
  intro k hk
  rw [bt_or, bm_t hn, bt_1 h1 (by omega)]
  constructor
  · rintro (⟨a, b⟩ | a)
    · exact ⟨a, Or.inl b⟩
    · exact ⟨by omega, Or.inr a⟩
  · rintro ⟨a, b | b⟩
    · exact Or.inl ⟨a, b⟩
    · exact Or.inr b
theorem bm_or0 {p : Nat → Prop} {n : Nat} (hn : n ≤ 31) : mx_or (bm p n) 0 = bm p n := by
  apply bm_x hn (bt_in_or _ _).1 (bt_in_or _ _).2
  intro k hk
  rw [bt_or, bm_t hn]; simp [bt_0]
theorem bm_bm {p q : Nat → Prop} {n : Nat} (hn : n ≤ 31) : mx_or (bm p n) (bm q n) = bm (fun k => p k ∨ q k) n := by
  apply bm_x hn (bt_in_or _ _).1 (bt_in_or _ _).2
  intro k hk
  rw [bt_or, bm_t hn, bm_t hn, and_or_left]
theorem bm_and {p q : Nat → Prop} {n : Nat} (hn : n ≤ 31) : mx_and (bm p n) (bm q n) = bm (fun k => p k ∧ q k) n := by
  apply bm_x hn (bt_in_and _ _).1 (bt_in_and _ _).2
  intro k hk
  rw [bt_and, bm_t hn, bm_t hn]
  constructor
  · rintro ⟨⟨a, b⟩, _, c⟩; exact ⟨a, b, c⟩
  · rintro ⟨a, b, c⟩; exact ⟨⟨a, b⟩, a, c⟩
theorem bm_tst {p : Nat → Prop} {n : Nat} {b : Int} (hn : n ≤ 31) (h1 : 0 ≤ b) (h2 : b < 32) : mx_and (mx_shr (bm p n) b) 1 = mx_b (b < n ∧ p b.toNat) := by
  rw [bt_tst h1 h2, propext (bm_t hn)]
  apply mx_b_i
  constructor
  · rintro ⟨a, b⟩; exact ⟨by omega, b⟩
  · rintro ⟨a, b⟩; exact ⟨by omega, b⟩
theorem bm_e0 {p : Nat → Prop} {n : Nat} (hn : n ≤ 31) : (bm p n = 0) = ∀ k, k < n → ¬ p k := by
  apply propext
  constructor
  · intro h k hk q
    have := (bm_t hn).mpr ⟨hk, q⟩
    rw [h] at this; exact bt_0 this
  · intro h
    rw [← bm_0 (n := n)]
    exact bm_c (fun k hk => ⟨fun q => h k hk q, False.elim⟩)
/-- those from lo up to b (without it) for which P holds -/
noncomputable def bz (lo b : Int) (P : Int → Prop) : Int := bm (fun k => lo ≤ (k : Int) ∧ (k : Int) < b ∧ P k) 17
theorem bz_t {lo b : Int} {P : Int → Prop} (h0 : 0 ≤ b) (h1 : lo ≤ b) (h2 : b < 17) (q : P b) : mx_or (bz lo b P) (mx_shl 1 b) = bz lo (b + 1) P := by
  unfold bz; rw [bm_or (by decide) h0 (by simpa using h2)]
  apply bm_c
  intro k hk
  constructor
  · rintro (⟨a, c, e⟩ | r)
    · exact ⟨a, by omega, e⟩
    · exact ⟨by omega, by omega, by rw [← r]; exact q⟩
  · rintro ⟨a, c, e⟩
    by_cases r : b = k
    · exact Or.inr r
    · exact Or.inl ⟨a, by omega, e⟩
theorem bz_f {lo b : Int} {P : Int → Prop} (q : ¬ P b) : bz lo b P = bz lo (b + 1) P := by
  unfold bz
  apply bm_c
  intro k hk
  constructor
  · rintro ⟨a, c, e⟩; exact ⟨a, by omega, e⟩
  · rintro ⟨a, c, e⟩
    by_cases r : b = k
    · rw [← r] at e; exact absurd e q
    · exact ⟨a, by omega, e⟩
theorem bz_f0 {lo b : Int} {P : Int → Prop} (q : ¬ P b) : mx_or (bz lo b P) 0 = bz lo (b + 1) P := by
  rw [← bz_f q]; unfold bz; exact bm_or0 (by decide)
theorem bz_0 {lo b : Int} {P : Int → Prop} (q : b ≤ lo) : bz lo b P = 0 := by
  unfold bz; rw [bm_e0 (by decide)]; intro k _ h; omega
