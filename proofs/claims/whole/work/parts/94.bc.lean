/-! How many bits: Integer.bitCount -/
noncomputable def bc1 (x : Nat) : Nat := Nat.sub x (Nat.land (Nat.shiftRight x 1) 1431655765)
noncomputable def bc2 (y : Nat) : Nat := Nat.add (Nat.land y 858993459) (Nat.land (Nat.shiftRight y 2) 858993459)
noncomputable def bc3 (z : Nat) : Nat := Nat.land (Nat.add z (Nat.shiftRight z 4)) 252645135
noncomputable def bc4 (w : Nat) : Nat := Nat.add w (Nat.shiftRight w 8)
noncomputable def bc5 (v : Nat) : Nat := Nat.land (Nat.add v (Nat.shiftRight v 16)) 63
noncomputable def bcA (x : Nat) : Nat := bc5 (bc4 (bc3 (bc2 (bc1 x))))
noncomputable def bcC (k : Nat) : Nat → Nat → Nat → Bool := Nat.rec (fun b p _ => Nat.beq (bcA b) p) (fun k ih b p w => Bool.rec false (ih (Nat.add b w) (Nat.succ p) (Nat.mul w 2)) (ih b p (Nat.mul w 2))) k
theorem bc_15 : bcC 15 0 0 4 = true := by decide +kernel
theorem bc_6 : bcC 6 0 0 1 = true := by decide +kernel
noncomputable def bq (c : Prop) : Nat := (mx_b c).toNat
noncomputable def vq : Nat → (Nat → Prop) → Nat
  | 0, _ => 0
  | k + 1, q => bq (q 0) + 2 * vq k (fun i => q (i + 1))
noncomputable def cq : Nat → (Nat → Prop) → Nat
  | 0, _ => 0
  | k + 1, q => bq (q 0) + cq k (fun i => q (i + 1))
theorem bc_s : ∀ (k : Nat) (q : Nat → Prop) (b p w : Nat), bcC k b p w = true → bcA (b + w * vq k q) = p + cq k q := by
  intro k
  induction k with
  | zero =>
    intro q b p w h
    have h : Nat.beq (bcA b) p = true := h
    have := Nat.eq_of_beq_eq_true h
    simp only [vq, cq]; rw [Nat.mul_zero]; exact this
  | succ k ih =>
    intro q b p w h
    have h : (Bool.rec false (bcC k (Nat.add b w) (Nat.succ p) (Nat.mul w 2)) (bcC k b p (Nat.mul w 2)) : Bool) = true := h
    have h1 : bcC k b p (Nat.mul w 2) = true := by
      cases e : bcC k b p (Nat.mul w 2) with
      | true => rfl
      | false => rw [e] at h; exact h
    have h2 : bcC k (Nat.add b w) (Nat.succ p) (Nat.mul w 2) = true := by rw [h1] at h; exact h
    have e0 : (Nat.mul w 2) = w * 2 := rfl
    have e1 : Nat.add b w = b + w := rfl
    have e2 : Nat.succ p = p + 1 := rfl
    rw [e0] at h1 h2
    rw [e1, e2] at h2
    simp only [vq, cq]
    by_cases c : q 0
    · have := ih (fun i => q (i + 1)) _ _ _ h2
      have eq : bq (q 0) = 1 := by unfold bq; rw [mx_b_t c]; rfl
      rw [eq, Nat.mul_add, ← Nat.mul_assoc, Nat.mul_one, ← Nat.add_assoc, this]; omega
    · have := ih (fun i => q (i + 1)) _ _ _ h1
      have eq : bq (q 0) = 0 := by unfold bq; rw [mx_b_f c]; rfl
      rw [eq, Nat.zero_add, Nat.zero_add, ← Nat.mul_assoc, this]
theorem bq_i (c : Prop) : ((bq c : Nat) : Int) = mx_b c := by
  unfold bq; have := mx_b_rr c; omega
theorem mi_b (c : Prop) (v : Int) : mx_if c v 0 = v * mx_b c := by
  by_cases q : c
  · rw [mx_if_t q, mx_b_t q]; omega
  · rw [mx_if_f q, mx_b_f q]; omega
/-- how many from 2 on, below k + 2 -/
noncomputable def kc (P : Int → Prop) : Nat → Int
  | 0 => 0
  | k + 1 => kc P k + mx_b (P (k + 2))
theorem kc_r {P : Int → Prop} : ∀ k, 0 ≤ kc P k ∧ kc P k ≤ k := by
  intro k
  induction k with
  | zero => exact ⟨Int.le_refl 0, Int.le_refl 0⟩
  | succ k ih => have := mx_b_rr (P (k + 2)); simp only [kc]; omega
theorem bc_bz {P : Int → Prop} : ∃ m : Nat, bz 2 17 P = (m : Int) ∧ m < 131072 ∧ ((bcA m : Nat) : Int) = kc P 15 := by
  let q : Nat → Prop := fun k => P (k + 2)
  have e : bz 2 17 P = ((4 * vq 15 q : Nat) : Int) := by
    have z : ∀ k : Nat, k < 17 → ((2 ≤ (k : Int) ∧ (k : Int) < 17 ∧ P k) = (2 ≤ k ∧ P k)) := fun k hk => propext ⟨fun a => ⟨by omega, a.2.2⟩, fun a => ⟨by omega, by omega, a.2⟩⟩
    unfold bz
    simp only [bm, mi_b, vq, q]
    simp (disch := decide) only [z]
    simp only [Int.natCast_add, Int.natCast_mul, bq_i]
    have f0 : ∀ p, mx_b (2 ≤ 0 ∧ p) = 0 := fun p => mx_b_f (by omega)
    have f1 : ∀ p, mx_b (2 ≤ 1 ∧ p) = 0 := fun p => mx_b_f (by omega)
    have ft : ∀ (k : Nat) p, 2 ≤ k → mx_b (2 ≤ k ∧ p) = mx_b p := fun k p h => mx_b_i ⟨fun a => a.2, fun a => ⟨h, a⟩⟩
    rw [f0, f1]
    simp (disch := decide) only [ft]
    simp only [Int.reduceAdd, Nat.reduceAdd, Int.cast_ofNat_Int, Int.reducePow]
    omega
  have c : ((cq 15 q : Nat) : Int) = kc P 15 := by
    simp only [cq, kc, q, Int.natCast_add, bq_i]
    simp only [Int.reduceAdd, Nat.reduceAdd, Int.cast_ofNat_Int]
    omega
  have r := bm_r (fun k => 2 ≤ (k : Int) ∧ (k : Int) < 17 ∧ P k) 17
  have r : 0 ≤ bz 2 17 P ∧ bz 2 17 P < 2 ^ 17 := r
  refine ⟨4 * vq 15 q, e, by rw [e] at r; have : (2 : Int) ^ 17 = 131072 := by decide
                             omega, ?_⟩
  have := bc_s 15 q 0 0 4 bc_15
  rw [Nat.zero_add, Nat.zero_add] at this
  rw [this, c]
theorem nl_and {a : Nat} (h : a < 2147483648) {c : Nat} (hc : c < 2147483648) : mx_and (a : Int) (c : Int) = ((Nat.land a c : Nat) : Int) := by
  have e : Nat.land a c = a &&& c := rfl
  have l : a &&& c ≤ a := Nat.and_le_left
  unfold mx_and Int32.toInt
  rw [Int32.toBitVec_and]
  have ea : (Int32.ofInt (a : Int)).toBitVec = BitVec.ofNat 32 a := by
    show BitVec.ofInt 32 (a : Int) = _
    rw [BitVec.ofInt_natCast]
  have ec : (Int32.ofInt (c : Int)).toBitVec = BitVec.ofNat 32 c := by
    show BitVec.ofInt 32 (c : Int) = _
    rw [BitVec.ofInt_natCast]
  rw [ea, ec, BitVec.toInt_eq_toNat_of_lt, BitVec.toNat_and, BitVec.toNat_ofNat, BitVec.toNat_ofNat, Nat.mod_eq_of_lt (by omega), Nat.mod_eq_of_lt (by omega), e]
  rw [BitVec.toNat_and, BitVec.toNat_ofNat, BitVec.toNat_ofNat, Nat.mod_eq_of_lt (by omega), Nat.mod_eq_of_lt (by omega)]
  omega
theorem nl_ush {a : Nat} (h : a < 2147483648) {c : Nat} (hc : c < 32) : mx_ush (a : Int) (c : Int) = ((Nat.shiftRight a c : Nat) : Int) := by
  have e : Nat.shiftRight a c = a >>> c := rfl
  have l : a >>> c ≤ a := Nat.shiftRight_le a c
  have key : ∀ k : Fin 32, (((Int32.ofInt (k.val : Int)).toUInt32 &&& Int32.toUInt32 31).toBitVec % 32).toNat = k.val := by decide
  have kc := key ⟨c, hc⟩
  simp only at kc
  unfold mx_ush Int32.toInt
  show BitVec.toInt (((Int32.ofInt (a : Int)).toUInt32 >>> _).toBitVec) = _
  rw [UInt32.toBitVec_shiftRight]
  have ea : ((Int32.ofInt (a : Int)).toUInt32).toBitVec = BitVec.ofNat 32 a := by
    show BitVec.ofInt 32 (a : Int) = _
    rw [BitVec.ofInt_natCast]
  have es : ((Int32.ofInt (a : Int)).toUInt32.toBitVec >>> (((Int32.ofInt (c : Int)).toUInt32 &&& Int32.toUInt32 31).toBitVec % 32)).toNat = a >>> c := by
    rw [BitVec.ushiftRight_eq', BitVec.toNat_ushiftRight, kc, ea, BitVec.toNat_ofNat, Nat.mod_eq_of_lt (by omega)]
  rw [BitVec.toInt_eq_toNat_of_lt, es, e]
  rw [es]; omega
section
variable {d : Nat} {S h : mx_H} {n : Int}
theorem bs_1 {m : Nat} (hm : m < 131072) : mx_w ((m : Int) - mx_and (mx_ush (m : Int) 1) 1431655765) = ((bc1 m : Nat) : Int) ∧ bc1 m ≤ m := by
  have e1 : mx_ush (m : Int) 1 = ((Nat.shiftRight m 1 : Nat) : Int) := nl_ush (c := 1) (by omega) (by decide)
  have l1 : Nat.shiftRight m 1 ≤ m := Nat.shiftRight_le m 1
  rw [e1]
  have d : bc1 m = m - Nat.land (Nat.shiftRight m 1) 1431655765 := rfl
  generalize Nat.shiftRight m 1 = s at *
  have e2 : mx_and (s : Int) 1431655765 = ((Nat.land s 1431655765 : Nat) : Int) := nl_and (c := 1431655765) (by omega) (by decide)
  have l2 : Nat.land s 1431655765 ≤ s := Nat.and_le_left
  rw [e2]
  generalize Nat.land s 1431655765 = t at *
  generalize bc1 m = b at *
  rw [mx_w_id (by omega) (by omega)]; omega
theorem bs_2 {m : Nat} (hm : m < 131072) : mx_w (mx_and (m : Int) 858993459 + mx_and (mx_ush (m : Int) 2) 858993459) = ((bc2 m : Nat) : Int) ∧ bc2 m ≤ m + m := by
  have e1 : mx_ush (m : Int) 2 = ((Nat.shiftRight m 2 : Nat) : Int) := nl_ush (c := 2) (by omega) (by decide)
  have l1 : Nat.shiftRight m 2 ≤ m := Nat.shiftRight_le m 2
  have e3 : mx_and (m : Int) 858993459 = ((Nat.land m 858993459 : Nat) : Int) := nl_and (c := 858993459) (by omega) (by decide)
  have l3 : Nat.land m 858993459 ≤ m := Nat.and_le_left
  rw [e1, e3]
  have d : bc2 m = Nat.land m 858993459 + Nat.land (Nat.shiftRight m 2) 858993459 := rfl
  generalize Nat.shiftRight m 2 = s at *
  have e2 : mx_and (s : Int) 858993459 = ((Nat.land s 858993459 : Nat) : Int) := nl_and (c := 858993459) (by omega) (by decide)
  have l2 : Nat.land s 858993459 ≤ s := Nat.and_le_left
  rw [e2]
  generalize Nat.land s 858993459 = t at *
  generalize Nat.land m 858993459 = u at *
  generalize bc2 m = b at *
  rw [mx_w_id (by omega) (by omega)]; omega
theorem bs_a {m c : Nat} (hm : m < 1048576) (hc : c < 32) : mx_w ((m : Int) + mx_ush (m : Int) c) = ((m + Nat.shiftRight m c : Nat) : Int) ∧ m + Nat.shiftRight m c ≤ m + m := by
  have e1 : mx_ush (m : Int) c = ((Nat.shiftRight m c : Nat) : Int) := nl_ush (by omega) hc
  have l1 : Nat.shiftRight m c ≤ m := Nat.shiftRight_le m c
  rw [e1]
  generalize Nat.shiftRight m c = s at *
  rw [mx_w_id (by omega) (by omega)]; omega
theorem bs_l {m c : Nat} (hm : m < 2147483648) (hc : c < 2147483648) : mx_and (m : Int) c = ((Nat.land m c : Nat) : Int) ∧ Nat.land m c ≤ m := ⟨nl_and hm hc, Nat.and_le_left⟩
theorem c_bcN {m : Nat} (hm : m < 131072) : mx_M d 248 [(0, (m : Int))] S h n = some (some (0, ((bcA m : Nat) : Int)), S, h, n) := by
  obtain ⟨y1, z1⟩ := bs_1 hm
  have fin : bcA m = bc5 (bc4 (bc3 (bc2 (bc1 m)))) := rfl
  generalize bc1 m = b at *
  obtain ⟨y2, z2⟩ := bs_2 (m := b) (by omega)
  generalize bc2 b = c at *
  obtain ⟨y3, z3⟩ := bs_a (m := c) (c := 4) (by omega) (by decide)
  have d3 : bc3 c = Nat.land (c + Nat.shiftRight c 4) 252645135 := rfl
  generalize c + Nat.shiftRight c 4 = e at *
  obtain ⟨y4, z4⟩ := bs_l (m := e) (c := 252645135) (by omega) (by decide)
  rw [← d3] at y4 z4
  generalize bc3 c = f at *
  obtain ⟨y5, z5⟩ := bs_a (m := f) (c := 8) (by omega) (by decide)
  have d5 : bc4 f = f + Nat.shiftRight f 8 := rfl
  rw [← d5] at y5 z5
  generalize bc4 f = g at *
  obtain ⟨y6, z6⟩ := bs_a (m := g) (c := 16) (by omega) (by decide)
  have d6 : bc5 g = Nat.land (g + Nat.shiftRight g 16) 63 := rfl
  generalize g + Nat.shiftRight g 16 = k at *
  obtain ⟨y7, z7⟩ := bs_l (m := k) (c := 63) (by omega) (by decide)
  rw [← d6, ← fin] at y7
  have y3 : mx_w ((c : Int) + mx_ush (c : Int) 4) = (e : Int) := y3
  have y4 : mx_and (e : Int) 252645135 = (f : Int) := y4
  have y5 : mx_w ((f : Int) + mx_ush (f : Int) 8) = (g : Int) := y5
  have y6 : mx_w ((g : Int) + mx_ush (g : Int) 16) = (k : Int) := y6
  have y7 : mx_and (k : Int) 63 = ((bcA m : Nat) : Int) := y7
  simp only [rw_J6_bitCount_0f7a4, y1, y2, y3, y4, y5, y6, y7]
theorem c_bc {P : Int → Prop} : mx_M d 248 [(0, bz 2 17 P)] S h n = some (some (0, kc P 15), S, h, n) := by
  obtain ⟨m, e, l, k⟩ := bc_bz (P := P)
  rw [e, c_bcN l, k]
end
