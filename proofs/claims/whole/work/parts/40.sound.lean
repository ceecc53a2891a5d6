/-! What the pure machine's state says of the heap and of the frame -/
def so_c32 (x : Int) : Prop := -2147483648 ≤ x ∧ x ≤ 2147483647
def so_c64 (x : Int) : Prop := -9223372036854775808 ≤ x ∧ x ≤ 9223372036854775807
def so_ad (B : Nat) (ga : Int → Nat) (a : Int) : Nat := if 0 ≤ a then B + a.toNat else ga a
def so_r (B : Nat) (ga : Int → Nat) (a : Int) : Option Nat := if a = -1 then none else some (so_ad B ga a)
/-- the value: an int, a long, a reference; 3: a reference of which nothing is known -/
def so_v (B : Nat) (ga : Int → Nat) (gq : Value) : mx_V → Value
  | (0, x) => .int (Int32.ofInt x)
  | (1, x) => .long (Int64.ofInt x)
  | (2, x) => va_rf (so_r B ga x)
  | _ => gq
def so_k (v : mx_V) : Prop := (v.1 = 0 → so_c32 v.2) ∧ (v.1 = 1 → so_c64 v.2) ∧ v.1 ≤ 3
/-- the number of a class in vwCl, by its tag -/
def so_ci (t : Int) : Nat := if t = 1 then 4 else if t = 2 then 6 else if t = 3 then 0 else if t = 4 then 3 else if t = 5 then 9 else if t = 6 then 1 else if t = 7 then 11 else if t = 8 then 10 else if t = 9 then 2 else if t = 10 then 7 else if t = 11 then 8 else if t = 12 then 5 else 12
/-- by its number: how many fields, and which hold references -/
def so_fr (c : Nat) : List Bool := match c with
  | 0 | 1 | 3 | 4 | 6 | 9 => [false, false, true, false]
  | 2 => [true, true, false, false, false, true, true, true, true, true, true, true, true, false, false, false]
  | 5 => [false, true]
  | 7 => [true, false, true, true, false, false, false, false]
  | 8 => [true, false, false]
  | 10 => [true, true, true, false, false, false, true]
  | 11 => [true, false, true, true, true, false, false, false, true, true, false, true, true, true, true, true, true]
  | 12 => [true, true, true, false, true, false, false, false, false, false, false, true, true, true, true, false, true, true, true, true, true, true, false, false, false]
  | _ => []
def so_fs (B : Nat) (ga : Int → Nat) (S h : mx_H) (a : Int) (c : Nat) : List Value := (so_fr c).mapIdx (fun k r => bif r then va_rf (so_r B ga (S a k)) else .int (Int32.ofInt (h a k)))
def so_E (B : Nat) (ga : Int → Nat) (K : Nat → ClassId) (S h : mx_H) (a : Int) : va_E :=
  if 1 ≤ S a (-2) ∧ S a (-2) ≤ 13 then .inr (so_ci (S a (-2)), so_fs B ga S h a (so_ci (S a (-2))))
  else if S a (-2) = 20 then .inl (K 0, (S a (-1)).toNat, .inl fun j => Int32.ofInt (h a j))
  else if S a (-2) = 21 then .inl (K 1, (S a (-1)).toNat, .inr (.inl fun j => Int64.ofInt (h a j)))
  else if S a (-2) = 22 then .inl (K 2, (S a (-1)).toNat, .inr (.inr (.inr (.inr fun j => so_r B ga (S a j)))))
  else if S a (-2) = 23 then .inl (K 3, (S a (-1)).toNat, .inr (.inr (.inr (.inr fun j => so_r B ga (S a j)))))
  else .inr (99, [])
def so_ws (B : Nat) (ga : Int → Nat) (K : Nat → ClassId) (S h : mx_H) (n : Int) : va_W := (List.range n.toNat).map fun i => (B + i, so_E B ga K S h (i : Int))
abbrev so_ty (K : Nat → ClassId) : List (ClassId × FieldType) := [(K 0, .int), (K 1, .long), (K 2, .object "RoomNumbers$Note"), (K 3, .object "RoomNumbers$SheetRow")]
/-- the heap, as the machine's state says -/
def so_I (B : Nat) (ga : Int → Nat) (D : va_G) (K : Nat → ClassId) (gS gh : mx_H) (s : State) (S h : mx_H) (n : Int) (H : Heap) (locs : List Loc) : Prop :=
  0 ≤ n ∧ H.size = B + n.toNat ∧ va_P D vwCl (so_ws B ga K S h n) H ∧ va_S (fun q => B ≤ q) s.heap H locs ∧
  (∀ a, a < 0 → S a = gS a ∧ h a = gh a) ∧ (∀ a k, so_c64 (h a k)) ∧ (∀ a k, S a (-2) ≠ 21 → so_c32 (h a k)) ∧ (∀ a, n ≤ a → S a (-2) = 0) ∧ (∀ a, 20 ≤ S a (-2) → 0 ≤ S a (-1) ∧ S a (-1) ≤ 3072)
/-- the locals -/
def so_L (B : Nat) (ga : Int → Nat) (gq : Value) (L : mx_L) (ls : Array Slot) : Prop := ls.size = L.length ∧ lv_wf ls ∧ ∀ (i : Nat) (v : mx_V), L[i]? = some (some v) → ls[i]? = some (.val (so_v B ga gq v)) ∧ so_k v
/-- the operand stack -/
def so_T (st : List mx_V) : Prop := ∀ v ∈ st, so_k v
theorem so_i32 {x : Int} (h : so_c32 x) : (Int32.ofInt x).toInt = x := by
  unfold so_c32 at h
  rw [Int32.toInt_ofInt]
  show Int.bmod x 4294967296 = x
  simp only [Int.bmod]; split <;> omega
theorem so_i64 {x : Int} (h : so_c64 x) : (Int64.ofInt x).toInt = x := by
  unfold so_c64 at h
  rw [Int64.toInt_ofInt]
  show Int.bmod x 18446744073709551616 = x
  simp only [Int.bmod]; split <;> omega
theorem so_t32 (i : Int32) : so_c32 i.toInt := ⟨by have := Int32.le_toInt i; omega, by have := Int32.toInt_lt i; omega⟩
theorem so_t64 (i : Int64) : so_c64 i.toInt := ⟨by have := Int64.le_toInt i; omega, by have := Int64.toInt_lt i; omega⟩
theorem so_w32 (x : Int) : so_c32 (mx_w x) := by
  unfold so_c32 mx_w; simp only [Int.bmod]; split <;> omega
theorem so_w64 (x : Int) : so_c64 (mx_l x) := by
  unfold so_c64 mx_l; simp only [Int.bmod]; split <;> omega
theorem so_c6432 {x : Int} (h : so_c32 x) : so_c64 x := by unfold so_c32 at h; unfold so_c64; omega
theorem so_ow (x : Int) : Int32.ofInt (mx_w x) = Int32.ofInt x := by
  apply Int32.toInt.inj; rw [so_i32 (so_w32 x), Int32.toInt_ofInt]; rfl
theorem so_ol (x : Int) : Int64.ofInt (mx_l x) = Int64.ofInt x := by
  apply Int64.toInt.inj; rw [so_i64 (so_w64 x), Int64.toInt_ofInt]; rfl
theorem so_eq32 {x y : Int} (hx : so_c32 x) (hy : so_c32 y) : Int32.ofInt x = Int32.ofInt y ↔ x = y := by
  constructor
  · intro e; have := congrArg Int32.toInt e; rwa [so_i32 hx, so_i32 hy] at this
  · rintro rfl; rfl
theorem so_lt32 {x y : Int} (hx : so_c32 x) (hy : so_c32 y) : Int32.ofInt x < Int32.ofInt y ↔ x < y := by
  rw [Int32.lt_iff_toInt_lt, so_i32 hx, so_i32 hy]
theorem so_le32 {x y : Int} (hx : so_c32 x) (hy : so_c32 y) : Int32.ofInt x ≤ Int32.ofInt y ↔ x ≤ y := by
  rw [Int32.le_iff_toInt_le, so_i32 hx, so_i32 hy]
theorem so_z32 : Int32.ofInt 0 = 0 := rfl
theorem so_nn {i : Int} (h0 : 0 ≤ i) (h1 : i ≤ 2147483647) : (Int32.ofInt i).toNatClampNeg = i.toNat := by
  show (Int32.ofInt i).toInt.toNat = i.toNat
  rw [so_i32 ⟨by omega, h1⟩]
theorem so_in {i n : Int} (h0 : 0 ≤ i) (h1 : i < n) (h2 : n ≤ 3072) : vp_in (Int32.ofInt i) n.toNat := by
  rintro (q | q)
  · rw [← so_z32, so_lt32 ⟨by omega, by omega⟩ ⟨by omega, by omega⟩] at q; omega
  · rw [so_nn h0 (by omega)] at q; omega
/-- a place of the own cells -/
theorem so_at {B : Nat} {ga : Int → Nat} {K : Nat → ClassId} {S h : mx_H} {n a : Int} (h0 : 0 ≤ a) (h1 : a < n) : (so_ws B ga K S h n)[a.toNat]? = some (so_ad B ga a, so_E B ga K S h a) := by
  unfold so_ws so_ad
  have hl : a.toNat < n.toNat := by omega
  rw [List.getElem?_map, List.getElem?_range hl]
  simp only [Option.map_some, if_pos h0]
  have : ((a.toNat : Nat) : Int) = a := by omega
  rw [this]
theorem so_wl {B : Nat} {ga : Int → Nat} {K : Nat → ClassId} {S h : mx_H} {n : Int} : (so_ws B ga K S h n).length = n.toNat := by simp [so_ws]
theorem so_wd {B : Nat} {ga : Int → Nat} {K : Nat → ClassId} {S h : mx_H} {n : Int} : va_D (fun q => B ≤ q) (so_ws B ga K S h n) := by
  refine ⟨fun i j p q hi hj e => ?_, fun k q hk => ?_⟩
  · unfold so_ws at hi hj
    rw [List.getElem?_map] at hi hj
    cases h1 : (List.range n.toNat)[i]? with
    | none => rw [h1] at hi; cases hi
    | some x =>
      cases h2 : (List.range n.toNat)[j]? with
      | none => rw [h2] at hj; cases hj
      | some y =>
        rw [h1] at hi; rw [h2] at hj
        simp only [Option.map_some, Option.some.injEq] at hi hj
        subst hi; subst hj
        obtain ⟨a1, a2⟩ := List.getElem?_eq_some_iff.mp h1
        obtain ⟨b1, b2⟩ := List.getElem?_eq_some_iff.mp h2
        simp only [List.getElem_range] at a2 b2
        simp only at e
        omega
  · unfold so_ws at hk
    rw [List.getElem?_map] at hk
    cases h1 : (List.range n.toNat)[k]? with
    | none => rw [h1] at hk; cases hk
    | some x =>
      rw [h1] at hk
      simp only [Option.map_some, Option.some.injEq] at hk
      subst hk
      exact Nat.le_add_right _ _
/-- one cell is another: the list of cells with that place set -/
theorem so_set {B : Nat} {ga : Int → Nat} {K : Nat → ClassId} {S h S' h' : mx_H} {n a : Int} (h0 : 0 ≤ a) (h1 : a < n) (e : va_E) (he : so_E B ga K S' h' a = e) (ho : ∀ b : Int, b ≠ a → so_E B ga K S' h' b = so_E B ga K S h b) : (so_ws B ga K S h n).set a.toNat (so_ad B ga a, e) = so_ws B ga K S' h' n := by
  apply List.ext_getElem?
  intro i
  by_cases hi : i < n.toNat
  · by_cases q : i = a.toNat
    · subst q
      rw [so_at h0 h1, he, List.getElem?_set_self (by rw [so_wl]; exact hi)]
    · rw [List.getElem?_set_ne (fun z => q z.symm)]
      have e1 := so_at (B := B) (ga := ga) (K := K) (S := S) (h := h) (n := n) (a := (i : Int)) (by omega) (by omega)
      have e2 := so_at (B := B) (ga := ga) (K := K) (S := S') (h := h') (n := n) (a := (i : Int)) (by omega) (by omega)
      have e3 : ((i : Int)).toNat = i := by omega
      rw [e3] at e1 e2
      rw [e1, e2, ho _ (by omega)]
  · rw [List.getElem?_eq_none (by rw [List.length_set, so_wl]; omega), List.getElem?_eq_none (by rw [so_wl]; omega)]
/-- a new cell -/
theorem so_app {B : Nat} {ga : Int → Nat} {K : Nat → ClassId} {S h S' h' : mx_H} {n : Int} (h0 : 0 ≤ n) (e : va_E) (he : so_E B ga K S' h' n = e) (ho : ∀ b : Int, b ≠ n → so_E B ga K S' h' b = so_E B ga K S h b) : so_ws B ga K S h n ++ [(B + n.toNat, e)] = so_ws B ga K S' h' (n + 1) := by
  apply List.ext_getElem?
  intro i
  have hn1 : (n + 1).toNat = n.toNat + 1 := by omega
  by_cases hi : i < n.toNat
  · rw [List.getElem?_append_left (by rw [so_wl]; exact hi)]
    have e1 := so_at (B := B) (ga := ga) (K := K) (S := S) (h := h) (n := n) (a := (i : Int)) (by omega) (by omega)
    have e2 := so_at (B := B) (ga := ga) (K := K) (S := S') (h := h') (n := n + 1) (a := (i : Int)) (by omega) (by omega)
    have e3 : ((i : Int)).toNat = i := by omega
    rw [e3] at e1 e2
    rw [e1, e2, ho _ (by omega)]
  · by_cases q : i = n.toNat
    · subst q
      rw [List.getElem?_append_right (by rw [so_wl]; exact Nat.le_refl _), so_wl, Nat.sub_self]
      have e2 := so_at (B := B) (ga := ga) (K := K) (S := S') (h := h') (n := n + 1) (a := n) h0 (by omega)
      rw [e2, he]
      unfold so_ad
      rw [if_pos h0]; rfl
    · rw [List.getElem?_eq_none (by rw [List.length_append, so_wl]; simp; omega), List.getElem?_eq_none (by rw [so_wl]; omega)]
theorem so_Ec {B : Nat} {ga : Int → Nat} {K : Nat → ClassId} {S h S' h' : mx_H} {b : Int} (hS : S' b = S b) (hh : h' b = h b) : so_E B ga K S' h' b = so_E B ga K S h b := by
  unfold so_E so_fs; rw [hS, hh]
