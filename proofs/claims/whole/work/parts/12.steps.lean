/-! The step of each instruction -/
def mx_no : mx_S := fun _ _ _ _ _ => none
def mx_nx (pc : Nat) (L : mx_L) (st : List mx_V) (S h : mx_H) (n : Int) : mx_O := some (.inl (pc, L, st, S, h, n))
def mx_add (a b : Int) : Int := mx_w (a + b)
def mx_sub (a b : Int) : Int := mx_w (a - b)
def mx_mul (a b : Int) : Int := mx_w (a * b)
def mx_div (a b : Int) : Int := mx_w (Int.tdiv a b)
def mx_rem (a b : Int) : Int := Int.tmod a b
def mx_and (a b : Int) : Int := (Int32.ofInt a &&& Int32.ofInt b).toInt
def mx_or (a b : Int) : Int := (Int32.ofInt a ||| Int32.ofInt b).toInt
def mx_xor (a b : Int) : Int := (Int32.ofInt a ^^^ Int32.ofInt b).toInt
def mx_shl (a b : Int) : Int := (Int32.ofInt a <<< (Int32.ofInt b &&& 31)).toInt
def mx_shr (a b : Int) : Int := (Int32.ofInt a >>> (Int32.ofInt b &&& 31)).toInt
def mx_ush (a b : Int) : Int := ((Int32.ofInt a).toUInt32 >>> ((Int32.ofInt b).toUInt32 &&& Int32.toUInt32 31)).toInt32.toInt
def mx_neg (a : Int) : Int := mx_w (-a)
def mx_i2b (a : Int) : Int := (Int32.ofInt a).toInt8.toInt32.toInt
def mx_i2s (a : Int) : Int := (Int32.ofInt a).toInt16.toInt32.toInt
def mx_i2c (a : Int) : Int := ((Int32.ofInt a).toUInt32 % 65536).toInt32.toInt
def ml_add (a b : Int) : Int := mx_l (a + b)
def ml_sub (a b : Int) : Int := mx_l (a - b)
def ml_mul (a b : Int) : Int := mx_l (a * b)
def ml_rem (a b : Int) : Int := Int.tmod a b
def ml_and (a b : Int) : Int := (Int64.ofInt a &&& Int64.ofInt b).toInt
def ml_or (a b : Int) : Int := (Int64.ofInt a ||| Int64.ofInt b).toInt
def ml_shl (a b : Int) : Int := (Int64.ofInt a <<< ((Int32.ofInt b).toInt64 &&& 63)).toInt
def ml_shr (a b : Int) : Int := (Int64.ofInt a >>> ((Int32.ofInt b).toInt64 &&& 63)).toInt
def ml_ush (a b : Int) : Int := ((Int64.ofInt a).toUInt64 >>> ((Int32.ofInt b).toInt64.toUInt64 &&& Int64.toUInt64 63)).toInt64.toInt
def ml_l2i (a : Int) : Int := mx_w a
def mx_cmp (a b : Int) : Int := if a < b then -1 else if a = b then 0 else 1
def sf_push (v : mx_V) (pc : Nat) : mx_S := fun L st S h n => mx_nx pc L (v :: st) S h n
def sf_ld (t k pc : Nat) : mx_S := fun L st S h n => match L[k]? with
  | some (some v) => if v.1 = t then mx_nx pc L (v :: st) S h n else none
  | _ => none
def sf_st (t k pc : Nat) : mx_S := fun L st S h n => match st with
  | v :: st => if v.1 = t ∧ t ≠ 1 ∧ k < L.length then mx_nx pc (mx_sto L k v) st S h n else none
  | _ => none
def sf_st2 (k pc : Nat) : mx_S := fun L st S h n => match st with
  | v :: st => if v.1 = 1 ∧ k + 1 < L.length then mx_nx pc (mx_sto2 L k v) st S h n else none
  | _ => none
def sf_inc (k : Nat) (c : Int) (pc : Nat) : mx_S := fun L st S h n => match L[k]? with
  | some (some v) => if v.1 = 0 then mx_nx pc (mx_sto L k (0, mx_w (v.2 + c))) st S h n else none
  | _ => none
def sf_i2 (o : Int → Int → Int) (pc : Nat) : mx_S := fun L st S h n => match st with
  | (0, b) :: (0, a) :: st => mx_nx pc L ((0, o a b) :: st) S h n
  | _ => none
def mx_max (a b : Int) : Int := if a < b then b else a
def mx_min (a b : Int) : Int := if b < a then b else a
def ml_max (a b : Int) : Int := if b < a then a else b
def ml_min (a b : Int) : Int := if b < a then b else a
/-- Math's own, of two ints, of two longs -/
def sf_m2 (o : Int → Int → Int) (pc : Nat) : mx_S := fun L st S h n => match st with
  | (0, b) :: (0, a) :: st => if st.length ≤ 4 then mx_nx pc L ((0, o a b) :: st) S h n else none
  | _ => none
def sf_ml (o : Int → Int → Int) (pc : Nat) : mx_S := fun L st S h n => match st with
  | (1, b) :: (1, a) :: st => if st.length ≤ 4 then mx_nx pc L ((1, o a b) :: st) S h n else none
  | _ => none
def sf_i2d (o : Int → Int → Int) (pc : Nat) : mx_S := fun L st S h n => match st with
  | (0, b) :: (0, a) :: st => if ¬ b = 0 then mx_nx pc L ((0, o a b) :: st) S h n else none
  | _ => none
def sf_i1 (o : Int → Int) (pc : Nat) : mx_S := fun L st S h n => match st with
  | (0, a) :: st => mx_nx pc L ((0, o a) :: st) S h n
  | _ => none
def sf_l2 (o : Int → Int → Int) (pc : Nat) : mx_S := fun L st S h n => match st with
  | (1, b) :: (1, a) :: st => mx_nx pc L ((1, o a b) :: st) S h n
  | _ => none
def sf_l2d (o : Int → Int → Int) (pc : Nat) : mx_S := fun L st S h n => match st with
  | (1, b) :: (1, a) :: st => if ¬ b = 0 then mx_nx pc L ((1, o a b) :: st) S h n else none
  | _ => none
def sf_ls (o : Int → Int → Int) (pc : Nat) : mx_S := fun L st S h n => match st with
  | (0, b) :: (1, a) :: st => mx_nx pc L ((1, o a b) :: st) S h n
  | _ => none
def sf_i2l (pc : Nat) : mx_S := fun L st S h n => match st with
  | (0, a) :: st => mx_nx pc L ((1, a) :: st) S h n
  | _ => none
def sf_l2i (pc : Nat) : mx_S := fun L st S h n => match st with
  | (1, a) :: st => mx_nx pc L ((0, mx_w a) :: st) S h n
  | _ => none
def sf_lcmp (pc : Nat) : mx_S := fun L st S h n => match st with
  | (1, b) :: (1, a) :: st => mx_nx pc L ((0, mx_cmp a b) :: st) S h n
  | _ => none
def sf_dup (pc : Nat) : mx_S := fun L st S h n => match st with
  | v :: st => if v.1 ≠ 1 then mx_nx pc L (v :: v :: st) S h n else none
  | _ => none
def sf_pop (pc : Nat) : mx_S := fun L st S h n => match st with
  | v :: st => if v.1 ≠ 1 then mx_nx pc L st S h n else none
  | _ => none
def sf_dx1 (pc : Nat) : mx_S := fun L st S h n => match st with
  | v :: u :: st => if v.1 ≠ 1 ∧ u.1 ≠ 1 then mx_nx pc L (v :: u :: v :: st) S h n else none
  | _ => none
def sf_dup2 (pc : Nat) : mx_S := fun L st S h n => match st with
  | v :: u :: st => if v.1 ≠ 1 ∧ u.1 ≠ 1 then mx_nx pc L (v :: u :: v :: u :: st) S h n else none
  | _ => none
/-- o: 0 a = b, 1 a ≠ b, 2 a < b, 3 b ≤ a, 4 b < a, 5 a ≤ b -/
def mx_cc (o : Nat) (a b : Int) : Bool := match o with
  | 0 => decide (a = b)
  | 1 => !decide (a = b)
  | 2 => decide (a < b)
  | 3 => !decide (a < b)
  | 4 => decide (b < a)
  | _ => !decide (b < a)
def sf_if (o t f : Nat) : mx_S := fun L st S h n => match st with
  | (0, a) :: st => mx_nx (bif mx_cc o a 0 then t else f) L st S h n
  | _ => none
def sf_ic (o t f : Nat) : mx_S := fun L st S h n => match st with
  | (0, b) :: (0, a) :: st => mx_nx (bif mx_cc o a b then t else f) L st S h n
  | _ => none
def sf_nul (t f : Nat) : mx_S := fun L st S h n => match st with
  | (2, a) :: st => mx_nx (if a = -1 then t else f) L st S h n
  | _ => none
def sf_go (t : Nat) : mx_S := fun L st S h n => mx_nx t L st S h n
def mx_pick (x : Int) : List (Int × Nat) → Nat → Nat
  | [], d => d
  | (k, t) :: ks, d => if x = k then t else mx_pick x ks d
def sf_sw (ks : List (Int × Nat)) (d : Nat) : mx_S := fun L st S h n => match st with
  | (0, x) :: st => mx_nx (mx_pick x ks d) L st S h n
  | _ => none
def sf_gi (lo hi k : Int) (pc : Nat) : mx_S := fun L st S h n => match st with
  | (2, a) :: st => if lo ≤ S a (-2) ∧ S a (-2) ≤ hi then mx_nx pc L ((0, h a k) :: st) S h n else none
  | _ => none
def sf_gr (lo hi k : Int) (pc : Nat) : mx_S := fun L st S h n => match st with
  | (2, a) :: st => if lo ≤ S a (-2) ∧ S a (-2) ≤ hi then mx_nx pc L ((2, S a k) :: st) S h n else none
  | _ => none
def sf_pi (lo hi k : Int) (pc : Nat) : mx_S := fun L st S h n => match st with
  | (0, v) :: (2, a) :: st => if lo ≤ S a (-2) ∧ S a (-2) ≤ hi then mx_nx pc L st S (mx_u h a k v) n else none
  | _ => none
def sf_pz (lo hi k : Int) (pc : Nat) : mx_S := fun L st S h n => match st with
  | (0, v) :: (2, a) :: st => if lo ≤ S a (-2) ∧ S a (-2) ≤ hi ∧ 0 ≤ v ∧ v ≤ 1 then mx_nx pc L st S (mx_u h a k v) n else none
  | _ => none
def sf_pr (lo hi k : Int) (pc : Nat) : mx_S := fun L st S h n => match st with
  | (2, v) :: (2, a) :: st => if lo ≤ S a (-2) ∧ S a (-2) ≤ hi then mx_nx pc L st (mx_u S a k v) h n else none
  | _ => none
def sf_alen (pc : Nat) : mx_S := fun L st S h n => match st with
  | (2, a) :: st => if 20 ≤ S a (-2) ∧ S a (-2) ≤ 25 then mx_nx pc L ((0, S a (-1)) :: st) S h n else none
  | _ => none
def sf_iald (pc : Nat) : mx_S := fun L st S h n => match st with
  | (0, i) :: (2, a) :: st => if (S a (-2) = 20 ∨ S a (-2) = 24) ∧ 0 ≤ i ∧ i < S a (-1) then mx_nx pc L ((0, h a i) :: st) S h n else none
  | _ => none
def sf_iast (pc : Nat) : mx_S := fun L st S h n => match st with
  | (0, v) :: (0, i) :: (2, a) :: st => if S a (-2) = 20 ∧ 0 ≤ i ∧ i < S a (-1) then mx_nx pc L st S (mx_u h a i v) n else none
  | _ => none
def sf_lald (pc : Nat) : mx_S := fun L st S h n => match st with
  | (0, i) :: (2, a) :: st => if S a (-2) = 21 ∧ 0 ≤ i ∧ i < S a (-1) then mx_nx pc L ((1, h a i) :: st) S h n else none
  | _ => none
def sf_last (pc : Nat) : mx_S := fun L st S h n => match st with
  | (1, v) :: (0, i) :: (2, a) :: st => if S a (-2) = 21 ∧ 0 ≤ i ∧ i < S a (-1) then mx_nx pc L st S (mx_u h a i v) n else none
  | _ => none
/-- tag: 22 a row of notes, 23 a row of sheet rows; its things' tags lo to hi -/
def sf_aald (tag : Int) (pc : Nat) : mx_S := fun L st S h n => match st with
  | (0, i) :: (2, a) :: st => if S a (-2) = tag ∧ 0 ≤ i ∧ i < S a (-1) then mx_nx pc L ((2, S a i) :: st) S h n else none
  | _ => none
def sf_aast (tag lo hi : Int) (pc : Nat) : mx_S := fun L st S h n => match st with
  | (2, v) :: (0, i) :: (2, a) :: st => if S a (-2) = tag ∧ 0 ≤ i ∧ i < S a (-1) ∧ (v = -1 ∨ lo ≤ S v (-2) ∧ S v (-2) ≤ hi) then mx_nx pc L st (mx_u S a i v) h n else none
  | _ => none
def sf_new (tag : Int) (pc : Nat) : mx_S := fun L st S h n => mx_nx pc L ((2, n) :: st) (mx_t S n tag 0) (mx_z h n) (n + 1)
def sf_newa (tag : Int) (pc : Nat) : mx_S := fun L st S h n => match st with
  | (0, k) :: st => if 0 ≤ k ∧ k ≤ 300 then mx_nx pc L ((2, n) :: st) (mx_t S n tag k) (mx_z h n) (n + 1) else none
  | _ => none
def sf_inst (lo hi : Int) (pc : Nat) : mx_S := fun L st S h n => match st with
  | (2, a) :: st => if 1 ≤ S a (-2) ∧ S a (-2) ≤ 6 then mx_nx pc L ((0, if S a (-2) = lo ∨ S a (-2) = hi then 1 else 0) :: st) S h n else none
  | _ => none
def sf_bald (pc : Nat) : mx_S := fun L st S h n => match st with
  | (0, i) :: (2, a) :: st => if S a (-2) = 25 ∧ 0 ≤ i ∧ i < S a (-1) then mx_nx pc L ((0, h a i) :: st) S h n else none
  | _ => none
def sf_copy (pc : Nat) : mx_S := fun L st S h n => match st with
  | (0, k) :: (0, j) :: (2, b) :: (0, i) :: (2, a) :: st => if S a (-2) = 20 ∧ S b (-2) = 20 ∧ 0 ≤ k ∧ 0 ≤ i ∧ 0 ≤ j ∧ i + k ≤ S a (-1) ∧ j + k ≤ S b (-1) ∧ st.length ≤ 4 then mx_nx pc L st S (mx_y h a i b j k) n else none
  | _ => none
def sf_clon (pc : Nat) : mx_S := fun L st S h n => match st with
  | (2, a) :: st => if S a (-2) = 20 ∧ S a (-1) ≤ 300 ∧ st.length ≤ 4 then mx_nx pc L ((2, n) :: st) (mx_t S n 20 (S a (-1))) (mx_y (mx_z h n) a 0 n 0 (S a (-1))) (n + 1) else none
  | _ => none
def sf_cast (pc : Nat) : mx_S := fun L st S h n => match st with
  | (2, a) :: st => if S a (-2) = 20 then mx_nx pc L ((2, a) :: st) S h n else none
  | _ => none
def sf_oini (pc : Nat) : mx_S := fun L st S h n => match st with
  | (2, a) :: st => if 0 ≤ a ∧ st.length ≤ 4 then mx_nx pc L st S h n else none
  | _ => none
def mx_vt (t : Int) : List (Int × Nat) → Option Nat
  | [] => none
  | (k, y) :: ks => if t = k then some y else mx_vt t ks
/-- a static call; ts: the kinds of its arguments -/
def sf_cs (ts : List Nat) (y pc : Nat) : mx_S := fun L st _ _ _ => if ts.length ≤ st.length ∧ ((st.take ts.length).reverse).map Prod.fst = ts ∧ (st.drop ts.length).length ≤ 4 then some (.inr (.inl (y, (st.take ts.length).reverse, pc, L, st.drop ts.length))) else none
/-- a call of a named method at an object, the first of ts; its tag is tag -/
def sf_cv (tag : Int) (ts : List Nat) (y pc : Nat) : mx_S := fun L st S _ _ => match (st.take ts.length).reverse with
  | (2, a) :: as => if S a (-2) = tag ∧ ts.length ≤ st.length ∧ ((2, a) :: as).map Prod.fst = ts ∧ (st.drop ts.length).length ≤ 4 then some (.inr (.inl (y, (2, a) :: as, pc, L, st.drop ts.length))) else none
  | _ => none
/-- of a constructor, or of a method of the class above: the tag is of lo to hi -/
def sf_ci (lo hi : Int) (ts : List Nat) (y pc : Nat) : mx_S := fun L st S _ _ => match (st.take ts.length).reverse with
  | (2, a) :: as => if (lo ≤ S a (-2) ∧ S a (-2) ≤ hi) ∧ ts.length ≤ st.length ∧ ((2, a) :: as).map Prod.fst = ts ∧ (st.drop ts.length).length ≤ 4 then some (.inr (.inl (y, (2, a) :: as, pc, L, st.drop ts.length))) else none
  | _ => none
/-- a call of a method that kinds have of their own -/
def sf_cu (vt : List (Int × Nat)) (ts : List Nat) (pc : Nat) : mx_S := fun L st S _ _ => match (st.take ts.length).reverse with
  | (2, a) :: as => match mx_vt (S a (-2)) vt with
    | some y => if ts.length ≤ st.length ∧ ((2, a) :: as).map Prod.fst = ts ∧ (st.drop ts.length).length ≤ 4 then some (.inr (.inl (y, (2, a) :: as, pc, L, st.drop ts.length))) else none
    | none => none
  | _ => none
def sf_ret (t : Nat) : mx_S := fun _ st _ _ _ => match st with
  | [v] => if v.1 = t then some (.inr (.inr (some v))) else none
  | _ => none
def sf_rr (lo hi : Int) : mx_S := fun _ st _ _ _ => match st with
  | [(0, v)] => if lo ≤ v ∧ v ≤ hi then some (.inr (.inr (some (0, v)))) else none
  | _ => none
def sf_retv : mx_S := fun _ st _ _ _ => match st with
  | [] => some (.inr (.inr none))
  | _ => none
def mx_lk : List (Nat × mx_S) → Nat → mx_S
  | [], _ => mx_no
  | (k, s) :: t, pc => bif Nat.beq pc k then s else mx_lk t pc
def mx_lk2 {α : Type} (z : α) : List α → Nat → α
  | [], _ => z
  | x :: _, 0 => x
  | _ :: t, k + 1 => mx_lk2 z t k
