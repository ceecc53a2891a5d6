/-! PRINTED (gen_rows.py): a row an instruction -/
theorem rw_X0_init :
  (∀ (d : Nat) (a0 a1 a2 a3 a4 : Int) (S h : mx_H) (n : Int), mx_M d 0 [(2, a0), (0, a1), (0, a2), (0, a3), (2, a4)] S h n = mx_ex d 0 0 [some (2, a0), some (0, a1), some (0, a2), some (0, a3), some (2, a4)] [] S h n) ∧
  (∀ (d : Nat) (x : Int) (l1 l2 l3 l4 : Option mx_V) (S h : mx_H) (n : Int), mx_ex d 0 0 [some (2, x), l1, l2, l3, l4] [] S h n = mx_ex d 0 1 [some (2, x), l1, l2, l3, l4] [(2, x)] S h n) ∧
  (∀ (d : Nat) (x : Int) (l0 l2 l3 l4 : Option mx_V) (v0 : mx_V) (S h : mx_H) (n : Int), mx_ex d 0 1 [l0, some (0, x), l2, l3, l4] [v0] S h n = mx_ex d 0 2 [l0, some (0, x), l2, l3, l4] [(0, x), v0] S h n) ∧
  (∀ (d : Nat) (x : Int) (l0 l1 l3 l4 : Option mx_V) (v0 v1 : mx_V) (S h : mx_H) (n : Int), mx_ex d 0 2 [l0, l1, some (0, x), l3, l4] [v0, v1] S h n = mx_ex d 0 3 [l0, l1, some (0, x), l3, l4] [(0, x), v0, v1] S h n) ∧
  (∀ (d : Nat) (x : Int) (l0 l1 l2 l4 : Option mx_V) (v0 v1 v2 : mx_V) (S h : mx_H) (n : Int), mx_ex d 0 3 [l0, l1, l2, some (0, x), l4] [v0, v1, v2] S h n = mx_ex d 0 4 [l0, l1, l2, some (0, x), l4] [(0, x), v0, v1, v2] S h n) ∧
  (∀ (d : Nat) (x : Int) (l0 l1 l2 l3 : Option mx_V) (v0 v1 v2 v3 : mx_V) (S h : mx_H) (n : Int), mx_ex d 0 4 [l0, l1, l2, l3, some (2, x)] [v0, v1, v2, v3] S h n = mx_ex d 0 6 [l0, l1, l2, l3, some (2, x)] [(2, x), v0, v1, v2, v3] S h n) ∧
  (∀ (d : Nat) (x0 x1 x2 x3 a : Int) (l0 l1 l2 l3 l4 : Option mx_V) (S h : mx_H) (n : Int), mx_ex (d + 1) 0 6 [l0, l1, l2, l3, l4] [(2, x0), (0, x1), (0, x2), (0, x3), (2, a)] S h n = mx_cl (1 ≤ S a (-2) ∧ S a (-2) ≤ 6) d 38 [(2, a), (0, x3), (0, x2), (0, x1), (2, x0)] 0 9 [l0, l1, l2, l3, l4] [] S h n) ∧
  (∀ (d : Nat) (l0 l1 l2 l3 l4 : Option mx_V) (S h : mx_H) (n : Int), mx_ex d 0 9 [l0, l1, l2, l3, l4] [] S h n = some (none, S, h, n)) :=
  ⟨by intros; exact rfl,
   by intros; exact eq_ld rfl rfl,
   by intros; exact eq_ld rfl rfl,
   by intros; exact eq_ld rfl rfl,
   by intros; exact eq_ld rfl rfl,
   by intros; exact eq_ld rfl rfl,
   by intros; exact eq_ci rfl (Nat.le_of_ble_eq_true rfl) rfl rfl rfl (Nat.le_of_ble_eq_true rfl),
   by intros; exact eq_retv rfl⟩
theorem rw_X0_kind :
  (∀ (d : Nat) (a0 : Int) (S h : mx_H) (n : Int), mx_M d 1 [(2, a0)] S h n = mx_ex d 1 0 [some (2, a0)] [] S h n) ∧
  (∀ (d : Nat) (l0 : Option mx_V) (S h : mx_H) (n : Int), mx_ex d 1 0 [l0] [] S h n = mx_ex d 1 1 [l0] [(0, 2)] S h n) ∧
  (∀ (d : Nat) (x : Int) (l0 : Option mx_V) (S h : mx_H) (n : Int), mx_ex d 1 1 [l0] [(0, x)] S h n = some (some (0, x), S, h, n)) :=
  ⟨by intros; exact rfl,
   by intros; exact eq_push rfl,
   by intros; exact eq_ret rfl⟩
theorem rw_X0_baseBehind :
  (∀ (d : Nat) (a0 a1 : Int) (S h : mx_H) (n : Int), mx_M d 2 [(2, a0), (0, a1)] S h n = mx_ex d 2 0 [some (2, a0), some (0, a1)] [] S h n) ∧
  (∀ (d : Nat) (x : Int) (l0 : Option mx_V) (S h : mx_H) (n : Int), mx_ex d 2 0 [l0, some (0, x)] [] S h n = mx_ex d 2 1 [l0, some (0, x)] [(0, x)] S h n) ∧
  (∀ (d : Nat) (l0 l1 : Option mx_V) (v0 : mx_V) (S h : mx_H) (n : Int), mx_ex d 2 1 [l0, l1] [v0] S h n = mx_ex d 2 2 [l0, l1] [(0, 1), v0] S h n) ∧
  (∀ (d : Nat) (b a : Int) (l0 l1 : Option mx_V) (S h : mx_H) (n : Int), mx_ex d 2 2 [l0, l1] [(0, b), (0, a)] S h n = mx_ex d 2 3 [l0, l1] [(0, mx_w (a + b))] S h n) ∧
  (∀ (d : Nat) (x : Int) (l0 l1 : Option mx_V) (S h : mx_H) (n : Int), mx_ex d 2 3 [l0, l1] [(0, x)] S h n = some (some (0, x), S, h, n)) :=
  ⟨by intros; exact rfl,
   by intros; exact eq_ld rfl rfl,
   by intros; exact eq_push rfl,
   by intros; exact eq_i2 (o := mx_add) rfl,
   by intros; exact eq_ret rfl⟩
theorem rw_X0_worthBy :
  (∀ (d : Nat) (a0 a1 : Int) (S h : mx_H) (n : Int), mx_M d 3 [(2, a0), (0, a1)] S h n = mx_ex d 3 0 [some (2, a0), some (0, a1), none] [] S h n) ∧
  (∀ (d : Nat) (x : Int) (l1 l2 : Option mx_V) (S h : mx_H) (n : Int), mx_ex d 3 0 [some (2, x), l1, l2] [] S h n = mx_ex d 3 1 [some (2, x), l1, l2] [(2, x)] S h n) ∧
  (∀ (d : Nat) (a : Int) (l0 l1 l2 : Option mx_V) (S h : mx_H) (n : Int), mx_ex d 3 1 [l0, l1, l2] [(2, a)] S h n = mx_gd (1 ≤ S a (-2) ∧ S a (-2) ≤ 6) d 3 4 [l0, l1, l2] [(0, h a 1)] S h n) ∧
  (∀ (d : Nat) (x : Int) (l1 l2 : Option mx_V) (v0 : mx_V) (S h : mx_H) (n : Int), mx_ex d 3 4 [some (2, x), l1, l2] [v0] S h n = mx_ex d 3 5 [some (2, x), l1, l2] [(2, x), v0] S h n) ∧
  (∀ (d : Nat) (a : Int) (l0 l1 l2 : Option mx_V) (v1 : mx_V) (S h : mx_H) (n : Int), mx_ex d 3 5 [l0, l1, l2] [(2, a), v1] S h n = mx_gd (1 ≤ S a (-2) ∧ S a (-2) ≤ 6) d 3 8 [l0, l1, l2] [(2, S a 2), v1] S h n) ∧
  (∀ (d : Nat) (a : Int) (l0 l1 l2 : Option mx_V) (v1 : mx_V) (S h : mx_H) (n : Int), mx_ex d 3 8 [l0, l1, l2] [(2, a), v1] S h n = mx_gd (20 ≤ S a (-2) ∧ S a (-2) ≤ 25) d 3 9 [l0, l1, l2] [(0, S a (-1)), v1] S h n) ∧
  (∀ (d : Nat) (b a : Int) (l0 l1 l2 : Option mx_V) (S h : mx_H) (n : Int), mx_ex d 3 9 [l0, l1, l2] [(0, b), (0, a)] S h n = mx_ex d 3 12 [l0, l1, l2] [(0, if b < a then b else a)] S h n) ∧
  (∀ (d : Nat) (x : Int) (l0 l1 l2 : Option mx_V) (S h : mx_H) (n : Int), mx_ex d 3 12 [l0, l1, l2] [(0, x)] S h n = mx_ex d 3 13 [l0, mx_nl l1, some (0, x)] [] S h n) ∧
  (∀ (d : Nat) (x : Int) (l1 l2 : Option mx_V) (S h : mx_H) (n : Int), mx_ex d 3 13 [some (2, x), l1, l2] [] S h n = mx_ex d 3 14 [some (2, x), l1, l2] [(2, x)] S h n) ∧
  (∀ (d : Nat) (x : Int) (l1 l2 : Option mx_V) (v0 : mx_V) (S h : mx_H) (n : Int), mx_ex d 3 14 [some (2, x), l1, l2] [v0] S h n = mx_ex d 3 15 [some (2, x), l1, l2] [(2, x), v0] S h n) ∧
  (∀ (d : Nat) (l0 l1 l2 : Option mx_V) (v0 v1 : mx_V) (S h : mx_H) (n : Int), mx_ex d 3 15 [l0, l1, l2] [v0, v1] S h n = mx_ex d 3 16 [l0, l1, l2] [(0, 0), v0, v1] S h n) ∧
  (∀ (d : Nat) (x : Int) (l0 l2 : Option mx_V) (v0 v1 v2 : mx_V) (S h : mx_H) (n : Int), mx_ex d 3 16 [l0, some (0, x), l2] [v0, v1, v2] S h n = mx_ex d 3 17 [l0, some (0, x), l2] [(0, x), v0, v1, v2] S h n) ∧
  (∀ (d : Nat) (l0 l1 l2 : Option mx_V) (v0 v1 v2 v3 : mx_V) (S h : mx_H) (n : Int), mx_ex d 3 17 [l0, l1, l2] [v0, v1, v2, v3] S h n = mx_ex d 3 18 [l0, l1, l2] [(0, 0), v0, v1, v2, v3] S h n) ∧
  (∀ (d : Nat) (x : Int) (l0 l1 : Option mx_V) (v0 v1 v2 v3 v4 : mx_V) (S h : mx_H) (n : Int), mx_ex d 3 18 [l0, l1, some (0, x)] [v0, v1, v2, v3, v4] S h n = mx_ex d 3 19 [l0, l1, some (0, x)] [(0, x), v0, v1, v2, v3, v4] S h n) ∧
  (∀ (d : Nat) (x0 x1 x2 x3 a : Int) (l0 l1 l2 : Option mx_V) (v5 : mx_V) (S h : mx_H) (n : Int), mx_ex (d + 1) 3 19 [l0, l1, l2] [(0, x0), (0, x1), (0, x2), (0, x3), (2, a), v5] S h n = mx_cu (mx_vt (S a (-2)) [(3, 46), (4, 46)]) d [(2, a), (0, x3), (0, x2), (0, x1), (0, x0)] 3 22 [l0, l1, l2] [v5] S h n) ∧
  (∀ (d : Nat) (x : Int) (l1 l2 : Option mx_V) (v0 v1 : mx_V) (S h : mx_H) (n : Int), mx_ex d 3 22 [some (2, x), l1, l2] [v0, v1] S h n = mx_ex d 3 23 [some (2, x), l1, l2] [(2, x), v0, v1] S h n) ∧
  (∀ (d : Nat) (x : Int) (l0 l2 : Option mx_V) (v0 v1 v2 : mx_V) (S h : mx_H) (n : Int), mx_ex d 3 23 [l0, some (0, x), l2] [v0, v1, v2] S h n = mx_ex d 3 24 [l0, some (0, x), l2] [(0, x), v0, v1, v2] S h n) ∧
  (∀ (d : Nat) (x0 a : Int) (l0 l1 l2 : Option mx_V) (v2 v3 : mx_V) (S h : mx_H) (n : Int), mx_ex (d + 1) 3 24 [l0, l1, l2] [(0, x0), (2, a), v2, v3] S h n = mx_cu (mx_vt (S a (-2)) [(3, 2), (4, 35)]) d [(2, a), (0, x0)] 3 27 [l0, l1, l2] [v2, v3] S h n) ∧
  (∀ (d : Nat) (x : Int) (l0 l1 : Option mx_V) (v0 v1 v2 : mx_V) (S h : mx_H) (n : Int), mx_ex d 3 27 [l0, l1, some (0, x)] [v0, v1, v2] S h n = mx_ex d 3 28 [l0, l1, some (0, x)] [(0, x), v0, v1, v2] S h n) ∧
  (∀ (d : Nat) (x : Int) (l1 l2 : Option mx_V) (v0 v1 v2 v3 : mx_V) (S h : mx_H) (n : Int), mx_ex d 3 28 [some (2, x), l1, l2] [v0, v1, v2, v3] S h n = mx_ex d 3 29 [some (2, x), l1, l2] [(2, x), v0, v1, v2, v3] S h n) ∧
  (∀ (d : Nat) (a : Int) (l0 l1 l2 : Option mx_V) (v1 v2 v3 v4 : mx_V) (S h : mx_H) (n : Int), mx_ex d 3 29 [l0, l1, l2] [(2, a), v1, v2, v3, v4] S h n = mx_gd (1 ≤ S a (-2) ∧ S a (-2) ≤ 6) d 3 32 [l0, l1, l2] [(2, S a 2), v1, v2, v3, v4] S h n) ∧
  (∀ (d : Nat) (a : Int) (l0 l1 l2 : Option mx_V) (v1 v2 v3 v4 : mx_V) (S h : mx_H) (n : Int), mx_ex d 3 32 [l0, l1, l2] [(2, a), v1, v2, v3, v4] S h n = mx_gd (20 ≤ S a (-2) ∧ S a (-2) ≤ 25) d 3 33 [l0, l1, l2] [(0, S a (-1)), v1, v2, v3, v4] S h n) ∧
  (∀ (d : Nat) (x0 x1 x2 x3 a : Int) (l0 l1 l2 : Option mx_V) (S h : mx_H) (n : Int), mx_ex (d + 1) 3 33 [l0, l1, l2] [(0, x0), (0, x1), (0, x2), (0, x3), (2, a)] S h n = mx_cu (mx_vt (S a (-2)) [(3, 46), (4, 46)]) d [(2, a), (0, x3), (0, x2), (0, x1), (0, x0)] 3 36 [l0, l1, l2] [] S h n) ∧
  (∀ (d : Nat) (x : Int) (l0 l1 l2 : Option mx_V) (S h : mx_H) (n : Int), mx_ex d 3 36 [l0, l1, l2] [(0, x)] S h n = some (some (0, x), S, h, n)) :=
  ⟨by intros; exact rfl,
   by intros; exact eq_ld rfl rfl,
   by intros; exact eq_gi rfl,
   by intros; exact eq_ld rfl rfl,
   by intros; exact eq_gr rfl,
   by intros; exact eq_alen rfl,
   by intros; exact eq_m2 (o := mx_min) rfl (Nat.le_of_ble_eq_true rfl),
   by intros; exact eq_st rfl (by decide) (Nat.le_of_ble_eq_true rfl) rfl,
   by intros; exact eq_ld rfl rfl,
   by intros; exact eq_ld rfl rfl,
   by intros; exact eq_push rfl,
   by intros; exact eq_ld rfl rfl,
   by intros; exact eq_push rfl,
   by intros; exact eq_ld rfl rfl,
   by intros; exact eq_cu rfl (Nat.le_of_ble_eq_true rfl) rfl rfl rfl (Nat.le_of_ble_eq_true rfl),
   by intros; exact eq_ld rfl rfl,
   by intros; exact eq_ld rfl rfl,
   by intros; exact eq_cu rfl (Nat.le_of_ble_eq_true rfl) rfl rfl rfl (Nat.le_of_ble_eq_true rfl),
   by intros; exact eq_ld rfl rfl,
   by intros; exact eq_ld rfl rfl,
   by intros; exact eq_gr rfl,
   by intros; exact eq_alen rfl,
   by intros; exact eq_cu rfl (Nat.le_of_ble_eq_true rfl) rfl rfl rfl (Nat.le_of_ble_eq_true rfl),
   by intros; exact eq_ret rfl⟩
theorem rw_X0_canBeIn :
  (∀ (d : Nat) (a0 a1 : Int) (S h : mx_H) (n : Int), mx_M d 4 [(2, a0), (0, a1)] S h n = mx_ex d 4 0 [some (2, a0), some (0, a1), none] [] S h n) ∧
  (∀ (d : Nat) (x : Int) (l1 l2 : Option mx_V) (S h : mx_H) (n : Int), mx_ex d 4 0 [some (2, x), l1, l2] [] S h n = mx_ex d 4 1 [some (2, x), l1, l2] [(2, x)] S h n) ∧
  (∀ (d : Nat) (a : Int) (l0 l1 l2 : Option mx_V) (S h : mx_H) (n : Int), mx_ex d 4 1 [l0, l1, l2] [(2, a)] S h n = mx_gd (1 ≤ S a (-2) ∧ S a (-2) ≤ 6) d 4 4 [l0, l1, l2] [(0, h a 1)] S h n) ∧
  (∀ (d : Nat) (x : Int) (l1 l2 : Option mx_V) (v0 : mx_V) (S h : mx_H) (n : Int), mx_ex d 4 4 [some (2, x), l1, l2] [v0] S h n = mx_ex d 4 5 [some (2, x), l1, l2] [(2, x), v0] S h n) ∧
  (∀ (d : Nat) (a : Int) (l0 l1 l2 : Option mx_V) (v1 : mx_V) (S h : mx_H) (n : Int), mx_ex d 4 5 [l0, l1, l2] [(2, a), v1] S h n = mx_gd (1 ≤ S a (-2) ∧ S a (-2) ≤ 6) d 4 8 [l0, l1, l2] [(2, S a 2), v1] S h n) ∧
  (∀ (d : Nat) (a : Int) (l0 l1 l2 : Option mx_V) (v1 : mx_V) (S h : mx_H) (n : Int), mx_ex d 4 8 [l0, l1, l2] [(2, a), v1] S h n = mx_gd (20 ≤ S a (-2) ∧ S a (-2) ≤ 25) d 4 9 [l0, l1, l2] [(0, S a (-1)), v1] S h n) ∧
  (∀ (d : Nat) (b a : Int) (l0 l1 l2 : Option mx_V) (S h : mx_H) (n : Int), mx_ex d 4 9 [l0, l1, l2] [(0, b), (0, a)] S h n = mx_ex d 4 12 [l0, l1, l2] [(0, if b < a then b else a)] S h n) ∧
  (∀ (d : Nat) (x : Int) (l0 l1 l2 : Option mx_V) (S h : mx_H) (n : Int), mx_ex d 4 12 [l0, l1, l2] [(0, x)] S h n = mx_ex d 4 13 [l0, mx_nl l1, some (0, x)] [] S h n) ∧
  (∀ (d : Nat) (x : Int) (l1 l2 : Option mx_V) (S h : mx_H) (n : Int), mx_ex d 4 13 [some (2, x), l1, l2] [] S h n = mx_ex d 4 14 [some (2, x), l1, l2] [(2, x)] S h n) ∧
  (∀ (d : Nat) (x : Int) (l0 l2 : Option mx_V) (v0 : mx_V) (S h : mx_H) (n : Int), mx_ex d 4 14 [l0, some (0, x), l2] [v0] S h n = mx_ex d 4 15 [l0, some (0, x), l2] [(0, x), v0] S h n) ∧
  (∀ (d : Nat) (l0 l1 l2 : Option mx_V) (v0 v1 : mx_V) (S h : mx_H) (n : Int), mx_ex d 4 15 [l0, l1, l2] [v0, v1] S h n = mx_ex d 4 16 [l0, l1, l2] [(0, 0), v0, v1] S h n) ∧
  (∀ (d : Nat) (x : Int) (l0 l1 : Option mx_V) (v0 v1 v2 : mx_V) (S h : mx_H) (n : Int), mx_ex d 4 16 [l0, l1, some (0, x)] [v0, v1, v2] S h n = mx_ex d 4 17 [l0, l1, some (0, x)] [(0, x), v0, v1, v2] S h n) ∧
  (∀ (d : Nat) (x0 x1 x2 a : Int) (l0 l1 l2 : Option mx_V) (S h : mx_H) (n : Int), mx_ex (d + 1) 4 17 [l0, l1, l2] [(0, x0), (0, x1), (0, x2), (2, a)] S h n = mx_cu (mx_vt (S a (-2)) [(3, 47), (4, 47)]) d [(2, a), (0, x2), (0, x1), (0, x0)] 4 20 [l0, l1, l2] [] S h n) ∧
  (∀ (d : Nat) (a : Int) (l0 l1 l2 : Option mx_V) (S h : mx_H) (n : Int), mx_ex d 4 20 [l0, l1, l2] [(0, a)] S h n = mx_br (a = 0) d 4 45 23 [l0, l1, l2] [] S h n) ∧
  (∀ (d : Nat) (x : Int) (l1 l2 : Option mx_V) (S h : mx_H) (n : Int), mx_ex d 4 23 [some (2, x), l1, l2] [] S h n = mx_ex d 4 24 [some (2, x), l1, l2] [(2, x)] S h n) ∧
  (∀ (d : Nat) (x : Int) (l1 l2 : Option mx_V) (v0 : mx_V) (S h : mx_H) (n : Int), mx_ex d 4 24 [some (2, x), l1, l2] [v0] S h n = mx_ex d 4 25 [some (2, x), l1, l2] [(2, x), v0] S h n) ∧
  (∀ (d : Nat) (x : Int) (l0 l2 : Option mx_V) (v0 v1 : mx_V) (S h : mx_H) (n : Int), mx_ex d 4 25 [l0, some (0, x), l2] [v0, v1] S h n = mx_ex d 4 26 [l0, some (0, x), l2] [(0, x), v0, v1] S h n) ∧
  (∀ (d : Nat) (x0 a : Int) (l0 l1 l2 : Option mx_V) (v2 : mx_V) (S h : mx_H) (n : Int), mx_ex (d + 1) 4 26 [l0, l1, l2] [(0, x0), (2, a), v2] S h n = mx_cu (mx_vt (S a (-2)) [(3, 2), (4, 35)]) d [(2, a), (0, x0)] 4 29 [l0, l1, l2] [v2] S h n) ∧
  (∀ (d : Nat) (x : Int) (l0 l1 : Option mx_V) (v0 v1 : mx_V) (S h : mx_H) (n : Int), mx_ex d 4 29 [l0, l1, some (0, x)] [v0, v1] S h n = mx_ex d 4 30 [l0, l1, some (0, x)] [(0, x), v0, v1] S h n) ∧
  (∀ (d : Nat) (x : Int) (l1 l2 : Option mx_V) (v0 v1 v2 : mx_V) (S h : mx_H) (n : Int), mx_ex d 4 30 [some (2, x), l1, l2] [v0, v1, v2] S h n = mx_ex d 4 31 [some (2, x), l1, l2] [(2, x), v0, v1, v2] S h n) ∧
  (∀ (d : Nat) (a : Int) (l0 l1 l2 : Option mx_V) (v1 v2 v3 : mx_V) (S h : mx_H) (n : Int), mx_ex d 4 31 [l0, l1, l2] [(2, a), v1, v2, v3] S h n = mx_gd (1 ≤ S a (-2) ∧ S a (-2) ≤ 6) d 4 34 [l0, l1, l2] [(2, S a 2), v1, v2, v3] S h n) ∧
  (∀ (d : Nat) (a : Int) (l0 l1 l2 : Option mx_V) (v1 v2 v3 : mx_V) (S h : mx_H) (n : Int), mx_ex d 4 34 [l0, l1, l2] [(2, a), v1, v2, v3] S h n = mx_gd (20 ≤ S a (-2) ∧ S a (-2) ≤ 25) d 4 35 [l0, l1, l2] [(0, S a (-1)), v1, v2, v3] S h n) ∧
  (∀ (d : Nat) (x0 x1 x2 a : Int) (l0 l1 l2 : Option mx_V) (S h : mx_H) (n : Int), mx_ex (d + 1) 4 35 [l0, l1, l2] [(0, x0), (0, x1), (0, x2), (2, a)] S h n = mx_cu (mx_vt (S a (-2)) [(3, 47), (4, 47)]) d [(2, a), (0, x2), (0, x1), (0, x0)] 4 38 [l0, l1, l2] [] S h n) ∧
  (∀ (d : Nat) (a : Int) (l0 l1 l2 : Option mx_V) (S h : mx_H) (n : Int), mx_ex d 4 38 [l0, l1, l2] [(0, a)] S h n = mx_br (a = 0) d 4 45 41 [l0, l1, l2] [] S h n) ∧
  (∀ (d : Nat) (l0 l1 l2 : Option mx_V) (S h : mx_H) (n : Int), mx_ex d 4 41 [l0, l1, l2] [] S h n = mx_ex d 4 42 [l0, l1, l2] [(0, 1)] S h n) ∧
  (∀ (d : Nat) (l0 l1 l2 : Option mx_V) (v0 : mx_V) (S h : mx_H) (n : Int), mx_ex d 4 42 [l0, l1, l2] [v0] S h n = mx_ex d 4 46 [l0, l1, l2] [v0] S h n) ∧
  (∀ (d : Nat) (l0 l1 l2 : Option mx_V) (S h : mx_H) (n : Int), mx_ex d 4 45 [l0, l1, l2] [] S h n = mx_ex d 4 46 [l0, l1, l2] [(0, 0)] S h n) ∧
  (∀ (d : Nat) (x : Int) (l0 l1 l2 : Option mx_V) (S h : mx_H) (n : Int), mx_ex d 4 46 [l0, l1, l2] [(0, x)] S h n = mx_re (0 ≤ x ∧ x ≤ 1) (some (0, x)) S h n) :=
  ⟨by intros; exact rfl,
   by intros; exact eq_ld rfl rfl,
   by intros; exact eq_gi rfl,
   by intros; exact eq_ld rfl rfl,
   by intros; exact eq_gr rfl,
   by intros; exact eq_alen rfl,
   by intros; exact eq_m2 (o := mx_min) rfl (Nat.le_of_ble_eq_true rfl),
   by intros; exact eq_st rfl (by decide) (Nat.le_of_ble_eq_true rfl) rfl,
   by intros; exact eq_ld rfl rfl,
   by intros; exact eq_ld rfl rfl,
   by intros; exact eq_push rfl,
   by intros; exact eq_ld rfl rfl,
   by intros; exact eq_cu rfl (Nat.le_of_ble_eq_true rfl) rfl rfl rfl (Nat.le_of_ble_eq_true rfl),
   by intros; exact eq_if0 rfl,
   by intros; exact eq_ld rfl rfl,
   by intros; exact eq_ld rfl rfl,
   by intros; exact eq_ld rfl rfl,
   by intros; exact eq_cu rfl (Nat.le_of_ble_eq_true rfl) rfl rfl rfl (Nat.le_of_ble_eq_true rfl),
   by intros; exact eq_ld rfl rfl,
   by intros; exact eq_ld rfl rfl,
   by intros; exact eq_gr rfl,
   by intros; exact eq_alen rfl,
   by intros; exact eq_cu rfl (Nat.le_of_ble_eq_true rfl) rfl rfl rfl (Nat.le_of_ble_eq_true rfl),
   by intros; exact eq_if0 rfl,
   by intros; exact eq_push rfl,
   by intros; exact eq_go rfl,
   by intros; exact eq_push rfl,
   by intros; exact eq_rr rfl⟩
theorem rw_X0_reads :
  (∀ (d : Nat) (a0 a1 a2 : Int) (S h : mx_H) (n : Int), mx_M d 5 [(2, a0), (0, a1), (2, a2)] S h n = mx_ex d 5 0 [some (2, a0), some (0, a1), some (2, a2)] [] S h n) ∧
  (∀ (d : Nat) (x : Int) (l0 l1 : Option mx_V) (S h : mx_H) (n : Int), mx_ex d 5 0 [l0, l1, some (2, x)] [] S h n = mx_ex d 5 1 [l0, l1, some (2, x)] [(2, x)] S h n) ∧
  (∀ (d : Nat) (a : Int) (l0 l1 l2 : Option mx_V) (S h : mx_H) (n : Int), mx_ex d 5 1 [l0, l1, l2] [(2, a)] S h n = mx_gd (11 ≤ S a (-2) ∧ S a (-2) ≤ 11) d 5 4 [l0, l1, l2] [(2, S a 0)] S h n) ∧
  (∀ (d : Nat) (x : Int) (l0 l1 : Option mx_V) (v0 : mx_V) (S h : mx_H) (n : Int), mx_ex d 5 4 [l0, l1, some (2, x)] [v0] S h n = mx_ex d 5 5 [l0, l1, some (2, x)] [(2, x), v0] S h n) ∧
  (∀ (d : Nat) (a : Int) (l0 l1 l2 : Option mx_V) (v1 : mx_V) (S h : mx_H) (n : Int), mx_ex d 5 5 [l0, l1, l2] [(2, a), v1] S h n = mx_ex d 5 6 [l0, l1, l2] [(2, a), (2, a), v1] S h n) ∧
  (∀ (d : Nat) (a : Int) (l0 l1 l2 : Option mx_V) (v1 v2 : mx_V) (S h : mx_H) (n : Int), mx_ex d 5 6 [l0, l1, l2] [(2, a), v1, v2] S h n = mx_gd (11 ≤ S a (-2) ∧ S a (-2) ≤ 11) d 5 9 [l0, l1, l2] [(0, h a 1), v1, v2] S h n) ∧
  (∀ (d : Nat) (a b : Int) (l0 l1 l2 : Option mx_V) (v2 : mx_V) (S h : mx_H) (n : Int), mx_ex d 5 9 [l0, l1, l2] [(0, a), (2, b), v2] S h n = mx_ex d 5 10 [l0, l1, l2] [(0, a), (2, b), (0, a), v2] S h n) ∧
  (∀ (d : Nat) (l0 l1 l2 : Option mx_V) (v0 v1 v2 v3 : mx_V) (S h : mx_H) (n : Int), mx_ex d 5 10 [l0, l1, l2] [v0, v1, v2, v3] S h n = mx_ex d 5 11 [l0, l1, l2] [(0, 1), v0, v1, v2, v3] S h n) ∧
  (∀ (d : Nat) (b a : Int) (l0 l1 l2 : Option mx_V) (v2 v3 v4 : mx_V) (S h : mx_H) (n : Int), mx_ex d 5 11 [l0, l1, l2] [(0, b), (0, a), v2, v3, v4] S h n = mx_ex d 5 12 [l0, l1, l2] [(0, mx_w (a + b)), v2, v3, v4] S h n) ∧
  (∀ (d : Nat) (v a : Int) (l0 l1 l2 : Option mx_V) (v2 v3 : mx_V) (S h : mx_H) (n : Int), mx_ex d 5 12 [l0, l1, l2] [(0, v), (2, a), v2, v3] S h n = mx_gd (11 ≤ S a (-2) ∧ S a (-2) ≤ 11) d 5 15 [l0, l1, l2] [v2, v3] S (mx_u h a 1 v) n) ∧
  (∀ (d : Nat) (l0 l1 l2 : Option mx_V) (v0 v1 : mx_V) (S h : mx_H) (n : Int), mx_ex d 5 15 [l0, l1, l2] [v0, v1] S h n = mx_ex d 5 17 [l0, l1, l2] [(0, 31), v0, v1] S h n) ∧
  (∀ (d : Nat) (b a : Int) (l0 l1 l2 : Option mx_V) (v2 : mx_V) (S h : mx_H) (n : Int), mx_ex d 5 17 [l0, l1, l2] [(0, b), (0, a), v2] S h n = mx_ex d 5 18 [l0, l1, l2] [(0, mx_and a b), v2] S h n) ∧
  (∀ (d : Nat) (l0 l1 l2 : Option mx_V) (v0 v1 : mx_V) (S h : mx_H) (n : Int), mx_ex d 5 18 [l0, l1, l2] [v0, v1] S h n = mx_ex d 5 20 [l0, l1, l2] [(0, 30), v0, v1] S h n) ∧
  (∀ (d : Nat) (v i a : Int) (l0 l1 l2 : Option mx_V) (S h : mx_H) (n : Int), mx_ex d 5 20 [l0, l1, l2] [(0, v), (0, i), (2, a)] S h n = mx_gd (S a (-2) = 20 ∧ 0 ≤ i ∧ i < S a (-1)) d 5 21 [l0, l1, l2] [] S (mx_u h a i v) n) ∧
  (∀ (d : Nat) (x : Int) (l1 l2 : Option mx_V) (S h : mx_H) (n : Int), mx_ex d 5 21 [some (2, x), l1, l2] [] S h n = mx_ex d 5 22 [some (2, x), l1, l2] [(2, x)] S h n) ∧
  (∀ (d : Nat) (x : Int) (l0 l2 : Option mx_V) (v0 : mx_V) (S h : mx_H) (n : Int), mx_ex d 5 22 [l0, some (0, x), l2] [v0] S h n = mx_ex d 5 23 [l0, some (0, x), l2] [(0, x), v0] S h n) ∧
  (∀ (d : Nat) (x : Int) (l0 l1 : Option mx_V) (v0 v1 : mx_V) (S h : mx_H) (n : Int), mx_ex d 5 23 [l0, l1, some (2, x)] [v0, v1] S h n = mx_ex d 5 24 [l0, l1, some (2, x)] [(2, x), v0, v1] S h n) ∧
  (∀ (d : Nat) (x0 x1 a : Int) (l0 l1 l2 : Option mx_V) (S h : mx_H) (n : Int), mx_ex (d + 1) 5 24 [l0, l1, l2] [(2, x0), (0, x1), (2, a)] S h n = mx_cl (1 ≤ S a (-2) ∧ S a (-2) ≤ 6) d 48 [(2, a), (0, x1), (2, x0)] 5 27 [l0, l1, l2] [] S h n) ∧
  (∀ (d : Nat) (l0 l1 l2 : Option mx_V) (v0 : mx_V) (S h : mx_H) (n : Int), mx_ex d 5 27 [l0, l1, l2] [v0] S h n = mx_ex d 5 28 [l0, l1, l2] [(0, 3), v0] S h n) ∧
  (∀ (d : Nat) (b a : Int) (l0 l1 l2 : Option mx_V) (S h : mx_H) (n : Int), mx_ex d 5 28 [l0, l1, l2] [(0, b), (0, a)] S h n = mx_ex d 5 29 [l0, l1, l2] [(0, mx_w (a * b))] S h n) ∧
  (∀ (d : Nat) (x : Int) (l0 l1 l2 : Option mx_V) (S h : mx_H) (n : Int), mx_ex d 5 29 [l0, l1, l2] [(0, x)] S h n = some (some (0, x), S, h, n)) :=
  ⟨by intros; exact rfl,
   by intros; exact eq_ld rfl rfl,
   by intros; exact eq_gr rfl,
   by intros; exact eq_ld rfl rfl,
   by intros; exact eq_dup rfl (by decide),
   by intros; exact eq_gi rfl,
   by intros; exact eq_dx1 rfl (by decide) (by decide),
   by intros; exact eq_push rfl,
   by intros; exact eq_i2 (o := mx_add) rfl,
   by intros; exact eq_pi rfl,
   by intros; exact eq_push rfl,
   by intros; exact eq_i2 (o := mx_and) rfl,
   by intros; exact eq_push rfl,
   by intros; exact eq_iast rfl,
   by intros; exact eq_ld rfl rfl,
   by intros; exact eq_ld rfl rfl,
   by intros; exact eq_ld rfl rfl,
   by intros; exact eq_ci rfl (Nat.le_of_ble_eq_true rfl) rfl rfl rfl (Nat.le_of_ble_eq_true rfl),
   by intros; exact eq_push rfl,
   by intros; exact eq_i2 (o := mx_mul) rfl,
   by intros; exact eq_ret rfl⟩
theorem rw_X0_tells :
  (∀ (d : Nat) (a0 a1 a2 : Int) (S h : mx_H) (n : Int), mx_M d 6 [(2, a0), (0, a1), (2, a2)] S h n = mx_ex d 6 0 [some (2, a0), some (0, a1), some (2, a2)] [] S h n) ∧
  (∀ (d : Nat) (x : Int) (l0 l1 : Option mx_V) (S h : mx_H) (n : Int), mx_ex d 6 0 [l0, l1, some (2, x)] [] S h n = mx_ex d 6 1 [l0, l1, some (2, x)] [(2, x)] S h n) ∧
  (∀ (d : Nat) (a : Int) (l0 l1 l2 : Option mx_V) (S h : mx_H) (n : Int), mx_ex d 6 1 [l0, l1, l2] [(2, a)] S h n = mx_gd (11 ≤ S a (-2) ∧ S a (-2) ≤ 11) d 6 4 [l0, l1, l2] [(2, S a 0)] S h n) ∧
  (∀ (d : Nat) (x : Int) (l0 l1 : Option mx_V) (v0 : mx_V) (S h : mx_H) (n : Int), mx_ex d 6 4 [l0, l1, some (2, x)] [v0] S h n = mx_ex d 6 5 [l0, l1, some (2, x)] [(2, x), v0] S h n) ∧
  (∀ (d : Nat) (a : Int) (l0 l1 l2 : Option mx_V) (v1 : mx_V) (S h : mx_H) (n : Int), mx_ex d 6 5 [l0, l1, l2] [(2, a), v1] S h n = mx_ex d 6 6 [l0, l1, l2] [(2, a), (2, a), v1] S h n) ∧
  (∀ (d : Nat) (a : Int) (l0 l1 l2 : Option mx_V) (v1 v2 : mx_V) (S h : mx_H) (n : Int), mx_ex d 6 6 [l0, l1, l2] [(2, a), v1, v2] S h n = mx_gd (11 ≤ S a (-2) ∧ S a (-2) ≤ 11) d 6 9 [l0, l1, l2] [(0, h a 1), v1, v2] S h n) ∧
  (∀ (d : Nat) (a b : Int) (l0 l1 l2 : Option mx_V) (v2 : mx_V) (S h : mx_H) (n : Int), mx_ex d 6 9 [l0, l1, l2] [(0, a), (2, b), v2] S h n = mx_ex d 6 10 [l0, l1, l2] [(0, a), (2, b), (0, a), v2] S h n) ∧
  (∀ (d : Nat) (l0 l1 l2 : Option mx_V) (v0 v1 v2 v3 : mx_V) (S h : mx_H) (n : Int), mx_ex d 6 10 [l0, l1, l2] [v0, v1, v2, v3] S h n = mx_ex d 6 11 [l0, l1, l2] [(0, 1), v0, v1, v2, v3] S h n) ∧
  (∀ (d : Nat) (b a : Int) (l0 l1 l2 : Option mx_V) (v2 v3 v4 : mx_V) (S h : mx_H) (n : Int), mx_ex d 6 11 [l0, l1, l2] [(0, b), (0, a), v2, v3, v4] S h n = mx_ex d 6 12 [l0, l1, l2] [(0, mx_w (a + b)), v2, v3, v4] S h n) ∧
  (∀ (d : Nat) (v a : Int) (l0 l1 l2 : Option mx_V) (v2 v3 : mx_V) (S h : mx_H) (n : Int), mx_ex d 6 12 [l0, l1, l2] [(0, v), (2, a), v2, v3] S h n = mx_gd (11 ≤ S a (-2) ∧ S a (-2) ≤ 11) d 6 15 [l0, l1, l2] [v2, v3] S (mx_u h a 1 v) n) ∧
  (∀ (d : Nat) (l0 l1 l2 : Option mx_V) (v0 v1 : mx_V) (S h : mx_H) (n : Int), mx_ex d 6 15 [l0, l1, l2] [v0, v1] S h n = mx_ex d 6 17 [l0, l1, l2] [(0, 31), v0, v1] S h n) ∧
  (∀ (d : Nat) (b a : Int) (l0 l1 l2 : Option mx_V) (v2 : mx_V) (S h : mx_H) (n : Int), mx_ex d 6 17 [l0, l1, l2] [(0, b), (0, a), v2] S h n = mx_ex d 6 18 [l0, l1, l2] [(0, mx_and a b), v2] S h n) ∧
  (∀ (d : Nat) (l0 l1 l2 : Option mx_V) (v0 v1 : mx_V) (S h : mx_H) (n : Int), mx_ex d 6 18 [l0, l1, l2] [v0, v1] S h n = mx_ex d 6 20 [l0, l1, l2] [(0, 31), v0, v1] S h n) ∧
  (∀ (d : Nat) (v i a : Int) (l0 l1 l2 : Option mx_V) (S h : mx_H) (n : Int), mx_ex d 6 20 [l0, l1, l2] [(0, v), (0, i), (2, a)] S h n = mx_gd (S a (-2) = 20 ∧ 0 ≤ i ∧ i < S a (-1)) d 6 21 [l0, l1, l2] [] S (mx_u h a i v) n) ∧
  (∀ (d : Nat) (x : Int) (l1 l2 : Option mx_V) (S h : mx_H) (n : Int), mx_ex d 6 21 [some (2, x), l1, l2] [] S h n = mx_ex d 6 22 [some (2, x), l1, l2] [(2, x)] S h n) ∧
  (∀ (d : Nat) (x : Int) (l0 l2 : Option mx_V) (v0 : mx_V) (S h : mx_H) (n : Int), mx_ex d 6 22 [l0, some (0, x), l2] [v0] S h n = mx_ex d 6 23 [l0, some (0, x), l2] [(0, x), v0] S h n) ∧
  (∀ (d : Nat) (x : Int) (l0 l1 : Option mx_V) (v0 v1 : mx_V) (S h : mx_H) (n : Int), mx_ex d 6 23 [l0, l1, some (2, x)] [v0, v1] S h n = mx_ex d 6 24 [l0, l1, some (2, x)] [(2, x), v0, v1] S h n) ∧
  (∀ (d : Nat) (x0 x1 a : Int) (l0 l1 l2 : Option mx_V) (S h : mx_H) (n : Int), mx_ex (d + 1) 6 24 [l0, l1, l2] [(2, x0), (0, x1), (2, a)] S h n = mx_cl (1 ≤ S a (-2) ∧ S a (-2) ≤ 6) d 51 [(2, a), (0, x1), (2, x0)] 6 27 [l0, l1, l2] [] S h n) ∧
  (∀ (d : Nat) (x : Int) (l1 l2 : Option mx_V) (v0 : mx_V) (S h : mx_H) (n : Int), mx_ex d 6 27 [some (2, x), l1, l2] [v0] S h n = mx_ex d 6 28 [some (2, x), l1, l2] [(2, x), v0] S h n) ∧
  (∀ (d : Nat) (x : Int) (l1 l2 : Option mx_V) (v0 v1 : mx_V) (S h : mx_H) (n : Int), mx_ex d 6 28 [some (2, x), l1, l2] [v0, v1] S h n = mx_ex d 6 29 [some (2, x), l1, l2] [(2, x), v0, v1] S h n) ∧
  (∀ (d : Nat) (a : Int) (l0 l1 l2 : Option mx_V) (v1 v2 : mx_V) (S h : mx_H) (n : Int), mx_ex d 6 29 [l0, l1, l2] [(2, a), v1, v2] S h n = mx_gd (1 ≤ S a (-2) ∧ S a (-2) ≤ 6) d 6 32 [l0, l1, l2] [(0, h a 0), v1, v2] S h n) ∧
  (∀ (d : Nat) (x : Int) (l0 l1 : Option mx_V) (v0 v1 v2 : mx_V) (S h : mx_H) (n : Int), mx_ex d 6 32 [l0, l1, some (2, x)] [v0, v1, v2] S h n = mx_ex d 6 33 [l0, l1, some (2, x)] [(2, x), v0, v1, v2] S h n) ∧
  (∀ (d : Nat) (x0 x1 a : Int) (l0 l1 l2 : Option mx_V) (v3 : mx_V) (S h : mx_H) (n : Int), mx_ex (d + 1) 6 33 [l0, l1, l2] [(2, x0), (0, x1), (2, a), v3] S h n = mx_cu (mx_vt (S a (-2)) [(3, 50), (4, 50)]) d [(2, a), (0, x1), (2, x0)] 6 36 [l0, l1, l2] [v3] S h n) ∧
  (∀ (d : Nat) (b a : Int) (l0 l1 l2 : Option mx_V) (S h : mx_H) (n : Int), mx_ex d 6 36 [l0, l1, l2] [(0, b), (0, a)] S h n = mx_ex d 6 37 [l0, l1, l2] [(0, mx_w (a + b))] S h n) ∧
  (∀ (d : Nat) (x : Int) (l0 l1 l2 : Option mx_V) (S h : mx_H) (n : Int), mx_ex d 6 37 [l0, l1, l2] [(0, x)] S h n = some (some (0, x), S, h, n)) :=
  ⟨by intros; exact rfl,
   by intros; exact eq_ld rfl rfl,
   by intros; exact eq_gr rfl,
   by intros; exact eq_ld rfl rfl,
   by intros; exact eq_dup rfl (by decide),
   by intros; exact eq_gi rfl,
   by intros; exact eq_dx1 rfl (by decide) (by decide),
   by intros; exact eq_push rfl,
   by intros; exact eq_i2 (o := mx_add) rfl,
   by intros; exact eq_pi rfl,
   by intros; exact eq_push rfl,
   by intros; exact eq_i2 (o := mx_and) rfl,
   by intros; exact eq_push rfl,
   by intros; exact eq_iast rfl,
   by intros; exact eq_ld rfl rfl,
   by intros; exact eq_ld rfl rfl,
   by intros; exact eq_ld rfl rfl,
   by intros; exact eq_ci rfl (Nat.le_of_ble_eq_true rfl) rfl rfl rfl (Nat.le_of_ble_eq_true rfl),
   by intros; exact eq_ld rfl rfl,
   by intros; exact eq_ld rfl rfl,
   by intros; exact eq_gi rfl,
   by intros; exact eq_ld rfl rfl,
   by intros; exact eq_cu rfl (Nat.le_of_ble_eq_true rfl) rfl rfl rfl (Nat.le_of_ble_eq_true rfl),
   by intros; exact eq_i2 (o := mx_add) rfl,
   by intros; exact eq_ret rfl⟩
theorem rw_X1_init :
  (∀ (d : Nat) (a0 a1 a2 a3 a4 : Int) (S h : mx_H) (n : Int), mx_M d 7 [(2, a0), (0, a1), (0, a2), (0, a3), (2, a4)] S h n = mx_ex d 7 0 [some (2, a0), some (0, a1), some (0, a2), some (0, a3), some (2, a4)] [] S h n) ∧
  (∀ (d : Nat) (x : Int) (l1 l2 l3 l4 : Option mx_V) (S h : mx_H) (n : Int), mx_ex d 7 0 [some (2, x), l1, l2, l3, l4] [] S h n = mx_ex d 7 1 [some (2, x), l1, l2, l3, l4] [(2, x)] S h n) ∧
  (∀ (d : Nat) (x : Int) (l0 l2 l3 l4 : Option mx_V) (v0 : mx_V) (S h : mx_H) (n : Int), mx_ex d 7 1 [l0, some (0, x), l2, l3, l4] [v0] S h n = mx_ex d 7 2 [l0, some (0, x), l2, l3, l4] [(0, x), v0] S h n) ∧
  (∀ (d : Nat) (x : Int) (l0 l1 l3 l4 : Option mx_V) (v0 v1 : mx_V) (S h : mx_H) (n : Int), mx_ex d 7 2 [l0, l1, some (0, x), l3, l4] [v0, v1] S h n = mx_ex d 7 3 [l0, l1, some (0, x), l3, l4] [(0, x), v0, v1] S h n) ∧
  (∀ (d : Nat) (x : Int) (l0 l1 l2 l4 : Option mx_V) (v0 v1 v2 : mx_V) (S h : mx_H) (n : Int), mx_ex d 7 3 [l0, l1, l2, some (0, x), l4] [v0, v1, v2] S h n = mx_ex d 7 4 [l0, l1, l2, some (0, x), l4] [(0, x), v0, v1, v2] S h n) ∧
  (∀ (d : Nat) (x : Int) (l0 l1 l2 l3 : Option mx_V) (v0 v1 v2 v3 : mx_V) (S h : mx_H) (n : Int), mx_ex d 7 4 [l0, l1, l2, l3, some (2, x)] [v0, v1, v2, v3] S h n = mx_ex d 7 6 [l0, l1, l2, l3, some (2, x)] [(2, x), v0, v1, v2, v3] S h n) ∧
  (∀ (d : Nat) (x0 x1 x2 x3 a : Int) (l0 l1 l2 l3 l4 : Option mx_V) (S h : mx_H) (n : Int), mx_ex (d + 1) 7 6 [l0, l1, l2, l3, l4] [(2, x0), (0, x1), (0, x2), (0, x3), (2, a)] S h n = mx_cl (1 ≤ S a (-2) ∧ S a (-2) ≤ 6) d 54 [(2, a), (0, x3), (0, x2), (0, x1), (2, x0)] 7 9 [l0, l1, l2, l3, l4] [] S h n) ∧
  (∀ (d : Nat) (l0 l1 l2 l3 l4 : Option mx_V) (S h : mx_H) (n : Int), mx_ex d 7 9 [l0, l1, l2, l3, l4] [] S h n = some (none, S, h, n)) :=
  ⟨by intros; exact rfl,
   by intros; exact eq_ld rfl rfl,
   by intros; exact eq_ld rfl rfl,
   by intros; exact eq_ld rfl rfl,
   by intros; exact eq_ld rfl rfl,
   by intros; exact eq_ld rfl rfl,
   by intros; exact eq_ci rfl (Nat.le_of_ble_eq_true rfl) rfl rfl rfl (Nat.le_of_ble_eq_true rfl),
   by intros; exact eq_retv rfl⟩
theorem rw_X1_kind :
  (∀ (d : Nat) (a0 : Int) (S h : mx_H) (n : Int), mx_M d 8 [(2, a0)] S h n = mx_ex d 8 0 [some (2, a0)] [] S h n) ∧
  (∀ (d : Nat) (l0 : Option mx_V) (S h : mx_H) (n : Int), mx_ex d 8 0 [l0] [] S h n = mx_ex d 8 1 [l0] [(0, 5)] S h n) ∧
  (∀ (d : Nat) (x : Int) (l0 : Option mx_V) (S h : mx_H) (n : Int), mx_ex d 8 1 [l0] [(0, x)] S h n = some (some (0, x), S, h, n)) :=
  ⟨by intros; exact rfl,
   by intros; exact eq_push rfl,
   by intros; exact eq_ret rfl⟩
theorem rw_X1_worthBy :
  (∀ (d : Nat) (a0 a1 : Int) (S h : mx_H) (n : Int), mx_M d 9 [(2, a0), (0, a1)] S h n = mx_ex d 9 0 [some (2, a0), some (0, a1)] [] S h n) ∧
  (∀ (d : Nat) (l0 l1 : Option mx_V) (S h : mx_H) (n : Int), mx_ex d 9 0 [l0, l1] [] S h n = mx_ex d 9 1 [l0, l1] [(0, 0)] S h n) ∧
  (∀ (d : Nat) (x : Int) (l1 : Option mx_V) (v0 : mx_V) (S h : mx_H) (n : Int), mx_ex d 9 1 [some (2, x), l1] [v0] S h n = mx_ex d 9 2 [some (2, x), l1] [(2, x), v0] S h n) ∧
  (∀ (d : Nat) (x : Int) (l0 : Option mx_V) (v0 v1 : mx_V) (S h : mx_H) (n : Int), mx_ex d 9 2 [l0, some (0, x)] [v0, v1] S h n = mx_ex d 9 3 [l0, some (0, x)] [(0, x), v0, v1] S h n) ∧
  (∀ (d : Nat) (x0 a : Int) (l0 l1 : Option mx_V) (v2 : mx_V) (S h : mx_H) (n : Int), mx_ex (d + 1) 9 3 [l0, l1] [(0, x0), (2, a), v2] S h n = mx_cl (1 ≤ S a (-2) ∧ S a (-2) ≤ 6) d 56 [(2, a), (0, x0)] 9 6 [l0, l1] [v2] S h n) ∧
  (∀ (d : Nat) (b a : Int) (l0 l1 : Option mx_V) (S h : mx_H) (n : Int), mx_ex d 9 6 [l0, l1] [(0, b), (0, a)] S h n = mx_ex d 9 7 [l0, l1] [(0, mx_w (a - b))] S h n) ∧
  (∀ (d : Nat) (x : Int) (l0 l1 : Option mx_V) (S h : mx_H) (n : Int), mx_ex d 9 7 [l0, l1] [(0, x)] S h n = some (some (0, x), S, h, n)) :=
  ⟨by intros; exact rfl,
   by intros; exact eq_push rfl,
   by intros; exact eq_ld rfl rfl,
   by intros; exact eq_ld rfl rfl,
   by intros; exact eq_ci rfl (Nat.le_of_ble_eq_true rfl) rfl rfl rfl (Nat.le_of_ble_eq_true rfl),
   by intros; exact eq_i2 (o := mx_sub) rfl,
   by intros; exact eq_ret rfl⟩
theorem rw_X1_shares :
  (∀ (d : Nat) (a0 a1 a2 : Int) (S h : mx_H) (n : Int), mx_M d 10 [(2, a0), (0, a1), (2, a2)] S h n = mx_ex d 10 0 [some (2, a0), some (0, a1), some (2, a2)] [] S h n) ∧
  (∀ (d : Nat) (x : Int) (l0 l1 : Option mx_V) (S h : mx_H) (n : Int), mx_ex d 10 0 [l0, l1, some (2, x)] [] S h n = mx_ex d 10 1 [l0, l1, some (2, x)] [(2, x)] S h n) ∧
  (∀ (d : Nat) (a : Int) (l0 l1 l2 : Option mx_V) (S h : mx_H) (n : Int), mx_ex d 10 1 [l0, l1, l2] [(2, a)] S h n = mx_gd (11 ≤ S a (-2) ∧ S a (-2) ≤ 11) d 10 4 [l0, l1, l2] [(2, S a 0)] S h n) ∧
  (∀ (d : Nat) (x : Int) (l0 l1 : Option mx_V) (v0 : mx_V) (S h : mx_H) (n : Int), mx_ex d 10 4 [l0, l1, some (2, x)] [v0] S h n = mx_ex d 10 5 [l0, l1, some (2, x)] [(2, x), v0] S h n) ∧
  (∀ (d : Nat) (a : Int) (l0 l1 l2 : Option mx_V) (v1 : mx_V) (S h : mx_H) (n : Int), mx_ex d 10 5 [l0, l1, l2] [(2, a), v1] S h n = mx_ex d 10 6 [l0, l1, l2] [(2, a), (2, a), v1] S h n) ∧
  (∀ (d : Nat) (a : Int) (l0 l1 l2 : Option mx_V) (v1 v2 : mx_V) (S h : mx_H) (n : Int), mx_ex d 10 6 [l0, l1, l2] [(2, a), v1, v2] S h n = mx_gd (11 ≤ S a (-2) ∧ S a (-2) ≤ 11) d 10 9 [l0, l1, l2] [(0, h a 1), v1, v2] S h n) ∧
  (∀ (d : Nat) (a b : Int) (l0 l1 l2 : Option mx_V) (v2 : mx_V) (S h : mx_H) (n : Int), mx_ex d 10 9 [l0, l1, l2] [(0, a), (2, b), v2] S h n = mx_ex d 10 10 [l0, l1, l2] [(0, a), (2, b), (0, a), v2] S h n) ∧
  (∀ (d : Nat) (l0 l1 l2 : Option mx_V) (v0 v1 v2 v3 : mx_V) (S h : mx_H) (n : Int), mx_ex d 10 10 [l0, l1, l2] [v0, v1, v2, v3] S h n = mx_ex d 10 11 [l0, l1, l2] [(0, 1), v0, v1, v2, v3] S h n) ∧
  (∀ (d : Nat) (b a : Int) (l0 l1 l2 : Option mx_V) (v2 v3 v4 : mx_V) (S h : mx_H) (n : Int), mx_ex d 10 11 [l0, l1, l2] [(0, b), (0, a), v2, v3, v4] S h n = mx_ex d 10 12 [l0, l1, l2] [(0, mx_w (a + b)), v2, v3, v4] S h n) ∧
  (∀ (d : Nat) (v a : Int) (l0 l1 l2 : Option mx_V) (v2 v3 : mx_V) (S h : mx_H) (n : Int), mx_ex d 10 12 [l0, l1, l2] [(0, v), (2, a), v2, v3] S h n = mx_gd (11 ≤ S a (-2) ∧ S a (-2) ≤ 11) d 10 15 [l0, l1, l2] [v2, v3] S (mx_u h a 1 v) n) ∧
  (∀ (d : Nat) (l0 l1 l2 : Option mx_V) (v0 v1 : mx_V) (S h : mx_H) (n : Int), mx_ex d 10 15 [l0, l1, l2] [v0, v1] S h n = mx_ex d 10 17 [l0, l1, l2] [(0, 31), v0, v1] S h n) ∧
  (∀ (d : Nat) (b a : Int) (l0 l1 l2 : Option mx_V) (v2 : mx_V) (S h : mx_H) (n : Int), mx_ex d 10 17 [l0, l1, l2] [(0, b), (0, a), v2] S h n = mx_ex d 10 18 [l0, l1, l2] [(0, mx_and a b), v2] S h n) ∧
  (∀ (d : Nat) (l0 l1 l2 : Option mx_V) (v0 v1 : mx_V) (S h : mx_H) (n : Int), mx_ex d 10 18 [l0, l1, l2] [v0, v1] S h n = mx_ex d 10 20 [l0, l1, l2] [(0, 50), v0, v1] S h n) ∧
  (∀ (d : Nat) (v i a : Int) (l0 l1 l2 : Option mx_V) (S h : mx_H) (n : Int), mx_ex d 10 20 [l0, l1, l2] [(0, v), (0, i), (2, a)] S h n = mx_gd (S a (-2) = 20 ∧ 0 ≤ i ∧ i < S a (-1)) d 10 21 [l0, l1, l2] [] S (mx_u h a i v) n) ∧
  (∀ (d : Nat) (x : Int) (l1 l2 : Option mx_V) (S h : mx_H) (n : Int), mx_ex d 10 21 [some (2, x), l1, l2] [] S h n = mx_ex d 10 22 [some (2, x), l1, l2] [(2, x)] S h n) ∧
  (∀ (d : Nat) (x : Int) (l0 l2 : Option mx_V) (v0 : mx_V) (S h : mx_H) (n : Int), mx_ex d 10 22 [l0, some (0, x), l2] [v0] S h n = mx_ex d 10 23 [l0, some (0, x), l2] [(0, x), v0] S h n) ∧
  (∀ (d : Nat) (l0 l1 l2 : Option mx_V) (v0 v1 : mx_V) (S h : mx_H) (n : Int), mx_ex d 10 23 [l0, l1, l2] [v0, v1] S h n = mx_ex d 10 24 [l0, l1, l2] [(0, 2), v0, v1] S h n) ∧
  (∀ (d : Nat) (b a : Int) (l0 l1 l2 : Option mx_V) (v2 : mx_V) (S h : mx_H) (n : Int), mx_ex d 10 24 [l0, l1, l2] [(0, b), (0, a), v2] S h n = mx_ex d 10 25 [l0, l1, l2] [(0, mx_w (a + b)), v2] S h n) ∧
  (∀ (d : Nat) (x : Int) (l0 l1 : Option mx_V) (v0 v1 : mx_V) (S h : mx_H) (n : Int), mx_ex d 10 25 [l0, l1, some (2, x)] [v0, v1] S h n = mx_ex d 10 26 [l0, l1, some (2, x)] [(2, x), v0, v1] S h n) ∧
  (∀ (d : Nat) (x0 x1 a : Int) (l0 l1 l2 : Option mx_V) (S h : mx_H) (n : Int), mx_ex (d + 1) 10 26 [l0, l1, l2] [(2, x0), (0, x1), (2, a)] S h n = mx_cl (1 ≤ S a (-2) ∧ S a (-2) ≤ 6) d 50 [(2, a), (0, x1), (2, x0)] 10 29 [l0, l1, l2] [] S h n) ∧
  (∀ (d : Nat) (l0 l1 l2 : Option mx_V) (v0 : mx_V) (S h : mx_H) (n : Int), mx_ex d 10 29 [l0, l1, l2] [v0] S h n = mx_ex d 10 30 [l0, l1, l2] [(0, 1), v0] S h n) ∧
  (∀ (d : Nat) (b a : Int) (l0 l1 l2 : Option mx_V) (S h : mx_H) (n : Int), mx_ex d 10 30 [l0, l1, l2] [(0, b), (0, a)] S h n = mx_ex d 10 31 [l0, l1, l2] [(0, mx_xor a b)] S h n) ∧
  (∀ (d : Nat) (x : Int) (l0 l1 l2 : Option mx_V) (S h : mx_H) (n : Int), mx_ex d 10 31 [l0, l1, l2] [(0, x)] S h n = some (some (0, x), S, h, n)) :=
  ⟨by intros; exact rfl,
   by intros; exact eq_ld rfl rfl,
   by intros; exact eq_gr rfl,
   by intros; exact eq_ld rfl rfl,
   by intros; exact eq_dup rfl (by decide),
   by intros; exact eq_gi rfl,
   by intros; exact eq_dx1 rfl (by decide) (by decide),
   by intros; exact eq_push rfl,
   by intros; exact eq_i2 (o := mx_add) rfl,
   by intros; exact eq_pi rfl,
   by intros; exact eq_push rfl,
   by intros; exact eq_i2 (o := mx_and) rfl,
   by intros; exact eq_push rfl,
   by intros; exact eq_iast rfl,
   by intros; exact eq_ld rfl rfl,
   by intros; exact eq_ld rfl rfl,
   by intros; exact eq_push rfl,
   by intros; exact eq_i2 (o := mx_add) rfl,
   by intros; exact eq_ld rfl rfl,
   by intros; exact eq_ci rfl (Nat.le_of_ble_eq_true rfl) rfl rfl rfl (Nat.le_of_ble_eq_true rfl),
   by intros; exact eq_push rfl,
   by intros; exact eq_i2 (o := mx_xor) rfl,
   by intros; exact eq_ret rfl⟩
theorem rw_X1_reads :
  (∀ (d : Nat) (a0 a1 a2 : Int) (S h : mx_H) (n : Int), mx_M d 11 [(2, a0), (0, a1), (2, a2)] S h n = mx_ex d 11 0 [some (2, a0), some (0, a1), some (2, a2)] [] S h n) ∧
  (∀ (d : Nat) (x : Int) (l0 l1 : Option mx_V) (S h : mx_H) (n : Int), mx_ex d 11 0 [l0, l1, some (2, x)] [] S h n = mx_ex d 11 1 [l0, l1, some (2, x)] [(2, x)] S h n) ∧
  (∀ (d : Nat) (a : Int) (l0 l1 l2 : Option mx_V) (S h : mx_H) (n : Int), mx_ex d 11 1 [l0, l1, l2] [(2, a)] S h n = mx_gd (11 ≤ S a (-2) ∧ S a (-2) ≤ 11) d 11 4 [l0, l1, l2] [(2, S a 0)] S h n) ∧
  (∀ (d : Nat) (x : Int) (l0 l1 : Option mx_V) (v0 : mx_V) (S h : mx_H) (n : Int), mx_ex d 11 4 [l0, l1, some (2, x)] [v0] S h n = mx_ex d 11 5 [l0, l1, some (2, x)] [(2, x), v0] S h n) ∧
  (∀ (d : Nat) (a : Int) (l0 l1 l2 : Option mx_V) (v1 : mx_V) (S h : mx_H) (n : Int), mx_ex d 11 5 [l0, l1, l2] [(2, a), v1] S h n = mx_ex d 11 6 [l0, l1, l2] [(2, a), (2, a), v1] S h n) ∧
  (∀ (d : Nat) (a : Int) (l0 l1 l2 : Option mx_V) (v1 v2 : mx_V) (S h : mx_H) (n : Int), mx_ex d 11 6 [l0, l1, l2] [(2, a), v1, v2] S h n = mx_gd (11 ≤ S a (-2) ∧ S a (-2) ≤ 11) d 11 9 [l0, l1, l2] [(0, h a 1), v1, v2] S h n) ∧
  (∀ (d : Nat) (a b : Int) (l0 l1 l2 : Option mx_V) (v2 : mx_V) (S h : mx_H) (n : Int), mx_ex d 11 9 [l0, l1, l2] [(0, a), (2, b), v2] S h n = mx_ex d 11 10 [l0, l1, l2] [(0, a), (2, b), (0, a), v2] S h n) ∧
  (∀ (d : Nat) (l0 l1 l2 : Option mx_V) (v0 v1 v2 v3 : mx_V) (S h : mx_H) (n : Int), mx_ex d 11 10 [l0, l1, l2] [v0, v1, v2, v3] S h n = mx_ex d 11 11 [l0, l1, l2] [(0, 1), v0, v1, v2, v3] S h n) ∧
  (∀ (d : Nat) (b a : Int) (l0 l1 l2 : Option mx_V) (v2 v3 v4 : mx_V) (S h : mx_H) (n : Int), mx_ex d 11 11 [l0, l1, l2] [(0, b), (0, a), v2, v3, v4] S h n = mx_ex d 11 12 [l0, l1, l2] [(0, mx_w (a + b)), v2, v3, v4] S h n) ∧
  (∀ (d : Nat) (v a : Int) (l0 l1 l2 : Option mx_V) (v2 v3 : mx_V) (S h : mx_H) (n : Int), mx_ex d 11 12 [l0, l1, l2] [(0, v), (2, a), v2, v3] S h n = mx_gd (11 ≤ S a (-2) ∧ S a (-2) ≤ 11) d 11 15 [l0, l1, l2] [v2, v3] S (mx_u h a 1 v) n) ∧
  (∀ (d : Nat) (l0 l1 l2 : Option mx_V) (v0 v1 : mx_V) (S h : mx_H) (n : Int), mx_ex d 11 15 [l0, l1, l2] [v0, v1] S h n = mx_ex d 11 17 [l0, l1, l2] [(0, 31), v0, v1] S h n) ∧
  (∀ (d : Nat) (b a : Int) (l0 l1 l2 : Option mx_V) (v2 : mx_V) (S h : mx_H) (n : Int), mx_ex d 11 17 [l0, l1, l2] [(0, b), (0, a), v2] S h n = mx_ex d 11 18 [l0, l1, l2] [(0, mx_and a b), v2] S h n) ∧
  (∀ (d : Nat) (l0 l1 l2 : Option mx_V) (v0 v1 : mx_V) (S h : mx_H) (n : Int), mx_ex d 11 18 [l0, l1, l2] [v0, v1] S h n = mx_ex d 11 20 [l0, l1, l2] [(0, 51), v0, v1] S h n) ∧
  (∀ (d : Nat) (v i a : Int) (l0 l1 l2 : Option mx_V) (S h : mx_H) (n : Int), mx_ex d 11 20 [l0, l1, l2] [(0, v), (0, i), (2, a)] S h n = mx_gd (S a (-2) = 20 ∧ 0 ≤ i ∧ i < S a (-1)) d 11 21 [l0, l1, l2] [] S (mx_u h a i v) n) ∧
  (∀ (d : Nat) (x : Int) (l1 l2 : Option mx_V) (S h : mx_H) (n : Int), mx_ex d 11 21 [some (2, x), l1, l2] [] S h n = mx_ex d 11 22 [some (2, x), l1, l2] [(2, x)] S h n) ∧
  (∀ (d : Nat) (x : Int) (l0 l2 : Option mx_V) (v0 : mx_V) (S h : mx_H) (n : Int), mx_ex d 11 22 [l0, some (0, x), l2] [v0] S h n = mx_ex d 11 23 [l0, some (0, x), l2] [(0, x), v0] S h n) ∧
  (∀ (d : Nat) (x : Int) (l0 l1 : Option mx_V) (v0 v1 : mx_V) (S h : mx_H) (n : Int), mx_ex d 11 23 [l0, l1, some (2, x)] [v0, v1] S h n = mx_ex d 11 24 [l0, l1, some (2, x)] [(2, x), v0, v1] S h n) ∧
  (∀ (d : Nat) (x0 x1 a : Int) (l0 l1 l2 : Option mx_V) (S h : mx_H) (n : Int), mx_ex (d + 1) 11 24 [l0, l1, l2] [(2, x0), (0, x1), (2, a)] S h n = mx_cl (1 ≤ S a (-2) ∧ S a (-2) ≤ 6) d 48 [(2, a), (0, x1), (2, x0)] 11 27 [l0, l1, l2] [] S h n) ∧
  (∀ (d : Nat) (x : Int) (l1 l2 : Option mx_V) (v0 : mx_V) (S h : mx_H) (n : Int), mx_ex d 11 27 [some (2, x), l1, l2] [v0] S h n = mx_ex d 11 28 [some (2, x), l1, l2] [(2, x), v0] S h n) ∧
  (∀ (d : Nat) (a : Int) (l0 l1 l2 : Option mx_V) (v1 : mx_V) (S h : mx_H) (n : Int), mx_ex d 11 28 [l0, l1, l2] [(2, a), v1] S h n = mx_gd (1 ≤ S a (-2) ∧ S a (-2) ≤ 6) d 11 31 [l0, l1, l2] [(0, h a 0), v1] S h n) ∧
  (∀ (d : Nat) (b a : Int) (l0 l1 l2 : Option mx_V) (S h : mx_H) (n : Int), mx_ex d 11 31 [l0, l1, l2] [(0, b), (0, a)] S h n = mx_ex d 11 32 [l0, l1, l2] [(0, mx_w (a - b))] S h n) ∧
  (∀ (d : Nat) (x : Int) (l0 l1 l2 : Option mx_V) (S h : mx_H) (n : Int), mx_ex d 11 32 [l0, l1, l2] [(0, x)] S h n = some (some (0, x), S, h, n)) :=
  ⟨by intros; exact rfl,
   by intros; exact eq_ld rfl rfl,
   by intros; exact eq_gr rfl,
   by intros; exact eq_ld rfl rfl,
   by intros; exact eq_dup rfl (by decide),
   by intros; exact eq_gi rfl,
   by intros; exact eq_dx1 rfl (by decide) (by decide),
   by intros; exact eq_push rfl,
   by intros; exact eq_i2 (o := mx_add) rfl,
   by intros; exact eq_pi rfl,
   by intros; exact eq_push rfl,
   by intros; exact eq_i2 (o := mx_and) rfl,
   by intros; exact eq_push rfl,
   by intros; exact eq_iast rfl,
   by intros; exact eq_ld rfl rfl,
   by intros; exact eq_ld rfl rfl,
   by intros; exact eq_ld rfl rfl,
   by intros; exact eq_ci rfl (Nat.le_of_ble_eq_true rfl) rfl rfl rfl (Nat.le_of_ble_eq_true rfl),
   by intros; exact eq_ld rfl rfl,
   by intros; exact eq_gi rfl,
   by intros; exact eq_i2 (o := mx_sub) rfl,
   by intros; exact eq_ret rfl⟩
theorem rw_X3_init :
  (∀ (d : Nat) (a0 a1 a2 a3 a4 : Int) (S h : mx_H) (n : Int), mx_M d 33 [(2, a0), (0, a1), (0, a2), (0, a3), (2, a4)] S h n = mx_ex d 33 0 [some (2, a0), some (0, a1), some (0, a2), some (0, a3), some (2, a4)] [] S h n) ∧
  (∀ (d : Nat) (x : Int) (l1 l2 l3 l4 : Option mx_V) (S h : mx_H) (n : Int), mx_ex d 33 0 [some (2, x), l1, l2, l3, l4] [] S h n = mx_ex d 33 1 [some (2, x), l1, l2, l3, l4] [(2, x)] S h n) ∧
  (∀ (d : Nat) (x : Int) (l0 l2 l3 l4 : Option mx_V) (v0 : mx_V) (S h : mx_H) (n : Int), mx_ex d 33 1 [l0, some (0, x), l2, l3, l4] [v0] S h n = mx_ex d 33 2 [l0, some (0, x), l2, l3, l4] [(0, x), v0] S h n) ∧
  (∀ (d : Nat) (x : Int) (l0 l1 l3 l4 : Option mx_V) (v0 v1 : mx_V) (S h : mx_H) (n : Int), mx_ex d 33 2 [l0, l1, some (0, x), l3, l4] [v0, v1] S h n = mx_ex d 33 3 [l0, l1, some (0, x), l3, l4] [(0, x), v0, v1] S h n) ∧
  (∀ (d : Nat) (x : Int) (l0 l1 l2 l4 : Option mx_V) (v0 v1 v2 : mx_V) (S h : mx_H) (n : Int), mx_ex d 33 3 [l0, l1, l2, some (0, x), l4] [v0, v1, v2] S h n = mx_ex d 33 4 [l0, l1, l2, some (0, x), l4] [(0, x), v0, v1, v2] S h n) ∧
  (∀ (d : Nat) (x : Int) (l0 l1 l2 l3 : Option mx_V) (v0 v1 v2 v3 : mx_V) (S h : mx_H) (n : Int), mx_ex d 33 4 [l0, l1, l2, l3, some (2, x)] [v0, v1, v2, v3] S h n = mx_ex d 33 6 [l0, l1, l2, l3, some (2, x)] [(2, x), v0, v1, v2, v3] S h n) ∧
  (∀ (d : Nat) (x0 x1 x2 x3 a : Int) (l0 l1 l2 l3 l4 : Option mx_V) (S h : mx_H) (n : Int), mx_ex (d + 1) 33 6 [l0, l1, l2, l3, l4] [(2, x0), (0, x1), (0, x2), (0, x3), (2, a)] S h n = mx_cl (1 ≤ S a (-2) ∧ S a (-2) ≤ 6) d 0 [(2, a), (0, x3), (0, x2), (0, x1), (2, x0)] 33 9 [l0, l1, l2, l3, l4] [] S h n) ∧
  (∀ (d : Nat) (l0 l1 l2 l3 l4 : Option mx_V) (S h : mx_H) (n : Int), mx_ex d 33 9 [l0, l1, l2, l3, l4] [] S h n = some (none, S, h, n)) :=
  ⟨by intros; exact rfl,
   by intros; exact eq_ld rfl rfl,
   by intros; exact eq_ld rfl rfl,
   by intros; exact eq_ld rfl rfl,
   by intros; exact eq_ld rfl rfl,
   by intros; exact eq_ld rfl rfl,
   by intros; exact eq_ci rfl (Nat.le_of_ble_eq_true rfl) rfl rfl rfl (Nat.le_of_ble_eq_true rfl),
   by intros; exact eq_retv rfl⟩
theorem rw_X3_kind :
  (∀ (d : Nat) (a0 : Int) (S h : mx_H) (n : Int), mx_M d 34 [(2, a0)] S h n = mx_ex d 34 0 [some (2, a0)] [] S h n) ∧
  (∀ (d : Nat) (l0 : Option mx_V) (S h : mx_H) (n : Int), mx_ex d 34 0 [l0] [] S h n = mx_ex d 34 1 [l0] [(0, 3)] S h n) ∧
  (∀ (d : Nat) (x : Int) (l0 : Option mx_V) (S h : mx_H) (n : Int), mx_ex d 34 1 [l0] [(0, x)] S h n = some (some (0, x), S, h, n)) :=
  ⟨by intros; exact rfl,
   by intros; exact eq_push rfl,
   by intros; exact eq_ret rfl⟩
theorem rw_X3_baseBehind :
  (∀ (d : Nat) (a0 a1 : Int) (S h : mx_H) (n : Int), mx_M d 35 [(2, a0), (0, a1)] S h n = mx_ex d 35 0 [some (2, a0), some (0, a1)] [] S h n) ∧
  (∀ (d : Nat) (x : Int) (l0 : Option mx_V) (S h : mx_H) (n : Int), mx_ex d 35 0 [l0, some (0, x)] [] S h n = mx_ex d 35 1 [l0, some (0, x)] [(0, x)] S h n) ∧
  (∀ (d : Nat) (l0 l1 : Option mx_V) (v0 : mx_V) (S h : mx_H) (n : Int), mx_ex d 35 1 [l0, l1] [v0] S h n = mx_ex d 35 2 [l0, l1] [(0, 1), v0] S h n) ∧
  (∀ (d : Nat) (b a : Int) (l0 l1 : Option mx_V) (S h : mx_H) (n : Int), mx_ex d 35 2 [l0, l1] [(0, b), (0, a)] S h n = mx_ex d 35 3 [l0, l1] [(0, mx_w (a - b))] S h n) ∧
  (∀ (d : Nat) (x : Int) (l0 l1 : Option mx_V) (S h : mx_H) (n : Int), mx_ex d 35 3 [l0, l1] [(0, x)] S h n = some (some (0, x), S, h, n)) :=
  ⟨by intros; exact rfl,
   by intros; exact eq_ld rfl rfl,
   by intros; exact eq_push rfl,
   by intros; exact eq_i2 (o := mx_sub) rfl,
   by intros; exact eq_ret rfl⟩
theorem rw_X3_reads :
  (∀ (d : Nat) (a0 a1 a2 : Int) (S h : mx_H) (n : Int), mx_M d 36 [(2, a0), (0, a1), (2, a2)] S h n = mx_ex d 36 0 [some (2, a0), some (0, a1), some (2, a2)] [] S h n) ∧
  (∀ (d : Nat) (x : Int) (l0 l1 : Option mx_V) (S h : mx_H) (n : Int), mx_ex d 36 0 [l0, l1, some (2, x)] [] S h n = mx_ex d 36 1 [l0, l1, some (2, x)] [(2, x)] S h n) ∧
  (∀ (d : Nat) (a : Int) (l0 l1 l2 : Option mx_V) (S h : mx_H) (n : Int), mx_ex d 36 1 [l0, l1, l2] [(2, a)] S h n = mx_gd (11 ≤ S a (-2) ∧ S a (-2) ≤ 11) d 36 4 [l0, l1, l2] [(2, S a 0)] S h n) ∧
  (∀ (d : Nat) (x : Int) (l0 l1 : Option mx_V) (v0 : mx_V) (S h : mx_H) (n : Int), mx_ex d 36 4 [l0, l1, some (2, x)] [v0] S h n = mx_ex d 36 5 [l0, l1, some (2, x)] [(2, x), v0] S h n) ∧
  (∀ (d : Nat) (a : Int) (l0 l1 l2 : Option mx_V) (v1 : mx_V) (S h : mx_H) (n : Int), mx_ex d 36 5 [l0, l1, l2] [(2, a), v1] S h n = mx_ex d 36 6 [l0, l1, l2] [(2, a), (2, a), v1] S h n) ∧
  (∀ (d : Nat) (a : Int) (l0 l1 l2 : Option mx_V) (v1 v2 : mx_V) (S h : mx_H) (n : Int), mx_ex d 36 6 [l0, l1, l2] [(2, a), v1, v2] S h n = mx_gd (11 ≤ S a (-2) ∧ S a (-2) ≤ 11) d 36 9 [l0, l1, l2] [(0, h a 1), v1, v2] S h n) ∧
  (∀ (d : Nat) (a b : Int) (l0 l1 l2 : Option mx_V) (v2 : mx_V) (S h : mx_H) (n : Int), mx_ex d 36 9 [l0, l1, l2] [(0, a), (2, b), v2] S h n = mx_ex d 36 10 [l0, l1, l2] [(0, a), (2, b), (0, a), v2] S h n) ∧
  (∀ (d : Nat) (l0 l1 l2 : Option mx_V) (v0 v1 v2 v3 : mx_V) (S h : mx_H) (n : Int), mx_ex d 36 10 [l0, l1, l2] [v0, v1, v2, v3] S h n = mx_ex d 36 11 [l0, l1, l2] [(0, 1), v0, v1, v2, v3] S h n) ∧
  (∀ (d : Nat) (b a : Int) (l0 l1 l2 : Option mx_V) (v2 v3 v4 : mx_V) (S h : mx_H) (n : Int), mx_ex d 36 11 [l0, l1, l2] [(0, b), (0, a), v2, v3, v4] S h n = mx_ex d 36 12 [l0, l1, l2] [(0, mx_w (a + b)), v2, v3, v4] S h n) ∧
  (∀ (d : Nat) (v a : Int) (l0 l1 l2 : Option mx_V) (v2 v3 : mx_V) (S h : mx_H) (n : Int), mx_ex d 36 12 [l0, l1, l2] [(0, v), (2, a), v2, v3] S h n = mx_gd (11 ≤ S a (-2) ∧ S a (-2) ≤ 11) d 36 15 [l0, l1, l2] [v2, v3] S (mx_u h a 1 v) n) ∧
  (∀ (d : Nat) (l0 l1 l2 : Option mx_V) (v0 v1 : mx_V) (S h : mx_H) (n : Int), mx_ex d 36 15 [l0, l1, l2] [v0, v1] S h n = mx_ex d 36 17 [l0, l1, l2] [(0, 31), v0, v1] S h n) ∧
  (∀ (d : Nat) (b a : Int) (l0 l1 l2 : Option mx_V) (v2 : mx_V) (S h : mx_H) (n : Int), mx_ex d 36 17 [l0, l1, l2] [(0, b), (0, a), v2] S h n = mx_ex d 36 18 [l0, l1, l2] [(0, mx_and a b), v2] S h n) ∧
  (∀ (d : Nat) (l0 l1 l2 : Option mx_V) (v0 v1 : mx_V) (S h : mx_H) (n : Int), mx_ex d 36 18 [l0, l1, l2] [v0, v1] S h n = mx_ex d 36 20 [l0, l1, l2] [(0, 40), v0, v1] S h n) ∧
  (∀ (d : Nat) (v i a : Int) (l0 l1 l2 : Option mx_V) (S h : mx_H) (n : Int), mx_ex d 36 20 [l0, l1, l2] [(0, v), (0, i), (2, a)] S h n = mx_gd (S a (-2) = 20 ∧ 0 ≤ i ∧ i < S a (-1)) d 36 21 [l0, l1, l2] [] S (mx_u h a i v) n) ∧
  (∀ (d : Nat) (l0 l1 l2 : Option mx_V) (S h : mx_H) (n : Int), mx_ex d 36 21 [l0, l1, l2] [] S h n = mx_ex d 36 22 [l0, l1, l2] [(0, 0)] S h n) ∧
  (∀ (d : Nat) (x : Int) (l1 l2 : Option mx_V) (v0 : mx_V) (S h : mx_H) (n : Int), mx_ex d 36 22 [some (2, x), l1, l2] [v0] S h n = mx_ex d 36 23 [some (2, x), l1, l2] [(2, x), v0] S h n) ∧
  (∀ (d : Nat) (x : Int) (l0 l2 : Option mx_V) (v0 v1 : mx_V) (S h : mx_H) (n : Int), mx_ex d 36 23 [l0, some (0, x), l2] [v0, v1] S h n = mx_ex d 36 24 [l0, some (0, x), l2] [(0, x), v0, v1] S h n) ∧
  (∀ (d : Nat) (x : Int) (l0 l1 : Option mx_V) (v0 v1 v2 : mx_V) (S h : mx_H) (n : Int), mx_ex d 36 24 [l0, l1, some (2, x)] [v0, v1, v2] S h n = mx_ex d 36 25 [l0, l1, some (2, x)] [(2, x), v0, v1, v2] S h n) ∧
  (∀ (d : Nat) (x0 x1 a : Int) (l0 l1 l2 : Option mx_V) (v3 : mx_V) (S h : mx_H) (n : Int), mx_ex (d + 1) 36 25 [l0, l1, l2] [(2, x0), (0, x1), (2, a), v3] S h n = mx_cl (1 ≤ S a (-2) ∧ S a (-2) ≤ 6) d 5 [(2, a), (0, x1), (2, x0)] 36 28 [l0, l1, l2] [v3] S h n) ∧
  (∀ (d : Nat) (b a : Int) (l0 l1 l2 : Option mx_V) (S h : mx_H) (n : Int), mx_ex d 36 28 [l0, l1, l2] [(0, b), (0, a)] S h n = mx_ex d 36 29 [l0, l1, l2] [(0, mx_w (a - b))] S h n) ∧
  (∀ (d : Nat) (x : Int) (l0 l1 l2 : Option mx_V) (S h : mx_H) (n : Int), mx_ex d 36 29 [l0, l1, l2] [(0, x)] S h n = some (some (0, x), S, h, n)) :=
  ⟨by intros; exact rfl,
   by intros; exact eq_ld rfl rfl,
   by intros; exact eq_gr rfl,
   by intros; exact eq_ld rfl rfl,
   by intros; exact eq_dup rfl (by decide),
   by intros; exact eq_gi rfl,
   by intros; exact eq_dx1 rfl (by decide) (by decide),
   by intros; exact eq_push rfl,
   by intros; exact eq_i2 (o := mx_add) rfl,
   by intros; exact eq_pi rfl,
   by intros; exact eq_push rfl,
   by intros; exact eq_i2 (o := mx_and) rfl,
   by intros; exact eq_push rfl,
   by intros; exact eq_iast rfl,
   by intros; exact eq_push rfl,
   by intros; exact eq_ld rfl rfl,
   by intros; exact eq_ld rfl rfl,
   by intros; exact eq_ld rfl rfl,
   by intros; exact eq_ci rfl (Nat.le_of_ble_eq_true rfl) rfl rfl rfl (Nat.le_of_ble_eq_true rfl),
   by intros; exact eq_i2 (o := mx_sub) rfl,
   by intros; exact eq_ret rfl⟩
theorem rw_X3_writes :
  (∀ (d : Nat) (a0 a1 a2 : Int) (S h : mx_H) (n : Int), mx_M d 37 [(2, a0), (0, a1), (2, a2)] S h n = mx_ex d 37 0 [some (2, a0), some (0, a1), some (2, a2)] [] S h n) ∧
  (∀ (d : Nat) (x : Int) (l0 l1 : Option mx_V) (S h : mx_H) (n : Int), mx_ex d 37 0 [l0, l1, some (2, x)] [] S h n = mx_ex d 37 1 [l0, l1, some (2, x)] [(2, x)] S h n) ∧
  (∀ (d : Nat) (a : Int) (l0 l1 l2 : Option mx_V) (S h : mx_H) (n : Int), mx_ex d 37 1 [l0, l1, l2] [(2, a)] S h n = mx_gd (11 ≤ S a (-2) ∧ S a (-2) ≤ 11) d 37 4 [l0, l1, l2] [(2, S a 0)] S h n) ∧
  (∀ (d : Nat) (x : Int) (l0 l1 : Option mx_V) (v0 : mx_V) (S h : mx_H) (n : Int), mx_ex d 37 4 [l0, l1, some (2, x)] [v0] S h n = mx_ex d 37 5 [l0, l1, some (2, x)] [(2, x), v0] S h n) ∧
  (∀ (d : Nat) (a : Int) (l0 l1 l2 : Option mx_V) (v1 : mx_V) (S h : mx_H) (n : Int), mx_ex d 37 5 [l0, l1, l2] [(2, a), v1] S h n = mx_ex d 37 6 [l0, l1, l2] [(2, a), (2, a), v1] S h n) ∧
  (∀ (d : Nat) (a : Int) (l0 l1 l2 : Option mx_V) (v1 v2 : mx_V) (S h : mx_H) (n : Int), mx_ex d 37 6 [l0, l1, l2] [(2, a), v1, v2] S h n = mx_gd (11 ≤ S a (-2) ∧ S a (-2) ≤ 11) d 37 9 [l0, l1, l2] [(0, h a 1), v1, v2] S h n) ∧
  (∀ (d : Nat) (a b : Int) (l0 l1 l2 : Option mx_V) (v2 : mx_V) (S h : mx_H) (n : Int), mx_ex d 37 9 [l0, l1, l2] [(0, a), (2, b), v2] S h n = mx_ex d 37 10 [l0, l1, l2] [(0, a), (2, b), (0, a), v2] S h n) ∧
  (∀ (d : Nat) (l0 l1 l2 : Option mx_V) (v0 v1 v2 v3 : mx_V) (S h : mx_H) (n : Int), mx_ex d 37 10 [l0, l1, l2] [v0, v1, v2, v3] S h n = mx_ex d 37 11 [l0, l1, l2] [(0, 1), v0, v1, v2, v3] S h n) ∧
  (∀ (d : Nat) (b a : Int) (l0 l1 l2 : Option mx_V) (v2 v3 v4 : mx_V) (S h : mx_H) (n : Int), mx_ex d 37 11 [l0, l1, l2] [(0, b), (0, a), v2, v3, v4] S h n = mx_ex d 37 12 [l0, l1, l2] [(0, mx_w (a + b)), v2, v3, v4] S h n) ∧
  (∀ (d : Nat) (v a : Int) (l0 l1 l2 : Option mx_V) (v2 v3 : mx_V) (S h : mx_H) (n : Int), mx_ex d 37 12 [l0, l1, l2] [(0, v), (2, a), v2, v3] S h n = mx_gd (11 ≤ S a (-2) ∧ S a (-2) ≤ 11) d 37 15 [l0, l1, l2] [v2, v3] S (mx_u h a 1 v) n) ∧
  (∀ (d : Nat) (l0 l1 l2 : Option mx_V) (v0 v1 : mx_V) (S h : mx_H) (n : Int), mx_ex d 37 15 [l0, l1, l2] [v0, v1] S h n = mx_ex d 37 17 [l0, l1, l2] [(0, 31), v0, v1] S h n) ∧
  (∀ (d : Nat) (b a : Int) (l0 l1 l2 : Option mx_V) (v2 : mx_V) (S h : mx_H) (n : Int), mx_ex d 37 17 [l0, l1, l2] [(0, b), (0, a), v2] S h n = mx_ex d 37 18 [l0, l1, l2] [(0, mx_and a b), v2] S h n) ∧
  (∀ (d : Nat) (l0 l1 l2 : Option mx_V) (v0 v1 : mx_V) (S h : mx_H) (n : Int), mx_ex d 37 18 [l0, l1, l2] [v0, v1] S h n = mx_ex d 37 20 [l0, l1, l2] [(0, 41), v0, v1] S h n) ∧
  (∀ (d : Nat) (v i a : Int) (l0 l1 l2 : Option mx_V) (S h : mx_H) (n : Int), mx_ex d 37 20 [l0, l1, l2] [(0, v), (0, i), (2, a)] S h n = mx_gd (S a (-2) = 20 ∧ 0 ≤ i ∧ i < S a (-1)) d 37 21 [l0, l1, l2] [] S (mx_u h a i v) n) ∧
  (∀ (d : Nat) (x : Int) (l1 l2 : Option mx_V) (S h : mx_H) (n : Int), mx_ex d 37 21 [some (2, x), l1, l2] [] S h n = mx_ex d 37 22 [some (2, x), l1, l2] [(2, x)] S h n) ∧
  (∀ (d : Nat) (x : Int) (l0 l2 : Option mx_V) (v0 : mx_V) (S h : mx_H) (n : Int), mx_ex d 37 22 [l0, some (0, x), l2] [v0] S h n = mx_ex d 37 23 [l0, some (0, x), l2] [(0, x), v0] S h n) ∧
  (∀ (d : Nat) (x : Int) (l0 l1 : Option mx_V) (v0 v1 : mx_V) (S h : mx_H) (n : Int), mx_ex d 37 23 [l0, l1, some (2, x)] [v0, v1] S h n = mx_ex d 37 24 [l0, l1, some (2, x)] [(2, x), v0, v1] S h n) ∧
  (∀ (d : Nat) (x0 x1 a : Int) (l0 l1 l2 : Option mx_V) (S h : mx_H) (n : Int), mx_ex (d + 1) 37 24 [l0, l1, l2] [(2, x0), (0, x1), (2, a)] S h n = mx_cl (1 ≤ S a (-2) ∧ S a (-2) ≤ 6) d 49 [(2, a), (0, x1), (2, x0)] 37 27 [l0, l1, l2] [] S h n) ∧
  (∀ (d : Nat) (x : Int) (l1 l2 : Option mx_V) (v0 : mx_V) (S h : mx_H) (n : Int), mx_ex d 37 27 [some (2, x), l1, l2] [v0] S h n = mx_ex d 37 28 [some (2, x), l1, l2] [(2, x), v0] S h n) ∧
  (∀ (d : Nat) (x : Int) (l1 l2 : Option mx_V) (v0 v1 : mx_V) (S h : mx_H) (n : Int), mx_ex d 37 28 [some (2, x), l1, l2] [v0, v1] S h n = mx_ex d 37 29 [some (2, x), l1, l2] [(2, x), v0, v1] S h n) ∧
  (∀ (d : Nat) (a : Int) (l0 l1 l2 : Option mx_V) (v1 v2 : mx_V) (S h : mx_H) (n : Int), mx_ex d 37 29 [l0, l1, l2] [(2, a), v1, v2] S h n = mx_gd (1 ≤ S a (-2) ∧ S a (-2) ≤ 6) d 37 32 [l0, l1, l2] [(0, h a 0), v1, v2] S h n) ∧
  (∀ (d : Nat) (x : Int) (l0 l1 : Option mx_V) (v0 v1 v2 : mx_V) (S h : mx_H) (n : Int), mx_ex d 37 32 [l0, l1, some (2, x)] [v0, v1, v2] S h n = mx_ex d 37 33 [l0, l1, some (2, x)] [(2, x), v0, v1, v2] S h n) ∧
  (∀ (d : Nat) (x0 x1 a : Int) (l0 l1 l2 : Option mx_V) (v3 : mx_V) (S h : mx_H) (n : Int), mx_ex (d + 1) 37 33 [l0, l1, l2] [(2, x0), (0, x1), (2, a), v3] S h n = mx_cl (S a (-2) = 4) d 36 [(2, a), (0, x1), (2, x0)] 37 36 [l0, l1, l2] [v3] S h n) ∧
  (∀ (d : Nat) (b a : Int) (l0 l1 l2 : Option mx_V) (S h : mx_H) (n : Int), mx_ex d 37 36 [l0, l1, l2] [(0, b), (0, a)] S h n = mx_ex d 37 37 [l0, l1, l2] [(0, mx_w (a + b))] S h n) ∧
  (∀ (d : Nat) (x : Int) (l0 l1 l2 : Option mx_V) (S h : mx_H) (n : Int), mx_ex d 37 37 [l0, l1, l2] [(0, x)] S h n = some (some (0, x), S, h, n)) :=
  ⟨by intros; exact rfl,
   by intros; exact eq_ld rfl rfl,
   by intros; exact eq_gr rfl,
   by intros; exact eq_ld rfl rfl,
   by intros; exact eq_dup rfl (by decide),
   by intros; exact eq_gi rfl,
   by intros; exact eq_dx1 rfl (by decide) (by decide),
   by intros; exact eq_push rfl,
   by intros; exact eq_i2 (o := mx_add) rfl,
   by intros; exact eq_pi rfl,
   by intros; exact eq_push rfl,
   by intros; exact eq_i2 (o := mx_and) rfl,
   by intros; exact eq_push rfl,
   by intros; exact eq_iast rfl,
   by intros; exact eq_ld rfl rfl,
   by intros; exact eq_ld rfl rfl,
   by intros; exact eq_ld rfl rfl,
   by intros; exact eq_ci rfl (Nat.le_of_ble_eq_true rfl) rfl rfl rfl (Nat.le_of_ble_eq_true rfl),
   by intros; exact eq_ld rfl rfl,
   by intros; exact eq_ld rfl rfl,
   by intros; exact eq_gi rfl,
   by intros; exact eq_ld rfl rfl,
   by intros; exact eq_cv rfl (Nat.le_of_ble_eq_true rfl) rfl rfl rfl (Nat.le_of_ble_eq_true rfl),
   by intros; exact eq_i2 (o := mx_add) rfl,
   by intros; exact eq_ret rfl⟩
theorem rw_X4_init :
  (∀ (d : Nat) (a0 a1 a2 a3 a4 : Int) (S h : mx_H) (n : Int), mx_M d 38 [(2, a0), (0, a1), (0, a2), (0, a3), (2, a4)] S h n = mx_ex d 38 0 [some (2, a0), some (0, a1), some (0, a2), some (0, a3), some (2, a4)] [] S h n) ∧
  (∀ (d : Nat) (x : Int) (l1 l2 l3 l4 : Option mx_V) (S h : mx_H) (n : Int), mx_ex d 38 0 [some (2, x), l1, l2, l3, l4] [] S h n = mx_ex d 38 1 [some (2, x), l1, l2, l3, l4] [(2, x)] S h n) ∧
  (∀ (d : Nat) (a : Int) (l0 l1 l2 l3 l4 : Option mx_V) (S h : mx_H) (n : Int), mx_ex d 38 1 [l0, l1, l2, l3, l4] [(2, a)] S h n = mx_gd (0 ≤ a) d 38 4 [l0, l1, l2, l3, l4] [] S h n) ∧
  (∀ (d : Nat) (x : Int) (l1 l2 l3 l4 : Option mx_V) (S h : mx_H) (n : Int), mx_ex d 38 4 [some (2, x), l1, l2, l3, l4] [] S h n = mx_ex d 38 5 [some (2, x), l1, l2, l3, l4] [(2, x)] S h n) ∧
  (∀ (d : Nat) (x : Int) (l0 l2 l3 l4 : Option mx_V) (v0 : mx_V) (S h : mx_H) (n : Int), mx_ex d 38 5 [l0, some (0, x), l2, l3, l4] [v0] S h n = mx_ex d 38 6 [l0, some (0, x), l2, l3, l4] [(0, x), v0] S h n) ∧
  (∀ (d : Nat) (v a : Int) (l0 l1 l2 l3 l4 : Option mx_V) (S h : mx_H) (n : Int), mx_ex d 38 6 [l0, l1, l2, l3, l4] [(0, v), (2, a)] S h n = mx_gd (1 ≤ S a (-2) ∧ S a (-2) ≤ 6) d 38 9 [l0, l1, l2, l3, l4] [] S (mx_u h a 0 v) n) ∧
  (∀ (d : Nat) (x : Int) (l1 l2 l3 l4 : Option mx_V) (S h : mx_H) (n : Int), mx_ex d 38 9 [some (2, x), l1, l2, l3, l4] [] S h n = mx_ex d 38 10 [some (2, x), l1, l2, l3, l4] [(2, x)] S h n) ∧
  (∀ (d : Nat) (x : Int) (l0 l1 l3 l4 : Option mx_V) (v0 : mx_V) (S h : mx_H) (n : Int), mx_ex d 38 10 [l0, l1, some (0, x), l3, l4] [v0] S h n = mx_ex d 38 11 [l0, l1, some (0, x), l3, l4] [(0, x), v0] S h n) ∧
  (∀ (d : Nat) (v a : Int) (l0 l1 l2 l3 l4 : Option mx_V) (S h : mx_H) (n : Int), mx_ex d 38 11 [l0, l1, l2, l3, l4] [(0, v), (2, a)] S h n = mx_gd (1 ≤ S a (-2) ∧ S a (-2) ≤ 6) d 38 14 [l0, l1, l2, l3, l4] [] S (mx_u h a 3 v) n) ∧
  (∀ (d : Nat) (x : Int) (l1 l2 l3 l4 : Option mx_V) (S h : mx_H) (n : Int), mx_ex d 38 14 [some (2, x), l1, l2, l3, l4] [] S h n = mx_ex d 38 15 [some (2, x), l1, l2, l3, l4] [(2, x)] S h n) ∧
  (∀ (d : Nat) (x : Int) (l0 l1 l2 l4 : Option mx_V) (v0 : mx_V) (S h : mx_H) (n : Int), mx_ex d 38 15 [l0, l1, l2, some (0, x), l4] [v0] S h n = mx_ex d 38 16 [l0, l1, l2, some (0, x), l4] [(0, x), v0] S h n) ∧
  (∀ (d : Nat) (v a : Int) (l0 l1 l2 l3 l4 : Option mx_V) (S h : mx_H) (n : Int), mx_ex d 38 16 [l0, l1, l2, l3, l4] [(0, v), (2, a)] S h n = mx_gd (1 ≤ S a (-2) ∧ S a (-2) ≤ 6) d 38 19 [l0, l1, l2, l3, l4] [] S (mx_u h a 1 v) n) ∧
  (∀ (d : Nat) (x : Int) (l1 l2 l3 l4 : Option mx_V) (S h : mx_H) (n : Int), mx_ex d 38 19 [some (2, x), l1, l2, l3, l4] [] S h n = mx_ex d 38 20 [some (2, x), l1, l2, l3, l4] [(2, x)] S h n) ∧
  (∀ (d : Nat) (x : Int) (l0 l1 l2 l3 : Option mx_V) (v0 : mx_V) (S h : mx_H) (n : Int), mx_ex d 38 20 [l0, l1, l2, l3, some (2, x)] [v0] S h n = mx_ex d 38 22 [l0, l1, l2, l3, some (2, x)] [(2, x), v0] S h n) ∧
  (∀ (d : Nat) (v a : Int) (l0 l1 l2 l3 l4 : Option mx_V) (S h : mx_H) (n : Int), mx_ex d 38 22 [l0, l1, l2, l3, l4] [(2, v), (2, a)] S h n = mx_gd (1 ≤ S a (-2) ∧ S a (-2) ≤ 6) d 38 25 [l0, l1, l2, l3, l4] [] (mx_u S a 2 v) h n) ∧
  (∀ (d : Nat) (l0 l1 l2 l3 l4 : Option mx_V) (S h : mx_H) (n : Int), mx_ex d 38 25 [l0, l1, l2, l3, l4] [] S h n = some (none, S, h, n)) :=
  ⟨by intros; exact rfl,
   by intros; exact eq_ld rfl rfl,
   by intros; exact eq_oini rfl (Nat.le_of_ble_eq_true rfl),
   by intros; exact eq_ld rfl rfl,
   by intros; exact eq_ld rfl rfl,
   by intros; exact eq_pi rfl,
   by intros; exact eq_ld rfl rfl,
   by intros; exact eq_ld rfl rfl,
   by intros; exact eq_pi rfl,
   by intros; exact eq_ld rfl rfl,
   by intros; exact eq_ld rfl rfl,
   by intros; exact eq_pi rfl,
   by intros; exact eq_ld rfl rfl,
   by intros; exact eq_ld rfl rfl,
   by intros; exact eq_pr rfl,
   by intros; exact eq_retv rfl⟩
theorem rw_X4_kind :
  (∀ (d : Nat) (a0 : Int) (S h : mx_H) (n : Int), mx_M d 39 [(2, a0)] S h n = mx_ex d 39 0 [some (2, a0)] [] S h n) ∧
  (∀ (d : Nat) (l0 : Option mx_V) (S h : mx_H) (n : Int), mx_ex d 39 0 [l0] [] S h n = mx_ex d 39 1 [l0] [(0, 0)] S h n) ∧
  (∀ (d : Nat) (x : Int) (l0 : Option mx_V) (S h : mx_H) (n : Int), mx_ex d 39 1 [l0] [(0, x)] S h n = some (some (0, x), S, h, n)) :=
  ⟨by intros; exact rfl,
   by intros; exact eq_push rfl,
   by intros; exact eq_ret rfl⟩
theorem rw_X4_hasPlace :
  (∀ (d : Nat) (a0 a1 : Int) (S h : mx_H) (n : Int), mx_M d 40 [(2, a0), (0, a1)] S h n = mx_ex d 40 0 [some (2, a0), some (0, a1)] [] S h n) ∧
  (∀ (d : Nat) (x : Int) (l0 : Option mx_V) (S h : mx_H) (n : Int), mx_ex d 40 0 [l0, some (0, x)] [] S h n = mx_ex d 40 1 [l0, some (0, x)] [(0, x)] S h n) ∧
  (∀ (d : Nat) (a : Int) (l0 l1 : Option mx_V) (S h : mx_H) (n : Int), mx_ex d 40 1 [l0, l1] [(0, a)] S h n = mx_br (a < 0) d 40 17 4 [l0, l1] [] S h n) ∧
  (∀ (d : Nat) (x : Int) (l0 : Option mx_V) (S h : mx_H) (n : Int), mx_ex d 40 4 [l0, some (0, x)] [] S h n = mx_ex d 40 5 [l0, some (0, x)] [(0, x)] S h n) ∧
  (∀ (d : Nat) (x : Int) (l1 : Option mx_V) (v0 : mx_V) (S h : mx_H) (n : Int), mx_ex d 40 5 [some (2, x), l1] [v0] S h n = mx_ex d 40 6 [some (2, x), l1] [(2, x), v0] S h n) ∧
  (∀ (d : Nat) (a : Int) (l0 l1 : Option mx_V) (v1 : mx_V) (S h : mx_H) (n : Int), mx_ex d 40 6 [l0, l1] [(2, a), v1] S h n = mx_gd (1 ≤ S a (-2) ∧ S a (-2) ≤ 6) d 40 9 [l0, l1] [(2, S a 2), v1] S h n) ∧
  (∀ (d : Nat) (a : Int) (l0 l1 : Option mx_V) (v1 : mx_V) (S h : mx_H) (n : Int), mx_ex d 40 9 [l0, l1] [(2, a), v1] S h n = mx_gd (20 ≤ S a (-2) ∧ S a (-2) ≤ 25) d 40 10 [l0, l1] [(0, S a (-1)), v1] S h n) ∧
  (∀ (d : Nat) (b a : Int) (l0 l1 : Option mx_V) (S h : mx_H) (n : Int), mx_ex d 40 10 [l0, l1] [(0, b), (0, a)] S h n = mx_br (a < b) d 40 13 17 [l0, l1] [] S h n) ∧
  (∀ (d : Nat) (l0 l1 : Option mx_V) (S h : mx_H) (n : Int), mx_ex d 40 13 [l0, l1] [] S h n = mx_ex d 40 14 [l0, l1] [(0, 1)] S h n) ∧
  (∀ (d : Nat) (l0 l1 : Option mx_V) (v0 : mx_V) (S h : mx_H) (n : Int), mx_ex d 40 14 [l0, l1] [v0] S h n = mx_ex d 40 18 [l0, l1] [v0] S h n) ∧
  (∀ (d : Nat) (l0 l1 : Option mx_V) (S h : mx_H) (n : Int), mx_ex d 40 17 [l0, l1] [] S h n = mx_ex d 40 18 [l0, l1] [(0, 0)] S h n) ∧
  (∀ (d : Nat) (x : Int) (l0 l1 : Option mx_V) (S h : mx_H) (n : Int), mx_ex d 40 18 [l0, l1] [(0, x)] S h n = mx_re (0 ≤ x ∧ x ≤ 1) (some (0, x)) S h n) :=
  ⟨by intros; exact rfl,
   by intros; exact eq_ld rfl rfl,
   by intros; exact eq_if2 rfl,
   by intros; exact eq_ld rfl rfl,
   by intros; exact eq_ld rfl rfl,
   by intros; exact eq_gr rfl,
   by intros; exact eq_alen rfl,
   by intros; exact eq_ic3 rfl,
   by intros; exact eq_push rfl,
   by intros; exact eq_go rfl,
   by intros; exact eq_push rfl,
   by intros; exact eq_rr rfl⟩
theorem rw_X4_markFromLast :
  (∀ (d : Nat) (a0 a1 : Int) (S h : mx_H) (n : Int), mx_M d 41 [(2, a0), (0, a1)] S h n = mx_ex d 41 0 [some (2, a0), some (0, a1), none] [] S h n) ∧
  (∀ (d : Nat) (x : Int) (l1 l2 : Option mx_V) (S h : mx_H) (n : Int), mx_ex d 41 0 [some (2, x), l1, l2] [] S h n = mx_ex d 41 1 [some (2, x), l1, l2] [(2, x)] S h n) ∧
  (∀ (d : Nat) (a : Int) (l0 l1 l2 : Option mx_V) (S h : mx_H) (n : Int), mx_ex d 41 1 [l0, l1, l2] [(2, a)] S h n = mx_gd (1 ≤ S a (-2) ∧ S a (-2) ≤ 6) d 41 4 [l0, l1, l2] [(2, S a 2)] S h n) ∧
  (∀ (d : Nat) (a : Int) (l0 l1 l2 : Option mx_V) (S h : mx_H) (n : Int), mx_ex d 41 4 [l0, l1, l2] [(2, a)] S h n = mx_gd (20 ≤ S a (-2) ∧ S a (-2) ≤ 25) d 41 5 [l0, l1, l2] [(0, S a (-1))] S h n) ∧
  (∀ (d : Nat) (l0 l1 l2 : Option mx_V) (v0 : mx_V) (S h : mx_H) (n : Int), mx_ex d 41 5 [l0, l1, l2] [v0] S h n = mx_ex d 41 6 [l0, l1, l2] [(0, 1), v0] S h n) ∧
  (∀ (d : Nat) (b a : Int) (l0 l1 l2 : Option mx_V) (S h : mx_H) (n : Int), mx_ex d 41 6 [l0, l1, l2] [(0, b), (0, a)] S h n = mx_ex d 41 7 [l0, l1, l2] [(0, mx_w (a - b))] S h n) ∧
  (∀ (d : Nat) (x : Int) (l0 l2 : Option mx_V) (v0 : mx_V) (S h : mx_H) (n : Int), mx_ex d 41 7 [l0, some (0, x), l2] [v0] S h n = mx_ex d 41 8 [l0, some (0, x), l2] [(0, x), v0] S h n) ∧
  (∀ (d : Nat) (b a : Int) (l0 l1 l2 : Option mx_V) (S h : mx_H) (n : Int), mx_ex d 41 8 [l0, l1, l2] [(0, b), (0, a)] S h n = mx_ex d 41 9 [l0, l1, l2] [(0, mx_w (a - b))] S h n) ∧
  (∀ (d : Nat) (x : Int) (l0 l1 l2 : Option mx_V) (S h : mx_H) (n : Int), mx_ex d 41 9 [l0, l1, l2] [(0, x)] S h n = mx_ex d 41 10 [l0, mx_nl l1, some (0, x)] [] S h n) ∧
  (∀ (d : Nat) (x : Int) (l1 l2 : Option mx_V) (S h : mx_H) (n : Int), mx_ex d 41 10 [some (2, x), l1, l2] [] S h n = mx_ex d 41 11 [some (2, x), l1, l2] [(2, x)] S h n) ∧
  (∀ (d : Nat) (x : Int) (l0 l1 : Option mx_V) (v0 : mx_V) (S h : mx_H) (n : Int), mx_ex d 41 11 [l0, l1, some (0, x)] [v0] S h n = mx_ex d 41 12 [l0, l1, some (0, x)] [(0, x), v0] S h n) ∧
  (∀ (d : Nat) (x0 a : Int) (l0 l1 l2 : Option mx_V) (S h : mx_H) (n : Int), mx_ex (d + 1) 41 12 [l0, l1, l2] [(0, x0), (2, a)] S h n = mx_cl (1 ≤ S a (-2) ∧ S a (-2) ≤ 6) d 40 [(2, a), (0, x0)] 41 15 [l0, l1, l2] [] S h n) ∧
  (∀ (d : Nat) (a : Int) (l0 l1 l2 : Option mx_V) (S h : mx_H) (n : Int), mx_ex d 41 15 [l0, l1, l2] [(0, a)] S h n = mx_br (a = 0) d 41 27 18 [l0, l1, l2] [] S h n) ∧
  (∀ (d : Nat) (x : Int) (l1 l2 : Option mx_V) (S h : mx_H) (n : Int), mx_ex d 41 18 [some (2, x), l1, l2] [] S h n = mx_ex d 41 19 [some (2, x), l1, l2] [(2, x)] S h n) ∧
  (∀ (d : Nat) (a : Int) (l0 l1 l2 : Option mx_V) (S h : mx_H) (n : Int), mx_ex d 41 19 [l0, l1, l2] [(2, a)] S h n = mx_gd (1 ≤ S a (-2) ∧ S a (-2) ≤ 6) d 41 22 [l0, l1, l2] [(2, S a 2)] S h n) ∧
  (∀ (d : Nat) (x : Int) (l0 l1 : Option mx_V) (v0 : mx_V) (S h : mx_H) (n : Int), mx_ex d 41 22 [l0, l1, some (0, x)] [v0] S h n = mx_ex d 41 23 [l0, l1, some (0, x)] [(0, x), v0] S h n) ∧
  (∀ (d : Nat) (i a : Int) (l0 l1 l2 : Option mx_V) (S h : mx_H) (n : Int), mx_ex d 41 23 [l0, l1, l2] [(0, i), (2, a)] S h n = mx_gd ((S a (-2) = 20 ∨ S a (-2) = 24) ∧ 0 ≤ i ∧ i < S a (-1)) d 41 24 [l0, l1, l2] [(0, h a i)] S h n) ∧
  (∀ (d : Nat) (l0 l1 l2 : Option mx_V) (v0 : mx_V) (S h : mx_H) (n : Int), mx_ex d 41 24 [l0, l1, l2] [v0] S h n = mx_ex d 41 28 [l0, l1, l2] [v0] S h n) ∧
  (∀ (d : Nat) (l0 l1 l2 : Option mx_V) (S h : mx_H) (n : Int), mx_ex d 41 27 [l0, l1, l2] [] S h n = mx_ex d 41 28 [l0, l1, l2] [(0, 0)] S h n) ∧
  (∀ (d : Nat) (x : Int) (l0 l1 l2 : Option mx_V) (S h : mx_H) (n : Int), mx_ex d 41 28 [l0, l1, l2] [(0, x)] S h n = some (some (0, x), S, h, n)) :=
  ⟨by intros; exact rfl,
   by intros; exact eq_ld rfl rfl,
   by intros; exact eq_gr rfl,
   by intros; exact eq_alen rfl,
   by intros; exact eq_push rfl,
   by intros; exact eq_i2 (o := mx_sub) rfl,
   by intros; exact eq_ld rfl rfl,
   by intros; exact eq_i2 (o := mx_sub) rfl,
   by intros; exact eq_st rfl (by decide) (Nat.le_of_ble_eq_true rfl) rfl,
   by intros; exact eq_ld rfl rfl,
   by intros; exact eq_ld rfl rfl,
   by intros; exact eq_ci rfl (Nat.le_of_ble_eq_true rfl) rfl rfl rfl (Nat.le_of_ble_eq_true rfl),
   by intros; exact eq_if0 rfl,
   by intros; exact eq_ld rfl rfl,
   by intros; exact eq_gr rfl,
   by intros; exact eq_ld rfl rfl,
   by intros; exact eq_iald rfl,
   by intros; exact eq_go rfl,
   by intros; exact eq_push rfl,
   by intros; exact eq_ret rfl⟩
theorem rw_X4_isOfKind :
  (∀ (d : Nat) (a0 a1 : Int) (S h : mx_H) (n : Int), mx_M d 42 [(2, a0), (0, a1)] S h n = mx_ex d 42 0 [some (2, a0), some (0, a1)] [] S h n) ∧
  (∀ (d : Nat) (x : Int) (l0 : Option mx_V) (S h : mx_H) (n : Int), mx_ex d 42 0 [l0, some (0, x)] [] S h n = mx_ex d 42 1 [l0, some (0, x)] [(0, x)] S h n) ∧
  (∀ (d : Nat) (a : Int) (l0 l1 : Option mx_V) (S h : mx_H) (n : Int), mx_ex d 42 1 [l0, l1] [(0, a)] S h n = mx_sw a [(0, 40), (1, 42), (2, 47), (3, 52), (4, 57), (5, 62)] d 42 67 [l0, l1] [] S h n) ∧
  (∀ (d : Nat) (l0 l1 : Option mx_V) (S h : mx_H) (n : Int), mx_ex d 42 40 [l0, l1] [] S h n = mx_ex d 42 41 [l0, l1] [(0, 1)] S h n) ∧
  (∀ (d : Nat) (x : Int) (l0 l1 : Option mx_V) (S h : mx_H) (n : Int), mx_ex d 42 41 [l0, l1] [(0, x)] S h n = mx_re (0 ≤ x ∧ x ≤ 1) (some (0, x)) S h n) ∧
  (∀ (d : Nat) (x : Int) (l1 : Option mx_V) (S h : mx_H) (n : Int), mx_ex d 42 42 [some (2, x), l1] [] S h n = mx_ex d 42 43 [some (2, x), l1] [(2, x)] S h n) ∧
  (∀ (d : Nat) (a : Int) (l0 l1 : Option mx_V) (S h : mx_H) (n : Int), mx_ex d 42 43 [l0, l1] [(2, a)] S h n = mx_gd (1 ≤ S a (-2) ∧ S a (-2) ≤ 6) d 42 46 [l0, l1] [(0, if S a (-2) = 2 ∨ S a (-2) = 6 then 1 else 0)] S h n) ∧
  (∀ (d : Nat) (x : Int) (l0 l1 : Option mx_V) (S h : mx_H) (n : Int), mx_ex d 42 46 [l0, l1] [(0, x)] S h n = mx_re (0 ≤ x ∧ x ≤ 1) (some (0, x)) S h n) ∧
  (∀ (d : Nat) (x : Int) (l1 : Option mx_V) (S h : mx_H) (n : Int), mx_ex d 42 47 [some (2, x), l1] [] S h n = mx_ex d 42 48 [some (2, x), l1] [(2, x)] S h n) ∧
  (∀ (d : Nat) (a : Int) (l0 l1 : Option mx_V) (S h : mx_H) (n : Int), mx_ex d 42 48 [l0, l1] [(2, a)] S h n = mx_gd (1 ≤ S a (-2) ∧ S a (-2) ≤ 6) d 42 51 [l0, l1] [(0, if S a (-2) = 3 ∨ S a (-2) = 4 then 1 else 0)] S h n) ∧
  (∀ (d : Nat) (x : Int) (l0 l1 : Option mx_V) (S h : mx_H) (n : Int), mx_ex d 42 51 [l0, l1] [(0, x)] S h n = mx_re (0 ≤ x ∧ x ≤ 1) (some (0, x)) S h n) ∧
  (∀ (d : Nat) (x : Int) (l1 : Option mx_V) (S h : mx_H) (n : Int), mx_ex d 42 52 [some (2, x), l1] [] S h n = mx_ex d 42 53 [some (2, x), l1] [(2, x)] S h n) ∧
  (∀ (d : Nat) (a : Int) (l0 l1 : Option mx_V) (S h : mx_H) (n : Int), mx_ex d 42 53 [l0, l1] [(2, a)] S h n = mx_gd (1 ≤ S a (-2) ∧ S a (-2) ≤ 6) d 42 56 [l0, l1] [(0, if S a (-2) = 4 ∨ S a (-2) = 4 then 1 else 0)] S h n) ∧
  (∀ (d : Nat) (x : Int) (l0 l1 : Option mx_V) (S h : mx_H) (n : Int), mx_ex d 42 56 [l0, l1] [(0, x)] S h n = mx_re (0 ≤ x ∧ x ≤ 1) (some (0, x)) S h n) ∧
  (∀ (d : Nat) (x : Int) (l1 : Option mx_V) (S h : mx_H) (n : Int), mx_ex d 42 57 [some (2, x), l1] [] S h n = mx_ex d 42 58 [some (2, x), l1] [(2, x)] S h n) ∧
  (∀ (d : Nat) (a : Int) (l0 l1 : Option mx_V) (S h : mx_H) (n : Int), mx_ex d 42 58 [l0, l1] [(2, a)] S h n = mx_gd (1 ≤ S a (-2) ∧ S a (-2) ≤ 6) d 42 61 [l0, l1] [(0, if S a (-2) = 5 ∨ S a (-2) = 5 then 1 else 0)] S h n) ∧
  (∀ (d : Nat) (x : Int) (l0 l1 : Option mx_V) (S h : mx_H) (n : Int), mx_ex d 42 61 [l0, l1] [(0, x)] S h n = mx_re (0 ≤ x ∧ x ≤ 1) (some (0, x)) S h n) ∧
  (∀ (d : Nat) (x : Int) (l1 : Option mx_V) (S h : mx_H) (n : Int), mx_ex d 42 62 [some (2, x), l1] [] S h n = mx_ex d 42 63 [some (2, x), l1] [(2, x)] S h n) ∧
  (∀ (d : Nat) (a : Int) (l0 l1 : Option mx_V) (S h : mx_H) (n : Int), mx_ex d 42 63 [l0, l1] [(2, a)] S h n = mx_gd (1 ≤ S a (-2) ∧ S a (-2) ≤ 6) d 42 66 [l0, l1] [(0, if S a (-2) = 6 ∨ S a (-2) = 6 then 1 else 0)] S h n) ∧
  (∀ (d : Nat) (x : Int) (l0 l1 : Option mx_V) (S h : mx_H) (n : Int), mx_ex d 42 66 [l0, l1] [(0, x)] S h n = mx_re (0 ≤ x ∧ x ≤ 1) (some (0, x)) S h n) ∧
  (∀ (d : Nat) (l0 l1 : Option mx_V) (S h : mx_H) (n : Int), mx_ex d 42 67 [l0, l1] [] S h n = mx_ex d 42 68 [l0, l1] [(0, 0)] S h n) ∧
  (∀ (d : Nat) (x : Int) (l0 l1 : Option mx_V) (S h : mx_H) (n : Int), mx_ex d 42 68 [l0, l1] [(0, x)] S h n = mx_re (0 ≤ x ∧ x ≤ 1) (some (0, x)) S h n) :=
  ⟨by intros; exact rfl,
   by intros; exact eq_ld rfl rfl,
   by intros; exact eq_sw rfl,
   by intros; exact eq_push rfl,
   by intros; exact eq_rr rfl,
   by intros; exact eq_ld rfl rfl,
   by intros; exact eq_inst rfl,
   by intros; exact eq_rr rfl,
   by intros; exact eq_ld rfl rfl,
   by intros; exact eq_inst rfl,
   by intros; exact eq_rr rfl,
   by intros; exact eq_ld rfl rfl,
   by intros; exact eq_inst rfl,
   by intros; exact eq_rr rfl,
   by intros; exact eq_ld rfl rfl,
   by intros; exact eq_inst rfl,
   by intros; exact eq_rr rfl,
   by intros; exact eq_ld rfl rfl,
   by intros; exact eq_inst rfl,
   by intros; exact eq_rr rfl,
   by intros; exact eq_push rfl,
   by intros; exact eq_rr rfl⟩
theorem rw_X4_worthBy :
  (∀ (d : Nat) (a0 a1 : Int) (S h : mx_H) (n : Int), mx_M d 43 [(2, a0), (0, a1)] S h n = mx_ex d 43 0 [some (2, a0), some (0, a1)] [] S h n) ∧
  (∀ (d : Nat) (x : Int) (l1 : Option mx_V) (S h : mx_H) (n : Int), mx_ex d 43 0 [some (2, x), l1] [] S h n = mx_ex d 43 1 [some (2, x), l1] [(2, x)] S h n) ∧
  (∀ (d : Nat) (l0 l1 : Option mx_V) (v0 : mx_V) (S h : mx_H) (n : Int), mx_ex d 43 1 [l0, l1] [v0] S h n = mx_ex d 43 2 [l0, l1] [(0, 0), v0] S h n) ∧
  (∀ (d : Nat) (x : Int) (l0 : Option mx_V) (v0 v1 : mx_V) (S h : mx_H) (n : Int), mx_ex d 43 2 [l0, some (0, x)] [v0, v1] S h n = mx_ex d 43 3 [l0, some (0, x)] [(0, x), v0, v1] S h n) ∧
  (∀ (d : Nat) (l0 l1 : Option mx_V) (v0 v1 v2 : mx_V) (S h : mx_H) (n : Int), mx_ex d 43 3 [l0, l1] [v0, v1, v2] S h n = mx_ex d 43 4 [l0, l1] [(0, 0), v0, v1, v2] S h n) ∧
  (∀ (d : Nat) (x : Int) (l1 : Option mx_V) (v0 v1 v2 v3 : mx_V) (S h : mx_H) (n : Int), mx_ex d 43 4 [some (2, x), l1] [v0, v1, v2, v3] S h n = mx_ex d 43 5 [some (2, x), l1] [(2, x), v0, v1, v2, v3] S h n) ∧
  (∀ (d : Nat) (a : Int) (l0 l1 : Option mx_V) (v1 v2 v3 v4 : mx_V) (S h : mx_H) (n : Int), mx_ex d 43 5 [l0, l1] [(2, a), v1, v2, v3, v4] S h n = mx_gd (1 ≤ S a (-2) ∧ S a (-2) ≤ 6) d 43 8 [l0, l1] [(2, S a 2), v1, v2, v3, v4] S h n) ∧
  (∀ (d : Nat) (a : Int) (l0 l1 : Option mx_V) (v1 v2 v3 v4 : mx_V) (S h : mx_H) (n : Int), mx_ex d 43 8 [l0, l1] [(2, a), v1, v2, v3, v4] S h n = mx_gd (20 ≤ S a (-2) ∧ S a (-2) ≤ 25) d 43 9 [l0, l1] [(0, S a (-1)), v1, v2, v3, v4] S h n) ∧
  (∀ (d : Nat) (x0 x1 x2 x3 a : Int) (l0 l1 : Option mx_V) (S h : mx_H) (n : Int), mx_ex (d + 1) 43 9 [l0, l1] [(0, x0), (0, x1), (0, x2), (0, x3), (2, a)] S h n = mx_cl (1 ≤ S a (-2) ∧ S a (-2) ≤ 6) d 46 [(2, a), (0, x3), (0, x2), (0, x1), (0, x0)] 43 12 [l0, l1] [] S h n) ∧
  (∀ (d : Nat) (x : Int) (l0 l1 : Option mx_V) (S h : mx_H) (n : Int), mx_ex d 43 12 [l0, l1] [(0, x)] S h n = some (some (0, x), S, h, n)) :=
  ⟨by intros; exact rfl,
   by intros; exact eq_ld rfl rfl,
   by intros; exact eq_push rfl,
   by intros; exact eq_ld rfl rfl,
   by intros; exact eq_push rfl,
   by intros; exact eq_ld rfl rfl,
   by intros; exact eq_gr rfl,
   by intros; exact eq_alen rfl,
   by intros; exact eq_ci rfl (Nat.le_of_ble_eq_true rfl) rfl rfl rfl (Nat.le_of_ble_eq_true rfl),
   by intros; exact eq_ret rfl⟩
theorem rw_X4_canBeIn :
  (∀ (d : Nat) (a0 a1 : Int) (S h : mx_H) (n : Int), mx_M d 44 [(2, a0), (0, a1)] S h n = mx_ex d 44 0 [some (2, a0), some (0, a1)] [] S h n) ∧
  (∀ (d : Nat) (x : Int) (l1 : Option mx_V) (S h : mx_H) (n : Int), mx_ex d 44 0 [some (2, x), l1] [] S h n = mx_ex d 44 1 [some (2, x), l1] [(2, x)] S h n) ∧
  (∀ (d : Nat) (x : Int) (l0 : Option mx_V) (v0 : mx_V) (S h : mx_H) (n : Int), mx_ex d 44 1 [l0, some (0, x)] [v0] S h n = mx_ex d 44 2 [l0, some (0, x)] [(0, x), v0] S h n) ∧
  (∀ (d : Nat) (l0 l1 : Option mx_V) (v0 v1 : mx_V) (S h : mx_H) (n : Int), mx_ex d 44 2 [l0, l1] [v0, v1] S h n = mx_ex d 44 3 [l0, l1] [(0, 0), v0, v1] S h n) ∧
  (∀ (d : Nat) (x : Int) (l1 : Option mx_V) (v0 v1 v2 : mx_V) (S h : mx_H) (n : Int), mx_ex d 44 3 [some (2, x), l1] [v0, v1, v2] S h n = mx_ex d 44 4 [some (2, x), l1] [(2, x), v0, v1, v2] S h n) ∧
  (∀ (d : Nat) (a : Int) (l0 l1 : Option mx_V) (v1 v2 v3 : mx_V) (S h : mx_H) (n : Int), mx_ex d 44 4 [l0, l1] [(2, a), v1, v2, v3] S h n = mx_gd (1 ≤ S a (-2) ∧ S a (-2) ≤ 6) d 44 7 [l0, l1] [(2, S a 2), v1, v2, v3] S h n) ∧
  (∀ (d : Nat) (a : Int) (l0 l1 : Option mx_V) (v1 v2 v3 : mx_V) (S h : mx_H) (n : Int), mx_ex d 44 7 [l0, l1] [(2, a), v1, v2, v3] S h n = mx_gd (20 ≤ S a (-2) ∧ S a (-2) ≤ 25) d 44 8 [l0, l1] [(0, S a (-1)), v1, v2, v3] S h n) ∧
  (∀ (d : Nat) (x0 x1 x2 a : Int) (l0 l1 : Option mx_V) (S h : mx_H) (n : Int), mx_ex (d + 1) 44 8 [l0, l1] [(0, x0), (0, x1), (0, x2), (2, a)] S h n = mx_cl (1 ≤ S a (-2) ∧ S a (-2) ≤ 6) d 47 [(2, a), (0, x2), (0, x1), (0, x0)] 44 11 [l0, l1] [] S h n) ∧
  (∀ (d : Nat) (x : Int) (l0 l1 : Option mx_V) (S h : mx_H) (n : Int), mx_ex d 44 11 [l0, l1] [(0, x)] S h n = mx_re (0 ≤ x ∧ x ≤ 1) (some (0, x)) S h n) :=
  ⟨by intros; exact rfl,
   by intros; exact eq_ld rfl rfl,
   by intros; exact eq_ld rfl rfl,
   by intros; exact eq_push rfl,
   by intros; exact eq_ld rfl rfl,
   by intros; exact eq_gr rfl,
   by intros; exact eq_alen rfl,
   by intros; exact eq_ci rfl (Nat.le_of_ble_eq_true rfl) rfl rfl rfl (Nat.le_of_ble_eq_true rfl),
   by intros; exact eq_rr rfl⟩
theorem rh_X4_basesItCanBeIn_4 : ∀ (d : Nat) (x : Int) (l0 l1 : Option mx_V) (S h : mx_H) (n : Int), mx_ex d 45 4 [l0, l1, some (0, x)] [] S h n = mx_ex d 45 5 [l0, l1, some (0, x)] [(0, x)] S h n := by intros; exact eq_ld rfl rfl
theorem rw_X4_basesItCanBeIn :
  (∀ (d : Nat) (a0 : Int) (S h : mx_H) (n : Int), mx_M d 45 [(2, a0)] S h n = mx_ex d 45 0 [some (2, a0), none, none] [] S h n) ∧
  (∀ (d : Nat) (l0 l1 l2 : Option mx_V) (S h : mx_H) (n : Int), mx_ex d 45 0 [l0, l1, l2] [] S h n = mx_ex d 45 1 [l0, l1, l2] [(0, 0)] S h n) ∧
  (∀ (d : Nat) (x : Int) (l0 l1 l2 : Option mx_V) (S h : mx_H) (n : Int), mx_ex d 45 1 [l0, l1, l2] [(0, x)] S h n = mx_ex d 45 2 [mx_nl l0, some (0, x), l2] [] S h n) ∧
  (∀ (d : Nat) (l0 l1 l2 : Option mx_V) (S h : mx_H) (n : Int), mx_ex d 45 2 [l0, l1, l2] [] S h n = mx_ex d 45 3 [l0, l1, l2] [(0, 2)] S h n) ∧
  (∀ (d : Nat) (x : Int) (l0 l1 l2 : Option mx_V) (S h : mx_H) (n : Int), mx_ex d 45 3 [l0, l1, l2] [(0, x)] S h n = mx_ex d 45 4 [l0, mx_nl l1, some (0, x)] [] S h n) ∧
  (∀ (d : Nat) (l0 l1 l2 : Option mx_V) (v0 : mx_V) (S h : mx_H) (n : Int), mx_ex d 45 5 [l0, l1, l2] [v0] S h n = mx_ex d 45 7 [l0, l1, l2] [(0, 16), v0] S h n) ∧
  (∀ (d : Nat) (b a : Int) (l0 l1 l2 : Option mx_V) (S h : mx_H) (n : Int), mx_ex d 45 7 [l0, l1, l2] [(0, b), (0, a)] S h n = mx_br (b < a) d 45 30 10 [l0, l1, l2] [] S h n) ∧
  (∀ (d : Nat) (x : Int) (l1 l2 : Option mx_V) (S h : mx_H) (n : Int), mx_ex d 45 10 [some (2, x), l1, l2] [] S h n = mx_ex d 45 11 [some (2, x), l1, l2] [(2, x)] S h n) ∧
  (∀ (d : Nat) (x : Int) (l0 l1 : Option mx_V) (v0 : mx_V) (S h : mx_H) (n : Int), mx_ex d 45 11 [l0, l1, some (0, x)] [v0] S h n = mx_ex d 45 12 [l0, l1, some (0, x)] [(0, x), v0] S h n) ∧
  (∀ (d : Nat) (x0 a : Int) (l0 l1 l2 : Option mx_V) (S h : mx_H) (n : Int), mx_ex (d + 1) 45 12 [l0, l1, l2] [(0, x0), (2, a)] S h n = mx_cu (mx_vt (S a (-2)) [(1, 44), (2, 57), (3, 4), (4, 4), (5, 44), (6, 57)]) d [(2, a), (0, x0)] 45 15 [l0, l1, l2] [] S h n) ∧
  (∀ (d : Nat) (a : Int) (l0 l1 l2 : Option mx_V) (S h : mx_H) (n : Int), mx_ex d 45 15 [l0, l1, l2] [(0, a)] S h n = mx_br (a = 0) d 45 24 18 [l0, l1, l2] [] S h n) ∧
  (∀ (d : Nat) (x : Int) (l0 l2 : Option mx_V) (S h : mx_H) (n : Int), mx_ex d 45 18 [l0, some (0, x), l2] [] S h n = mx_ex d 45 19 [l0, some (0, x), l2] [(0, x)] S h n) ∧
  (∀ (d : Nat) (l0 l1 l2 : Option mx_V) (v0 : mx_V) (S h : mx_H) (n : Int), mx_ex d 45 19 [l0, l1, l2] [v0] S h n = mx_ex d 45 20 [l0, l1, l2] [(0, 1), v0] S h n) ∧
  (∀ (d : Nat) (x : Int) (l0 l1 : Option mx_V) (v0 v1 : mx_V) (S h : mx_H) (n : Int), mx_ex d 45 20 [l0, l1, some (0, x)] [v0, v1] S h n = mx_ex d 45 21 [l0, l1, some (0, x)] [(0, x), v0, v1] S h n) ∧
  (∀ (d : Nat) (b a : Int) (l0 l1 l2 : Option mx_V) (v2 : mx_V) (S h : mx_H) (n : Int), mx_ex d 45 21 [l0, l1, l2] [(0, b), (0, a), v2] S h n = mx_ex d 45 22 [l0, l1, l2] [(0, mx_shl a b), v2] S h n) ∧
  (∀ (d : Nat) (b a : Int) (l0 l1 l2 : Option mx_V) (S h : mx_H) (n : Int), mx_ex d 45 22 [l0, l1, l2] [(0, b), (0, a)] S h n = mx_ex d 45 23 [l0, l1, l2] [(0, mx_or a b)] S h n) ∧
  (∀ (d : Nat) (x : Int) (l0 l1 l2 : Option mx_V) (S h : mx_H) (n : Int), mx_ex d 45 23 [l0, l1, l2] [(0, x)] S h n = mx_ex d 45 24 [mx_nl l0, some (0, x), l2] [] S h n) ∧
  (∀ (d : Nat) (x : Int) (l0 l1 : Option mx_V) (S h : mx_H) (n : Int), mx_ex d 45 24 [l0, l1, some (0, x)] [] S h n = mx_ex d 45 27 [l0, mx_nl l1, some (0, mx_w (x + 1))] [] S h n) ∧
  (∀ (d : Nat) (l0 l1 l2 : Option mx_V) (S h : mx_H) (n : Int), mx_ex d 45 27 [l0, l1, l2] [] S h n = mx_ex d 45 4 [l0, l1, l2] [] S h n) ∧
  (∀ (d : Nat) (x : Int) (l0 l2 : Option mx_V) (S h : mx_H) (n : Int), mx_ex d 45 30 [l0, some (0, x), l2] [] S h n = mx_ex d 45 31 [l0, some (0, x), l2] [(0, x)] S h n) ∧
  (∀ (d : Nat) (x : Int) (l0 l1 l2 : Option mx_V) (S h : mx_H) (n : Int), mx_ex d 45 31 [l0, l1, l2] [(0, x)] S h n = some (some (0, x), S, h, n)) :=
  ⟨by intros; exact rfl,
   by intros; exact eq_push rfl,
   by intros; exact eq_st rfl (by decide) (Nat.le_of_ble_eq_true rfl) rfl,
   by intros; exact eq_push rfl,
   by intros; exact eq_st rfl (by decide) (Nat.le_of_ble_eq_true rfl) rfl,
   by intros; exact eq_push rfl,
   by intros; exact eq_ic4 rfl,
   by intros; exact eq_ld rfl rfl,
   by intros; exact eq_ld rfl rfl,
   by intros; exact eq_cu rfl (Nat.le_of_ble_eq_true rfl) rfl rfl rfl (Nat.le_of_ble_eq_true rfl),
   by intros; exact eq_if0 rfl,
   by intros; exact eq_ld rfl rfl,
   by intros; exact eq_push rfl,
   by intros; exact eq_ld rfl rfl,
   by intros; exact eq_i2 (o := mx_shl) rfl,
   by intros; exact eq_i2 (o := mx_or) rfl,
   by intros; exact eq_st rfl (by decide) (Nat.le_of_ble_eq_true rfl) rfl,
   by intros; exact eq_inc rfl rfl rfl,
   by intros; exact eq_go rfl,
   by intros; exact eq_ld rfl rfl,
   by intros; exact eq_ret rfl⟩
theorem rh_X4_grown_6 : ∀ (d : Nat) (x : Int) (l0 l1 l2 l3 l4 l5 : Option mx_V) (S h : mx_H) (n : Int), mx_ex d 46 6 [l0, l1, l2, l3, l4, l5, some (0, x)] [] S h n = mx_ex d 46 8 [l0, l1, l2, l3, l4, l5, some (0, x)] [(0, x)] S h n := by intros; exact eq_ld rfl rfl
theorem rw_X4_grown :
  (∀ (d : Nat) (a0 a1 a2 a3 a4 : Int) (S h : mx_H) (n : Int), mx_M d 46 [(2, a0), (0, a1), (0, a2), (0, a3), (0, a4)] S h n = mx_ex d 46 0 [some (2, a0), some (0, a1), some (0, a2), some (0, a3), some (0, a4), none, none] [] S h n) ∧
  (∀ (d : Nat) (x : Int) (l0 l2 l3 l4 l5 l6 : Option mx_V) (S h : mx_H) (n : Int), mx_ex d 46 0 [l0, some (0, x), l2, l3, l4, l5, l6] [] S h n = mx_ex d 46 1 [l0, some (0, x), l2, l3, l4, l5, l6] [(0, x)] S h n) ∧
  (∀ (d : Nat) (x : Int) (l0 l1 l2 l3 l4 l5 l6 : Option mx_V) (S h : mx_H) (n : Int), mx_ex d 46 1 [l0, l1, l2, l3, l4, l5, l6] [(0, x)] S h n = mx_ex d 46 3 [l0, l1, l2, l3, mx_nl l4, some (0, x), l6] [] S h n) ∧
  (∀ (d : Nat) (x : Int) (l0 l1 l2 l4 l5 l6 : Option mx_V) (S h : mx_H) (n : Int), mx_ex d 46 3 [l0, l1, l2, some (0, x), l4, l5, l6] [] S h n = mx_ex d 46 4 [l0, l1, l2, some (0, x), l4, l5, l6] [(0, x)] S h n) ∧
  (∀ (d : Nat) (x : Int) (l0 l1 l2 l3 l4 l5 l6 : Option mx_V) (S h : mx_H) (n : Int), mx_ex d 46 4 [l0, l1, l2, l3, l4, l5, l6] [(0, x)] S h n = mx_ex d 46 6 [l0, l1, l2, l3, l4, mx_nl l5, some (0, x)] [] S h n) ∧
  (∀ (d : Nat) (x : Int) (l0 l1 l2 l3 l5 l6 : Option mx_V) (v0 : mx_V) (S h : mx_H) (n : Int), mx_ex d 46 8 [l0, l1, l2, l3, some (0, x), l5, l6] [v0] S h n = mx_ex d 46 10 [l0, l1, l2, l3, some (0, x), l5, l6] [(0, x), v0] S h n) ∧
  (∀ (d : Nat) (b a : Int) (l0 l1 l2 l3 l4 l5 l6 : Option mx_V) (S h : mx_H) (n : Int), mx_ex d 46 10 [l0, l1, l2, l3, l4, l5, l6] [(0, b), (0, a)] S h n = mx_br (a < b) d 46 13 33 [l0, l1, l2, l3, l4, l5, l6] [] S h n) ∧
  (∀ (d : Nat) (x : Int) (l0 l1 l2 l3 l4 l6 : Option mx_V) (S h : mx_H) (n : Int), mx_ex d 46 13 [l0, l1, l2, l3, l4, some (0, x), l6] [] S h n = mx_ex d 46 15 [l0, l1, l2, l3, l4, some (0, x), l6] [(0, x)] S h n) ∧
  (∀ (d : Nat) (x : Int) (l0 l1 l3 l4 l5 l6 : Option mx_V) (v0 : mx_V) (S h : mx_H) (n : Int), mx_ex d 46 15 [l0, l1, some (0, x), l3, l4, l5, l6] [v0] S h n = mx_ex d 46 16 [l0, l1, some (0, x), l3, l4, l5, l6] [(0, x), v0] S h n) ∧
  (∀ (d : Nat) (b a : Int) (l0 l1 l2 l3 l4 l5 l6 : Option mx_V) (S h : mx_H) (n : Int), mx_ex d 46 16 [l0, l1, l2, l3, l4, l5, l6] [(0, b), (0, a)] S h n = mx_ex d 46 17 [l0, l1, l2, l3, l4, l5, l6] [(0, mx_w (a * b))] S h n) ∧
  (∀ (d : Nat) (x : Int) (l1 l2 l3 l4 l5 l6 : Option mx_V) (v0 : mx_V) (S h : mx_H) (n : Int), mx_ex d 46 17 [some (2, x), l1, l2, l3, l4, l5, l6] [v0] S h n = mx_ex d 46 18 [some (2, x), l1, l2, l3, l4, l5, l6] [(2, x), v0] S h n) ∧
  (∀ (d : Nat) (a : Int) (l0 l1 l2 l3 l4 l5 l6 : Option mx_V) (v1 : mx_V) (S h : mx_H) (n : Int), mx_ex d 46 18 [l0, l1, l2, l3, l4, l5, l6] [(2, a), v1] S h n = mx_gd (1 ≤ S a (-2) ∧ S a (-2) ≤ 6) d 46 21 [l0, l1, l2, l3, l4, l5, l6] [(2, S a 2), v1] S h n) ∧
  (∀ (d : Nat) (x : Int) (l0 l1 l2 l3 l4 l5 : Option mx_V) (v0 v1 : mx_V) (S h : mx_H) (n : Int), mx_ex d 46 21 [l0, l1, l2, l3, l4, l5, some (0, x)] [v0, v1] S h n = mx_ex d 46 23 [l0, l1, l2, l3, l4, l5, some (0, x)] [(0, x), v0, v1] S h n) ∧
  (∀ (d : Nat) (i a : Int) (l0 l1 l2 l3 l4 l5 l6 : Option mx_V) (v2 : mx_V) (S h : mx_H) (n : Int), mx_ex d 46 23 [l0, l1, l2, l3, l4, l5, l6] [(0, i), (2, a), v2] S h n = mx_gd ((S a (-2) = 20 ∨ S a (-2) = 24) ∧ 0 ≤ i ∧ i < S a (-1)) d 46 24 [l0, l1, l2, l3, l4, l5, l6] [(0, h a i), v2] S h n) ∧
  (∀ (d : Nat) (b a : Int) (l0 l1 l2 l3 l4 l5 l6 : Option mx_V) (S h : mx_H) (n : Int), mx_ex d 46 24 [l0, l1, l2, l3, l4, l5, l6] [(0, b), (0, a)] S h n = mx_ex d 46 25 [l0, l1, l2, l3, l4, l5, l6] [(0, mx_w (a + b))] S h n) ∧
  (∀ (d : Nat) (x : Int) (l0 l1 l2 l3 l4 l5 l6 : Option mx_V) (S h : mx_H) (n : Int), mx_ex d 46 25 [l0, l1, l2, l3, l4, l5, l6] [(0, x)] S h n = mx_ex d 46 27 [l0, l1, l2, l3, mx_nl l4, some (0, x), l6] [] S h n) ∧
  (∀ (d : Nat) (x : Int) (l0 l1 l2 l3 l4 l5 : Option mx_V) (S h : mx_H) (n : Int), mx_ex d 46 27 [l0, l1, l2, l3, l4, l5, some (0, x)] [] S h n = mx_ex d 46 30 [l0, l1, l2, l3, l4, mx_nl l5, some (0, mx_w (x + 1))] [] S h n) ∧
  (∀ (d : Nat) (l0 l1 l2 l3 l4 l5 l6 : Option mx_V) (S h : mx_H) (n : Int), mx_ex d 46 30 [l0, l1, l2, l3, l4, l5, l6] [] S h n = mx_ex d 46 6 [l0, l1, l2, l3, l4, l5, l6] [] S h n) ∧
  (∀ (d : Nat) (x : Int) (l0 l1 l2 l3 l4 l6 : Option mx_V) (S h : mx_H) (n : Int), mx_ex d 46 33 [l0, l1, l2, l3, l4, some (0, x), l6] [] S h n = mx_ex d 46 35 [l0, l1, l2, l3, l4, some (0, x), l6] [(0, x)] S h n) ∧
  (∀ (d : Nat) (x : Int) (l0 l1 l2 l3 l4 l5 l6 : Option mx_V) (S h : mx_H) (n : Int), mx_ex d 46 35 [l0, l1, l2, l3, l4, l5, l6] [(0, x)] S h n = some (some (0, x), S, h, n)) :=
  ⟨by intros; exact rfl,
   by intros; exact eq_ld rfl rfl,
   by intros; exact eq_st rfl (by decide) (Nat.le_of_ble_eq_true rfl) rfl,
   by intros; exact eq_ld rfl rfl,
   by intros; exact eq_st rfl (by decide) (Nat.le_of_ble_eq_true rfl) rfl,
   by intros; exact eq_ld rfl rfl,
   by intros; exact eq_ic3 rfl,
   by intros; exact eq_ld rfl rfl,
   by intros; exact eq_ld rfl rfl,
   by intros; exact eq_i2 (o := mx_mul) rfl,
   by intros; exact eq_ld rfl rfl,
   by intros; exact eq_gr rfl,
   by intros; exact eq_ld rfl rfl,
   by intros; exact eq_iald rfl,
   by intros; exact eq_i2 (o := mx_add) rfl,
   by intros; exact eq_st rfl (by decide) (Nat.le_of_ble_eq_true rfl) rfl,
   by intros; exact eq_inc rfl rfl rfl,
   by intros; exact eq_go rfl,
   by intros; exact eq_ld rfl rfl,
   by intros; exact eq_ret rfl⟩
theorem rh_X4_allBelow_3 : ∀ (d : Nat) (x : Int) (l0 l1 l2 l3 : Option mx_V) (S h : mx_H) (n : Int), mx_ex d 47 3 [l0, l1, l2, l3, some (0, x)] [] S h n = mx_ex d 47 5 [l0, l1, l2, l3, some (0, x)] [(0, x)] S h n := by intros; exact eq_ld rfl rfl
theorem rw_X4_allBelow :
  (∀ (d : Nat) (a0 a1 a2 a3 : Int) (S h : mx_H) (n : Int), mx_M d 47 [(2, a0), (0, a1), (0, a2), (0, a3)] S h n = mx_ex d 47 0 [some (2, a0), some (0, a1), some (0, a2), some (0, a3), none] [] S h n) ∧
  (∀ (d : Nat) (x : Int) (l0 l1 l3 l4 : Option mx_V) (S h : mx_H) (n : Int), mx_ex d 47 0 [l0, l1, some (0, x), l3, l4] [] S h n = mx_ex d 47 1 [l0, l1, some (0, x), l3, l4] [(0, x)] S h n) ∧
  (∀ (d : Nat) (x : Int) (l0 l1 l2 l3 l4 : Option mx_V) (S h : mx_H) (n : Int), mx_ex d 47 1 [l0, l1, l2, l3, l4] [(0, x)] S h n = mx_ex d 47 3 [l0, l1, l2, mx_nl l3, some (0, x)] [] S h n) ∧
  (∀ (d : Nat) (x : Int) (l0 l1 l2 l4 : Option mx_V) (v0 : mx_V) (S h : mx_H) (n : Int), mx_ex d 47 5 [l0, l1, l2, some (0, x), l4] [v0] S h n = mx_ex d 47 6 [l0, l1, l2, some (0, x), l4] [(0, x), v0] S h n) ∧
  (∀ (d : Nat) (b a : Int) (l0 l1 l2 l3 l4 : Option mx_V) (S h : mx_H) (n : Int), mx_ex d 47 6 [l0, l1, l2, l3, l4] [(0, b), (0, a)] S h n = mx_br (a < b) d 47 9 28 [l0, l1, l2, l3, l4] [] S h n) ∧
  (∀ (d : Nat) (x : Int) (l1 l2 l3 l4 : Option mx_V) (S h : mx_H) (n : Int), mx_ex d 47 9 [some (2, x), l1, l2, l3, l4] [] S h n = mx_ex d 47 10 [some (2, x), l1, l2, l3, l4] [(2, x)] S h n) ∧
  (∀ (d : Nat) (a : Int) (l0 l1 l2 l3 l4 : Option mx_V) (S h : mx_H) (n : Int), mx_ex d 47 10 [l0, l1, l2, l3, l4] [(2, a)] S h n = mx_gd (1 ≤ S a (-2) ∧ S a (-2) ≤ 6) d 47 13 [l0, l1, l2, l3, l4] [(2, S a 2)] S h n) ∧
  (∀ (d : Nat) (x : Int) (l0 l1 l2 l3 : Option mx_V) (v0 : mx_V) (S h : mx_H) (n : Int), mx_ex d 47 13 [l0, l1, l2, l3, some (0, x)] [v0] S h n = mx_ex d 47 15 [l0, l1, l2, l3, some (0, x)] [(0, x), v0] S h n) ∧
  (∀ (d : Nat) (i a : Int) (l0 l1 l2 l3 l4 : Option mx_V) (S h : mx_H) (n : Int), mx_ex d 47 15 [l0, l1, l2, l3, l4] [(0, i), (2, a)] S h n = mx_gd ((S a (-2) = 20 ∨ S a (-2) = 24) ∧ 0 ≤ i ∧ i < S a (-1)) d 47 16 [l0, l1, l2, l3, l4] [(0, h a i)] S h n) ∧
  (∀ (d : Nat) (x : Int) (l0 l2 l3 l4 : Option mx_V) (v0 : mx_V) (S h : mx_H) (n : Int), mx_ex d 47 16 [l0, some (0, x), l2, l3, l4] [v0] S h n = mx_ex d 47 17 [l0, some (0, x), l2, l3, l4] [(0, x), v0] S h n) ∧
  (∀ (d : Nat) (b a : Int) (l0 l1 l2 l3 l4 : Option mx_V) (S h : mx_H) (n : Int), mx_ex d 47 17 [l0, l1, l2, l3, l4] [(0, b), (0, a)] S h n = mx_br (a < b) d 47 22 20 [l0, l1, l2, l3, l4] [] S h n) ∧
  (∀ (d : Nat) (l0 l1 l2 l3 l4 : Option mx_V) (S h : mx_H) (n : Int), mx_ex d 47 20 [l0, l1, l2, l3, l4] [] S h n = mx_ex d 47 21 [l0, l1, l2, l3, l4] [(0, 0)] S h n) ∧
  (∀ (d : Nat) (x : Int) (l0 l1 l2 l3 l4 : Option mx_V) (S h : mx_H) (n : Int), mx_ex d 47 21 [l0, l1, l2, l3, l4] [(0, x)] S h n = mx_re (0 ≤ x ∧ x ≤ 1) (some (0, x)) S h n) ∧
  (∀ (d : Nat) (x : Int) (l0 l1 l2 l3 : Option mx_V) (S h : mx_H) (n : Int), mx_ex d 47 22 [l0, l1, l2, l3, some (0, x)] [] S h n = mx_ex d 47 25 [l0, l1, l2, mx_nl l3, some (0, mx_w (x + 1))] [] S h n) ∧
  (∀ (d : Nat) (l0 l1 l2 l3 l4 : Option mx_V) (S h : mx_H) (n : Int), mx_ex d 47 25 [l0, l1, l2, l3, l4] [] S h n = mx_ex d 47 3 [l0, l1, l2, l3, l4] [] S h n) ∧
  (∀ (d : Nat) (l0 l1 l2 l3 l4 : Option mx_V) (S h : mx_H) (n : Int), mx_ex d 47 28 [l0, l1, l2, l3, l4] [] S h n = mx_ex d 47 29 [l0, l1, l2, l3, l4] [(0, 1)] S h n) ∧
  (∀ (d : Nat) (x : Int) (l0 l1 l2 l3 l4 : Option mx_V) (S h : mx_H) (n : Int), mx_ex d 47 29 [l0, l1, l2, l3, l4] [(0, x)] S h n = mx_re (0 ≤ x ∧ x ≤ 1) (some (0, x)) S h n) :=
  ⟨by intros; exact rfl,
   by intros; exact eq_ld rfl rfl,
   by intros; exact eq_st rfl (by decide) (Nat.le_of_ble_eq_true rfl) rfl,
   by intros; exact eq_ld rfl rfl,
   by intros; exact eq_ic3 rfl,
   by intros; exact eq_ld rfl rfl,
   by intros; exact eq_gr rfl,
   by intros; exact eq_ld rfl rfl,
   by intros; exact eq_iald rfl,
   by intros; exact eq_ld rfl rfl,
   by intros; exact eq_ic2 rfl,
   by intros; exact eq_push rfl,
   by intros; exact eq_rr rfl,
   by intros; exact eq_inc rfl rfl rfl,
   by intros; exact eq_go rfl,
   by intros; exact eq_push rfl,
   by intros; exact eq_rr rfl⟩
theorem rw_X4_reads :
  (∀ (d : Nat) (a0 a1 a2 : Int) (S h : mx_H) (n : Int), mx_M d 48 [(2, a0), (0, a1), (2, a2)] S h n = mx_ex d 48 0 [some (2, a0), some (0, a1), some (2, a2)] [] S h n) ∧
  (∀ (d : Nat) (x : Int) (l0 l1 : Option mx_V) (S h : mx_H) (n : Int), mx_ex d 48 0 [l0, l1, some (2, x)] [] S h n = mx_ex d 48 1 [l0, l1, some (2, x)] [(2, x)] S h n) ∧
  (∀ (d : Nat) (a : Int) (l0 l1 l2 : Option mx_V) (S h : mx_H) (n : Int), mx_ex d 48 1 [l0, l1, l2] [(2, a)] S h n = mx_gd (11 ≤ S a (-2) ∧ S a (-2) ≤ 11) d 48 4 [l0, l1, l2] [(2, S a 0)] S h n) ∧
  (∀ (d : Nat) (x : Int) (l0 l1 : Option mx_V) (v0 : mx_V) (S h : mx_H) (n : Int), mx_ex d 48 4 [l0, l1, some (2, x)] [v0] S h n = mx_ex d 48 5 [l0, l1, some (2, x)] [(2, x), v0] S h n) ∧
  (∀ (d : Nat) (a : Int) (l0 l1 l2 : Option mx_V) (v1 : mx_V) (S h : mx_H) (n : Int), mx_ex d 48 5 [l0, l1, l2] [(2, a), v1] S h n = mx_ex d 48 6 [l0, l1, l2] [(2, a), (2, a), v1] S h n) ∧
  (∀ (d : Nat) (a : Int) (l0 l1 l2 : Option mx_V) (v1 v2 : mx_V) (S h : mx_H) (n : Int), mx_ex d 48 6 [l0, l1, l2] [(2, a), v1, v2] S h n = mx_gd (11 ≤ S a (-2) ∧ S a (-2) ≤ 11) d 48 9 [l0, l1, l2] [(0, h a 1), v1, v2] S h n) ∧
  (∀ (d : Nat) (a b : Int) (l0 l1 l2 : Option mx_V) (v2 : mx_V) (S h : mx_H) (n : Int), mx_ex d 48 9 [l0, l1, l2] [(0, a), (2, b), v2] S h n = mx_ex d 48 10 [l0, l1, l2] [(0, a), (2, b), (0, a), v2] S h n) ∧
  (∀ (d : Nat) (l0 l1 l2 : Option mx_V) (v0 v1 v2 v3 : mx_V) (S h : mx_H) (n : Int), mx_ex d 48 10 [l0, l1, l2] [v0, v1, v2, v3] S h n = mx_ex d 48 11 [l0, l1, l2] [(0, 1), v0, v1, v2, v3] S h n) ∧
  (∀ (d : Nat) (b a : Int) (l0 l1 l2 : Option mx_V) (v2 v3 v4 : mx_V) (S h : mx_H) (n : Int), mx_ex d 48 11 [l0, l1, l2] [(0, b), (0, a), v2, v3, v4] S h n = mx_ex d 48 12 [l0, l1, l2] [(0, mx_w (a + b)), v2, v3, v4] S h n) ∧
  (∀ (d : Nat) (v a : Int) (l0 l1 l2 : Option mx_V) (v2 v3 : mx_V) (S h : mx_H) (n : Int), mx_ex d 48 12 [l0, l1, l2] [(0, v), (2, a), v2, v3] S h n = mx_gd (11 ≤ S a (-2) ∧ S a (-2) ≤ 11) d 48 15 [l0, l1, l2] [v2, v3] S (mx_u h a 1 v) n) ∧
  (∀ (d : Nat) (l0 l1 l2 : Option mx_V) (v0 v1 : mx_V) (S h : mx_H) (n : Int), mx_ex d 48 15 [l0, l1, l2] [v0, v1] S h n = mx_ex d 48 17 [l0, l1, l2] [(0, 31), v0, v1] S h n) ∧
  (∀ (d : Nat) (b a : Int) (l0 l1 l2 : Option mx_V) (v2 : mx_V) (S h : mx_H) (n : Int), mx_ex d 48 17 [l0, l1, l2] [(0, b), (0, a), v2] S h n = mx_ex d 48 18 [l0, l1, l2] [(0, mx_and a b), v2] S h n) ∧
  (∀ (d : Nat) (l0 l1 l2 : Option mx_V) (v0 v1 : mx_V) (S h : mx_H) (n : Int), mx_ex d 48 18 [l0, l1, l2] [v0, v1] S h n = mx_ex d 48 20 [l0, l1, l2] [(0, 10), v0, v1] S h n) ∧
  (∀ (d : Nat) (v i a : Int) (l0 l1 l2 : Option mx_V) (S h : mx_H) (n : Int), mx_ex d 48 20 [l0, l1, l2] [(0, v), (0, i), (2, a)] S h n = mx_gd (S a (-2) = 20 ∧ 0 ≤ i ∧ i < S a (-1)) d 48 21 [l0, l1, l2] [] S (mx_u h a i v) n) ∧
  (∀ (d : Nat) (x : Int) (l0 l2 : Option mx_V) (S h : mx_H) (n : Int), mx_ex d 48 21 [l0, some (0, x), l2] [] S h n = mx_ex d 48 22 [l0, some (0, x), l2] [(0, x)] S h n) ∧
  (∀ (d : Nat) (x : Int) (l1 l2 : Option mx_V) (v0 : mx_V) (S h : mx_H) (n : Int), mx_ex d 48 22 [some (2, x), l1, l2] [v0] S h n = mx_ex d 48 23 [some (2, x), l1, l2] [(2, x), v0] S h n) ∧
  (∀ (d : Nat) (a : Int) (l0 l1 l2 : Option mx_V) (v1 : mx_V) (S h : mx_H) (n : Int), mx_ex d 48 23 [l0, l1, l2] [(2, a), v1] S h n = mx_gd (1 ≤ S a (-2) ∧ S a (-2) ≤ 6) d 48 26 [l0, l1, l2] [(0, h a 0), v1] S h n) ∧
  (∀ (d : Nat) (b a : Int) (l0 l1 l2 : Option mx_V) (S h : mx_H) (n : Int), mx_ex d 48 26 [l0, l1, l2] [(0, b), (0, a)] S h n = mx_ex d 48 27 [l0, l1, l2] [(0, mx_w (a + b))] S h n) ∧
  (∀ (d : Nat) (x : Int) (l0 l1 l2 : Option mx_V) (S h : mx_H) (n : Int), mx_ex d 48 27 [l0, l1, l2] [(0, x)] S h n = some (some (0, x), S, h, n)) :=
  ⟨by intros; exact rfl,
   by intros; exact eq_ld rfl rfl,
   by intros; exact eq_gr rfl,
   by intros; exact eq_ld rfl rfl,
   by intros; exact eq_dup rfl (by decide),
   by intros; exact eq_gi rfl,
   by intros; exact eq_dx1 rfl (by decide) (by decide),
   by intros; exact eq_push rfl,
   by intros; exact eq_i2 (o := mx_add) rfl,
   by intros; exact eq_pi rfl,
   by intros; exact eq_push rfl,
   by intros; exact eq_i2 (o := mx_and) rfl,
   by intros; exact eq_push rfl,
   by intros; exact eq_iast rfl,
   by intros; exact eq_ld rfl rfl,
   by intros; exact eq_ld rfl rfl,
   by intros; exact eq_gi rfl,
   by intros; exact eq_i2 (o := mx_add) rfl,
   by intros; exact eq_ret rfl⟩
theorem rw_X4_writes :
  (∀ (d : Nat) (a0 a1 a2 : Int) (S h : mx_H) (n : Int), mx_M d 49 [(2, a0), (0, a1), (2, a2)] S h n = mx_ex d 49 0 [some (2, a0), some (0, a1), some (2, a2)] [] S h n) ∧
  (∀ (d : Nat) (x : Int) (l0 l1 : Option mx_V) (S h : mx_H) (n : Int), mx_ex d 49 0 [l0, l1, some (2, x)] [] S h n = mx_ex d 49 1 [l0, l1, some (2, x)] [(2, x)] S h n) ∧
  (∀ (d : Nat) (a : Int) (l0 l1 l2 : Option mx_V) (S h : mx_H) (n : Int), mx_ex d 49 1 [l0, l1, l2] [(2, a)] S h n = mx_gd (11 ≤ S a (-2) ∧ S a (-2) ≤ 11) d 49 4 [l0, l1, l2] [(2, S a 0)] S h n) ∧
  (∀ (d : Nat) (x : Int) (l0 l1 : Option mx_V) (v0 : mx_V) (S h : mx_H) (n : Int), mx_ex d 49 4 [l0, l1, some (2, x)] [v0] S h n = mx_ex d 49 5 [l0, l1, some (2, x)] [(2, x), v0] S h n) ∧
  (∀ (d : Nat) (a : Int) (l0 l1 l2 : Option mx_V) (v1 : mx_V) (S h : mx_H) (n : Int), mx_ex d 49 5 [l0, l1, l2] [(2, a), v1] S h n = mx_ex d 49 6 [l0, l1, l2] [(2, a), (2, a), v1] S h n) ∧
  (∀ (d : Nat) (a : Int) (l0 l1 l2 : Option mx_V) (v1 v2 : mx_V) (S h : mx_H) (n : Int), mx_ex d 49 6 [l0, l1, l2] [(2, a), v1, v2] S h n = mx_gd (11 ≤ S a (-2) ∧ S a (-2) ≤ 11) d 49 9 [l0, l1, l2] [(0, h a 1), v1, v2] S h n) ∧
  (∀ (d : Nat) (a b : Int) (l0 l1 l2 : Option mx_V) (v2 : mx_V) (S h : mx_H) (n : Int), mx_ex d 49 9 [l0, l1, l2] [(0, a), (2, b), v2] S h n = mx_ex d 49 10 [l0, l1, l2] [(0, a), (2, b), (0, a), v2] S h n) ∧
  (∀ (d : Nat) (l0 l1 l2 : Option mx_V) (v0 v1 v2 v3 : mx_V) (S h : mx_H) (n : Int), mx_ex d 49 10 [l0, l1, l2] [v0, v1, v2, v3] S h n = mx_ex d 49 11 [l0, l1, l2] [(0, 1), v0, v1, v2, v3] S h n) ∧
  (∀ (d : Nat) (b a : Int) (l0 l1 l2 : Option mx_V) (v2 v3 v4 : mx_V) (S h : mx_H) (n : Int), mx_ex d 49 11 [l0, l1, l2] [(0, b), (0, a), v2, v3, v4] S h n = mx_ex d 49 12 [l0, l1, l2] [(0, mx_w (a + b)), v2, v3, v4] S h n) ∧
  (∀ (d : Nat) (v a : Int) (l0 l1 l2 : Option mx_V) (v2 v3 : mx_V) (S h : mx_H) (n : Int), mx_ex d 49 12 [l0, l1, l2] [(0, v), (2, a), v2, v3] S h n = mx_gd (11 ≤ S a (-2) ∧ S a (-2) ≤ 11) d 49 15 [l0, l1, l2] [v2, v3] S (mx_u h a 1 v) n) ∧
  (∀ (d : Nat) (l0 l1 l2 : Option mx_V) (v0 v1 : mx_V) (S h : mx_H) (n : Int), mx_ex d 49 15 [l0, l1, l2] [v0, v1] S h n = mx_ex d 49 17 [l0, l1, l2] [(0, 31), v0, v1] S h n) ∧
  (∀ (d : Nat) (b a : Int) (l0 l1 l2 : Option mx_V) (v2 : mx_V) (S h : mx_H) (n : Int), mx_ex d 49 17 [l0, l1, l2] [(0, b), (0, a), v2] S h n = mx_ex d 49 18 [l0, l1, l2] [(0, mx_and a b), v2] S h n) ∧
  (∀ (d : Nat) (l0 l1 l2 : Option mx_V) (v0 v1 : mx_V) (S h : mx_H) (n : Int), mx_ex d 49 18 [l0, l1, l2] [v0, v1] S h n = mx_ex d 49 20 [l0, l1, l2] [(0, 11), v0, v1] S h n) ∧
  (∀ (d : Nat) (v i a : Int) (l0 l1 l2 : Option mx_V) (S h : mx_H) (n : Int), mx_ex d 49 20 [l0, l1, l2] [(0, v), (0, i), (2, a)] S h n = mx_gd (S a (-2) = 20 ∧ 0 ≤ i ∧ i < S a (-1)) d 49 21 [l0, l1, l2] [] S (mx_u h a i v) n) ∧
  (∀ (d : Nat) (x : Int) (l1 l2 : Option mx_V) (S h : mx_H) (n : Int), mx_ex d 49 21 [some (2, x), l1, l2] [] S h n = mx_ex d 49 22 [some (2, x), l1, l2] [(2, x)] S h n) ∧
  (∀ (d : Nat) (x : Int) (l0 l2 : Option mx_V) (v0 : mx_V) (S h : mx_H) (n : Int), mx_ex d 49 22 [l0, some (0, x), l2] [v0] S h n = mx_ex d 49 23 [l0, some (0, x), l2] [(0, x), v0] S h n) ∧
  (∀ (d : Nat) (x : Int) (l0 l1 : Option mx_V) (v0 v1 : mx_V) (S h : mx_H) (n : Int), mx_ex d 49 23 [l0, l1, some (2, x)] [v0, v1] S h n = mx_ex d 49 24 [l0, l1, some (2, x)] [(2, x), v0, v1] S h n) ∧
  (∀ (d : Nat) (x0 x1 a : Int) (l0 l1 l2 : Option mx_V) (S h : mx_H) (n : Int), mx_ex (d + 1) 49 24 [l0, l1, l2] [(2, x0), (0, x1), (2, a)] S h n = mx_cu (mx_vt (S a (-2)) [(1, 48), (2, 48), (3, 5), (4, 36), (5, 48), (6, 11)]) d [(2, a), (0, x1), (2, x0)] 49 27 [l0, l1, l2] [] S h n) ∧
  (∀ (d : Nat) (l0 l1 l2 : Option mx_V) (v0 : mx_V) (S h : mx_H) (n : Int), mx_ex d 49 27 [l0, l1, l2] [v0] S h n = mx_ex d 49 28 [l0, l1, l2] [(0, 2), v0] S h n) ∧
  (∀ (d : Nat) (b a : Int) (l0 l1 l2 : Option mx_V) (S h : mx_H) (n : Int), mx_ex d 49 28 [l0, l1, l2] [(0, b), (0, a)] S h n = mx_ex d 49 29 [l0, l1, l2] [(0, mx_w (a * b))] S h n) ∧
  (∀ (d : Nat) (x : Int) (l0 l1 l2 : Option mx_V) (S h : mx_H) (n : Int), mx_ex d 49 29 [l0, l1, l2] [(0, x)] S h n = some (some (0, x), S, h, n)) :=
  ⟨by intros; exact rfl,
   by intros; exact eq_ld rfl rfl,
   by intros; exact eq_gr rfl,
   by intros; exact eq_ld rfl rfl,
   by intros; exact eq_dup rfl (by decide),
   by intros; exact eq_gi rfl,
   by intros; exact eq_dx1 rfl (by decide) (by decide),
   by intros; exact eq_push rfl,
   by intros; exact eq_i2 (o := mx_add) rfl,
   by intros; exact eq_pi rfl,
   by intros; exact eq_push rfl,
   by intros; exact eq_i2 (o := mx_and) rfl,
   by intros; exact eq_push rfl,
   by intros; exact eq_iast rfl,
   by intros; exact eq_ld rfl rfl,
   by intros; exact eq_ld rfl rfl,
   by intros; exact eq_ld rfl rfl,
   by intros; exact eq_cu rfl (Nat.le_of_ble_eq_true rfl) rfl rfl rfl (Nat.le_of_ble_eq_true rfl),
   by intros; exact eq_push rfl,
   by intros; exact eq_i2 (o := mx_mul) rfl,
   by intros; exact eq_ret rfl⟩
theorem rw_X4_shares :
  (∀ (d : Nat) (a0 a1 a2 : Int) (S h : mx_H) (n : Int), mx_M d 50 [(2, a0), (0, a1), (2, a2)] S h n = mx_ex d 50 0 [some (2, a0), some (0, a1), some (2, a2), none] [] S h n) ∧
  (∀ (d : Nat) (x : Int) (l0 l1 l3 : Option mx_V) (S h : mx_H) (n : Int), mx_ex d 50 0 [l0, l1, some (2, x), l3] [] S h n = mx_ex d 50 1 [l0, l1, some (2, x), l3] [(2, x)] S h n) ∧
  (∀ (d : Nat) (a : Int) (l0 l1 l2 l3 : Option mx_V) (S h : mx_H) (n : Int), mx_ex d 50 1 [l0, l1, l2, l3] [(2, a)] S h n = mx_gd (11 ≤ S a (-2) ∧ S a (-2) ≤ 11) d 50 4 [l0, l1, l2, l3] [(2, S a 0)] S h n) ∧
  (∀ (d : Nat) (x : Int) (l0 l1 l3 : Option mx_V) (v0 : mx_V) (S h : mx_H) (n : Int), mx_ex d 50 4 [l0, l1, some (2, x), l3] [v0] S h n = mx_ex d 50 5 [l0, l1, some (2, x), l3] [(2, x), v0] S h n) ∧
  (∀ (d : Nat) (a : Int) (l0 l1 l2 l3 : Option mx_V) (v1 : mx_V) (S h : mx_H) (n : Int), mx_ex d 50 5 [l0, l1, l2, l3] [(2, a), v1] S h n = mx_ex d 50 6 [l0, l1, l2, l3] [(2, a), (2, a), v1] S h n) ∧
  (∀ (d : Nat) (a : Int) (l0 l1 l2 l3 : Option mx_V) (v1 v2 : mx_V) (S h : mx_H) (n : Int), mx_ex d 50 6 [l0, l1, l2, l3] [(2, a), v1, v2] S h n = mx_gd (11 ≤ S a (-2) ∧ S a (-2) ≤ 11) d 50 9 [l0, l1, l2, l3] [(0, h a 1), v1, v2] S h n) ∧
  (∀ (d : Nat) (a b : Int) (l0 l1 l2 l3 : Option mx_V) (v2 : mx_V) (S h : mx_H) (n : Int), mx_ex d 50 9 [l0, l1, l2, l3] [(0, a), (2, b), v2] S h n = mx_ex d 50 10 [l0, l1, l2, l3] [(0, a), (2, b), (0, a), v2] S h n) ∧
  (∀ (d : Nat) (l0 l1 l2 l3 : Option mx_V) (v0 v1 v2 v3 : mx_V) (S h : mx_H) (n : Int), mx_ex d 50 10 [l0, l1, l2, l3] [v0, v1, v2, v3] S h n = mx_ex d 50 11 [l0, l1, l2, l3] [(0, 1), v0, v1, v2, v3] S h n) ∧
  (∀ (d : Nat) (b a : Int) (l0 l1 l2 l3 : Option mx_V) (v2 v3 v4 : mx_V) (S h : mx_H) (n : Int), mx_ex d 50 11 [l0, l1, l2, l3] [(0, b), (0, a), v2, v3, v4] S h n = mx_ex d 50 12 [l0, l1, l2, l3] [(0, mx_w (a + b)), v2, v3, v4] S h n) ∧
  (∀ (d : Nat) (v a : Int) (l0 l1 l2 l3 : Option mx_V) (v2 v3 : mx_V) (S h : mx_H) (n : Int), mx_ex d 50 12 [l0, l1, l2, l3] [(0, v), (2, a), v2, v3] S h n = mx_gd (11 ≤ S a (-2) ∧ S a (-2) ≤ 11) d 50 15 [l0, l1, l2, l3] [v2, v3] S (mx_u h a 1 v) n) ∧
  (∀ (d : Nat) (l0 l1 l2 l3 : Option mx_V) (v0 v1 : mx_V) (S h : mx_H) (n : Int), mx_ex d 50 15 [l0, l1, l2, l3] [v0, v1] S h n = mx_ex d 50 17 [l0, l1, l2, l3] [(0, 31), v0, v1] S h n) ∧
  (∀ (d : Nat) (b a : Int) (l0 l1 l2 l3 : Option mx_V) (v2 : mx_V) (S h : mx_H) (n : Int), mx_ex d 50 17 [l0, l1, l2, l3] [(0, b), (0, a), v2] S h n = mx_ex d 50 18 [l0, l1, l2, l3] [(0, mx_and a b), v2] S h n) ∧
  (∀ (d : Nat) (l0 l1 l2 l3 : Option mx_V) (v0 v1 : mx_V) (S h : mx_H) (n : Int), mx_ex d 50 18 [l0, l1, l2, l3] [v0, v1] S h n = mx_ex d 50 20 [l0, l1, l2, l3] [(0, 12), v0, v1] S h n) ∧
  (∀ (d : Nat) (v i a : Int) (l0 l1 l2 l3 : Option mx_V) (S h : mx_H) (n : Int), mx_ex d 50 20 [l0, l1, l2, l3] [(0, v), (0, i), (2, a)] S h n = mx_gd (S a (-2) = 20 ∧ 0 ≤ i ∧ i < S a (-1)) d 50 21 [l0, l1, l2, l3] [] S (mx_u h a i v) n) ∧
  (∀ (d : Nat) (x : Int) (l1 l2 l3 : Option mx_V) (S h : mx_H) (n : Int), mx_ex d 50 21 [some (2, x), l1, l2, l3] [] S h n = mx_ex d 50 22 [some (2, x), l1, l2, l3] [(2, x)] S h n) ∧
  (∀ (d : Nat) (a : Int) (l0 l1 l2 l3 : Option mx_V) (S h : mx_H) (n : Int), mx_ex d 50 22 [l0, l1, l2, l3] [(2, a)] S h n = mx_gd (1 ≤ S a (-2) ∧ S a (-2) ≤ 6) d 50 25 [l0, l1, l2, l3] [(0, h a 1)] S h n) ∧
  (∀ (d : Nat) (x : Int) (l1 l2 l3 : Option mx_V) (v0 : mx_V) (S h : mx_H) (n : Int), mx_ex d 50 25 [some (2, x), l1, l2, l3] [v0] S h n = mx_ex d 50 26 [some (2, x), l1, l2, l3] [(2, x), v0] S h n) ∧
  (∀ (d : Nat) (a : Int) (l0 l1 l2 l3 : Option mx_V) (v1 : mx_V) (S h : mx_H) (n : Int), mx_ex d 50 26 [l0, l1, l2, l3] [(2, a), v1] S h n = mx_gd (1 ≤ S a (-2) ∧ S a (-2) ≤ 6) d 50 29 [l0, l1, l2, l3] [(0, h a 0), v1] S h n) ∧
  (∀ (d : Nat) (b a : Int) (l0 l1 l2 l3 : Option mx_V) (S h : mx_H) (n : Int), mx_ex d 50 29 [l0, l1, l2, l3] [(0, b), (0, a)] S h n = mx_ex d 50 30 [l0, l1, l2, l3] [(0, mx_w (a - b))] S h n) ∧
  (∀ (d : Nat) (x : Int) (l0 l1 l2 l3 : Option mx_V) (S h : mx_H) (n : Int), mx_ex d 50 30 [l0, l1, l2, l3] [(0, x)] S h n = mx_ex d 50 31 [l0, l1, mx_nl l2, some (0, x)] [] S h n) ∧
  (∀ (d : Nat) (x : Int) (l0 l1 l2 : Option mx_V) (S h : mx_H) (n : Int), mx_ex d 50 31 [l0, l1, l2, some (0, x)] [] S h n = mx_ex d 50 32 [l0, l1, l2, some (0, x)] [(0, x)] S h n) ∧
  (∀ (d : Nat) (a : Int) (l0 l1 l2 l3 : Option mx_V) (S h : mx_H) (n : Int), mx_ex d 50 32 [l0, l1, l2, l3] [(0, a)] S h n = mx_br (a = 0) d 50 39 35 [l0, l1, l2, l3] [] S h n) ∧
  (∀ (d : Nat) (x : Int) (l0 l2 l3 : Option mx_V) (S h : mx_H) (n : Int), mx_ex d 50 35 [l0, some (0, x), l2, l3] [] S h n = mx_ex d 50 36 [l0, some (0, x), l2, l3] [(0, x)] S h n) ∧
  (∀ (d : Nat) (x : Int) (l0 l1 l2 : Option mx_V) (v0 : mx_V) (S h : mx_H) (n : Int), mx_ex d 50 36 [l0, l1, l2, some (0, x)] [v0] S h n = mx_ex d 50 37 [l0, l1, l2, some (0, x)] [(0, x), v0] S h n) ∧
  (∀ (d : Nat) (b a : Int) (l0 l1 l2 l3 : Option mx_V) (S h : mx_H) (n : Int), mx_ex d 50 37 [l0, l1, l2, l3] [(0, b), (0, a)] S h n = mx_gd (¬ b = 0) d 50 38 [l0, l1, l2, l3] [(0, mx_w (Int.tdiv a b))] S h n) ∧
  (∀ (d : Nat) (x : Int) (l0 l1 l2 l3 : Option mx_V) (S h : mx_H) (n : Int), mx_ex d 50 38 [l0, l1, l2, l3] [(0, x)] S h n = some (some (0, x), S, h, n)) ∧
  (∀ (d : Nat) (x : Int) (l0 l1 l3 : Option mx_V) (S h : mx_H) (n : Int), mx_ex d 50 39 [l0, l1, some (2, x), l3] [] S h n = mx_ex d 50 40 [l0, l1, some (2, x), l3] [(2, x)] S h n) ∧
  (∀ (d : Nat) (a : Int) (l0 l1 l2 l3 : Option mx_V) (S h : mx_H) (n : Int), mx_ex (d + 1) 50 40 [l0, l1, l2, l3] [(2, a)] S h n = mx_cl (S a (-2) = 11) d 76 [(2, a)] 50 43 [l0, l1, l2, l3] [] S h n) ∧
  (∀ (d : Nat) (l0 l1 l2 l3 : Option mx_V) (S h : mx_H) (n : Int), mx_ex d 50 43 [l0, l1, l2, l3] [] S h n = mx_ex d 50 44 [l0, l1, l2, l3] [(0, 0)] S h n) ∧
  (∀ (d : Nat) (x : Int) (l0 l1 l2 l3 : Option mx_V) (S h : mx_H) (n : Int), mx_ex d 50 44 [l0, l1, l2, l3] [(0, x)] S h n = some (some (0, x), S, h, n)) :=
  ⟨by intros; exact rfl,
   by intros; exact eq_ld rfl rfl,
   by intros; exact eq_gr rfl,
   by intros; exact eq_ld rfl rfl,
   by intros; exact eq_dup rfl (by decide),
   by intros; exact eq_gi rfl,
   by intros; exact eq_dx1 rfl (by decide) (by decide),
   by intros; exact eq_push rfl,
   by intros; exact eq_i2 (o := mx_add) rfl,
   by intros; exact eq_pi rfl,
   by intros; exact eq_push rfl,
   by intros; exact eq_i2 (o := mx_and) rfl,
   by intros; exact eq_push rfl,
   by intros; exact eq_iast rfl,
   by intros; exact eq_ld rfl rfl,
   by intros; exact eq_gi rfl,
   by intros; exact eq_ld rfl rfl,
   by intros; exact eq_gi rfl,
   by intros; exact eq_i2 (o := mx_sub) rfl,
   by intros; exact eq_st rfl (by decide) (Nat.le_of_ble_eq_true rfl) rfl,
   by intros; exact eq_ld rfl rfl,
   by intros; exact eq_if0 rfl,
   by intros; exact eq_ld rfl rfl,
   by intros; exact eq_ld rfl rfl,
   by intros; exact eq_i2d (o := mx_div) rfl,
   by intros; exact eq_ret rfl,
   by intros; exact eq_ld rfl rfl,
   by intros; exact eq_cv rfl (Nat.le_of_ble_eq_true rfl) rfl rfl rfl (Nat.le_of_ble_eq_true rfl),
   by intros; exact eq_push rfl,
   by intros; exact eq_ret rfl⟩
theorem rw_X4_tells :
  (∀ (d : Nat) (a0 a1 a2 : Int) (S h : mx_H) (n : Int), mx_M d 51 [(2, a0), (0, a1), (2, a2)] S h n = mx_ex d 51 0 [some (2, a0), some (0, a1), some (2, a2)] [] S h n) ∧
  (∀ (d : Nat) (x : Int) (l0 l1 : Option mx_V) (S h : mx_H) (n : Int), mx_ex d 51 0 [l0, l1, some (2, x)] [] S h n = mx_ex d 51 1 [l0, l1, some (2, x)] [(2, x)] S h n) ∧
  (∀ (d : Nat) (a : Int) (l0 l1 l2 : Option mx_V) (S h : mx_H) (n : Int), mx_ex d 51 1 [l0, l1, l2] [(2, a)] S h n = mx_gd (11 ≤ S a (-2) ∧ S a (-2) ≤ 11) d 51 4 [l0, l1, l2] [(2, S a 0)] S h n) ∧
  (∀ (d : Nat) (x : Int) (l0 l1 : Option mx_V) (v0 : mx_V) (S h : mx_H) (n : Int), mx_ex d 51 4 [l0, l1, some (2, x)] [v0] S h n = mx_ex d 51 5 [l0, l1, some (2, x)] [(2, x), v0] S h n) ∧
  (∀ (d : Nat) (a : Int) (l0 l1 l2 : Option mx_V) (v1 : mx_V) (S h : mx_H) (n : Int), mx_ex d 51 5 [l0, l1, l2] [(2, a), v1] S h n = mx_ex d 51 6 [l0, l1, l2] [(2, a), (2, a), v1] S h n) ∧
  (∀ (d : Nat) (a : Int) (l0 l1 l2 : Option mx_V) (v1 v2 : mx_V) (S h : mx_H) (n : Int), mx_ex d 51 6 [l0, l1, l2] [(2, a), v1, v2] S h n = mx_gd (11 ≤ S a (-2) ∧ S a (-2) ≤ 11) d 51 9 [l0, l1, l2] [(0, h a 1), v1, v2] S h n) ∧
  (∀ (d : Nat) (a b : Int) (l0 l1 l2 : Option mx_V) (v2 : mx_V) (S h : mx_H) (n : Int), mx_ex d 51 9 [l0, l1, l2] [(0, a), (2, b), v2] S h n = mx_ex d 51 10 [l0, l1, l2] [(0, a), (2, b), (0, a), v2] S h n) ∧
  (∀ (d : Nat) (l0 l1 l2 : Option mx_V) (v0 v1 v2 v3 : mx_V) (S h : mx_H) (n : Int), mx_ex d 51 10 [l0, l1, l2] [v0, v1, v2, v3] S h n = mx_ex d 51 11 [l0, l1, l2] [(0, 1), v0, v1, v2, v3] S h n) ∧
  (∀ (d : Nat) (b a : Int) (l0 l1 l2 : Option mx_V) (v2 v3 v4 : mx_V) (S h : mx_H) (n : Int), mx_ex d 51 11 [l0, l1, l2] [(0, b), (0, a), v2, v3, v4] S h n = mx_ex d 51 12 [l0, l1, l2] [(0, mx_w (a + b)), v2, v3, v4] S h n) ∧
  (∀ (d : Nat) (v a : Int) (l0 l1 l2 : Option mx_V) (v2 v3 : mx_V) (S h : mx_H) (n : Int), mx_ex d 51 12 [l0, l1, l2] [(0, v), (2, a), v2, v3] S h n = mx_gd (11 ≤ S a (-2) ∧ S a (-2) ≤ 11) d 51 15 [l0, l1, l2] [v2, v3] S (mx_u h a 1 v) n) ∧
  (∀ (d : Nat) (l0 l1 l2 : Option mx_V) (v0 v1 : mx_V) (S h : mx_H) (n : Int), mx_ex d 51 15 [l0, l1, l2] [v0, v1] S h n = mx_ex d 51 17 [l0, l1, l2] [(0, 31), v0, v1] S h n) ∧
  (∀ (d : Nat) (b a : Int) (l0 l1 l2 : Option mx_V) (v2 : mx_V) (S h : mx_H) (n : Int), mx_ex d 51 17 [l0, l1, l2] [(0, b), (0, a), v2] S h n = mx_ex d 51 18 [l0, l1, l2] [(0, mx_and a b), v2] S h n) ∧
  (∀ (d : Nat) (l0 l1 l2 : Option mx_V) (v0 v1 : mx_V) (S h : mx_H) (n : Int), mx_ex d 51 18 [l0, l1, l2] [v0, v1] S h n = mx_ex d 51 20 [l0, l1, l2] [(0, 13), v0, v1] S h n) ∧
  (∀ (d : Nat) (v i a : Int) (l0 l1 l2 : Option mx_V) (S h : mx_H) (n : Int), mx_ex d 51 20 [l0, l1, l2] [(0, v), (0, i), (2, a)] S h n = mx_gd (S a (-2) = 20 ∧ 0 ≤ i ∧ i < S a (-1)) d 51 21 [l0, l1, l2] [] S (mx_u h a i v) n) ∧
  (∀ (d : Nat) (x : Int) (l1 l2 : Option mx_V) (S h : mx_H) (n : Int), mx_ex d 51 21 [some (2, x), l1, l2] [] S h n = mx_ex d 51 22 [some (2, x), l1, l2] [(2, x)] S h n) ∧
  (∀ (d : Nat) (x : Int) (l0 l2 : Option mx_V) (v0 : mx_V) (S h : mx_H) (n : Int), mx_ex d 51 22 [l0, some (0, x), l2] [v0] S h n = mx_ex d 51 23 [l0, some (0, x), l2] [(0, x), v0] S h n) ∧
  (∀ (d : Nat) (x : Int) (l0 l1 : Option mx_V) (v0 v1 : mx_V) (S h : mx_H) (n : Int), mx_ex d 51 23 [l0, l1, some (2, x)] [v0, v1] S h n = mx_ex d 51 24 [l0, l1, some (2, x)] [(2, x), v0, v1] S h n) ∧
  (∀ (d : Nat) (x0 x1 a : Int) (l0 l1 l2 : Option mx_V) (S h : mx_H) (n : Int), mx_ex (d + 1) 51 24 [l0, l1, l2] [(2, x0), (0, x1), (2, a)] S h n = mx_cu (mx_vt (S a (-2)) [(1, 49), (2, 58), (3, 49), (4, 37), (5, 49), (6, 58)]) d [(2, a), (0, x1), (2, x0)] 51 27 [l0, l1, l2] [] S h n) ∧
  (∀ (d : Nat) (x : Int) (l1 l2 : Option mx_V) (v0 : mx_V) (S h : mx_H) (n : Int), mx_ex d 51 27 [some (2, x), l1, l2] [v0] S h n = mx_ex d 51 28 [some (2, x), l1, l2] [(2, x), v0] S h n) ∧
  (∀ (d : Nat) (a : Int) (l0 l1 l2 : Option mx_V) (v1 : mx_V) (S h : mx_H) (n : Int), mx_ex d 51 28 [l0, l1, l2] [(2, a), v1] S h n = mx_gd (1 ≤ S a (-2) ∧ S a (-2) ≤ 6) d 51 31 [l0, l1, l2] [(0, h a 1), v1] S h n) ∧
  (∀ (d : Nat) (b a : Int) (l0 l1 l2 : Option mx_V) (S h : mx_H) (n : Int), mx_ex d 51 31 [l0, l1, l2] [(0, b), (0, a)] S h n = mx_ex d 51 32 [l0, l1, l2] [(0, mx_xor a b)] S h n) ∧
  (∀ (d : Nat) (x : Int) (l0 l1 l2 : Option mx_V) (S h : mx_H) (n : Int), mx_ex d 51 32 [l0, l1, l2] [(0, x)] S h n = some (some (0, x), S, h, n)) :=
  ⟨by intros; exact rfl,
   by intros; exact eq_ld rfl rfl,
   by intros; exact eq_gr rfl,
   by intros; exact eq_ld rfl rfl,
   by intros; exact eq_dup rfl (by decide),
   by intros; exact eq_gi rfl,
   by intros; exact eq_dx1 rfl (by decide) (by decide),
   by intros; exact eq_push rfl,
   by intros; exact eq_i2 (o := mx_add) rfl,
   by intros; exact eq_pi rfl,
   by intros; exact eq_push rfl,
   by intros; exact eq_i2 (o := mx_and) rfl,
   by intros; exact eq_push rfl,
   by intros; exact eq_iast rfl,
   by intros; exact eq_ld rfl rfl,
   by intros; exact eq_ld rfl rfl,
   by intros; exact eq_ld rfl rfl,
   by intros; exact eq_cu rfl (Nat.le_of_ble_eq_true rfl) rfl rfl rfl (Nat.le_of_ble_eq_true rfl),
   by intros; exact eq_ld rfl rfl,
   by intros; exact eq_gi rfl,
   by intros; exact eq_i2 (o := mx_xor) rfl,
   by intros; exact eq_ret rfl⟩
theorem rw_X5_init :
  (∀ (d : Nat) (a0 a1 a2 : Int) (S h : mx_H) (n : Int), mx_M d 52 [(2, a0), (0, a1), (0, a2)] S h n = mx_ex d 52 0 [some (2, a0), some (0, a1), some (0, a2)] [] S h n) ∧
  (∀ (d : Nat) (x : Int) (l1 l2 : Option mx_V) (S h : mx_H) (n : Int), mx_ex d 52 0 [some (2, x), l1, l2] [] S h n = mx_ex d 52 1 [some (2, x), l1, l2] [(2, x)] S h n) ∧
  (∀ (d : Nat) (a : Int) (l0 l1 l2 : Option mx_V) (S h : mx_H) (n : Int), mx_ex d 52 1 [l0, l1, l2] [(2, a)] S h n = mx_gd (0 ≤ a) d 52 4 [l0, l1, l2] [] S h n) ∧
  (∀ (d : Nat) (x : Int) (l1 l2 : Option mx_V) (S h : mx_H) (n : Int), mx_ex d 52 4 [some (2, x), l1, l2] [] S h n = mx_ex d 52 5 [some (2, x), l1, l2] [(2, x)] S h n) ∧
  (∀ (d : Nat) (x : Int) (l0 l2 : Option mx_V) (v0 : mx_V) (S h : mx_H) (n : Int), mx_ex d 52 5 [l0, some (0, x), l2] [v0] S h n = mx_ex d 52 6 [l0, some (0, x), l2] [(0, x), v0] S h n) ∧
  (∀ (d : Nat) (v a : Int) (l0 l1 l2 : Option mx_V) (S h : mx_H) (n : Int), mx_ex d 52 6 [l0, l1, l2] [(0, v), (2, a)] S h n = mx_gd (12 ≤ S a (-2) ∧ S a (-2) ≤ 12) d 52 9 [l0, l1, l2] [] S (mx_u h a 0 v) n) ∧
  (∀ (d : Nat) (x : Int) (l1 l2 : Option mx_V) (S h : mx_H) (n : Int), mx_ex d 52 9 [some (2, x), l1, l2] [] S h n = mx_ex d 52 10 [some (2, x), l1, l2] [(2, x)] S h n) ∧
  (∀ (d : Nat) (l0 l1 l2 : Option mx_V) (v0 : mx_V) (S h : mx_H) (n : Int), mx_ex d 52 10 [l0, l1, l2] [v0] S h n = mx_ex d 52 11 [l0, l1, l2] [(0, 0), v0] S h n) ∧
  (∀ (d : Nat) (x : Int) (l0 l1 : Option mx_V) (v0 v1 : mx_V) (S h : mx_H) (n : Int), mx_ex d 52 11 [l0, l1, some (0, x)] [v0, v1] S h n = mx_ex d 52 12 [l0, l1, some (0, x)] [(0, x), v0, v1] S h n) ∧
  (∀ (d : Nat) (b a : Int) (l0 l1 l2 : Option mx_V) (v2 : mx_V) (S h : mx_H) (n : Int), mx_ex d 52 12 [l0, l1, l2] [(0, b), (0, a), v2] S h n = mx_ex d 52 15 [l0, l1, l2] [(0, if a < b then b else a), v2] S h n) ∧
  (∀ (d : Nat) (x : Int) (l0 l1 l2 : Option mx_V) (v1 : mx_V) (S h : mx_H) (n : Int), mx_ex d 52 15 [l0, l1, l2] [(0, x), v1] S h n = mx_gd (0 ≤ x ∧ x ≤ 300) d 52 17 [l0, l1, l2] [(2, n), v1] (mx_t S n 21 x) (mx_z h n) (n + 1)) ∧
  (∀ (d : Nat) (v a : Int) (l0 l1 l2 : Option mx_V) (S h : mx_H) (n : Int), mx_ex d 52 17 [l0, l1, l2] [(2, v), (2, a)] S h n = mx_gd (12 ≤ S a (-2) ∧ S a (-2) ≤ 12) d 52 20 [l0, l1, l2] [] (mx_u S a 1 v) h n) ∧
  (∀ (d : Nat) (l0 l1 l2 : Option mx_V) (S h : mx_H) (n : Int), mx_ex d 52 20 [l0, l1, l2] [] S h n = some (none, S, h, n)) :=
  ⟨by intros; exact rfl,
   by intros; exact eq_ld rfl rfl,
   by intros; exact eq_oini rfl (Nat.le_of_ble_eq_true rfl),
   by intros; exact eq_ld rfl rfl,
   by intros; exact eq_ld rfl rfl,
   by intros; exact eq_pi rfl,
   by intros; exact eq_ld rfl rfl,
   by intros; exact eq_push rfl,
   by intros; exact eq_ld rfl rfl,
   by intros; exact eq_m2 (o := mx_max) rfl (Nat.le_of_ble_eq_true rfl),
   by intros; exact eq_newa rfl,
   by intros; exact eq_pr rfl,
   by intros; exact eq_retv rfl⟩
theorem rw_X5_narrowed :
  (∀ (d : Nat) (a0 a1 : Int) (S h : mx_H) (n : Int), mx_M d 53 [(2, a0), (0, a1)] S h n = mx_ex d 53 0 [some (2, a0), some (0, a1)] [] S h n) ∧
  (∀ (d : Nat) (x : Int) (l1 : Option mx_V) (S h : mx_H) (n : Int), mx_ex d 53 0 [some (2, x), l1] [] S h n = mx_ex d 53 1 [some (2, x), l1] [(2, x)] S h n) ∧
  (∀ (d : Nat) (a : Int) (l0 l1 : Option mx_V) (S h : mx_H) (n : Int), mx_ex d 53 1 [l0, l1] [(2, a)] S h n = mx_gd (12 ≤ S a (-2) ∧ S a (-2) ≤ 12) d 53 4 [l0, l1] [(0, h a 0)] S h n) ∧
  (∀ (d : Nat) (a : Int) (l0 l1 : Option mx_V) (S h : mx_H) (n : Int), mx_ex d 53 4 [l0, l1] [(0, a)] S h n = mx_sw a [(0, 32), (1, 36)] d 53 40 [l0, l1] [] S h n) ∧
  (∀ (d : Nat) (x : Int) (l0 : Option mx_V) (S h : mx_H) (n : Int), mx_ex d 53 32 [l0, some (0, x)] [] S h n = mx_ex d 53 33 [l0, some (0, x)] [(0, x)] S h n) ∧
  (∀ (d : Nat) (a : Int) (l0 l1 : Option mx_V) (S h : mx_H) (n : Int), mx_ex d 53 33 [l0, l1] [(0, a)] S h n = mx_ex d 53 34 [l0, l1] [(0, mx_i2b a)] S h n) ∧
  (∀ (d : Nat) (a : Int) (l0 l1 : Option mx_V) (S h : mx_H) (n : Int), mx_ex d 53 34 [l0, l1] [(0, a)] S h n = mx_ex d 53 35 [l0, l1] [(1, a)] S h n) ∧
  (∀ (d : Nat) (x : Int) (l0 l1 : Option mx_V) (S h : mx_H) (n : Int), mx_ex d 53 35 [l0, l1] [(1, x)] S h n = some (some (1, x), S, h, n)) ∧
  (∀ (d : Nat) (x : Int) (l0 : Option mx_V) (S h : mx_H) (n : Int), mx_ex d 53 36 [l0, some (0, x)] [] S h n = mx_ex d 53 37 [l0, some (0, x)] [(0, x)] S h n) ∧
  (∀ (d : Nat) (a : Int) (l0 l1 : Option mx_V) (S h : mx_H) (n : Int), mx_ex d 53 37 [l0, l1] [(0, a)] S h n = mx_ex d 53 38 [l0, l1] [(0, mx_i2s a)] S h n) ∧
  (∀ (d : Nat) (a : Int) (l0 l1 : Option mx_V) (S h : mx_H) (n : Int), mx_ex d 53 38 [l0, l1] [(0, a)] S h n = mx_ex d 53 39 [l0, l1] [(1, a)] S h n) ∧
  (∀ (d : Nat) (x : Int) (l0 l1 : Option mx_V) (S h : mx_H) (n : Int), mx_ex d 53 39 [l0, l1] [(1, x)] S h n = some (some (1, x), S, h, n)) ∧
  (∀ (d : Nat) (x : Int) (l0 : Option mx_V) (S h : mx_H) (n : Int), mx_ex d 53 40 [l0, some (0, x)] [] S h n = mx_ex d 53 41 [l0, some (0, x)] [(0, x)] S h n) ∧
  (∀ (d : Nat) (a : Int) (l0 l1 : Option mx_V) (S h : mx_H) (n : Int), mx_ex d 53 41 [l0, l1] [(0, a)] S h n = mx_ex d 53 42 [l0, l1] [(1, a)] S h n) ∧
  (∀ (d : Nat) (x : Int) (l0 l1 : Option mx_V) (S h : mx_H) (n : Int), mx_ex d 53 42 [l0, l1] [(1, x)] S h n = some (some (1, x), S, h, n)) :=
  ⟨by intros; exact rfl,
   by intros; exact eq_ld rfl rfl,
   by intros; exact eq_gi rfl,
   by intros; exact eq_sw rfl,
   by intros; exact eq_ld rfl rfl,
   by intros; exact eq_i1 (o1 := mx_i2b) rfl,
   by intros; exact eq_i2l rfl,
   by intros; exact eq_ret rfl,
   by intros; exact eq_ld rfl rfl,
   by intros; exact eq_i1 (o1 := mx_i2s) rfl,
   by intros; exact eq_i2l rfl,
   by intros; exact eq_ret rfl,
   by intros; exact eq_ld rfl rfl,
   by intros; exact eq_i2l rfl,
   by intros; exact eq_ret rfl⟩
theorem rw_X6_init :
  (∀ (d : Nat) (a0 a1 a2 a3 a4 : Int) (S h : mx_H) (n : Int), mx_M d 54 [(2, a0), (0, a1), (0, a2), (0, a3), (2, a4)] S h n = mx_ex d 54 0 [some (2, a0), some (0, a1), some (0, a2), some (0, a3), some (2, a4)] [] S h n) ∧
  (∀ (d : Nat) (x : Int) (l1 l2 l3 l4 : Option mx_V) (S h : mx_H) (n : Int), mx_ex d 54 0 [some (2, x), l1, l2, l3, l4] [] S h n = mx_ex d 54 1 [some (2, x), l1, l2, l3, l4] [(2, x)] S h n) ∧
  (∀ (d : Nat) (x : Int) (l0 l2 l3 l4 : Option mx_V) (v0 : mx_V) (S h : mx_H) (n : Int), mx_ex d 54 1 [l0, some (0, x), l2, l3, l4] [v0] S h n = mx_ex d 54 2 [l0, some (0, x), l2, l3, l4] [(0, x), v0] S h n) ∧
  (∀ (d : Nat) (x : Int) (l0 l1 l3 l4 : Option mx_V) (v0 v1 : mx_V) (S h : mx_H) (n : Int), mx_ex d 54 2 [l0, l1, some (0, x), l3, l4] [v0, v1] S h n = mx_ex d 54 3 [l0, l1, some (0, x), l3, l4] [(0, x), v0, v1] S h n) ∧
  (∀ (d : Nat) (x : Int) (l0 l1 l2 l4 : Option mx_V) (v0 v1 v2 : mx_V) (S h : mx_H) (n : Int), mx_ex d 54 3 [l0, l1, l2, some (0, x), l4] [v0, v1, v2] S h n = mx_ex d 54 4 [l0, l1, l2, some (0, x), l4] [(0, x), v0, v1, v2] S h n) ∧
  (∀ (d : Nat) (x : Int) (l0 l1 l2 l3 : Option mx_V) (v0 v1 v2 v3 : mx_V) (S h : mx_H) (n : Int), mx_ex d 54 4 [l0, l1, l2, l3, some (2, x)] [v0, v1, v2, v3] S h n = mx_ex d 54 6 [l0, l1, l2, l3, some (2, x)] [(2, x), v0, v1, v2, v3] S h n) ∧
  (∀ (d : Nat) (x0 x1 x2 x3 a : Int) (l0 l1 l2 l3 l4 : Option mx_V) (S h : mx_H) (n : Int), mx_ex (d + 1) 54 6 [l0, l1, l2, l3, l4] [(2, x0), (0, x1), (0, x2), (0, x3), (2, a)] S h n = mx_cl (1 ≤ S a (-2) ∧ S a (-2) ≤ 6) d 38 [(2, a), (0, x3), (0, x2), (0, x1), (2, x0)] 54 9 [l0, l1, l2, l3, l4] [] S h n) ∧
  (∀ (d : Nat) (l0 l1 l2 l3 l4 : Option mx_V) (S h : mx_H) (n : Int), mx_ex d 54 9 [l0, l1, l2, l3, l4] [] S h n = some (none, S, h, n)) :=
  ⟨by intros; exact rfl,
   by intros; exact eq_ld rfl rfl,
   by intros; exact eq_ld rfl rfl,
   by intros; exact eq_ld rfl rfl,
   by intros; exact eq_ld rfl rfl,
   by intros; exact eq_ld rfl rfl,
   by intros; exact eq_ci rfl (Nat.le_of_ble_eq_true rfl) rfl rfl rfl (Nat.le_of_ble_eq_true rfl),
   by intros; exact eq_retv rfl⟩
theorem rw_X6_kind :
  (∀ (d : Nat) (a0 : Int) (S h : mx_H) (n : Int), mx_M d 55 [(2, a0)] S h n = mx_ex d 55 0 [some (2, a0)] [] S h n) ∧
  (∀ (d : Nat) (l0 : Option mx_V) (S h : mx_H) (n : Int), mx_ex d 55 0 [l0] [] S h n = mx_ex d 55 1 [l0] [(0, 1)] S h n) ∧
  (∀ (d : Nat) (x : Int) (l0 : Option mx_V) (S h : mx_H) (n : Int), mx_ex d 55 1 [l0] [(0, x)] S h n = some (some (0, x), S, h, n)) :=
  ⟨by intros; exact rfl,
   by intros; exact eq_push rfl,
   by intros; exact eq_ret rfl⟩
theorem rw_X6_worthBy :
  (∀ (d : Nat) (a0 a1 : Int) (S h : mx_H) (n : Int), mx_M d 56 [(2, a0), (0, a1)] S h n = mx_ex d 56 0 [some (2, a0), some (0, a1)] [] S h n) ∧
  (∀ (d : Nat) (x : Int) (l1 : Option mx_V) (S h : mx_H) (n : Int), mx_ex d 56 0 [some (2, x), l1] [] S h n = mx_ex d 56 1 [some (2, x), l1] [(2, x)] S h n) ∧
  (∀ (d : Nat) (a : Int) (l0 l1 : Option mx_V) (S h : mx_H) (n : Int), mx_ex d 56 1 [l0, l1] [(2, a)] S h n = mx_gd (1 ≤ S a (-2) ∧ S a (-2) ≤ 6) d 56 4 [l0, l1] [(2, S a 2)] S h n) ∧
  (∀ (d : Nat) (a : Int) (l0 l1 : Option mx_V) (S h : mx_H) (n : Int), mx_ex d 56 4 [l0, l1] [(2, a)] S h n = mx_gd (20 ≤ S a (-2) ∧ S a (-2) ≤ 25) d 56 5 [l0, l1] [(0, S a (-1))] S h n) ∧
  (∀ (d : Nat) (x : Int) (l0 l1 : Option mx_V) (S h : mx_H) (n : Int), mx_ex d 56 5 [l0, l1] [(0, x)] S h n = some (some (0, x), S, h, n)) :=
  ⟨by intros; exact rfl,
   by intros; exact eq_ld rfl rfl,
   by intros; exact eq_gr rfl,
   by intros; exact eq_alen rfl,
   by intros; exact eq_ret rfl⟩
theorem rh_X6_canBeIn_2 : ∀ (d : Nat) (x : Int) (l0 l1 : Option mx_V) (S h : mx_H) (n : Int), mx_ex d 57 2 [l0, l1, some (0, x)] [] S h n = mx_ex d 57 3 [l0, l1, some (0, x)] [(0, x)] S h n := by intros; exact eq_ld rfl rfl
theorem rw_X6_canBeIn :
  (∀ (d : Nat) (a0 a1 : Int) (S h : mx_H) (n : Int), mx_M d 57 [(2, a0), (0, a1)] S h n = mx_ex d 57 0 [some (2, a0), some (0, a1), none] [] S h n) ∧
  (∀ (d : Nat) (l0 l1 l2 : Option mx_V) (S h : mx_H) (n : Int), mx_ex d 57 0 [l0, l1, l2] [] S h n = mx_ex d 57 1 [l0, l1, l2] [(0, 0)] S h n) ∧
  (∀ (d : Nat) (x : Int) (l0 l1 l2 : Option mx_V) (S h : mx_H) (n : Int), mx_ex d 57 1 [l0, l1, l2] [(0, x)] S h n = mx_ex d 57 2 [l0, mx_nl l1, some (0, x)] [] S h n) ∧
  (∀ (d : Nat) (x : Int) (l1 l2 : Option mx_V) (v0 : mx_V) (S h : mx_H) (n : Int), mx_ex d 57 3 [some (2, x), l1, l2] [v0] S h n = mx_ex d 57 4 [some (2, x), l1, l2] [(2, x), v0] S h n) ∧
  (∀ (d : Nat) (a : Int) (l0 l1 l2 : Option mx_V) (v1 : mx_V) (S h : mx_H) (n : Int), mx_ex d 57 4 [l0, l1, l2] [(2, a), v1] S h n = mx_gd (1 ≤ S a (-2) ∧ S a (-2) ≤ 6) d 57 7 [l0, l1, l2] [(2, S a 2), v1] S h n) ∧
  (∀ (d : Nat) (a : Int) (l0 l1 l2 : Option mx_V) (v1 : mx_V) (S h : mx_H) (n : Int), mx_ex d 57 7 [l0, l1, l2] [(2, a), v1] S h n = mx_gd (20 ≤ S a (-2) ∧ S a (-2) ≤ 25) d 57 8 [l0, l1, l2] [(0, S a (-1)), v1] S h n) ∧
  (∀ (d : Nat) (b a : Int) (l0 l1 l2 : Option mx_V) (S h : mx_H) (n : Int), mx_ex d 57 8 [l0, l1, l2] [(0, b), (0, a)] S h n = mx_br (a < b) d 57 11 29 [l0, l1, l2] [] S h n) ∧
  (∀ (d : Nat) (x : Int) (l1 l2 : Option mx_V) (S h : mx_H) (n : Int), mx_ex d 57 11 [some (2, x), l1, l2] [] S h n = mx_ex d 57 12 [some (2, x), l1, l2] [(2, x)] S h n) ∧
  (∀ (d : Nat) (a : Int) (l0 l1 l2 : Option mx_V) (S h : mx_H) (n : Int), mx_ex d 57 12 [l0, l1, l2] [(2, a)] S h n = mx_gd (1 ≤ S a (-2) ∧ S a (-2) ≤ 6) d 57 15 [l0, l1, l2] [(2, S a 2)] S h n) ∧
  (∀ (d : Nat) (x : Int) (l0 l1 : Option mx_V) (v0 : mx_V) (S h : mx_H) (n : Int), mx_ex d 57 15 [l0, l1, some (0, x)] [v0] S h n = mx_ex d 57 16 [l0, l1, some (0, x)] [(0, x), v0] S h n) ∧
  (∀ (d : Nat) (i a : Int) (l0 l1 l2 : Option mx_V) (S h : mx_H) (n : Int), mx_ex d 57 16 [l0, l1, l2] [(0, i), (2, a)] S h n = mx_gd ((S a (-2) = 20 ∨ S a (-2) = 24) ∧ 0 ≤ i ∧ i < S a (-1)) d 57 17 [l0, l1, l2] [(0, h a i)] S h n) ∧
  (∀ (d : Nat) (l0 l1 l2 : Option mx_V) (v0 : mx_V) (S h : mx_H) (n : Int), mx_ex d 57 17 [l0, l1, l2] [v0] S h n = mx_ex d 57 18 [l0, l1, l2] [(0, 1), v0] S h n) ∧
  (∀ (d : Nat) (b a : Int) (l0 l1 l2 : Option mx_V) (S h : mx_H) (n : Int), mx_ex d 57 18 [l0, l1, l2] [(0, b), (0, a)] S h n = mx_br (a = b) d 57 23 21 [l0, l1, l2] [] S h n) ∧
  (∀ (d : Nat) (l0 l1 l2 : Option mx_V) (S h : mx_H) (n : Int), mx_ex d 57 21 [l0, l1, l2] [] S h n = mx_ex d 57 22 [l0, l1, l2] [(0, 0)] S h n) ∧
  (∀ (d : Nat) (x : Int) (l0 l1 l2 : Option mx_V) (S h : mx_H) (n : Int), mx_ex d 57 22 [l0, l1, l2] [(0, x)] S h n = mx_re (0 ≤ x ∧ x ≤ 1) (some (0, x)) S h n) ∧
  (∀ (d : Nat) (x : Int) (l0 l1 : Option mx_V) (S h : mx_H) (n : Int), mx_ex d 57 23 [l0, l1, some (0, x)] [] S h n = mx_ex d 57 26 [l0, mx_nl l1, some (0, mx_w (x + 1))] [] S h n) ∧
  (∀ (d : Nat) (l0 l1 l2 : Option mx_V) (S h : mx_H) (n : Int), mx_ex d 57 26 [l0, l1, l2] [] S h n = mx_ex d 57 2 [l0, l1, l2] [] S h n) ∧
  (∀ (d : Nat) (l0 l1 l2 : Option mx_V) (S h : mx_H) (n : Int), mx_ex d 57 29 [l0, l1, l2] [] S h n = mx_ex d 57 30 [l0, l1, l2] [(0, 1)] S h n) ∧
  (∀ (d : Nat) (x : Int) (l0 l1 l2 : Option mx_V) (S h : mx_H) (n : Int), mx_ex d 57 30 [l0, l1, l2] [(0, x)] S h n = mx_re (0 ≤ x ∧ x ≤ 1) (some (0, x)) S h n) :=
  ⟨by intros; exact rfl,
   by intros; exact eq_push rfl,
   by intros; exact eq_st rfl (by decide) (Nat.le_of_ble_eq_true rfl) rfl,
   by intros; exact eq_ld rfl rfl,
   by intros; exact eq_gr rfl,
   by intros; exact eq_alen rfl,
   by intros; exact eq_ic3 rfl,
   by intros; exact eq_ld rfl rfl,
   by intros; exact eq_gr rfl,
   by intros; exact eq_ld rfl rfl,
   by intros; exact eq_iald rfl,
   by intros; exact eq_push rfl,
   by intros; exact eq_ic0 rfl,
   by intros; exact eq_push rfl,
   by intros; exact eq_rr rfl,
   by intros; exact eq_inc rfl rfl rfl,
   by intros; exact eq_go rfl,
   by intros; exact eq_push rfl,
   by intros; exact eq_rr rfl⟩
theorem rw_X6_writes :
  (∀ (d : Nat) (a0 a1 a2 : Int) (S h : mx_H) (n : Int), mx_M d 58 [(2, a0), (0, a1), (2, a2)] S h n = mx_ex d 58 0 [some (2, a0), some (0, a1), some (2, a2)] [] S h n) ∧
  (∀ (d : Nat) (x : Int) (l0 l1 : Option mx_V) (S h : mx_H) (n : Int), mx_ex d 58 0 [l0, l1, some (2, x)] [] S h n = mx_ex d 58 1 [l0, l1, some (2, x)] [(2, x)] S h n) ∧
  (∀ (d : Nat) (a : Int) (l0 l1 l2 : Option mx_V) (S h : mx_H) (n : Int), mx_ex d 58 1 [l0, l1, l2] [(2, a)] S h n = mx_gd (11 ≤ S a (-2) ∧ S a (-2) ≤ 11) d 58 4 [l0, l1, l2] [(2, S a 0)] S h n) ∧
  (∀ (d : Nat) (x : Int) (l0 l1 : Option mx_V) (v0 : mx_V) (S h : mx_H) (n : Int), mx_ex d 58 4 [l0, l1, some (2, x)] [v0] S h n = mx_ex d 58 5 [l0, l1, some (2, x)] [(2, x), v0] S h n) ∧
  (∀ (d : Nat) (a : Int) (l0 l1 l2 : Option mx_V) (v1 : mx_V) (S h : mx_H) (n : Int), mx_ex d 58 5 [l0, l1, l2] [(2, a), v1] S h n = mx_ex d 58 6 [l0, l1, l2] [(2, a), (2, a), v1] S h n) ∧
  (∀ (d : Nat) (a : Int) (l0 l1 l2 : Option mx_V) (v1 v2 : mx_V) (S h : mx_H) (n : Int), mx_ex d 58 6 [l0, l1, l2] [(2, a), v1, v2] S h n = mx_gd (11 ≤ S a (-2) ∧ S a (-2) ≤ 11) d 58 9 [l0, l1, l2] [(0, h a 1), v1, v2] S h n) ∧
  (∀ (d : Nat) (a b : Int) (l0 l1 l2 : Option mx_V) (v2 : mx_V) (S h : mx_H) (n : Int), mx_ex d 58 9 [l0, l1, l2] [(0, a), (2, b), v2] S h n = mx_ex d 58 10 [l0, l1, l2] [(0, a), (2, b), (0, a), v2] S h n) ∧
  (∀ (d : Nat) (l0 l1 l2 : Option mx_V) (v0 v1 v2 v3 : mx_V) (S h : mx_H) (n : Int), mx_ex d 58 10 [l0, l1, l2] [v0, v1, v2, v3] S h n = mx_ex d 58 11 [l0, l1, l2] [(0, 1), v0, v1, v2, v3] S h n) ∧
  (∀ (d : Nat) (b a : Int) (l0 l1 l2 : Option mx_V) (v2 v3 v4 : mx_V) (S h : mx_H) (n : Int), mx_ex d 58 11 [l0, l1, l2] [(0, b), (0, a), v2, v3, v4] S h n = mx_ex d 58 12 [l0, l1, l2] [(0, mx_w (a + b)), v2, v3, v4] S h n) ∧
  (∀ (d : Nat) (v a : Int) (l0 l1 l2 : Option mx_V) (v2 v3 : mx_V) (S h : mx_H) (n : Int), mx_ex d 58 12 [l0, l1, l2] [(0, v), (2, a), v2, v3] S h n = mx_gd (11 ≤ S a (-2) ∧ S a (-2) ≤ 11) d 58 15 [l0, l1, l2] [v2, v3] S (mx_u h a 1 v) n) ∧
  (∀ (d : Nat) (l0 l1 l2 : Option mx_V) (v0 v1 : mx_V) (S h : mx_H) (n : Int), mx_ex d 58 15 [l0, l1, l2] [v0, v1] S h n = mx_ex d 58 17 [l0, l1, l2] [(0, 31), v0, v1] S h n) ∧
  (∀ (d : Nat) (b a : Int) (l0 l1 l2 : Option mx_V) (v2 : mx_V) (S h : mx_H) (n : Int), mx_ex d 58 17 [l0, l1, l2] [(0, b), (0, a), v2] S h n = mx_ex d 58 18 [l0, l1, l2] [(0, mx_and a b), v2] S h n) ∧
  (∀ (d : Nat) (l0 l1 l2 : Option mx_V) (v0 v1 : mx_V) (S h : mx_H) (n : Int), mx_ex d 58 18 [l0, l1, l2] [v0, v1] S h n = mx_ex d 58 20 [l0, l1, l2] [(0, 20), v0, v1] S h n) ∧
  (∀ (d : Nat) (v i a : Int) (l0 l1 l2 : Option mx_V) (S h : mx_H) (n : Int), mx_ex d 58 20 [l0, l1, l2] [(0, v), (0, i), (2, a)] S h n = mx_gd (S a (-2) = 20 ∧ 0 ≤ i ∧ i < S a (-1)) d 58 21 [l0, l1, l2] [] S (mx_u h a i v) n) ∧
  (∀ (d : Nat) (x : Int) (l1 l2 : Option mx_V) (S h : mx_H) (n : Int), mx_ex d 58 21 [some (2, x), l1, l2] [] S h n = mx_ex d 58 22 [some (2, x), l1, l2] [(2, x)] S h n) ∧
  (∀ (d : Nat) (x : Int) (l0 l2 : Option mx_V) (v0 : mx_V) (S h : mx_H) (n : Int), mx_ex d 58 22 [l0, some (0, x), l2] [v0] S h n = mx_ex d 58 23 [l0, some (0, x), l2] [(0, x), v0] S h n) ∧
  (∀ (d : Nat) (x : Int) (l0 l1 : Option mx_V) (v0 v1 : mx_V) (S h : mx_H) (n : Int), mx_ex d 58 23 [l0, l1, some (2, x)] [v0, v1] S h n = mx_ex d 58 24 [l0, l1, some (2, x)] [(2, x), v0, v1] S h n) ∧
  (∀ (d : Nat) (x0 x1 a : Int) (l0 l1 l2 : Option mx_V) (S h : mx_H) (n : Int), mx_ex (d + 1) 58 24 [l0, l1, l2] [(2, x0), (0, x1), (2, a)] S h n = mx_cl (1 ≤ S a (-2) ∧ S a (-2) ≤ 6) d 49 [(2, a), (0, x1), (2, x0)] 58 27 [l0, l1, l2] [] S h n) ∧
  (∀ (d : Nat) (x : Int) (l1 l2 : Option mx_V) (v0 : mx_V) (S h : mx_H) (n : Int), mx_ex d 58 27 [some (2, x), l1, l2] [v0] S h n = mx_ex d 58 28 [some (2, x), l1, l2] [(2, x), v0] S h n) ∧
  (∀ (d : Nat) (a : Int) (l0 l1 l2 : Option mx_V) (v1 : mx_V) (S h : mx_H) (n : Int), mx_ex d 58 28 [l0, l1, l2] [(2, a), v1] S h n = mx_gd (1 ≤ S a (-2) ∧ S a (-2) ≤ 6) d 58 31 [l0, l1, l2] [(0, h a 1), v1] S h n) ∧
  (∀ (d : Nat) (b a : Int) (l0 l1 l2 : Option mx_V) (S h : mx_H) (n : Int), mx_ex d 58 31 [l0, l1, l2] [(0, b), (0, a)] S h n = mx_ex d 58 32 [l0, l1, l2] [(0, mx_w (a - b))] S h n) ∧
  (∀ (d : Nat) (x : Int) (l0 l1 l2 : Option mx_V) (S h : mx_H) (n : Int), mx_ex d 58 32 [l0, l1, l2] [(0, x)] S h n = some (some (0, x), S, h, n)) :=
  ⟨by intros; exact rfl,
   by intros; exact eq_ld rfl rfl,
   by intros; exact eq_gr rfl,
   by intros; exact eq_ld rfl rfl,
   by intros; exact eq_dup rfl (by decide),
   by intros; exact eq_gi rfl,
   by intros; exact eq_dx1 rfl (by decide) (by decide),
   by intros; exact eq_push rfl,
   by intros; exact eq_i2 (o := mx_add) rfl,
   by intros; exact eq_pi rfl,
   by intros; exact eq_push rfl,
   by intros; exact eq_i2 (o := mx_and) rfl,
   by intros; exact eq_push rfl,
   by intros; exact eq_iast rfl,
   by intros; exact eq_ld rfl rfl,
   by intros; exact eq_ld rfl rfl,
   by intros; exact eq_ld rfl rfl,
   by intros; exact eq_ci rfl (Nat.le_of_ble_eq_true rfl) rfl rfl rfl (Nat.le_of_ble_eq_true rfl),
   by intros; exact eq_ld rfl rfl,
   by intros; exact eq_gi rfl,
   by intros; exact eq_i2 (o := mx_sub) rfl,
   by intros; exact eq_ret rfl⟩
theorem rw_X8_init :
  (∀ (d : Nat) (a0 : Int) (S h : mx_H) (n : Int), mx_M d 74 [(2, a0)] S h n = mx_ex d 74 0 [some (2, a0)] [] S h n) ∧
  (∀ (d : Nat) (x : Int) (S h : mx_H) (n : Int), mx_ex d 74 0 [some (2, x)] [] S h n = mx_ex d 74 1 [some (2, x)] [(2, x)] S h n) ∧
  (∀ (d : Nat) (a : Int) (l0 : Option mx_V) (S h : mx_H) (n : Int), mx_ex d 74 1 [l0] [(2, a)] S h n = mx_gd (0 ≤ a) d 74 4 [l0] [] S h n) ∧
  (∀ (d : Nat) (x : Int) (S h : mx_H) (n : Int), mx_ex d 74 4 [some (2, x)] [] S h n = mx_ex d 74 5 [some (2, x)] [(2, x)] S h n) ∧
  (∀ (d : Nat) (l0 : Option mx_V) (v0 : mx_V) (S h : mx_H) (n : Int), mx_ex d 74 5 [l0] [v0] S h n = mx_ex d 74 7 [l0] [(0, 32), v0] S h n) ∧
  (∀ (d : Nat) (x : Int) (l0 : Option mx_V) (v1 : mx_V) (S h : mx_H) (n : Int), mx_ex d 74 7 [l0] [(0, x), v1] S h n = mx_gd (0 ≤ x ∧ x ≤ 300) d 74 9 [l0] [(2, n), v1] (mx_t S n 20 x) (mx_z h n) (n + 1)) ∧
  (∀ (d : Nat) (v a : Int) (l0 : Option mx_V) (S h : mx_H) (n : Int), mx_ex d 74 9 [l0] [(2, v), (2, a)] S h n = mx_gd (11 ≤ S a (-2) ∧ S a (-2) ≤ 11) d 74 12 [l0] [] (mx_u S a 0 v) h n) ∧
  (∀ (d : Nat) (x : Int) (S h : mx_H) (n : Int), mx_ex d 74 12 [some (2, x)] [] S h n = mx_ex d 74 13 [some (2, x)] [(2, x)] S h n) ∧
  (∀ (d : Nat) (l0 : Option mx_V) (v0 : mx_V) (S h : mx_H) (n : Int), mx_ex d 74 13 [l0] [v0] S h n = mx_ex d 74 14 [l0] [(0, 0), v0] S h n) ∧
  (∀ (d : Nat) (v a : Int) (l0 : Option mx_V) (S h : mx_H) (n : Int), mx_ex d 74 14 [l0] [(0, v), (2, a)] S h n = mx_gd (11 ≤ S a (-2) ∧ S a (-2) ≤ 11) d 74 17 [l0] [] S (mx_u h a 1 v) n) ∧
  (∀ (d : Nat) (x : Int) (S h : mx_H) (n : Int), mx_ex d 74 17 [some (2, x)] [] S h n = mx_ex d 74 18 [some (2, x)] [(2, x)] S h n) ∧
  (∀ (d : Nat) (l0 : Option mx_V) (v0 : mx_V) (S h : mx_H) (n : Int), mx_ex d 74 18 [l0] [v0] S h n = mx_ex d 74 19 [l0] [(0, (-1)), v0] S h n) ∧
  (∀ (d : Nat) (v a : Int) (l0 : Option mx_V) (S h : mx_H) (n : Int), mx_ex d 74 19 [l0] [(0, v), (2, a)] S h n = mx_gd (11 ≤ S a (-2) ∧ S a (-2) ≤ 11) d 74 22 [l0] [] S (mx_u h a 2 v) n) ∧
  (∀ (d : Nat) (l0 : Option mx_V) (S h : mx_H) (n : Int), mx_ex d 74 22 [l0] [] S h n = some (none, S, h, n)) :=
  ⟨by intros; exact rfl,
   by intros; exact eq_ld rfl rfl,
   by intros; exact eq_oini rfl (Nat.le_of_ble_eq_true rfl),
   by intros; exact eq_ld rfl rfl,
   by intros; exact eq_push rfl,
   by intros; exact eq_newa rfl,
   by intros; exact eq_pr rfl,
   by intros; exact eq_ld rfl rfl,
   by intros; exact eq_push rfl,
   by intros; exact eq_pi rfl,
   by intros; exact eq_ld rfl rfl,
   by intros; exact eq_push rfl,
   by intros; exact eq_pi rfl,
   by intros; exact eq_retv rfl⟩
theorem rw_X8_clear :
  (∀ (d : Nat) (a0 : Int) (S h : mx_H) (n : Int), mx_M d 75 [(2, a0)] S h n = mx_ex d 75 0 [some (2, a0)] [] S h n) ∧
  (∀ (d : Nat) (x : Int) (S h : mx_H) (n : Int), mx_ex d 75 0 [some (2, x)] [] S h n = mx_ex d 75 1 [some (2, x)] [(2, x)] S h n) ∧
  (∀ (d : Nat) (l0 : Option mx_V) (v0 : mx_V) (S h : mx_H) (n : Int), mx_ex d 75 1 [l0] [v0] S h n = mx_ex d 75 2 [l0] [(0, 0), v0] S h n) ∧
  (∀ (d : Nat) (v a : Int) (l0 : Option mx_V) (S h : mx_H) (n : Int), mx_ex d 75 2 [l0] [(0, v), (2, a)] S h n = mx_gd (11 ≤ S a (-2) ∧ S a (-2) ≤ 11) d 75 5 [l0] [] S (mx_u h a 1 v) n) ∧
  (∀ (d : Nat) (x : Int) (S h : mx_H) (n : Int), mx_ex d 75 5 [some (2, x)] [] S h n = mx_ex d 75 6 [some (2, x)] [(2, x)] S h n) ∧
  (∀ (d : Nat) (l0 : Option mx_V) (v0 : mx_V) (S h : mx_H) (n : Int), mx_ex d 75 6 [l0] [v0] S h n = mx_ex d 75 7 [l0] [(0, (-1)), v0] S h n) ∧
  (∀ (d : Nat) (v a : Int) (l0 : Option mx_V) (S h : mx_H) (n : Int), mx_ex d 75 7 [l0] [(0, v), (2, a)] S h n = mx_gd (11 ≤ S a (-2) ∧ S a (-2) ≤ 11) d 75 10 [l0] [] S (mx_u h a 2 v) n) ∧
  (∀ (d : Nat) (l0 : Option mx_V) (S h : mx_H) (n : Int), mx_ex d 75 10 [l0] [] S h n = some (none, S, h, n)) :=
  ⟨by intros; exact rfl,
   by intros; exact eq_ld rfl rfl,
   by intros; exact eq_push rfl,
   by intros; exact eq_pi rfl,
   by intros; exact eq_ld rfl rfl,
   by intros; exact eq_push rfl,
   by intros; exact eq_pi rfl,
   by intros; exact eq_retv rfl⟩
theorem rw_X8_end :
  (∀ (d : Nat) (a0 : Int) (S h : mx_H) (n : Int), mx_M d 76 [(2, a0)] S h n = mx_ex d 76 0 [some (2, a0)] [] S h n) ∧
  (∀ (d : Nat) (x : Int) (S h : mx_H) (n : Int), mx_ex d 76 0 [some (2, x)] [] S h n = mx_ex d 76 1 [some (2, x)] [(2, x)] S h n) ∧
  (∀ (d : Nat) (a : Int) (l0 : Option mx_V) (S h : mx_H) (n : Int), mx_ex d 76 1 [l0] [(2, a)] S h n = mx_gd (11 ≤ S a (-2) ∧ S a (-2) ≤ 11) d 76 4 [l0] [(0, h a 2)] S h n) ∧
  (∀ (d : Nat) (l0 : Option mx_V) (v0 : mx_V) (S h : mx_H) (n : Int), mx_ex d 76 4 [l0] [v0] S h n = mx_ex d 76 5 [l0] [(0, (-1)), v0] S h n) ∧
  (∀ (d : Nat) (b a : Int) (l0 : Option mx_V) (S h : mx_H) (n : Int), mx_ex d 76 5 [l0] [(0, b), (0, a)] S h n = mx_br (a = b) d 76 8 16 [l0] [] S h n) ∧
  (∀ (d : Nat) (x : Int) (S h : mx_H) (n : Int), mx_ex d 76 8 [some (2, x)] [] S h n = mx_ex d 76 9 [some (2, x)] [(2, x)] S h n) ∧
  (∀ (d : Nat) (x : Int) (v0 : mx_V) (S h : mx_H) (n : Int), mx_ex d 76 9 [some (2, x)] [v0] S h n = mx_ex d 76 10 [some (2, x)] [(2, x), v0] S h n) ∧
  (∀ (d : Nat) (a : Int) (l0 : Option mx_V) (v1 : mx_V) (S h : mx_H) (n : Int), mx_ex d 76 10 [l0] [(2, a), v1] S h n = mx_gd (11 ≤ S a (-2) ∧ S a (-2) ≤ 11) d 76 13 [l0] [(0, h a 1), v1] S h n) ∧
  (∀ (d : Nat) (v a : Int) (l0 : Option mx_V) (S h : mx_H) (n : Int), mx_ex d 76 13 [l0] [(0, v), (2, a)] S h n = mx_gd (11 ≤ S a (-2) ∧ S a (-2) ≤ 11) d 76 16 [l0] [] S (mx_u h a 2 v) n) ∧
  (∀ (d : Nat) (l0 : Option mx_V) (S h : mx_H) (n : Int), mx_ex d 76 16 [l0] [] S h n = some (none, S, h, n)) :=
  ⟨by intros; exact rfl,
   by intros; exact eq_ld rfl rfl,
   by intros; exact eq_gi rfl,
   by intros; exact eq_push rfl,
   by intros; exact eq_ic1 rfl,
   by intros; exact eq_ld rfl rfl,
   by intros; exact eq_ld rfl rfl,
   by intros; exact eq_gi rfl,
   by intros; exact eq_pi rfl,
   by intros; exact eq_retv rfl⟩
theorem rw_X8_ended :
  (∀ (d : Nat) (a0 : Int) (S h : mx_H) (n : Int), mx_M d 77 [(2, a0)] S h n = mx_ex d 77 0 [some (2, a0)] [] S h n) ∧
  (∀ (d : Nat) (x : Int) (S h : mx_H) (n : Int), mx_ex d 77 0 [some (2, x)] [] S h n = mx_ex d 77 1 [some (2, x)] [(2, x)] S h n) ∧
  (∀ (d : Nat) (a : Int) (l0 : Option mx_V) (S h : mx_H) (n : Int), mx_ex d 77 1 [l0] [(2, a)] S h n = mx_gd (11 ≤ S a (-2) ∧ S a (-2) ≤ 11) d 77 4 [l0] [(0, h a 2)] S h n) ∧
  (∀ (d : Nat) (l0 : Option mx_V) (v0 : mx_V) (S h : mx_H) (n : Int), mx_ex d 77 4 [l0] [v0] S h n = mx_ex d 77 5 [l0] [(0, (-1)), v0] S h n) ∧
  (∀ (d : Nat) (b a : Int) (l0 : Option mx_V) (S h : mx_H) (n : Int), mx_ex d 77 5 [l0] [(0, b), (0, a)] S h n = mx_br (a = b) d 77 12 8 [l0] [] S h n) ∧
  (∀ (d : Nat) (l0 : Option mx_V) (S h : mx_H) (n : Int), mx_ex d 77 8 [l0] [] S h n = mx_ex d 77 9 [l0] [(0, 1)] S h n) ∧
  (∀ (d : Nat) (l0 : Option mx_V) (v0 : mx_V) (S h : mx_H) (n : Int), mx_ex d 77 9 [l0] [v0] S h n = mx_ex d 77 13 [l0] [v0] S h n) ∧
  (∀ (d : Nat) (l0 : Option mx_V) (S h : mx_H) (n : Int), mx_ex d 77 12 [l0] [] S h n = mx_ex d 77 13 [l0] [(0, 0)] S h n) ∧
  (∀ (d : Nat) (x : Int) (l0 : Option mx_V) (S h : mx_H) (n : Int), mx_ex d 77 13 [l0] [(0, x)] S h n = mx_re (0 ≤ x ∧ x ≤ 1) (some (0, x)) S h n) :=
  ⟨by intros; exact rfl,
   by intros; exact eq_ld rfl rfl,
   by intros; exact eq_gi rfl,
   by intros; exact eq_push rfl,
   by intros; exact eq_ic0 rfl,
   by intros; exact eq_push rfl,
   by intros; exact eq_go rfl,
   by intros; exact eq_push rfl,
   by intros; exact eq_rr rfl⟩
theorem rw_X8_howMany :
  (∀ (d : Nat) (a0 : Int) (S h : mx_H) (n : Int), mx_M d 78 [(2, a0)] S h n = mx_ex d 78 0 [some (2, a0)] [] S h n) ∧
  (∀ (d : Nat) (x : Int) (S h : mx_H) (n : Int), mx_ex d 78 0 [some (2, x)] [] S h n = mx_ex d 78 1 [some (2, x)] [(2, x)] S h n) ∧
  (∀ (d : Nat) (a : Int) (l0 : Option mx_V) (S h : mx_H) (n : Int), mx_ex (d + 1) 78 1 [l0] [(2, a)] S h n = mx_cl (S a (-2) = 11) d 77 [(2, a)] 78 4 [l0] [] S h n) ∧
  (∀ (d : Nat) (a : Int) (l0 : Option mx_V) (S h : mx_H) (n : Int), mx_ex d 78 4 [l0] [(0, a)] S h n = mx_br (a = 0) d 78 14 7 [l0] [] S h n) ∧
  (∀ (d : Nat) (x : Int) (S h : mx_H) (n : Int), mx_ex d 78 7 [some (2, x)] [] S h n = mx_ex d 78 8 [some (2, x)] [(2, x)] S h n) ∧
  (∀ (d : Nat) (a : Int) (l0 : Option mx_V) (S h : mx_H) (n : Int), mx_ex d 78 8 [l0] [(2, a)] S h n = mx_gd (11 ≤ S a (-2) ∧ S a (-2) ≤ 11) d 78 11 [l0] [(0, h a 2)] S h n) ∧
  (∀ (d : Nat) (l0 : Option mx_V) (v0 : mx_V) (S h : mx_H) (n : Int), mx_ex d 78 11 [l0] [v0] S h n = mx_ex d 78 18 [l0] [v0] S h n) ∧
  (∀ (d : Nat) (x : Int) (S h : mx_H) (n : Int), mx_ex d 78 14 [some (2, x)] [] S h n = mx_ex d 78 15 [some (2, x)] [(2, x)] S h n) ∧
  (∀ (d : Nat) (a : Int) (l0 : Option mx_V) (S h : mx_H) (n : Int), mx_ex d 78 15 [l0] [(2, a)] S h n = mx_gd (11 ≤ S a (-2) ∧ S a (-2) ≤ 11) d 78 18 [l0] [(0, h a 1)] S h n) ∧
  (∀ (d : Nat) (l0 : Option mx_V) (v0 : mx_V) (S h : mx_H) (n : Int), mx_ex d 78 18 [l0] [v0] S h n = mx_ex d 78 20 [l0] [(0, 30), v0] S h n) ∧
  (∀ (d : Nat) (b a : Int) (l0 : Option mx_V) (S h : mx_H) (n : Int), mx_ex d 78 20 [l0] [(0, b), (0, a)] S h n = mx_ex d 78 23 [l0] [(0, if b < a then b else a)] S h n) ∧
  (∀ (d : Nat) (x : Int) (l0 : Option mx_V) (S h : mx_H) (n : Int), mx_ex d 78 23 [l0] [(0, x)] S h n = some (some (0, x), S, h, n)) :=
  ⟨by intros; exact rfl,
   by intros; exact eq_ld rfl rfl,
   by intros; exact eq_cv rfl (Nat.le_of_ble_eq_true rfl) rfl rfl rfl (Nat.le_of_ble_eq_true rfl),
   by intros; exact eq_if0 rfl,
   by intros; exact eq_ld rfl rfl,
   by intros; exact eq_gi rfl,
   by intros; exact eq_go rfl,
   by intros; exact eq_ld rfl rfl,
   by intros; exact eq_gi rfl,
   by intros; exact eq_push rfl,
   by intros; exact eq_m2 (o := mx_min) rfl (Nat.le_of_ble_eq_true rfl),
   by intros; exact eq_ret rfl⟩
theorem rw_X9_init :
  (∀ (d : Nat) (a0 a1 a2 a3 a4 : Int) (S h : mx_H) (n : Int), mx_M d 79 [(2, a0), (0, a1), (0, a2), (0, a3), (2, a4)] S h n = mx_ex d 79 0 [some (2, a0), some (0, a1), some (0, a2), some (0, a3), some (2, a4)] [] S h n) ∧
  (∀ (d : Nat) (x : Int) (l1 l2 l3 l4 : Option mx_V) (S h : mx_H) (n : Int), mx_ex d 79 0 [some (2, x), l1, l2, l3, l4] [] S h n = mx_ex d 79 1 [some (2, x), l1, l2, l3, l4] [(2, x)] S h n) ∧
  (∀ (d : Nat) (x : Int) (l0 l2 l3 l4 : Option mx_V) (v0 : mx_V) (S h : mx_H) (n : Int), mx_ex d 79 1 [l0, some (0, x), l2, l3, l4] [v0] S h n = mx_ex d 79 2 [l0, some (0, x), l2, l3, l4] [(0, x), v0] S h n) ∧
  (∀ (d : Nat) (x : Int) (l0 l1 l3 l4 : Option mx_V) (v0 v1 : mx_V) (S h : mx_H) (n : Int), mx_ex d 79 2 [l0, l1, some (0, x), l3, l4] [v0, v1] S h n = mx_ex d 79 3 [l0, l1, some (0, x), l3, l4] [(0, x), v0, v1] S h n) ∧
  (∀ (d : Nat) (x : Int) (l0 l1 l2 l4 : Option mx_V) (v0 v1 v2 : mx_V) (S h : mx_H) (n : Int), mx_ex d 79 3 [l0, l1, l2, some (0, x), l4] [v0, v1, v2] S h n = mx_ex d 79 4 [l0, l1, l2, some (0, x), l4] [(0, x), v0, v1, v2] S h n) ∧
  (∀ (d : Nat) (x : Int) (l0 l1 l2 l3 : Option mx_V) (v0 v1 v2 v3 : mx_V) (S h : mx_H) (n : Int), mx_ex d 79 4 [l0, l1, l2, l3, some (2, x)] [v0, v1, v2, v3] S h n = mx_ex d 79 6 [l0, l1, l2, l3, some (2, x)] [(2, x), v0, v1, v2, v3] S h n) ∧
  (∀ (d : Nat) (x0 x1 x2 x3 a : Int) (l0 l1 l2 l3 l4 : Option mx_V) (S h : mx_H) (n : Int), mx_ex (d + 1) 79 6 [l0, l1, l2, l3, l4] [(2, x0), (0, x1), (0, x2), (0, x3), (2, a)] S h n = mx_cl (1 ≤ S a (-2) ∧ S a (-2) ≤ 6) d 38 [(2, a), (0, x3), (0, x2), (0, x1), (2, x0)] 79 9 [l0, l1, l2, l3, l4] [] S h n) ∧
  (∀ (d : Nat) (l0 l1 l2 l3 l4 : Option mx_V) (S h : mx_H) (n : Int), mx_ex d 79 9 [l0, l1, l2, l3, l4] [] S h n = some (none, S, h, n)) :=
  ⟨by intros; exact rfl,
   by intros; exact eq_ld rfl rfl,
   by intros; exact eq_ld rfl rfl,
   by intros; exact eq_ld rfl rfl,
   by intros; exact eq_ld rfl rfl,
   by intros; exact eq_ld rfl rfl,
   by intros; exact eq_ci rfl (Nat.le_of_ble_eq_true rfl) rfl rfl rfl (Nat.le_of_ble_eq_true rfl),
   by intros; exact eq_retv rfl⟩
theorem rw_X9_kind :
  (∀ (d : Nat) (a0 : Int) (S h : mx_H) (n : Int), mx_M d 80 [(2, a0)] S h n = mx_ex d 80 0 [some (2, a0)] [] S h n) ∧
  (∀ (d : Nat) (l0 : Option mx_V) (S h : mx_H) (n : Int), mx_ex d 80 0 [l0] [] S h n = mx_ex d 80 1 [l0] [(0, 4)] S h n) ∧
  (∀ (d : Nat) (x : Int) (l0 : Option mx_V) (S h : mx_H) (n : Int), mx_ex d 80 1 [l0] [(0, x)] S h n = some (some (0, x), S, h, n)) :=
  ⟨by intros; exact rfl,
   by intros; exact eq_push rfl,
   by intros; exact eq_ret rfl⟩
theorem rh_X9_worthBy_10 : ∀ (d : Nat) (x : Int) (l0 l1 l2 : Option mx_V) (S h : mx_H) (n : Int), mx_ex d 81 10 [l0, l1, l2, some (0, x)] [] S h n = mx_ex d 81 11 [l0, l1, l2, some (0, x)] [(0, x)] S h n := by intros; exact eq_ld rfl rfl
theorem rw_X9_worthBy :
  (∀ (d : Nat) (a0 a1 : Int) (S h : mx_H) (n : Int), mx_M d 81 [(2, a0), (0, a1)] S h n = mx_ex d 81 0 [some (2, a0), some (0, a1), none, none] [] S h n) ∧
  (∀ (d : Nat) (l0 l1 l2 l3 : Option mx_V) (S h : mx_H) (n : Int), mx_ex d 81 0 [l0, l1, l2, l3] [] S h n = mx_ex d 81 1 [l0, l1, l2, l3] [(0, 0)] S h n) ∧
  (∀ (d : Nat) (x : Int) (l0 l1 l2 l3 : Option mx_V) (S h : mx_H) (n : Int), mx_ex d 81 1 [l0, l1, l2, l3] [(0, x)] S h n = mx_ex d 81 2 [l0, mx_nl l1, some (0, x), l3] [] S h n) ∧
  (∀ (d : Nat) (x : Int) (l1 l2 l3 : Option mx_V) (S h : mx_H) (n : Int), mx_ex d 81 2 [some (2, x), l1, l2, l3] [] S h n = mx_ex d 81 3 [some (2, x), l1, l2, l3] [(2, x)] S h n) ∧
  (∀ (d : Nat) (a : Int) (l0 l1 l2 l3 : Option mx_V) (S h : mx_H) (n : Int), mx_ex d 81 3 [l0, l1, l2, l3] [(2, a)] S h n = mx_gd (1 ≤ S a (-2) ∧ S a (-2) ≤ 6) d 81 6 [l0, l1, l2, l3] [(2, S a 2)] S h n) ∧
  (∀ (d : Nat) (a : Int) (l0 l1 l2 l3 : Option mx_V) (S h : mx_H) (n : Int), mx_ex d 81 6 [l0, l1, l2, l3] [(2, a)] S h n = mx_gd (20 ≤ S a (-2) ∧ S a (-2) ≤ 25) d 81 7 [l0, l1, l2, l3] [(0, S a (-1))] S h n) ∧
  (∀ (d : Nat) (l0 l1 l2 l3 : Option mx_V) (v0 : mx_V) (S h : mx_H) (n : Int), mx_ex d 81 7 [l0, l1, l2, l3] [v0] S h n = mx_ex d 81 8 [l0, l1, l2, l3] [(0, 1), v0] S h n) ∧
  (∀ (d : Nat) (b a : Int) (l0 l1 l2 l3 : Option mx_V) (S h : mx_H) (n : Int), mx_ex d 81 8 [l0, l1, l2, l3] [(0, b), (0, a)] S h n = mx_ex d 81 9 [l0, l1, l2, l3] [(0, mx_w (a - b))] S h n) ∧
  (∀ (d : Nat) (x : Int) (l0 l1 l2 l3 : Option mx_V) (S h : mx_H) (n : Int), mx_ex d 81 9 [l0, l1, l2, l3] [(0, x)] S h n = mx_ex d 81 10 [l0, l1, mx_nl l2, some (0, x)] [] S h n) ∧
  (∀ (d : Nat) (a : Int) (l0 l1 l2 l3 : Option mx_V) (S h : mx_H) (n : Int), mx_ex d 81 11 [l0, l1, l2, l3] [(0, a)] S h n = mx_br (a < 0) d 81 31 14 [l0, l1, l2, l3] [] S h n) ∧
  (∀ (d : Nat) (x : Int) (l0 l1 l3 : Option mx_V) (S h : mx_H) (n : Int), mx_ex d 81 14 [l0, l1, some (0, x), l3] [] S h n = mx_ex d 81 15 [l0, l1, some (0, x), l3] [(0, x)] S h n) ∧
  (∀ (d : Nat) (x : Int) (l0 l2 l3 : Option mx_V) (v0 : mx_V) (S h : mx_H) (n : Int), mx_ex d 81 15 [l0, some (0, x), l2, l3] [v0] S h n = mx_ex d 81 16 [l0, some (0, x), l2, l3] [(0, x), v0] S h n) ∧
  (∀ (d : Nat) (b a : Int) (l0 l1 l2 l3 : Option mx_V) (S h : mx_H) (n : Int), mx_ex d 81 16 [l0, l1, l2, l3] [(0, b), (0, a)] S h n = mx_ex d 81 17 [l0, l1, l2, l3] [(0, mx_w (a * b))] S h n) ∧
  (∀ (d : Nat) (x : Int) (l1 l2 l3 : Option mx_V) (v0 : mx_V) (S h : mx_H) (n : Int), mx_ex d 81 17 [some (2, x), l1, l2, l3] [v0] S h n = mx_ex d 81 18 [some (2, x), l1, l2, l3] [(2, x), v0] S h n) ∧
  (∀ (d : Nat) (a : Int) (l0 l1 l2 l3 : Option mx_V) (v1 : mx_V) (S h : mx_H) (n : Int), mx_ex d 81 18 [l0, l1, l2, l3] [(2, a), v1] S h n = mx_gd (1 ≤ S a (-2) ∧ S a (-2) ≤ 6) d 81 21 [l0, l1, l2, l3] [(2, S a 2), v1] S h n) ∧
  (∀ (d : Nat) (x : Int) (l0 l1 l2 : Option mx_V) (v0 v1 : mx_V) (S h : mx_H) (n : Int), mx_ex d 81 21 [l0, l1, l2, some (0, x)] [v0, v1] S h n = mx_ex d 81 22 [l0, l1, l2, some (0, x)] [(0, x), v0, v1] S h n) ∧
  (∀ (d : Nat) (i a : Int) (l0 l1 l2 l3 : Option mx_V) (v2 : mx_V) (S h : mx_H) (n : Int), mx_ex d 81 22 [l0, l1, l2, l3] [(0, i), (2, a), v2] S h n = mx_gd ((S a (-2) = 20 ∨ S a (-2) = 24) ∧ 0 ≤ i ∧ i < S a (-1)) d 81 23 [l0, l1, l2, l3] [(0, h a i), v2] S h n) ∧
  (∀ (d : Nat) (b a : Int) (l0 l1 l2 l3 : Option mx_V) (S h : mx_H) (n : Int), mx_ex d 81 23 [l0, l1, l2, l3] [(0, b), (0, a)] S h n = mx_ex d 81 24 [l0, l1, l2, l3] [(0, mx_w (a + b))] S h n) ∧
  (∀ (d : Nat) (x : Int) (l0 l1 l2 l3 : Option mx_V) (S h : mx_H) (n : Int), mx_ex d 81 24 [l0, l1, l2, l3] [(0, x)] S h n = mx_ex d 81 25 [l0, mx_nl l1, some (0, x), l3] [] S h n) ∧
  (∀ (d : Nat) (x : Int) (l0 l1 l2 : Option mx_V) (S h : mx_H) (n : Int), mx_ex d 81 25 [l0, l1, l2, some (0, x)] [] S h n = mx_ex d 81 28 [l0, l1, mx_nl l2, some (0, mx_w (x + (-1)))] [] S h n) ∧
  (∀ (d : Nat) (l0 l1 l2 l3 : Option mx_V) (S h : mx_H) (n : Int), mx_ex d 81 28 [l0, l1, l2, l3] [] S h n = mx_ex d 81 10 [l0, l1, l2, l3] [] S h n) ∧
  (∀ (d : Nat) (x : Int) (l0 l1 l3 : Option mx_V) (S h : mx_H) (n : Int), mx_ex d 81 31 [l0, l1, some (0, x), l3] [] S h n = mx_ex d 81 32 [l0, l1, some (0, x), l3] [(0, x)] S h n) ∧
  (∀ (d : Nat) (x : Int) (l0 l1 l2 l3 : Option mx_V) (S h : mx_H) (n : Int), mx_ex d 81 32 [l0, l1, l2, l3] [(0, x)] S h n = some (some (0, x), S, h, n)) :=
  ⟨by intros; exact rfl,
   by intros; exact eq_push rfl,
   by intros; exact eq_st rfl (by decide) (Nat.le_of_ble_eq_true rfl) rfl,
   by intros; exact eq_ld rfl rfl,
   by intros; exact eq_gr rfl,
   by intros; exact eq_alen rfl,
   by intros; exact eq_push rfl,
   by intros; exact eq_i2 (o := mx_sub) rfl,
   by intros; exact eq_st rfl (by decide) (Nat.le_of_ble_eq_true rfl) rfl,
   by intros; exact eq_if2 rfl,
   by intros; exact eq_ld rfl rfl,
   by intros; exact eq_ld rfl rfl,
   by intros; exact eq_i2 (o := mx_mul) rfl,
   by intros; exact eq_ld rfl rfl,
   by intros; exact eq_gr rfl,
   by intros; exact eq_ld rfl rfl,
   by intros; exact eq_iald rfl,
   by intros; exact eq_i2 (o := mx_add) rfl,
   by intros; exact eq_st rfl (by decide) (Nat.le_of_ble_eq_true rfl) rfl,
   by intros; exact eq_inc rfl rfl rfl,
   by intros; exact eq_go rfl,
   by intros; exact eq_ld rfl rfl,
   by intros; exact eq_ret rfl⟩
theorem rw_X9_tells :
  (∀ (d : Nat) (a0 a1 a2 : Int) (S h : mx_H) (n : Int), mx_M d 82 [(2, a0), (0, a1), (2, a2)] S h n = mx_ex d 82 0 [some (2, a0), some (0, a1), some (2, a2)] [] S h n) ∧
  (∀ (d : Nat) (x : Int) (l0 l1 : Option mx_V) (S h : mx_H) (n : Int), mx_ex d 82 0 [l0, l1, some (2, x)] [] S h n = mx_ex d 82 1 [l0, l1, some (2, x)] [(2, x)] S h n) ∧
  (∀ (d : Nat) (a : Int) (l0 l1 l2 : Option mx_V) (S h : mx_H) (n : Int), mx_ex d 82 1 [l0, l1, l2] [(2, a)] S h n = mx_gd (11 ≤ S a (-2) ∧ S a (-2) ≤ 11) d 82 4 [l0, l1, l2] [(2, S a 0)] S h n) ∧
  (∀ (d : Nat) (x : Int) (l0 l1 : Option mx_V) (v0 : mx_V) (S h : mx_H) (n : Int), mx_ex d 82 4 [l0, l1, some (2, x)] [v0] S h n = mx_ex d 82 5 [l0, l1, some (2, x)] [(2, x), v0] S h n) ∧
  (∀ (d : Nat) (a : Int) (l0 l1 l2 : Option mx_V) (v1 : mx_V) (S h : mx_H) (n : Int), mx_ex d 82 5 [l0, l1, l2] [(2, a), v1] S h n = mx_ex d 82 6 [l0, l1, l2] [(2, a), (2, a), v1] S h n) ∧
  (∀ (d : Nat) (a : Int) (l0 l1 l2 : Option mx_V) (v1 v2 : mx_V) (S h : mx_H) (n : Int), mx_ex d 82 6 [l0, l1, l2] [(2, a), v1, v2] S h n = mx_gd (11 ≤ S a (-2) ∧ S a (-2) ≤ 11) d 82 9 [l0, l1, l2] [(0, h a 1), v1, v2] S h n) ∧
  (∀ (d : Nat) (a b : Int) (l0 l1 l2 : Option mx_V) (v2 : mx_V) (S h : mx_H) (n : Int), mx_ex d 82 9 [l0, l1, l2] [(0, a), (2, b), v2] S h n = mx_ex d 82 10 [l0, l1, l2] [(0, a), (2, b), (0, a), v2] S h n) ∧
  (∀ (d : Nat) (l0 l1 l2 : Option mx_V) (v0 v1 v2 v3 : mx_V) (S h : mx_H) (n : Int), mx_ex d 82 10 [l0, l1, l2] [v0, v1, v2, v3] S h n = mx_ex d 82 11 [l0, l1, l2] [(0, 1), v0, v1, v2, v3] S h n) ∧
  (∀ (d : Nat) (b a : Int) (l0 l1 l2 : Option mx_V) (v2 v3 v4 : mx_V) (S h : mx_H) (n : Int), mx_ex d 82 11 [l0, l1, l2] [(0, b), (0, a), v2, v3, v4] S h n = mx_ex d 82 12 [l0, l1, l2] [(0, mx_w (a + b)), v2, v3, v4] S h n) ∧
  (∀ (d : Nat) (v a : Int) (l0 l1 l2 : Option mx_V) (v2 v3 : mx_V) (S h : mx_H) (n : Int), mx_ex d 82 12 [l0, l1, l2] [(0, v), (2, a), v2, v3] S h n = mx_gd (11 ≤ S a (-2) ∧ S a (-2) ≤ 11) d 82 15 [l0, l1, l2] [v2, v3] S (mx_u h a 1 v) n) ∧
  (∀ (d : Nat) (l0 l1 l2 : Option mx_V) (v0 v1 : mx_V) (S h : mx_H) (n : Int), mx_ex d 82 15 [l0, l1, l2] [v0, v1] S h n = mx_ex d 82 17 [l0, l1, l2] [(0, 31), v0, v1] S h n) ∧
  (∀ (d : Nat) (b a : Int) (l0 l1 l2 : Option mx_V) (v2 : mx_V) (S h : mx_H) (n : Int), mx_ex d 82 17 [l0, l1, l2] [(0, b), (0, a), v2] S h n = mx_ex d 82 18 [l0, l1, l2] [(0, mx_and a b), v2] S h n) ∧
  (∀ (d : Nat) (l0 l1 l2 : Option mx_V) (v0 v1 : mx_V) (S h : mx_H) (n : Int), mx_ex d 82 18 [l0, l1, l2] [v0, v1] S h n = mx_ex d 82 20 [l0, l1, l2] [(0, 60), v0, v1] S h n) ∧
  (∀ (d : Nat) (v i a : Int) (l0 l1 l2 : Option mx_V) (S h : mx_H) (n : Int), mx_ex d 82 20 [l0, l1, l2] [(0, v), (0, i), (2, a)] S h n = mx_gd (S a (-2) = 20 ∧ 0 ≤ i ∧ i < S a (-1)) d 82 21 [l0, l1, l2] [] S (mx_u h a i v) n) ∧
  (∀ (d : Nat) (x : Int) (l1 l2 : Option mx_V) (S h : mx_H) (n : Int), mx_ex d 82 21 [some (2, x), l1, l2] [] S h n = mx_ex d 82 22 [some (2, x), l1, l2] [(2, x)] S h n) ∧
  (∀ (d : Nat) (x : Int) (l0 l2 : Option mx_V) (v0 : mx_V) (S h : mx_H) (n : Int), mx_ex d 82 22 [l0, some (0, x), l2] [v0] S h n = mx_ex d 82 23 [l0, some (0, x), l2] [(0, x), v0] S h n) ∧
  (∀ (d : Nat) (x : Int) (l0 l1 : Option mx_V) (v0 v1 : mx_V) (S h : mx_H) (n : Int), mx_ex d 82 23 [l0, l1, some (2, x)] [v0, v1] S h n = mx_ex d 82 24 [l0, l1, some (2, x)] [(2, x), v0, v1] S h n) ∧
  (∀ (d : Nat) (x0 x1 a : Int) (l0 l1 l2 : Option mx_V) (S h : mx_H) (n : Int), mx_ex (d + 1) 82 24 [l0, l1, l2] [(2, x0), (0, x1), (2, a)] S h n = mx_cl (1 ≤ S a (-2) ∧ S a (-2) ≤ 6) d 51 [(2, a), (0, x1), (2, x0)] 82 27 [l0, l1, l2] [] S h n) ∧
  (∀ (d : Nat) (l0 l1 l2 : Option mx_V) (v0 : mx_V) (S h : mx_H) (n : Int), mx_ex d 82 27 [l0, l1, l2] [v0] S h n = mx_ex d 82 28 [l0, l1, l2] [(0, 2), v0] S h n) ∧
  (∀ (d : Nat) (b a : Int) (l0 l1 l2 : Option mx_V) (S h : mx_H) (n : Int), mx_ex d 82 28 [l0, l1, l2] [(0, b), (0, a)] S h n = mx_ex d 82 29 [l0, l1, l2] [(0, mx_w (a * b))] S h n) ∧
  (∀ (d : Nat) (x : Int) (l0 l1 l2 : Option mx_V) (S h : mx_H) (n : Int), mx_ex d 82 29 [l0, l1, l2] [(0, x)] S h n = some (some (0, x), S, h, n)) :=
  ⟨by intros; exact rfl,
   by intros; exact eq_ld rfl rfl,
   by intros; exact eq_gr rfl,
   by intros; exact eq_ld rfl rfl,
   by intros; exact eq_dup rfl (by decide),
   by intros; exact eq_gi rfl,
   by intros; exact eq_dx1 rfl (by decide) (by decide),
   by intros; exact eq_push rfl,
   by intros; exact eq_i2 (o := mx_add) rfl,
   by intros; exact eq_pi rfl,
   by intros; exact eq_push rfl,
   by intros; exact eq_i2 (o := mx_and) rfl,
   by intros; exact eq_push rfl,
   by intros; exact eq_iast rfl,
   by intros; exact eq_ld rfl rfl,
   by intros; exact eq_ld rfl rfl,
   by intros; exact eq_ld rfl rfl,
   by intros; exact eq_ci rfl (Nat.le_of_ble_eq_true rfl) rfl rfl rfl (Nat.le_of_ble_eq_true rfl),
   by intros; exact eq_push rfl,
   by intros; exact eq_i2 (o := mx_mul) rfl,
   by intros; exact eq_ret rfl⟩
theorem rw_X9_shares :
  (∀ (d : Nat) (a0 a1 a2 : Int) (S h : mx_H) (n : Int), mx_M d 83 [(2, a0), (0, a1), (2, a2)] S h n = mx_ex d 83 0 [some (2, a0), some (0, a1), some (2, a2)] [] S h n) ∧
  (∀ (d : Nat) (x : Int) (l0 l1 : Option mx_V) (S h : mx_H) (n : Int), mx_ex d 83 0 [l0, l1, some (2, x)] [] S h n = mx_ex d 83 1 [l0, l1, some (2, x)] [(2, x)] S h n) ∧
  (∀ (d : Nat) (a : Int) (l0 l1 l2 : Option mx_V) (S h : mx_H) (n : Int), mx_ex d 83 1 [l0, l1, l2] [(2, a)] S h n = mx_gd (11 ≤ S a (-2) ∧ S a (-2) ≤ 11) d 83 4 [l0, l1, l2] [(2, S a 0)] S h n) ∧
  (∀ (d : Nat) (x : Int) (l0 l1 : Option mx_V) (v0 : mx_V) (S h : mx_H) (n : Int), mx_ex d 83 4 [l0, l1, some (2, x)] [v0] S h n = mx_ex d 83 5 [l0, l1, some (2, x)] [(2, x), v0] S h n) ∧
  (∀ (d : Nat) (a : Int) (l0 l1 l2 : Option mx_V) (v1 : mx_V) (S h : mx_H) (n : Int), mx_ex d 83 5 [l0, l1, l2] [(2, a), v1] S h n = mx_ex d 83 6 [l0, l1, l2] [(2, a), (2, a), v1] S h n) ∧
  (∀ (d : Nat) (a : Int) (l0 l1 l2 : Option mx_V) (v1 v2 : mx_V) (S h : mx_H) (n : Int), mx_ex d 83 6 [l0, l1, l2] [(2, a), v1, v2] S h n = mx_gd (11 ≤ S a (-2) ∧ S a (-2) ≤ 11) d 83 9 [l0, l1, l2] [(0, h a 1), v1, v2] S h n) ∧
  (∀ (d : Nat) (a b : Int) (l0 l1 l2 : Option mx_V) (v2 : mx_V) (S h : mx_H) (n : Int), mx_ex d 83 9 [l0, l1, l2] [(0, a), (2, b), v2] S h n = mx_ex d 83 10 [l0, l1, l2] [(0, a), (2, b), (0, a), v2] S h n) ∧
  (∀ (d : Nat) (l0 l1 l2 : Option mx_V) (v0 v1 v2 v3 : mx_V) (S h : mx_H) (n : Int), mx_ex d 83 10 [l0, l1, l2] [v0, v1, v2, v3] S h n = mx_ex d 83 11 [l0, l1, l2] [(0, 1), v0, v1, v2, v3] S h n) ∧
  (∀ (d : Nat) (b a : Int) (l0 l1 l2 : Option mx_V) (v2 v3 v4 : mx_V) (S h : mx_H) (n : Int), mx_ex d 83 11 [l0, l1, l2] [(0, b), (0, a), v2, v3, v4] S h n = mx_ex d 83 12 [l0, l1, l2] [(0, mx_w (a + b)), v2, v3, v4] S h n) ∧
  (∀ (d : Nat) (v a : Int) (l0 l1 l2 : Option mx_V) (v2 v3 : mx_V) (S h : mx_H) (n : Int), mx_ex d 83 12 [l0, l1, l2] [(0, v), (2, a), v2, v3] S h n = mx_gd (11 ≤ S a (-2) ∧ S a (-2) ≤ 11) d 83 15 [l0, l1, l2] [v2, v3] S (mx_u h a 1 v) n) ∧
  (∀ (d : Nat) (l0 l1 l2 : Option mx_V) (v0 v1 : mx_V) (S h : mx_H) (n : Int), mx_ex d 83 15 [l0, l1, l2] [v0, v1] S h n = mx_ex d 83 17 [l0, l1, l2] [(0, 31), v0, v1] S h n) ∧
  (∀ (d : Nat) (b a : Int) (l0 l1 l2 : Option mx_V) (v2 : mx_V) (S h : mx_H) (n : Int), mx_ex d 83 17 [l0, l1, l2] [(0, b), (0, a), v2] S h n = mx_ex d 83 18 [l0, l1, l2] [(0, mx_and a b), v2] S h n) ∧
  (∀ (d : Nat) (l0 l1 l2 : Option mx_V) (v0 v1 : mx_V) (S h : mx_H) (n : Int), mx_ex d 83 18 [l0, l1, l2] [v0, v1] S h n = mx_ex d 83 20 [l0, l1, l2] [(0, 61), v0, v1] S h n) ∧
  (∀ (d : Nat) (v i a : Int) (l0 l1 l2 : Option mx_V) (S h : mx_H) (n : Int), mx_ex d 83 20 [l0, l1, l2] [(0, v), (0, i), (2, a)] S h n = mx_gd (S a (-2) = 20 ∧ 0 ≤ i ∧ i < S a (-1)) d 83 21 [l0, l1, l2] [] S (mx_u h a i v) n) ∧
  (∀ (d : Nat) (x : Int) (l1 l2 : Option mx_V) (S h : mx_H) (n : Int), mx_ex d 83 21 [some (2, x), l1, l2] [] S h n = mx_ex d 83 22 [some (2, x), l1, l2] [(2, x)] S h n) ∧
  (∀ (d : Nat) (x : Int) (l0 l2 : Option mx_V) (v0 : mx_V) (S h : mx_H) (n : Int), mx_ex d 83 22 [l0, some (0, x), l2] [v0] S h n = mx_ex d 83 23 [l0, some (0, x), l2] [(0, x), v0] S h n) ∧
  (∀ (d : Nat) (x : Int) (l0 l1 : Option mx_V) (v0 v1 : mx_V) (S h : mx_H) (n : Int), mx_ex d 83 23 [l0, l1, some (2, x)] [v0, v1] S h n = mx_ex d 83 24 [l0, l1, some (2, x)] [(2, x), v0, v1] S h n) ∧
  (∀ (d : Nat) (x0 x1 a : Int) (l0 l1 l2 : Option mx_V) (S h : mx_H) (n : Int), mx_ex (d + 1) 83 24 [l0, l1, l2] [(2, x0), (0, x1), (2, a)] S h n = mx_cl (1 ≤ S a (-2) ∧ S a (-2) ≤ 6) d 50 [(2, a), (0, x1), (2, x0)] 83 27 [l0, l1, l2] [] S h n) ∧
  (∀ (d : Nat) (x : Int) (l1 l2 : Option mx_V) (v0 : mx_V) (S h : mx_H) (n : Int), mx_ex d 83 27 [some (2, x), l1, l2] [v0] S h n = mx_ex d 83 28 [some (2, x), l1, l2] [(2, x), v0] S h n) ∧
  (∀ (d : Nat) (x : Int) (l1 l2 : Option mx_V) (v0 v1 : mx_V) (S h : mx_H) (n : Int), mx_ex d 83 28 [some (2, x), l1, l2] [v0, v1] S h n = mx_ex d 83 29 [some (2, x), l1, l2] [(2, x), v0, v1] S h n) ∧
  (∀ (d : Nat) (a : Int) (l0 l1 l2 : Option mx_V) (v1 v2 : mx_V) (S h : mx_H) (n : Int), mx_ex d 83 29 [l0, l1, l2] [(2, a), v1, v2] S h n = mx_gd (1 ≤ S a (-2) ∧ S a (-2) ≤ 6) d 83 32 [l0, l1, l2] [(0, h a 1), v1, v2] S h n) ∧
  (∀ (d : Nat) (x : Int) (l0 l1 : Option mx_V) (v0 v1 v2 : mx_V) (S h : mx_H) (n : Int), mx_ex d 83 32 [l0, l1, some (2, x)] [v0, v1, v2] S h n = mx_ex d 83 33 [l0, l1, some (2, x)] [(2, x), v0, v1, v2] S h n) ∧
  (∀ (d : Nat) (x0 x1 a : Int) (l0 l1 l2 : Option mx_V) (v3 : mx_V) (S h : mx_H) (n : Int), mx_ex (d + 1) 83 33 [l0, l1, l2] [(2, x0), (0, x1), (2, a), v3] S h n = mx_cu (mx_vt (S a (-2)) [(5, 48)]) d [(2, a), (0, x1), (2, x0)] 83 36 [l0, l1, l2] [v3] S h n) ∧
  (∀ (d : Nat) (b a : Int) (l0 l1 l2 : Option mx_V) (S h : mx_H) (n : Int), mx_ex d 83 36 [l0, l1, l2] [(0, b), (0, a)] S h n = mx_ex d 83 37 [l0, l1, l2] [(0, mx_w (a + b))] S h n) ∧
  (∀ (d : Nat) (x : Int) (l0 l1 l2 : Option mx_V) (S h : mx_H) (n : Int), mx_ex d 83 37 [l0, l1, l2] [(0, x)] S h n = some (some (0, x), S, h, n)) :=
  ⟨by intros; exact rfl,
   by intros; exact eq_ld rfl rfl,
   by intros; exact eq_gr rfl,
   by intros; exact eq_ld rfl rfl,
   by intros; exact eq_dup rfl (by decide),
   by intros; exact eq_gi rfl,
   by intros; exact eq_dx1 rfl (by decide) (by decide),
   by intros; exact eq_push rfl,
   by intros; exact eq_i2 (o := mx_add) rfl,
   by intros; exact eq_pi rfl,
   by intros; exact eq_push rfl,
   by intros; exact eq_i2 (o := mx_and) rfl,
   by intros; exact eq_push rfl,
   by intros; exact eq_iast rfl,
   by intros; exact eq_ld rfl rfl,
   by intros; exact eq_ld rfl rfl,
   by intros; exact eq_ld rfl rfl,
   by intros; exact eq_ci rfl (Nat.le_of_ble_eq_true rfl) rfl rfl rfl (Nat.le_of_ble_eq_true rfl),
   by intros; exact eq_ld rfl rfl,
   by intros; exact eq_ld rfl rfl,
   by intros; exact eq_gi rfl,
   by intros; exact eq_ld rfl rfl,
   by intros; exact eq_cu rfl (Nat.le_of_ble_eq_true rfl) rfl rfl rfl (Nat.le_of_ble_eq_true rfl),
   by intros; exact eq_i2 (o := mx_add) rfl,
   by intros; exact eq_ret rfl⟩
theorem rw_J6_bitCount_0f7a4 :
  (∀ (d : Nat) (a0 : Int) (S h : mx_H) (n : Int), mx_M d 248 [(0, a0)] S h n = mx_ex d 248 0 [some (0, a0)] [] S h n) ∧
  (∀ (d : Nat) (x : Int) (S h : mx_H) (n : Int), mx_ex d 248 0 [some (0, x)] [] S h n = mx_ex d 248 1 [some (0, x)] [(0, x)] S h n) ∧
  (∀ (d : Nat) (x : Int) (v0 : mx_V) (S h : mx_H) (n : Int), mx_ex d 248 1 [some (0, x)] [v0] S h n = mx_ex d 248 2 [some (0, x)] [(0, x), v0] S h n) ∧
  (∀ (d : Nat) (l0 : Option mx_V) (v0 v1 : mx_V) (S h : mx_H) (n : Int), mx_ex d 248 2 [l0] [v0, v1] S h n = mx_ex d 248 3 [l0] [(0, 1), v0, v1] S h n) ∧
  (∀ (d : Nat) (b a : Int) (l0 : Option mx_V) (v2 : mx_V) (S h : mx_H) (n : Int), mx_ex d 248 3 [l0] [(0, b), (0, a), v2] S h n = mx_ex d 248 4 [l0] [(0, mx_ush a b), v2] S h n) ∧
  (∀ (d : Nat) (l0 : Option mx_V) (v0 v1 : mx_V) (S h : mx_H) (n : Int), mx_ex d 248 4 [l0] [v0, v1] S h n = mx_ex d 248 7 [l0] [(0, 1431655765), v0, v1] S h n) ∧
  (∀ (d : Nat) (b a : Int) (l0 : Option mx_V) (v2 : mx_V) (S h : mx_H) (n : Int), mx_ex d 248 7 [l0] [(0, b), (0, a), v2] S h n = mx_ex d 248 8 [l0] [(0, mx_and a b), v2] S h n) ∧
  (∀ (d : Nat) (b a : Int) (l0 : Option mx_V) (S h : mx_H) (n : Int), mx_ex d 248 8 [l0] [(0, b), (0, a)] S h n = mx_ex d 248 9 [l0] [(0, mx_w (a - b))] S h n) ∧
  (∀ (d : Nat) (x : Int) (l0 : Option mx_V) (S h : mx_H) (n : Int), mx_ex d 248 9 [l0] [(0, x)] S h n = mx_ex d 248 10 [some (0, x)] [] S h n) ∧
  (∀ (d : Nat) (x : Int) (S h : mx_H) (n : Int), mx_ex d 248 10 [some (0, x)] [] S h n = mx_ex d 248 11 [some (0, x)] [(0, x)] S h n) ∧
  (∀ (d : Nat) (l0 : Option mx_V) (v0 : mx_V) (S h : mx_H) (n : Int), mx_ex d 248 11 [l0] [v0] S h n = mx_ex d 248 14 [l0] [(0, 858993459), v0] S h n) ∧
  (∀ (d : Nat) (b a : Int) (l0 : Option mx_V) (S h : mx_H) (n : Int), mx_ex d 248 14 [l0] [(0, b), (0, a)] S h n = mx_ex d 248 15 [l0] [(0, mx_and a b)] S h n) ∧
  (∀ (d : Nat) (x : Int) (v0 : mx_V) (S h : mx_H) (n : Int), mx_ex d 248 15 [some (0, x)] [v0] S h n = mx_ex d 248 16 [some (0, x)] [(0, x), v0] S h n) ∧
  (∀ (d : Nat) (l0 : Option mx_V) (v0 v1 : mx_V) (S h : mx_H) (n : Int), mx_ex d 248 16 [l0] [v0, v1] S h n = mx_ex d 248 17 [l0] [(0, 2), v0, v1] S h n) ∧
  (∀ (d : Nat) (b a : Int) (l0 : Option mx_V) (v2 : mx_V) (S h : mx_H) (n : Int), mx_ex d 248 17 [l0] [(0, b), (0, a), v2] S h n = mx_ex d 248 18 [l0] [(0, mx_ush a b), v2] S h n) ∧
  (∀ (d : Nat) (l0 : Option mx_V) (v0 v1 : mx_V) (S h : mx_H) (n : Int), mx_ex d 248 18 [l0] [v0, v1] S h n = mx_ex d 248 21 [l0] [(0, 858993459), v0, v1] S h n) ∧
  (∀ (d : Nat) (b a : Int) (l0 : Option mx_V) (v2 : mx_V) (S h : mx_H) (n : Int), mx_ex d 248 21 [l0] [(0, b), (0, a), v2] S h n = mx_ex d 248 22 [l0] [(0, mx_and a b), v2] S h n) ∧
  (∀ (d : Nat) (b a : Int) (l0 : Option mx_V) (S h : mx_H) (n : Int), mx_ex d 248 22 [l0] [(0, b), (0, a)] S h n = mx_ex d 248 23 [l0] [(0, mx_w (a + b))] S h n) ∧
  (∀ (d : Nat) (x : Int) (l0 : Option mx_V) (S h : mx_H) (n : Int), mx_ex d 248 23 [l0] [(0, x)] S h n = mx_ex d 248 24 [some (0, x)] [] S h n) ∧
  (∀ (d : Nat) (x : Int) (S h : mx_H) (n : Int), mx_ex d 248 24 [some (0, x)] [] S h n = mx_ex d 248 25 [some (0, x)] [(0, x)] S h n) ∧
  (∀ (d : Nat) (x : Int) (v0 : mx_V) (S h : mx_H) (n : Int), mx_ex d 248 25 [some (0, x)] [v0] S h n = mx_ex d 248 26 [some (0, x)] [(0, x), v0] S h n) ∧
  (∀ (d : Nat) (l0 : Option mx_V) (v0 v1 : mx_V) (S h : mx_H) (n : Int), mx_ex d 248 26 [l0] [v0, v1] S h n = mx_ex d 248 27 [l0] [(0, 4), v0, v1] S h n) ∧
  (∀ (d : Nat) (b a : Int) (l0 : Option mx_V) (v2 : mx_V) (S h : mx_H) (n : Int), mx_ex d 248 27 [l0] [(0, b), (0, a), v2] S h n = mx_ex d 248 28 [l0] [(0, mx_ush a b), v2] S h n) ∧
  (∀ (d : Nat) (b a : Int) (l0 : Option mx_V) (S h : mx_H) (n : Int), mx_ex d 248 28 [l0] [(0, b), (0, a)] S h n = mx_ex d 248 29 [l0] [(0, mx_w (a + b))] S h n) ∧
  (∀ (d : Nat) (l0 : Option mx_V) (v0 : mx_V) (S h : mx_H) (n : Int), mx_ex d 248 29 [l0] [v0] S h n = mx_ex d 248 32 [l0] [(0, 252645135), v0] S h n) ∧
  (∀ (d : Nat) (b a : Int) (l0 : Option mx_V) (S h : mx_H) (n : Int), mx_ex d 248 32 [l0] [(0, b), (0, a)] S h n = mx_ex d 248 33 [l0] [(0, mx_and a b)] S h n) ∧
  (∀ (d : Nat) (x : Int) (l0 : Option mx_V) (S h : mx_H) (n : Int), mx_ex d 248 33 [l0] [(0, x)] S h n = mx_ex d 248 34 [some (0, x)] [] S h n) ∧
  (∀ (d : Nat) (x : Int) (S h : mx_H) (n : Int), mx_ex d 248 34 [some (0, x)] [] S h n = mx_ex d 248 35 [some (0, x)] [(0, x)] S h n) ∧
  (∀ (d : Nat) (x : Int) (v0 : mx_V) (S h : mx_H) (n : Int), mx_ex d 248 35 [some (0, x)] [v0] S h n = mx_ex d 248 36 [some (0, x)] [(0, x), v0] S h n) ∧
  (∀ (d : Nat) (l0 : Option mx_V) (v0 v1 : mx_V) (S h : mx_H) (n : Int), mx_ex d 248 36 [l0] [v0, v1] S h n = mx_ex d 248 38 [l0] [(0, 8), v0, v1] S h n) ∧
  (∀ (d : Nat) (b a : Int) (l0 : Option mx_V) (v2 : mx_V) (S h : mx_H) (n : Int), mx_ex d 248 38 [l0] [(0, b), (0, a), v2] S h n = mx_ex d 248 39 [l0] [(0, mx_ush a b), v2] S h n) ∧
  (∀ (d : Nat) (b a : Int) (l0 : Option mx_V) (S h : mx_H) (n : Int), mx_ex d 248 39 [l0] [(0, b), (0, a)] S h n = mx_ex d 248 40 [l0] [(0, mx_w (a + b))] S h n) ∧
  (∀ (d : Nat) (x : Int) (l0 : Option mx_V) (S h : mx_H) (n : Int), mx_ex d 248 40 [l0] [(0, x)] S h n = mx_ex d 248 41 [some (0, x)] [] S h n) ∧
  (∀ (d : Nat) (x : Int) (S h : mx_H) (n : Int), mx_ex d 248 41 [some (0, x)] [] S h n = mx_ex d 248 42 [some (0, x)] [(0, x)] S h n) ∧
  (∀ (d : Nat) (x : Int) (v0 : mx_V) (S h : mx_H) (n : Int), mx_ex d 248 42 [some (0, x)] [v0] S h n = mx_ex d 248 43 [some (0, x)] [(0, x), v0] S h n) ∧
  (∀ (d : Nat) (l0 : Option mx_V) (v0 v1 : mx_V) (S h : mx_H) (n : Int), mx_ex d 248 43 [l0] [v0, v1] S h n = mx_ex d 248 45 [l0] [(0, 16), v0, v1] S h n) ∧
  (∀ (d : Nat) (b a : Int) (l0 : Option mx_V) (v2 : mx_V) (S h : mx_H) (n : Int), mx_ex d 248 45 [l0] [(0, b), (0, a), v2] S h n = mx_ex d 248 46 [l0] [(0, mx_ush a b), v2] S h n) ∧
  (∀ (d : Nat) (b a : Int) (l0 : Option mx_V) (S h : mx_H) (n : Int), mx_ex d 248 46 [l0] [(0, b), (0, a)] S h n = mx_ex d 248 47 [l0] [(0, mx_w (a + b))] S h n) ∧
  (∀ (d : Nat) (x : Int) (l0 : Option mx_V) (S h : mx_H) (n : Int), mx_ex d 248 47 [l0] [(0, x)] S h n = mx_ex d 248 48 [some (0, x)] [] S h n) ∧
  (∀ (d : Nat) (x : Int) (S h : mx_H) (n : Int), mx_ex d 248 48 [some (0, x)] [] S h n = mx_ex d 248 49 [some (0, x)] [(0, x)] S h n) ∧
  (∀ (d : Nat) (l0 : Option mx_V) (v0 : mx_V) (S h : mx_H) (n : Int), mx_ex d 248 49 [l0] [v0] S h n = mx_ex d 248 51 [l0] [(0, 63), v0] S h n) ∧
  (∀ (d : Nat) (b a : Int) (l0 : Option mx_V) (S h : mx_H) (n : Int), mx_ex d 248 51 [l0] [(0, b), (0, a)] S h n = mx_ex d 248 52 [l0] [(0, mx_and a b)] S h n) ∧
  (∀ (d : Nat) (x : Int) (l0 : Option mx_V) (S h : mx_H) (n : Int), mx_ex d 248 52 [l0] [(0, x)] S h n = some (some (0, x), S, h, n)) :=
  ⟨by intros; exact rfl,
   by intros; exact eq_ld rfl rfl,
   by intros; exact eq_ld rfl rfl,
   by intros; exact eq_push rfl,
   by intros; exact eq_i2 (o := mx_ush) rfl,
   by intros; exact eq_push rfl,
   by intros; exact eq_i2 (o := mx_and) rfl,
   by intros; exact eq_i2 (o := mx_sub) rfl,
   by intros; exact eq_st rfl (by decide) (Nat.le_of_ble_eq_true rfl) rfl,
   by intros; exact eq_ld rfl rfl,
   by intros; exact eq_push rfl,
   by intros; exact eq_i2 (o := mx_and) rfl,
   by intros; exact eq_ld rfl rfl,
   by intros; exact eq_push rfl,
   by intros; exact eq_i2 (o := mx_ush) rfl,
   by intros; exact eq_push rfl,
   by intros; exact eq_i2 (o := mx_and) rfl,
   by intros; exact eq_i2 (o := mx_add) rfl,
   by intros; exact eq_st rfl (by decide) (Nat.le_of_ble_eq_true rfl) rfl,
   by intros; exact eq_ld rfl rfl,
   by intros; exact eq_ld rfl rfl,
   by intros; exact eq_push rfl,
   by intros; exact eq_i2 (o := mx_ush) rfl,
   by intros; exact eq_i2 (o := mx_add) rfl,
   by intros; exact eq_push rfl,
   by intros; exact eq_i2 (o := mx_and) rfl,
   by intros; exact eq_st rfl (by decide) (Nat.le_of_ble_eq_true rfl) rfl,
   by intros; exact eq_ld rfl rfl,
   by intros; exact eq_ld rfl rfl,
   by intros; exact eq_push rfl,
   by intros; exact eq_i2 (o := mx_ush) rfl,
   by intros; exact eq_i2 (o := mx_add) rfl,
   by intros; exact eq_st rfl (by decide) (Nat.le_of_ble_eq_true rfl) rfl,
   by intros; exact eq_ld rfl rfl,
   by intros; exact eq_ld rfl rfl,
   by intros; exact eq_push rfl,
   by intros; exact eq_i2 (o := mx_ush) rfl,
   by intros; exact eq_i2 (o := mx_add) rfl,
   by intros; exact eq_st rfl (by decide) (Nat.le_of_ble_eq_true rfl) rfl,
   by intros; exact eq_ld rfl rfl,
   by intros; exact eq_push rfl,
   by intros; exact eq_i2 (o := mx_and) rfl,
   by intros; exact eq_ret rfl⟩
theorem rw_J0_length_8abf5 :
  (∀ (d : Nat) (a0 : Int) (S h : mx_H) (n : Int), mx_M d 249 [(2, a0)] S h n = mx_ex d 249 0 [some (2, a0)] [] S h n) ∧
  (∀ (d : Nat) (x : Int) (S h : mx_H) (n : Int), mx_ex d 249 0 [some (2, x)] [] S h n = mx_ex d 249 1 [some (2, x)] [(2, x)] S h n) ∧
  (∀ (d : Nat) (a : Int) (l0 : Option mx_V) (S h : mx_H) (n : Int), mx_ex d 249 1 [l0] [(2, a)] S h n = mx_gd (30 ≤ S a (-2) ∧ S a (-2) ≤ 30) d 249 4 [l0] [(2, S a 0)] S h n) ∧
  (∀ (d : Nat) (a : Int) (l0 : Option mx_V) (S h : mx_H) (n : Int), mx_ex d 249 4 [l0] [(2, a)] S h n = mx_gd (20 ≤ S a (-2) ∧ S a (-2) ≤ 25) d 249 5 [l0] [(0, S a (-1))] S h n) ∧
  (∀ (d : Nat) (x : Int) (v0 : mx_V) (S h : mx_H) (n : Int), mx_ex d 249 5 [some (2, x)] [v0] S h n = mx_ex d 249 6 [some (2, x)] [(2, x), v0] S h n) ∧
  (∀ (d : Nat) (a : Int) (l0 : Option mx_V) (v1 : mx_V) (S h : mx_H) (n : Int), mx_ex (d + 1) 249 6 [l0] [(2, a), v1] S h n = mx_cl (S a (-2) = 30) d 251 [(2, a)] 249 9 [l0] [v1] S h n) ∧
  (∀ (d : Nat) (b a : Int) (l0 : Option mx_V) (S h : mx_H) (n : Int), mx_ex d 249 9 [l0] [(0, b), (0, a)] S h n = mx_ex d 249 10 [l0] [(0, mx_shr a b)] S h n) ∧
  (∀ (d : Nat) (x : Int) (l0 : Option mx_V) (S h : mx_H) (n : Int), mx_ex d 249 10 [l0] [(0, x)] S h n = some (some (0, x), S, h, n)) :=
  ⟨by intros; exact rfl,
   by intros; exact eq_ld rfl rfl,
   by intros; exact eq_gr rfl,
   by intros; exact eq_alen rfl,
   by intros; exact eq_ld rfl rfl,
   by intros; exact eq_cv rfl (Nat.le_of_ble_eq_true rfl) rfl rfl rfl (Nat.le_of_ble_eq_true rfl),
   by intros; exact eq_i2 (o := mx_shr) rfl,
   by intros; exact eq_ret rfl⟩
theorem rw_J0_charAt_5068e :
  (∀ (d : Nat) (a0 a1 : Int) (S h : mx_H) (n : Int), mx_M d 250 [(2, a0), (0, a1)] S h n = mx_ex d 250 0 [some (2, a0), some (0, a1)] [] S h n) ∧
  (∀ (d : Nat) (x : Int) (l1 : Option mx_V) (S h : mx_H) (n : Int), mx_ex d 250 0 [some (2, x), l1] [] S h n = mx_ex d 250 1 [some (2, x), l1] [(2, x)] S h n) ∧
  (∀ (d : Nat) (a : Int) (l0 l1 : Option mx_V) (S h : mx_H) (n : Int), mx_ex (d + 1) 250 1 [l0, l1] [(2, a)] S h n = mx_cl (S a (-2) = 30) d 252 [(2, a)] 250 4 [l0, l1] [] S h n) ∧
  (∀ (d : Nat) (a : Int) (l0 l1 : Option mx_V) (S h : mx_H) (n : Int), mx_ex d 250 4 [l0, l1] [(0, a)] S h n = mx_br (a = 0) d 250 16 7 [l0, l1] [] S h n) ∧
  (∀ (d : Nat) (x : Int) (l1 : Option mx_V) (S h : mx_H) (n : Int), mx_ex d 250 7 [some (2, x), l1] [] S h n = mx_ex d 250 8 [some (2, x), l1] [(2, x)] S h n) ∧
  (∀ (d : Nat) (a : Int) (l0 l1 : Option mx_V) (S h : mx_H) (n : Int), mx_ex d 250 8 [l0, l1] [(2, a)] S h n = mx_gd (30 ≤ S a (-2) ∧ S a (-2) ≤ 30) d 250 11 [l0, l1] [(2, S a 0)] S h n) ∧
  (∀ (d : Nat) (x : Int) (l0 : Option mx_V) (v0 : mx_V) (S h : mx_H) (n : Int), mx_ex d 250 11 [l0, some (0, x)] [v0] S h n = mx_ex d 250 12 [l0, some (0, x)] [(0, x), v0] S h n) ∧
  (∀ (d : Nat) (x0 x1 : Int) (l0 l1 : Option mx_V) (S h : mx_H) (n : Int), mx_ex (d + 1) 250 12 [l0, l1] [(0, x0), (2, x1)] S h n = mx_rt (mx_M d 254 [(2, x1), (0, x0)] S h n) (d + 1) 250 15 [l0, l1] []) ∧
  (∀ (d : Nat) (x : Int) (l0 l1 : Option mx_V) (S h : mx_H) (n : Int), mx_ex d 250 15 [l0, l1] [(0, x)] S h n = mx_re (0 ≤ x ∧ x ≤ 127) (some (0, x)) S h n) ∧
  (∀ (d : Nat) (x : Int) (l1 : Option mx_V) (S h : mx_H) (n : Int), mx_ex d 250 16 [some (2, x), l1] [] S h n = mx_ex d 250 17 [some (2, x), l1] [(2, x)] S h n) ∧
  (∀ (d : Nat) (a : Int) (l0 l1 : Option mx_V) (S h : mx_H) (n : Int), mx_ex d 250 17 [l0, l1] [(2, a)] S h n = mx_gd (30 ≤ S a (-2) ∧ S a (-2) ≤ 30) d 250 20 [l0, l1] [(2, S a 0)] S h n) ∧
  (∀ (d : Nat) (x : Int) (l0 : Option mx_V) (v0 : mx_V) (S h : mx_H) (n : Int), mx_ex d 250 20 [l0, some (0, x)] [v0] S h n = mx_ex d 250 21 [l0, some (0, x)] [(0, x), v0] S h n) :=
  ⟨by intros; exact rfl,
   by intros; exact eq_ld rfl rfl,
   by intros; exact eq_cv rfl (Nat.le_of_ble_eq_true rfl) rfl rfl rfl (Nat.le_of_ble_eq_true rfl),
   by intros; exact eq_if0 rfl,
   by intros; exact eq_ld rfl rfl,
   by intros; exact eq_gr rfl,
   by intros; exact eq_ld rfl rfl,
   by intros; exact eq_cs rfl (Nat.le_of_ble_eq_true rfl) rfl rfl rfl (Nat.le_of_ble_eq_true rfl),
   by intros; exact eq_rr rfl,
   by intros; exact eq_ld rfl rfl,
   by intros; exact eq_gr rfl,
   by intros; exact eq_ld rfl rfl⟩
theorem rw_J0_coder_7d493 :
  (∀ (d : Nat) (a0 : Int) (S h : mx_H) (n : Int), mx_M d 251 [(2, a0)] S h n = mx_ex d 251 0 [some (2, a0)] [] S h n) ∧
  (∀ (d : Nat) (l0 : Option mx_V) (S h : mx_H) (n : Int), mx_ex d 251 0 [l0] [] S h n = mx_ex d 251 3 [l0] [(0, 1)] S h n) ∧
  (∀ (d : Nat) (a : Int) (l0 : Option mx_V) (S h : mx_H) (n : Int), mx_ex d 251 3 [l0] [(0, a)] S h n = mx_br (a = 0) d 251 13 6 [l0] [] S h n) ∧
  (∀ (d : Nat) (x : Int) (S h : mx_H) (n : Int), mx_ex d 251 6 [some (2, x)] [] S h n = mx_ex d 251 7 [some (2, x)] [(2, x)] S h n) ∧
  (∀ (d : Nat) (a : Int) (l0 : Option mx_V) (S h : mx_H) (n : Int), mx_ex d 251 7 [l0] [(2, a)] S h n = mx_gd (30 ≤ S a (-2) ∧ S a (-2) ≤ 30) d 251 10 [l0] [(0, h a 1)] S h n) ∧
  (∀ (d : Nat) (l0 : Option mx_V) (v0 : mx_V) (S h : mx_H) (n : Int), mx_ex d 251 10 [l0] [v0] S h n = mx_ex d 251 14 [l0] [v0] S h n) ∧
  (∀ (d : Nat) (l0 : Option mx_V) (S h : mx_H) (n : Int), mx_ex d 251 13 [l0] [] S h n = mx_ex d 251 14 [l0] [(0, 1)] S h n) ∧
  (∀ (d : Nat) (x : Int) (l0 : Option mx_V) (S h : mx_H) (n : Int), mx_ex d 251 14 [l0] [(0, x)] S h n = mx_re (0 ≤ x ∧ x ≤ 1) (some (0, x)) S h n) :=
  ⟨by intros; exact rfl,
   by intros; exact eq_push rfl,
   by intros; exact eq_if0 rfl,
   by intros; exact eq_ld rfl rfl,
   by intros; exact eq_gi rfl,
   by intros; exact eq_go rfl,
   by intros; exact eq_push rfl,
   by intros; exact eq_rr rfl⟩
theorem rw_J0_isLatin1_aae02 :
  (∀ (d : Nat) (a0 : Int) (S h : mx_H) (n : Int), mx_M d 252 [(2, a0)] S h n = mx_ex d 252 0 [some (2, a0)] [] S h n) ∧
  (∀ (d : Nat) (l0 : Option mx_V) (S h : mx_H) (n : Int), mx_ex d 252 0 [l0] [] S h n = mx_ex d 252 3 [l0] [(0, 1)] S h n) ∧
  (∀ (d : Nat) (a : Int) (l0 : Option mx_V) (S h : mx_H) (n : Int), mx_ex d 252 3 [l0] [(0, a)] S h n = mx_br (a = 0) d 252 17 6 [l0] [] S h n) ∧
  (∀ (d : Nat) (x : Int) (S h : mx_H) (n : Int), mx_ex d 252 6 [some (2, x)] [] S h n = mx_ex d 252 7 [some (2, x)] [(2, x)] S h n) ∧
  (∀ (d : Nat) (a : Int) (l0 : Option mx_V) (S h : mx_H) (n : Int), mx_ex d 252 7 [l0] [(2, a)] S h n = mx_gd (30 ≤ S a (-2) ∧ S a (-2) ≤ 30) d 252 10 [l0] [(0, h a 1)] S h n) ∧
  (∀ (d : Nat) (a : Int) (l0 : Option mx_V) (S h : mx_H) (n : Int), mx_ex d 252 10 [l0] [(0, a)] S h n = mx_br (a = 0) d 252 13 17 [l0] [] S h n) ∧
  (∀ (d : Nat) (l0 : Option mx_V) (S h : mx_H) (n : Int), mx_ex d 252 13 [l0] [] S h n = mx_ex d 252 14 [l0] [(0, 1)] S h n) ∧
  (∀ (d : Nat) (l0 : Option mx_V) (v0 : mx_V) (S h : mx_H) (n : Int), mx_ex d 252 14 [l0] [v0] S h n = mx_ex d 252 18 [l0] [v0] S h n) ∧
  (∀ (d : Nat) (l0 : Option mx_V) (S h : mx_H) (n : Int), mx_ex d 252 17 [l0] [] S h n = mx_ex d 252 18 [l0] [(0, 0)] S h n) ∧
  (∀ (d : Nat) (x : Int) (l0 : Option mx_V) (S h : mx_H) (n : Int), mx_ex d 252 18 [l0] [(0, x)] S h n = mx_re (0 ≤ x ∧ x ≤ 1) (some (0, x)) S h n) :=
  ⟨by intros; exact rfl,
   by intros; exact eq_push rfl,
   by intros; exact eq_if0 rfl,
   by intros; exact eq_ld rfl rfl,
   by intros; exact eq_gi rfl,
   by intros; exact eq_if1 rfl,
   by intros; exact eq_push rfl,
   by intros; exact eq_go rfl,
   by intros; exact eq_push rfl,
   by intros; exact eq_rr rfl⟩
theorem rw_J0_checkIndex_df160 :
  (∀ (d : Nat) (a0 a1 : Int) (S h : mx_H) (n : Int), mx_M d 253 [(0, a0), (0, a1)] S h n = mx_ex d 253 0 [some (0, a0), some (0, a1)] [] S h n) ∧
  (∀ (d : Nat) (x : Int) (l1 : Option mx_V) (S h : mx_H) (n : Int), mx_ex d 253 0 [some (0, x), l1] [] S h n = mx_ex d 253 1 [some (0, x), l1] [(0, x)] S h n) ∧
  (∀ (d : Nat) (x : Int) (l0 : Option mx_V) (v0 : mx_V) (S h : mx_H) (n : Int), mx_ex d 253 1 [l0, some (0, x)] [v0] S h n = mx_ex d 253 2 [l0, some (0, x)] [(0, x), v0] S h n) ∧
  (∀ (d : Nat) (l0 l1 : Option mx_V) (v0 v1 : mx_V) (S h : mx_H) (n : Int), mx_ex d 253 2 [l0, l1] [v0, v1] S h n = mx_ex d 253 5 [l0, l1] [(3, 0), v0, v1] S h n) ∧
  (∀ (d : Nat) (x0 x1 x2 : Int) (l0 l1 : Option mx_V) (S h : mx_H) (n : Int), mx_ex (d + 1) 253 5 [l0, l1] [(3, x0), (0, x1), (0, x2)] S h n = mx_rt (mx_M d 256 [(0, x2), (0, x1), (3, x0)] S h n) (d + 1) 253 8 [l0, l1] []) ∧
  (∀ (d : Nat) (a : Int) (l0 l1 : Option mx_V) (S h : mx_H) (n : Int), mx_ex d 253 8 [l0, l1] [(0, a)] S h n = mx_ex d 253 9 [l0, l1] [] S h n) ∧
  (∀ (d : Nat) (l0 l1 : Option mx_V) (S h : mx_H) (n : Int), mx_ex d 253 9 [l0, l1] [] S h n = some (none, S, h, n)) :=
  ⟨by intros; exact rfl,
   by intros; exact eq_ld rfl rfl,
   by intros; exact eq_ld rfl rfl,
   by intros; exact eq_push rfl,
   by intros; exact eq_cs rfl (Nat.le_of_ble_eq_true rfl) rfl rfl rfl (Nat.le_of_ble_eq_true rfl),
   by intros; exact eq_pop rfl (by decide),
   by intros; exact eq_retv rfl⟩
theorem rw_J1_charAt_3b067 :
  (∀ (d : Nat) (a0 a1 : Int) (S h : mx_H) (n : Int), mx_M d 254 [(2, a0), (0, a1)] S h n = mx_ex d 254 0 [some (2, a0), some (0, a1)] [] S h n) ∧
  (∀ (d : Nat) (x : Int) (l0 : Option mx_V) (S h : mx_H) (n : Int), mx_ex d 254 0 [l0, some (0, x)] [] S h n = mx_ex d 254 1 [l0, some (0, x)] [(0, x)] S h n) ∧
  (∀ (d : Nat) (x : Int) (l1 : Option mx_V) (v0 : mx_V) (S h : mx_H) (n : Int), mx_ex d 254 1 [some (2, x), l1] [v0] S h n = mx_ex d 254 2 [some (2, x), l1] [(2, x), v0] S h n) ∧
  (∀ (d : Nat) (a : Int) (l0 l1 : Option mx_V) (v1 : mx_V) (S h : mx_H) (n : Int), mx_ex d 254 2 [l0, l1] [(2, a), v1] S h n = mx_gd (20 ≤ S a (-2) ∧ S a (-2) ≤ 25) d 254 3 [l0, l1] [(0, S a (-1)), v1] S h n) ∧
  (∀ (d : Nat) (x0 x1 : Int) (l0 l1 : Option mx_V) (S h : mx_H) (n : Int), mx_ex (d + 1) 254 3 [l0, l1] [(0, x0), (0, x1)] S h n = mx_rt (mx_M d 253 [(0, x1), (0, x0)] S h n) (d + 1) 254 6 [l0, l1] []) ∧
  (∀ (d : Nat) (x : Int) (l1 : Option mx_V) (S h : mx_H) (n : Int), mx_ex d 254 6 [some (2, x), l1] [] S h n = mx_ex d 254 7 [some (2, x), l1] [(2, x)] S h n) ∧
  (∀ (d : Nat) (x : Int) (l0 : Option mx_V) (v0 : mx_V) (S h : mx_H) (n : Int), mx_ex d 254 7 [l0, some (0, x)] [v0] S h n = mx_ex d 254 8 [l0, some (0, x)] [(0, x), v0] S h n) ∧
  (∀ (d : Nat) (i a : Int) (l0 l1 : Option mx_V) (S h : mx_H) (n : Int), mx_ex d 254 8 [l0, l1] [(0, i), (2, a)] S h n = mx_gd (S a (-2) = 25 ∧ 0 ≤ i ∧ i < S a (-1)) d 254 9 [l0, l1] [(0, h a i)] S h n) ∧
  (∀ (d : Nat) (l0 l1 : Option mx_V) (v0 : mx_V) (S h : mx_H) (n : Int), mx_ex d 254 9 [l0, l1] [v0] S h n = mx_ex d 254 12 [l0, l1] [(0, 255), v0] S h n) ∧
  (∀ (d : Nat) (b a : Int) (l0 l1 : Option mx_V) (S h : mx_H) (n : Int), mx_ex d 254 12 [l0, l1] [(0, b), (0, a)] S h n = mx_ex d 254 13 [l0, l1] [(0, mx_and a b)] S h n) ∧
  (∀ (d : Nat) (a : Int) (l0 l1 : Option mx_V) (S h : mx_H) (n : Int), mx_ex d 254 13 [l0, l1] [(0, a)] S h n = mx_ex d 254 14 [l0, l1] [(0, mx_i2c a)] S h n) ∧
  (∀ (d : Nat) (x : Int) (l0 l1 : Option mx_V) (S h : mx_H) (n : Int), mx_ex d 254 14 [l0, l1] [(0, x)] S h n = mx_re (0 ≤ x ∧ x ≤ 127) (some (0, x)) S h n) :=
  ⟨by intros; exact rfl,
   by intros; exact eq_ld rfl rfl,
   by intros; exact eq_ld rfl rfl,
   by intros; exact eq_alen rfl,
   by intros; exact eq_cs rfl (Nat.le_of_ble_eq_true rfl) rfl rfl rfl (Nat.le_of_ble_eq_true rfl),
   by intros; exact eq_ld rfl rfl,
   by intros; exact eq_ld rfl rfl,
   by intros; exact eq_bald rfl,
   by intros; exact eq_push rfl,
   by intros; exact eq_i2 (o := mx_and) rfl,
   by intros; exact eq_i1 (o1 := mx_i2c) rfl,
   by intros; exact eq_rr rfl⟩
theorem rh_J7_fill_53178_5 : ∀ (d : Nat) (x : Int) (l0 l1 l3 : Option mx_V) (S h : mx_H) (n : Int), mx_ex d 255 5 [l0, l1, some (0, x), l3] [] S h n = mx_ex d 255 6 [l0, l1, some (0, x), l3] [(0, x)] S h n := by intros; exact eq_ld rfl rfl
theorem rw_J7_fill_53178 :
  (∀ (d : Nat) (a0 a1 : Int) (S h : mx_H) (n : Int), mx_M d 255 [(2, a0), (0, a1)] S h n = mx_ex d 255 0 [some (2, a0), some (0, a1), none, none] [] S h n) ∧
  (∀ (d : Nat) (l0 l1 l2 l3 : Option mx_V) (S h : mx_H) (n : Int), mx_ex d 255 0 [l0, l1, l2, l3] [] S h n = mx_ex d 255 1 [l0, l1, l2, l3] [(0, 0)] S h n) ∧
  (∀ (d : Nat) (x : Int) (l0 l1 l2 l3 : Option mx_V) (S h : mx_H) (n : Int), mx_ex d 255 1 [l0, l1, l2, l3] [(0, x)] S h n = mx_ex d 255 2 [l0, mx_nl l1, some (0, x), l3] [] S h n) ∧
  (∀ (d : Nat) (x : Int) (l1 l2 l3 : Option mx_V) (S h : mx_H) (n : Int), mx_ex d 255 2 [some (2, x), l1, l2, l3] [] S h n = mx_ex d 255 3 [some (2, x), l1, l2, l3] [(2, x)] S h n) ∧
  (∀ (d : Nat) (a : Int) (l0 l1 l2 l3 : Option mx_V) (S h : mx_H) (n : Int), mx_ex d 255 3 [l0, l1, l2, l3] [(2, a)] S h n = mx_gd (20 ≤ S a (-2) ∧ S a (-2) ≤ 25) d 255 4 [l0, l1, l2, l3] [(0, S a (-1))] S h n) ∧
  (∀ (d : Nat) (x : Int) (l0 l1 l2 l3 : Option mx_V) (S h : mx_H) (n : Int), mx_ex d 255 4 [l0, l1, l2, l3] [(0, x)] S h n = mx_ex d 255 5 [l0, l1, mx_nl l2, some (0, x)] [] S h n) ∧
  (∀ (d : Nat) (x : Int) (l0 l1 l2 : Option mx_V) (v0 : mx_V) (S h : mx_H) (n : Int), mx_ex d 255 6 [l0, l1, l2, some (0, x)] [v0] S h n = mx_ex d 255 7 [l0, l1, l2, some (0, x)] [(0, x), v0] S h n) ∧
  (∀ (d : Nat) (b a : Int) (l0 l1 l2 l3 : Option mx_V) (S h : mx_H) (n : Int), mx_ex d 255 7 [l0, l1, l2, l3] [(0, b), (0, a)] S h n = mx_br (a < b) d 255 10 20 [l0, l1, l2, l3] [] S h n) ∧
  (∀ (d : Nat) (x : Int) (l1 l2 l3 : Option mx_V) (S h : mx_H) (n : Int), mx_ex d 255 10 [some (2, x), l1, l2, l3] [] S h n = mx_ex d 255 11 [some (2, x), l1, l2, l3] [(2, x)] S h n) ∧
  (∀ (d : Nat) (x : Int) (l0 l1 l3 : Option mx_V) (v0 : mx_V) (S h : mx_H) (n : Int), mx_ex d 255 11 [l0, l1, some (0, x), l3] [v0] S h n = mx_ex d 255 12 [l0, l1, some (0, x), l3] [(0, x), v0] S h n) ∧
  (∀ (d : Nat) (x : Int) (l0 l2 l3 : Option mx_V) (v0 v1 : mx_V) (S h : mx_H) (n : Int), mx_ex d 255 12 [l0, some (0, x), l2, l3] [v0, v1] S h n = mx_ex d 255 13 [l0, some (0, x), l2, l3] [(0, x), v0, v1] S h n) ∧
  (∀ (d : Nat) (v i a : Int) (l0 l1 l2 l3 : Option mx_V) (S h : mx_H) (n : Int), mx_ex d 255 13 [l0, l1, l2, l3] [(0, v), (0, i), (2, a)] S h n = mx_gd (S a (-2) = 20 ∧ 0 ≤ i ∧ i < S a (-1)) d 255 14 [l0, l1, l2, l3] [] S (mx_u h a i v) n) ∧
  (∀ (d : Nat) (x : Int) (l0 l1 l3 : Option mx_V) (S h : mx_H) (n : Int), mx_ex d 255 14 [l0, l1, some (0, x), l3] [] S h n = mx_ex d 255 17 [l0, mx_nl l1, some (0, mx_w (x + 1)), l3] [] S h n) ∧
  (∀ (d : Nat) (l0 l1 l2 l3 : Option mx_V) (S h : mx_H) (n : Int), mx_ex d 255 17 [l0, l1, l2, l3] [] S h n = mx_ex d 255 5 [l0, l1, l2, l3] [] S h n) ∧
  (∀ (d : Nat) (l0 l1 l2 l3 : Option mx_V) (S h : mx_H) (n : Int), mx_ex d 255 20 [l0, l1, l2, l3] [] S h n = some (none, S, h, n)) :=
  ⟨by intros; exact rfl,
   by intros; exact eq_push rfl,
   by intros; exact eq_st rfl (by decide) (Nat.le_of_ble_eq_true rfl) rfl,
   by intros; exact eq_ld rfl rfl,
   by intros; exact eq_alen rfl,
   by intros; exact eq_st rfl (by decide) (Nat.le_of_ble_eq_true rfl) rfl,
   by intros; exact eq_ld rfl rfl,
   by intros; exact eq_ic3 rfl,
   by intros; exact eq_ld rfl rfl,
   by intros; exact eq_ld rfl rfl,
   by intros; exact eq_ld rfl rfl,
   by intros; exact eq_iast rfl,
   by intros; exact eq_inc rfl rfl rfl,
   by intros; exact eq_go rfl,
   by intros; exact eq_retv rfl⟩
theorem rw_J3_checkIndex_8e157 :
  (∀ (d : Nat) (a0 a1 a2 : Int) (S h : mx_H) (n : Int), mx_M d 256 [(0, a0), (0, a1), (3, a2)] S h n = mx_ex d 256 0 [some (0, a0), some (0, a1), some (3, a2)] [] S h n) ∧
  (∀ (d : Nat) (x : Int) (l1 l2 : Option mx_V) (S h : mx_H) (n : Int), mx_ex d 256 0 [some (0, x), l1, l2] [] S h n = mx_ex d 256 1 [some (0, x), l1, l2] [(0, x)] S h n) ∧
  (∀ (d : Nat) (a : Int) (l0 l1 l2 : Option mx_V) (S h : mx_H) (n : Int), mx_ex d 256 1 [l0, l1, l2] [(0, a)] S h n = mx_br (a < 0) d 256 9 4 [l0, l1, l2] [] S h n) ∧
  (∀ (d : Nat) (x : Int) (l1 l2 : Option mx_V) (S h : mx_H) (n : Int), mx_ex d 256 4 [some (0, x), l1, l2] [] S h n = mx_ex d 256 5 [some (0, x), l1, l2] [(0, x)] S h n) ∧
  (∀ (d : Nat) (x : Int) (l0 l2 : Option mx_V) (v0 : mx_V) (S h : mx_H) (n : Int), mx_ex d 256 5 [l0, some (0, x), l2] [v0] S h n = mx_ex d 256 6 [l0, some (0, x), l2] [(0, x), v0] S h n) ∧
  (∀ (d : Nat) (b a : Int) (l0 l1 l2 : Option mx_V) (S h : mx_H) (n : Int), mx_ex d 256 6 [l0, l1, l2] [(0, b), (0, a)] S h n = mx_br (a < b) d 256 16 9 [l0, l1, l2] [] S h n) ∧
  (∀ (d : Nat) (x : Int) (l0 l1 : Option mx_V) (S h : mx_H) (n : Int), mx_ex d 256 9 [l0, l1, some (2, x)] [] S h n = mx_ex d 256 10 [l0, l1, some (2, x)] [(2, x)] S h n) ∧
  (∀ (d : Nat) (x : Int) (l1 l2 : Option mx_V) (v0 : mx_V) (S h : mx_H) (n : Int), mx_ex d 256 10 [some (0, x), l1, l2] [v0] S h n = mx_ex d 256 11 [some (0, x), l1, l2] [(0, x), v0] S h n) ∧
  (∀ (d : Nat) (x : Int) (l0 l2 : Option mx_V) (v0 v1 : mx_V) (S h : mx_H) (n : Int), mx_ex d 256 11 [l0, some (0, x), l2] [v0, v1] S h n = mx_ex d 256 12 [l0, some (0, x), l2] [(0, x), v0, v1] S h n) ∧
  (∀ (d : Nat) (x : Int) (l1 l2 : Option mx_V) (S h : mx_H) (n : Int), mx_ex d 256 16 [some (0, x), l1, l2] [] S h n = mx_ex d 256 17 [some (0, x), l1, l2] [(0, x)] S h n) ∧
  (∀ (d : Nat) (x : Int) (l0 l1 l2 : Option mx_V) (S h : mx_H) (n : Int), mx_ex d 256 17 [l0, l1, l2] [(0, x)] S h n = some (some (0, x), S, h, n)) :=
  ⟨by intros; exact rfl,
   by intros; exact eq_ld rfl rfl,
   by intros; exact eq_if2 rfl,
   by intros; exact eq_ld rfl rfl,
   by intros; exact eq_ld rfl rfl,
   by intros; exact eq_ic2 rfl,
   by intros; exact eq_ld rfl rfl,
   by intros; exact eq_ld rfl rfl,
   by intros; exact eq_ld rfl rfl,
   by intros; exact eq_ld rfl rfl,
   by intros; exact eq_ret rfl⟩
