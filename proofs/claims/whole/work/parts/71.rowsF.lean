/-! PRINTED (gen_rows.py): a row an instruction -/
theorem rw_X2_init :
  (∀ (d : Nat) (a0 : Int) (S h : mx_H) (n : Int), mx_M d 12 [(2, a0)] S h n = mx_ex d 12 0 [some (2, a0)] [] S h n) ∧
  (∀ (d : Nat) (x : Int) (S h : mx_H) (n : Int), mx_ex d 12 0 [some (2, x)] [] S h n = mx_ex d 12 1 [some (2, x)] [(2, x)] S h n) ∧
  (∀ (d : Nat) (a : Int) (l0 : Option mx_V) (S h : mx_H) (n : Int), mx_ex d 12 1 [l0] [(2, a)] S h n = mx_gd (0 ≤ a) d 12 4 [l0] [] S h n) ∧
  (∀ (d : Nat) (x : Int) (S h : mx_H) (n : Int), mx_ex d 12 4 [some (2, x)] [] S h n = mx_ex d 12 5 [some (2, x)] [(2, x)] S h n) ∧
  (∀ (d : Nat) (l0 : Option mx_V) (v0 : mx_V) (S h : mx_H) (n : Int), mx_ex d 12 5 [l0] [v0] S h n = mx_ex d 12 8 [l0] [(2, n), v0] (mx_t S n 8 0) (mx_z h n) (n + 1)) ∧
  (∀ (d : Nat) (a : Int) (l0 : Option mx_V) (v1 : mx_V) (S h : mx_H) (n : Int), mx_ex d 12 8 [l0] [(2, a), v1] S h n = mx_ex d 12 9 [l0] [(2, a), (2, a), v1] S h n) ∧
  (∀ (d : Nat) (a : Int) (l0 : Option mx_V) (v1 v2 : mx_V) (S h : mx_H) (n : Int), mx_ex (d + 1) 12 9 [l0] [(2, a), v1, v2] S h n = mx_cl (8 ≤ S a (-2) ∧ S a (-2) ≤ 8) d 84 [(2, a)] 12 12 [l0] [v1, v2] S h n) ∧
  (∀ (d : Nat) (v a : Int) (l0 : Option mx_V) (S h : mx_H) (n : Int), mx_ex d 12 12 [l0] [(2, v), (2, a)] S h n = mx_gd (9 ≤ S a (-2) ∧ S a (-2) ≤ 9) d 12 15 [l0] [] (mx_u S a 0 v) h n) ∧
  (∀ (d : Nat) (x : Int) (S h : mx_H) (n : Int), mx_ex d 12 15 [some (2, x)] [] S h n = mx_ex d 12 16 [some (2, x)] [(2, x)] S h n) ∧
  (∀ (d : Nat) (l0 : Option mx_V) (v0 : mx_V) (S h : mx_H) (n : Int), mx_ex d 12 16 [l0] [v0] S h n = mx_ex d 12 17 [l0] [(0, 3), v0] S h n) ∧
  (∀ (d : Nat) (x : Int) (l0 : Option mx_V) (v1 : mx_V) (S h : mx_H) (n : Int), mx_ex d 12 17 [l0] [(0, x), v1] S h n = mx_gd (0 ≤ x ∧ x ≤ 300) d 12 19 [l0] [(2, n), v1] (mx_t S n 20 x) (mx_z h n) (n + 1)) ∧
  (∀ (d : Nat) (v a : Int) (l0 : Option mx_V) (S h : mx_H) (n : Int), mx_ex d 12 19 [l0] [(2, v), (2, a)] S h n = mx_gd (9 ≤ S a (-2) ∧ S a (-2) ≤ 9) d 12 22 [l0] [] (mx_u S a 1 v) h n) ∧
  (∀ (d : Nat) (x : Int) (S h : mx_H) (n : Int), mx_ex d 12 22 [some (2, x)] [] S h n = mx_ex d 12 23 [some (2, x)] [(2, x)] S h n) ∧
  (∀ (d : Nat) (l0 : Option mx_V) (v0 : mx_V) (S h : mx_H) (n : Int), mx_ex d 12 23 [l0] [v0] S h n = mx_ex d 12 24 [l0] [(0, 0), v0] S h n) ∧
  (∀ (d : Nat) (v a : Int) (l0 : Option mx_V) (S h : mx_H) (n : Int), mx_ex d 12 24 [l0] [(0, v), (2, a)] S h n = mx_gd (9 ≤ S a (-2) ∧ S a (-2) ≤ 9) d 12 27 [l0] [] S (mx_u h a 2 v) n) ∧
  (∀ (d : Nat) (x : Int) (S h : mx_H) (n : Int), mx_ex d 12 27 [some (2, x)] [] S h n = mx_ex d 12 28 [some (2, x)] [(2, x)] S h n) ∧
  (∀ (d : Nat) (l0 : Option mx_V) (v0 : mx_V) (S h : mx_H) (n : Int), mx_ex d 12 28 [l0] [v0] S h n = mx_ex d 12 29 [l0] [(0, 0), v0] S h n) ∧
  (∀ (d : Nat) (v a : Int) (l0 : Option mx_V) (S h : mx_H) (n : Int), mx_ex d 12 29 [l0] [(0, v), (2, a)] S h n = mx_gd (9 ≤ S a (-2) ∧ S a (-2) ≤ 9) d 12 32 [l0] [] S (mx_u h a 3 v) n) ∧
  (∀ (d : Nat) (x : Int) (S h : mx_H) (n : Int), mx_ex d 12 32 [some (2, x)] [] S h n = mx_ex d 12 33 [some (2, x)] [(2, x)] S h n) ∧
  (∀ (d : Nat) (l0 : Option mx_V) (v0 : mx_V) (S h : mx_H) (n : Int), mx_ex d 12 33 [l0] [v0] S h n = mx_ex d 12 34 [l0] [(0, 0), v0] S h n) ∧
  (∀ (d : Nat) (v a : Int) (l0 : Option mx_V) (S h : mx_H) (n : Int), mx_ex d 12 34 [l0] [(0, v), (2, a)] S h n = mx_gd (9 ≤ S a (-2) ∧ S a (-2) ≤ 9) d 12 37 [l0] [] S (mx_u h a 4 v) n) ∧
  (∀ (d : Nat) (x : Int) (S h : mx_H) (n : Int), mx_ex d 12 37 [some (2, x)] [] S h n = mx_ex d 12 38 [some (2, x)] [(2, x)] S h n) ∧
  (∀ (d : Nat) (l0 : Option mx_V) (v0 : mx_V) (S h : mx_H) (n : Int), mx_ex d 12 38 [l0] [v0] S h n = mx_ex d 12 40 [l0] [(0, 6), v0] S h n) ∧
  (∀ (d : Nat) (x : Int) (l0 : Option mx_V) (v1 : mx_V) (S h : mx_H) (n : Int), mx_ex d 12 40 [l0] [(0, x), v1] S h n = mx_gd (0 ≤ x ∧ x ≤ 300) d 12 42 [l0] [(2, n), v1] (mx_t S n 20 x) (mx_z h n) (n + 1)) ∧
  (∀ (d : Nat) (v a : Int) (l0 : Option mx_V) (S h : mx_H) (n : Int), mx_ex d 12 42 [l0] [(2, v), (2, a)] S h n = mx_gd (9 ≤ S a (-2) ∧ S a (-2) ≤ 9) d 12 45 [l0] [] (mx_u S a 5 v) h n) ∧
  (∀ (d : Nat) (x : Int) (S h : mx_H) (n : Int), mx_ex d 12 45 [some (2, x)] [] S h n = mx_ex d 12 46 [some (2, x)] [(2, x)] S h n) ∧
  (∀ (d : Nat) (l0 : Option mx_V) (v0 : mx_V) (S h : mx_H) (n : Int), mx_ex d 12 46 [l0] [v0] S h n = mx_ex d 12 48 [l0] [(0, 6), v0] S h n) ∧
  (∀ (d : Nat) (x : Int) (l0 : Option mx_V) (v1 : mx_V) (S h : mx_H) (n : Int), mx_ex d 12 48 [l0] [(0, x), v1] S h n = mx_gd (0 ≤ x ∧ x ≤ 300) d 12 50 [l0] [(2, n), v1] (mx_t S n 20 x) (mx_z h n) (n + 1)) ∧
  (∀ (d : Nat) (v a : Int) (l0 : Option mx_V) (S h : mx_H) (n : Int), mx_ex d 12 50 [l0] [(2, v), (2, a)] S h n = mx_gd (9 ≤ S a (-2) ∧ S a (-2) ≤ 9) d 12 53 [l0] [] (mx_u S a 6 v) h n) ∧
  (∀ (d : Nat) (x : Int) (S h : mx_H) (n : Int), mx_ex d 12 53 [some (2, x)] [] S h n = mx_ex d 12 54 [some (2, x)] [(2, x)] S h n) ∧
  (∀ (d : Nat) (l0 : Option mx_V) (v0 : mx_V) (S h : mx_H) (n : Int), mx_ex d 12 54 [l0] [v0] S h n = mx_ex d 12 56 [l0] [(0, 102), v0] S h n) ∧
  (∀ (d : Nat) (x : Int) (l0 : Option mx_V) (v1 : mx_V) (S h : mx_H) (n : Int), mx_ex d 12 56 [l0] [(0, x), v1] S h n = mx_gd (0 ≤ x ∧ x ≤ 300) d 12 58 [l0] [(2, n), v1] (mx_t S n 20 x) (mx_z h n) (n + 1)) ∧
  (∀ (d : Nat) (v a : Int) (l0 : Option mx_V) (S h : mx_H) (n : Int), mx_ex d 12 58 [l0] [(2, v), (2, a)] S h n = mx_gd (9 ≤ S a (-2) ∧ S a (-2) ≤ 9) d 12 61 [l0] [] (mx_u S a 7 v) h n) ∧
  (∀ (d : Nat) (x : Int) (S h : mx_H) (n : Int), mx_ex d 12 61 [some (2, x)] [] S h n = mx_ex d 12 62 [some (2, x)] [(2, x)] S h n) ∧
  (∀ (d : Nat) (l0 : Option mx_V) (v0 : mx_V) (S h : mx_H) (n : Int), mx_ex d 12 62 [l0] [v0] S h n = mx_ex d 12 64 [l0] [(0, 6), v0] S h n) ∧
  (∀ (d : Nat) (x : Int) (l0 : Option mx_V) (v1 : mx_V) (S h : mx_H) (n : Int), mx_ex d 12 64 [l0] [(0, x), v1] S h n = mx_gd (0 ≤ x ∧ x ≤ 300) d 12 66 [l0] [(2, n), v1] (mx_t S n 20 x) (mx_z h n) (n + 1)) ∧
  (∀ (d : Nat) (v a : Int) (l0 : Option mx_V) (S h : mx_H) (n : Int), mx_ex d 12 66 [l0] [(2, v), (2, a)] S h n = mx_gd (9 ≤ S a (-2) ∧ S a (-2) ≤ 9) d 12 69 [l0] [] (mx_u S a 8 v) h n) ∧
  (∀ (d : Nat) (x : Int) (S h : mx_H) (n : Int), mx_ex d 12 69 [some (2, x)] [] S h n = mx_ex d 12 70 [some (2, x)] [(2, x)] S h n) ∧
  (∀ (d : Nat) (l0 : Option mx_V) (v0 : mx_V) (S h : mx_H) (n : Int), mx_ex d 12 70 [l0] [v0] S h n = mx_ex d 12 72 [l0] [(0, 54), v0] S h n) ∧
  (∀ (d : Nat) (x : Int) (l0 : Option mx_V) (v1 : mx_V) (S h : mx_H) (n : Int), mx_ex d 12 72 [l0] [(0, x), v1] S h n = mx_gd (0 ≤ x ∧ x ≤ 300) d 12 74 [l0] [(2, n), v1] (mx_t S n 20 x) (mx_z h n) (n + 1)) ∧
  (∀ (d : Nat) (v a : Int) (l0 : Option mx_V) (S h : mx_H) (n : Int), mx_ex d 12 74 [l0] [(2, v), (2, a)] S h n = mx_gd (9 ≤ S a (-2) ∧ S a (-2) ≤ 9) d 12 77 [l0] [] (mx_u S a 9 v) h n) ∧
  (∀ (d : Nat) (x : Int) (S h : mx_H) (n : Int), mx_ex d 12 77 [some (2, x)] [] S h n = mx_ex d 12 78 [some (2, x)] [(2, x)] S h n) ∧
  (∀ (d : Nat) (l0 : Option mx_V) (v0 : mx_V) (S h : mx_H) (n : Int), mx_ex d 12 78 [l0] [v0] S h n = mx_ex d 12 80 [l0] [(0, 54), v0] S h n) ∧
  (∀ (d : Nat) (x : Int) (l0 : Option mx_V) (v1 : mx_V) (S h : mx_H) (n : Int), mx_ex d 12 80 [l0] [(0, x), v1] S h n = mx_gd (0 ≤ x ∧ x ≤ 300) d 12 82 [l0] [(2, n), v1] (mx_t S n 20 x) (mx_z h n) (n + 1)) ∧
  (∀ (d : Nat) (v a : Int) (l0 : Option mx_V) (S h : mx_H) (n : Int), mx_ex d 12 82 [l0] [(2, v), (2, a)] S h n = mx_gd (9 ≤ S a (-2) ∧ S a (-2) ≤ 9) d 12 85 [l0] [] (mx_u S a 10 v) h n) ∧
  (∀ (d : Nat) (x : Int) (S h : mx_H) (n : Int), mx_ex d 12 85 [some (2, x)] [] S h n = mx_ex d 12 86 [some (2, x)] [(2, x)] S h n) ∧
  (∀ (d : Nat) (l0 : Option mx_V) (v0 : mx_V) (S h : mx_H) (n : Int), mx_ex d 12 86 [l0] [v0] S h n = mx_ex d 12 89 [l0] [(0, 289), v0] S h n) ∧
  (∀ (d : Nat) (x : Int) (l0 : Option mx_V) (v1 : mx_V) (S h : mx_H) (n : Int), mx_ex d 12 89 [l0] [(0, x), v1] S h n = mx_gd (0 ≤ x ∧ x ≤ 300) d 12 91 [l0] [(2, n), v1] (mx_t S n 20 x) (mx_z h n) (n + 1)) ∧
  (∀ (d : Nat) (v a : Int) (l0 : Option mx_V) (S h : mx_H) (n : Int), mx_ex d 12 91 [l0] [(2, v), (2, a)] S h n = mx_gd (9 ≤ S a (-2) ∧ S a (-2) ≤ 9) d 12 94 [l0] [] (mx_u S a 11 v) h n) ∧
  (∀ (d : Nat) (x : Int) (S h : mx_H) (n : Int), mx_ex d 12 94 [some (2, x)] [] S h n = mx_ex d 12 95 [some (2, x)] [(2, x)] S h n) ∧
  (∀ (d : Nat) (l0 : Option mx_V) (v0 : mx_V) (S h : mx_H) (n : Int), mx_ex d 12 95 [l0] [v0] S h n = mx_ex d 12 96 [l0] [(0, 3), v0] S h n) ∧
  (∀ (d : Nat) (x : Int) (l0 : Option mx_V) (v1 : mx_V) (S h : mx_H) (n : Int), mx_ex d 12 96 [l0] [(0, x), v1] S h n = mx_gd (0 ≤ x ∧ x ≤ 300) d 12 98 [l0] [(2, n), v1] (mx_t S n 20 x) (mx_z h n) (n + 1)) ∧
  (∀ (d : Nat) (v a : Int) (l0 : Option mx_V) (S h : mx_H) (n : Int), mx_ex d 12 98 [l0] [(2, v), (2, a)] S h n = mx_gd (9 ≤ S a (-2) ∧ S a (-2) ≤ 9) d 12 101 [l0] [] (mx_u S a 12 v) h n) ∧
  (∀ (d : Nat) (x : Int) (S h : mx_H) (n : Int), mx_ex d 12 101 [some (2, x)] [] S h n = mx_ex d 12 102 [some (2, x)] [(2, x)] S h n) ∧
  (∀ (d : Nat) (l0 : Option mx_V) (v0 : mx_V) (S h : mx_H) (n : Int), mx_ex d 12 102 [l0] [v0] S h n = mx_ex d 12 103 [l0] [(0, 0), v0] S h n) ∧
  (∀ (d : Nat) (v a : Int) (l0 : Option mx_V) (S h : mx_H) (n : Int), mx_ex d 12 103 [l0] [(0, v), (2, a)] S h n = mx_gd (9 ≤ S a (-2) ∧ S a (-2) ≤ 9) d 12 106 [l0] [] S (mx_u h a 13 v) n) ∧
  (∀ (d : Nat) (x : Int) (S h : mx_H) (n : Int), mx_ex d 12 106 [some (2, x)] [] S h n = mx_ex d 12 107 [some (2, x)] [(2, x)] S h n) ∧
  (∀ (d : Nat) (l0 : Option mx_V) (v0 : mx_V) (S h : mx_H) (n : Int), mx_ex d 12 107 [l0] [v0] S h n = mx_ex d 12 108 [l0] [(0, (-1)), v0] S h n) ∧
  (∀ (d : Nat) (v a : Int) (l0 : Option mx_V) (S h : mx_H) (n : Int), mx_ex d 12 108 [l0] [(0, v), (2, a)] S h n = mx_gd (9 ≤ S a (-2) ∧ S a (-2) ≤ 9) d 12 111 [l0] [] S (mx_u h a 14 v) n) ∧
  (∀ (d : Nat) (x : Int) (S h : mx_H) (n : Int), mx_ex d 12 111 [some (2, x)] [] S h n = mx_ex d 12 112 [some (2, x)] [(2, x)] S h n) ∧
  (∀ (d : Nat) (l0 : Option mx_V) (v0 : mx_V) (S h : mx_H) (n : Int), mx_ex d 12 112 [l0] [v0] S h n = mx_ex d 12 113 [l0] [(0, (-1)), v0] S h n) ∧
  (∀ (d : Nat) (v a : Int) (l0 : Option mx_V) (S h : mx_H) (n : Int), mx_ex d 12 113 [l0] [(0, v), (2, a)] S h n = mx_gd (9 ≤ S a (-2) ∧ S a (-2) ≤ 9) d 12 116 [l0] [] S (mx_u h a 15 v) n) ∧
  (∀ (d : Nat) (l0 : Option mx_V) (S h : mx_H) (n : Int), mx_ex d 12 116 [l0] [] S h n = some (none, S, h, n)) :=
  ⟨by intros; exact rfl,
   by intros; exact eq_ld rfl rfl,
   by intros; exact eq_oini rfl (Nat.le_of_ble_eq_true rfl),
   by intros; exact eq_ld rfl rfl,
   by intros; exact eq_new rfl,
   by intros; exact eq_dup rfl (by decide),
   by intros; exact eq_ci rfl (Nat.le_of_ble_eq_true rfl) rfl rfl rfl (Nat.le_of_ble_eq_true rfl),
   by intros; exact eq_pr rfl,
   by intros; exact eq_ld rfl rfl,
   by intros; exact eq_push rfl,
   by intros; exact eq_newa rfl,
   by intros; exact eq_pr rfl,
   by intros; exact eq_ld rfl rfl,
   by intros; exact eq_push rfl,
   by intros; exact eq_pi rfl,
   by intros; exact eq_ld rfl rfl,
   by intros; exact eq_push rfl,
   by intros; exact eq_pi rfl,
   by intros; exact eq_ld rfl rfl,
   by intros; exact eq_push rfl,
   by intros; exact eq_pi rfl,
   by intros; exact eq_ld rfl rfl,
   by intros; exact eq_push rfl,
   by intros; exact eq_newa rfl,
   by intros; exact eq_pr rfl,
   by intros; exact eq_ld rfl rfl,
   by intros; exact eq_push rfl,
   by intros; exact eq_newa rfl,
   by intros; exact eq_pr rfl,
   by intros; exact eq_ld rfl rfl,
   by intros; exact eq_push rfl,
   by intros; exact eq_newa rfl,
   by intros; exact eq_pr rfl,
   by intros; exact eq_ld rfl rfl,
   by intros; exact eq_push rfl,
   by intros; exact eq_newa rfl,
   by intros; exact eq_pr rfl,
   by intros; exact eq_ld rfl rfl,
   by intros; exact eq_push rfl,
   by intros; exact eq_newa rfl,
   by intros; exact eq_pr rfl,
   by intros; exact eq_ld rfl rfl,
   by intros; exact eq_push rfl,
   by intros; exact eq_newa rfl,
   by intros; exact eq_pr rfl,
   by intros; exact eq_ld rfl rfl,
   by intros; exact eq_push rfl,
   by intros; exact eq_newa rfl,
   by intros; exact eq_pr rfl,
   by intros; exact eq_ld rfl rfl,
   by intros; exact eq_push rfl,
   by intros; exact eq_newa rfl,
   by intros; exact eq_pr rfl,
   by intros; exact eq_ld rfl rfl,
   by intros; exact eq_push rfl,
   by intros; exact eq_pi rfl,
   by intros; exact eq_ld rfl rfl,
   by intros; exact eq_push rfl,
   by intros; exact eq_pi rfl,
   by intros; exact eq_ld rfl rfl,
   by intros; exact eq_push rfl,
   by intros; exact eq_pi rfl,
   by intros; exact eq_retv rfl⟩
theorem rw_X2_howMany :
  (∀ (d : Nat) (a0 : Int) (S h : mx_H) (n : Int), mx_M d 13 [(2, a0)] S h n = mx_ex d 13 0 [some (2, a0)] [] S h n) ∧
  (∀ (d : Nat) (x : Int) (S h : mx_H) (n : Int), mx_ex d 13 0 [some (2, x)] [] S h n = mx_ex d 13 1 [some (2, x)] [(2, x)] S h n) ∧
  (∀ (d : Nat) (a : Int) (l0 : Option mx_V) (S h : mx_H) (n : Int), mx_ex (d + 1) 13 1 [l0] [(2, a)] S h n = mx_cl (S a (-2) = 9) d 22 [(2, a)] 13 4 [l0] [] S h n) ∧
  (∀ (d : Nat) (x : Int) (S h : mx_H) (n : Int), mx_ex d 13 4 [some (2, x)] [] S h n = mx_ex d 13 5 [some (2, x)] [(2, x)] S h n) ∧
  (∀ (d : Nat) (a : Int) (l0 : Option mx_V) (S h : mx_H) (n : Int), mx_ex d 13 5 [l0] [(2, a)] S h n = mx_gd (9 ≤ S a (-2) ∧ S a (-2) ≤ 9) d 13 8 [l0] [(0, h a 13)] S h n) ∧
  (∀ (d : Nat) (x : Int) (l0 : Option mx_V) (S h : mx_H) (n : Int), mx_ex d 13 8 [l0] [(0, x)] S h n = some (some (0, x), S, h, n)) :=
  ⟨by intros; exact rfl,
   by intros; exact eq_ld rfl rfl,
   by intros; exact eq_cv rfl (Nat.le_of_ble_eq_true rfl) rfl rfl rfl (Nat.le_of_ble_eq_true rfl),
   by intros; exact eq_ld rfl rfl,
   by intros; exact eq_gi rfl,
   by intros; exact eq_ret rfl⟩
theorem rw_X2_basesSeen :
  (∀ (d : Nat) (a0 a1 : Int) (S h : mx_H) (n : Int), mx_M d 14 [(2, a0), (0, a1)] S h n = mx_ex d 14 0 [some (2, a0), some (0, a1)] [] S h n) ∧
  (∀ (d : Nat) (x : Int) (l1 : Option mx_V) (S h : mx_H) (n : Int), mx_ex d 14 0 [some (2, x), l1] [] S h n = mx_ex d 14 1 [some (2, x), l1] [(2, x)] S h n) ∧
  (∀ (d : Nat) (a : Int) (l0 l1 : Option mx_V) (S h : mx_H) (n : Int), mx_ex (d + 1) 14 1 [l0, l1] [(2, a)] S h n = mx_cl (S a (-2) = 9) d 22 [(2, a)] 14 4 [l0, l1] [] S h n) ∧
  (∀ (d : Nat) (x : Int) (l1 : Option mx_V) (S h : mx_H) (n : Int), mx_ex d 14 4 [some (2, x), l1] [] S h n = mx_ex d 14 5 [some (2, x), l1] [(2, x)] S h n) ∧
  (∀ (d : Nat) (a : Int) (l0 l1 : Option mx_V) (S h : mx_H) (n : Int), mx_ex d 14 5 [l0, l1] [(2, a)] S h n = mx_gd (9 ≤ S a (-2) ∧ S a (-2) ≤ 9) d 14 8 [l0, l1] [(2, S a 12)] S h n) ∧
  (∀ (d : Nat) (x : Int) (l0 : Option mx_V) (v0 : mx_V) (S h : mx_H) (n : Int), mx_ex d 14 8 [l0, some (0, x)] [v0] S h n = mx_ex d 14 9 [l0, some (0, x)] [(0, x), v0] S h n) ∧
  (∀ (d : Nat) (i a : Int) (l0 l1 : Option mx_V) (S h : mx_H) (n : Int), mx_ex d 14 9 [l0, l1] [(0, i), (2, a)] S h n = mx_gd ((S a (-2) = 20 ∨ S a (-2) = 24) ∧ 0 ≤ i ∧ i < S a (-1)) d 14 10 [l0, l1] [(0, h a i)] S h n) ∧
  (∀ (d : Nat) (x : Int) (l0 l1 : Option mx_V) (S h : mx_H) (n : Int), mx_ex d 14 10 [l0, l1] [(0, x)] S h n = some (some (0, x), S, h, n)) :=
  ⟨by intros; exact rfl,
   by intros; exact eq_ld rfl rfl,
   by intros; exact eq_cv rfl (Nat.le_of_ble_eq_true rfl) rfl rfl rfl (Nat.le_of_ble_eq_true rfl),
   by intros; exact eq_ld rfl rfl,
   by intros; exact eq_gr rfl,
   by intros; exact eq_ld rfl rfl,
   by intros; exact eq_iald rfl,
   by intros; exact eq_ret rfl⟩
theorem rh_X2_goTo_22 : ∀ (d : Nat) (x : Int) (l0 l1 l2 l4 : Option mx_V) (S h : mx_H) (n : Int), mx_ex d 15 22 [l0, l1, l2, some (0, x), l4] [] S h n = mx_ex d 15 23 [l0, l1, l2, some (0, x), l4] [(0, x)] S h n := by intros; exact eq_ld rfl rfl
theorem rw_X2_goTo :
  (∀ (d : Nat) (a0 a1 : Int) (S h : mx_H) (n : Int), mx_M d 15 [(2, a0), (0, a1)] S h n = mx_ex d 15 0 [some (2, a0), some (0, a1), none, none, none] [] S h n) ∧
  (∀ (d : Nat) (x : Int) (l1 l2 l3 l4 : Option mx_V) (S h : mx_H) (n : Int), mx_ex d 15 0 [some (2, x), l1, l2, l3, l4] [] S h n = mx_ex d 15 1 [some (2, x), l1, l2, l3, l4] [(2, x)] S h n) ∧
  (∀ (d : Nat) (a : Int) (l0 l1 l2 l3 l4 : Option mx_V) (S h : mx_H) (n : Int), mx_ex (d + 1) 15 1 [l0, l1, l2, l3, l4] [(2, a)] S h n = mx_cl (S a (-2) = 9) d 22 [(2, a)] 15 4 [l0, l1, l2, l3, l4] [] S h n) ∧
  (∀ (d : Nat) (x : Int) (l0 l2 l3 l4 : Option mx_V) (S h : mx_H) (n : Int), mx_ex d 15 4 [l0, some (0, x), l2, l3, l4] [] S h n = mx_ex d 15 5 [l0, some (0, x), l2, l3, l4] [(0, x)] S h n) ∧
  (∀ (d : Nat) (a : Int) (l0 l1 l2 l3 l4 : Option mx_V) (S h : mx_H) (n : Int), mx_ex d 15 5 [l0, l1, l2, l3, l4] [(0, a)] S h n = mx_br (a < 0) d 15 16 8 [l0, l1, l2, l3, l4] [] S h n) ∧
  (∀ (d : Nat) (x : Int) (l0 l2 l3 l4 : Option mx_V) (S h : mx_H) (n : Int), mx_ex d 15 8 [l0, some (0, x), l2, l3, l4] [] S h n = mx_ex d 15 9 [l0, some (0, x), l2, l3, l4] [(0, x)] S h n) ∧
  (∀ (d : Nat) (x : Int) (l1 l2 l3 l4 : Option mx_V) (v0 : mx_V) (S h : mx_H) (n : Int), mx_ex d 15 9 [some (2, x), l1, l2, l3, l4] [v0] S h n = mx_ex d 15 10 [some (2, x), l1, l2, l3, l4] [(2, x), v0] S h n) ∧
  (∀ (d : Nat) (a : Int) (l0 l1 l2 l3 l4 : Option mx_V) (v1 : mx_V) (S h : mx_H) (n : Int), mx_ex d 15 10 [l0, l1, l2, l3, l4] [(2, a), v1] S h n = mx_gd (9 ≤ S a (-2) ∧ S a (-2) ≤ 9) d 15 13 [l0, l1, l2, l3, l4] [(0, h a 13), v1] S h n) ∧
  (∀ (d : Nat) (b a : Int) (l0 l1 l2 l3 l4 : Option mx_V) (S h : mx_H) (n : Int), mx_ex d 15 13 [l0, l1, l2, l3, l4] [(0, b), (0, a)] S h n = mx_br (a < b) d 15 18 16 [l0, l1, l2, l3, l4] [] S h n) ∧
  (∀ (d : Nat) (l0 l1 l2 l3 l4 : Option mx_V) (S h : mx_H) (n : Int), mx_ex d 15 16 [l0, l1, l2, l3, l4] [] S h n = mx_ex d 15 17 [l0, l1, l2, l3, l4] [(0, 0)] S h n) ∧
  (∀ (d : Nat) (x : Int) (l0 l1 l2 l3 l4 : Option mx_V) (S h : mx_H) (n : Int), mx_ex d 15 17 [l0, l1, l2, l3, l4] [(0, x)] S h n = mx_re (0 ≤ x ∧ x ≤ 1) (some (0, x)) S h n) ∧
  (∀ (d : Nat) (x : Int) (l0 l2 l3 l4 : Option mx_V) (S h : mx_H) (n : Int), mx_ex d 15 18 [l0, some (0, x), l2, l3, l4] [] S h n = mx_ex d 15 19 [l0, some (0, x), l2, l3, l4] [(0, x)] S h n) ∧
  (∀ (d : Nat) (x : Int) (l0 l1 l2 l3 l4 : Option mx_V) (S h : mx_H) (n : Int), mx_ex d 15 19 [l0, l1, l2, l3, l4] [(0, x)] S h n = mx_ex d 15 20 [l0, mx_nl l1, some (0, x), l3, l4] [] S h n) ∧
  (∀ (d : Nat) (l0 l1 l2 l3 l4 : Option mx_V) (S h : mx_H) (n : Int), mx_ex d 15 20 [l0, l1, l2, l3, l4] [] S h n = mx_ex d 15 21 [l0, l1, l2, l3, l4] [(0, 0)] S h n) ∧
  (∀ (d : Nat) (x : Int) (l0 l1 l2 l3 l4 : Option mx_V) (S h : mx_H) (n : Int), mx_ex d 15 21 [l0, l1, l2, l3, l4] [(0, x)] S h n = mx_ex d 15 22 [l0, l1, mx_nl l2, some (0, x), l4] [] S h n) ∧
  (∀ (d : Nat) (x : Int) (l1 l2 l3 l4 : Option mx_V) (v0 : mx_V) (S h : mx_H) (n : Int), mx_ex d 15 23 [some (2, x), l1, l2, l3, l4] [v0] S h n = mx_ex d 15 24 [some (2, x), l1, l2, l3, l4] [(2, x), v0] S h n) ∧
  (∀ (d : Nat) (a : Int) (l0 l1 l2 l3 l4 : Option mx_V) (v1 : mx_V) (S h : mx_H) (n : Int), mx_ex d 15 24 [l0, l1, l2, l3, l4] [(2, a), v1] S h n = mx_gd (9 ≤ S a (-2) ∧ S a (-2) ≤ 9) d 15 27 [l0, l1, l2, l3, l4] [(2, S a 11), v1] S h n) ∧
  (∀ (d : Nat) (a : Int) (l0 l1 l2 l3 l4 : Option mx_V) (v1 : mx_V) (S h : mx_H) (n : Int), mx_ex d 15 27 [l0, l1, l2, l3, l4] [(2, a), v1] S h n = mx_gd (20 ≤ S a (-2) ∧ S a (-2) ≤ 25) d 15 28 [l0, l1, l2, l3, l4] [(0, S a (-1)), v1] S h n) ∧
  (∀ (d : Nat) (b a : Int) (l0 l1 l2 l3 l4 : Option mx_V) (S h : mx_H) (n : Int), mx_ex d 15 28 [l0, l1, l2, l3, l4] [(0, b), (0, a)] S h n = mx_br (a < b) d 15 31 97 [l0, l1, l2, l3, l4] [] S h n) ∧
  (∀ (d : Nat) (x : Int) (l1 l2 l3 l4 : Option mx_V) (S h : mx_H) (n : Int), mx_ex d 15 31 [some (2, x), l1, l2, l3, l4] [] S h n = mx_ex d 15 32 [some (2, x), l1, l2, l3, l4] [(2, x)] S h n) ∧
  (∀ (d : Nat) (a : Int) (l0 l1 l2 l3 l4 : Option mx_V) (S h : mx_H) (n : Int), mx_ex d 15 32 [l0, l1, l2, l3, l4] [(2, a)] S h n = mx_gd (9 ≤ S a (-2) ∧ S a (-2) ≤ 9) d 15 35 [l0, l1, l2, l3, l4] [(2, S a 11)] S h n) ∧
  (∀ (d : Nat) (x : Int) (l0 l1 l2 l4 : Option mx_V) (v0 : mx_V) (S h : mx_H) (n : Int), mx_ex d 15 35 [l0, l1, l2, some (0, x), l4] [v0] S h n = mx_ex d 15 36 [l0, l1, l2, some (0, x), l4] [(0, x), v0] S h n) ∧
  (∀ (d : Nat) (i a : Int) (l0 l1 l2 l3 l4 : Option mx_V) (S h : mx_H) (n : Int), mx_ex d 15 36 [l0, l1, l2, l3, l4] [(0, i), (2, a)] S h n = mx_gd ((S a (-2) = 20 ∨ S a (-2) = 24) ∧ 0 ≤ i ∧ i < S a (-1)) d 15 37 [l0, l1, l2, l3, l4] [(0, h a i)] S h n) ∧
  (∀ (d : Nat) (x0 : Int) (l0 l1 l2 l3 l4 : Option mx_V) (S h : mx_H) (n : Int), mx_ex (d + 1) 15 37 [l0, l1, l2, l3, l4] [(0, x0)] S h n = mx_rt (mx_M d 248 [(0, x0)] S h n) (d + 1) 15 40 [l0, l1, l2, l3, l4] []) ∧
  (∀ (d : Nat) (x : Int) (l0 l1 l2 l3 l4 : Option mx_V) (S h : mx_H) (n : Int), mx_ex d 15 40 [l0, l1, l2, l3, l4] [(0, x)] S h n = mx_ex d 15 42 [l0, l1, l2, mx_nl l3, some (0, x)] [] S h n) ∧
  (∀ (d : Nat) (x : Int) (l0 l1 l3 l4 : Option mx_V) (S h : mx_H) (n : Int), mx_ex d 15 42 [l0, l1, some (0, x), l3, l4] [] S h n = mx_ex d 15 43 [l0, l1, some (0, x), l3, l4] [(0, x)] S h n) ∧
  (∀ (d : Nat) (x : Int) (l0 l1 l2 l3 : Option mx_V) (v0 : mx_V) (S h : mx_H) (n : Int), mx_ex d 15 43 [l0, l1, l2, l3, some (0, x)] [v0] S h n = mx_ex d 15 45 [l0, l1, l2, l3, some (0, x)] [(0, x), v0] S h n) ∧
  (∀ (d : Nat) (b a : Int) (l0 l1 l2 l3 l4 : Option mx_V) (S h : mx_H) (n : Int), mx_ex d 15 45 [l0, l1, l2, l3, l4] [(0, b), (0, a)] S h n = mx_br (a < b) d 15 48 86 [l0, l1, l2, l3, l4] [] S h n) ∧
  (∀ (d : Nat) (x : Int) (l1 l2 l3 l4 : Option mx_V) (S h : mx_H) (n : Int), mx_ex d 15 48 [some (2, x), l1, l2, l3, l4] [] S h n = mx_ex d 15 49 [some (2, x), l1, l2, l3, l4] [(2, x)] S h n) ∧
  (∀ (d : Nat) (a : Int) (l0 l1 l2 l3 l4 : Option mx_V) (S h : mx_H) (n : Int), mx_ex d 15 49 [l0, l1, l2, l3, l4] [(2, a)] S h n = mx_gd (9 ≤ S a (-2) ∧ S a (-2) ≤ 9) d 15 52 [l0, l1, l2, l3, l4] [(2, S a 1)] S h n) ∧
  (∀ (d : Nat) (l0 l1 l2 l3 l4 : Option mx_V) (v0 : mx_V) (S h : mx_H) (n : Int), mx_ex d 15 52 [l0, l1, l2, l3, l4] [v0] S h n = mx_ex d 15 53 [l0, l1, l2, l3, l4] [(0, 0), v0] S h n) ∧
  (∀ (d : Nat) (x : Int) (l0 l1 l2 l4 : Option mx_V) (v0 v1 : mx_V) (S h : mx_H) (n : Int), mx_ex d 15 53 [l0, l1, l2, some (0, x), l4] [v0, v1] S h n = mx_ex d 15 54 [l0, l1, l2, some (0, x), l4] [(0, x), v0, v1] S h n) ∧
  (∀ (d : Nat) (l0 l1 l2 l3 l4 : Option mx_V) (v0 v1 v2 : mx_V) (S h : mx_H) (n : Int), mx_ex d 15 54 [l0, l1, l2, l3, l4] [v0, v1, v2] S h n = mx_ex d 15 56 [l0, l1, l2, l3, l4] [(0, 17), v0, v1, v2] S h n) ∧
  (∀ (d : Nat) (b a : Int) (l0 l1 l2 l3 l4 : Option mx_V) (v2 v3 : mx_V) (S h : mx_H) (n : Int), mx_ex d 15 56 [l0, l1, l2, l3, l4] [(0, b), (0, a), v2, v3] S h n = mx_gd (¬ b = 0) d 15 57 [l0, l1, l2, l3, l4] [(0, mx_w (Int.tdiv a b)), v2, v3] S h n) ∧
  (∀ (d : Nat) (v i a : Int) (l0 l1 l2 l3 l4 : Option mx_V) (S h : mx_H) (n : Int), mx_ex d 15 57 [l0, l1, l2, l3, l4] [(0, v), (0, i), (2, a)] S h n = mx_gd (S a (-2) = 20 ∧ 0 ≤ i ∧ i < S a (-1)) d 15 58 [l0, l1, l2, l3, l4] [] S (mx_u h a i v) n) ∧
  (∀ (d : Nat) (x : Int) (l1 l2 l3 l4 : Option mx_V) (S h : mx_H) (n : Int), mx_ex d 15 58 [some (2, x), l1, l2, l3, l4] [] S h n = mx_ex d 15 59 [some (2, x), l1, l2, l3, l4] [(2, x)] S h n) ∧
  (∀ (d : Nat) (a : Int) (l0 l1 l2 l3 l4 : Option mx_V) (S h : mx_H) (n : Int), mx_ex d 15 59 [l0, l1, l2, l3, l4] [(2, a)] S h n = mx_gd (9 ≤ S a (-2) ∧ S a (-2) ≤ 9) d 15 62 [l0, l1, l2, l3, l4] [(2, S a 1)] S h n) ∧
  (∀ (d : Nat) (l0 l1 l2 l3 l4 : Option mx_V) (v0 : mx_V) (S h : mx_H) (n : Int), mx_ex d 15 62 [l0, l1, l2, l3, l4] [v0] S h n = mx_ex d 15 63 [l0, l1, l2, l3, l4] [(0, 1), v0] S h n) ∧
  (∀ (d : Nat) (x : Int) (l0 l1 l2 l4 : Option mx_V) (v0 v1 : mx_V) (S h : mx_H) (n : Int), mx_ex d 15 63 [l0, l1, l2, some (0, x), l4] [v0, v1] S h n = mx_ex d 15 64 [l0, l1, l2, some (0, x), l4] [(0, x), v0, v1] S h n) ∧
  (∀ (d : Nat) (l0 l1 l2 l3 l4 : Option mx_V) (v0 v1 v2 : mx_V) (S h : mx_H) (n : Int), mx_ex d 15 64 [l0, l1, l2, l3, l4] [v0, v1, v2] S h n = mx_ex d 15 66 [l0, l1, l2, l3, l4] [(0, 17), v0, v1, v2] S h n) ∧
  (∀ (d : Nat) (b a : Int) (l0 l1 l2 l3 l4 : Option mx_V) (v2 v3 : mx_V) (S h : mx_H) (n : Int), mx_ex d 15 66 [l0, l1, l2, l3, l4] [(0, b), (0, a), v2, v3] S h n = mx_gd (¬ b = 0) d 15 67 [l0, l1, l2, l3, l4] [(0, Int.tmod a b), v2, v3] S h n) ∧
  (∀ (d : Nat) (v i a : Int) (l0 l1 l2 l3 l4 : Option mx_V) (S h : mx_H) (n : Int), mx_ex d 15 67 [l0, l1, l2, l3, l4] [(0, v), (0, i), (2, a)] S h n = mx_gd (S a (-2) = 20 ∧ 0 ≤ i ∧ i < S a (-1)) d 15 68 [l0, l1, l2, l3, l4] [] S (mx_u h a i v) n) ∧
  (∀ (d : Nat) (x : Int) (l1 l2 l3 l4 : Option mx_V) (S h : mx_H) (n : Int), mx_ex d 15 68 [some (2, x), l1, l2, l3, l4] [] S h n = mx_ex d 15 69 [some (2, x), l1, l2, l3, l4] [(2, x)] S h n) ∧
  (∀ (d : Nat) (a : Int) (l0 l1 l2 l3 l4 : Option mx_V) (S h : mx_H) (n : Int), mx_ex d 15 69 [l0, l1, l2, l3, l4] [(2, a)] S h n = mx_gd (9 ≤ S a (-2) ∧ S a (-2) ≤ 9) d 15 72 [l0, l1, l2, l3, l4] [(2, S a 1)] S h n) ∧
  (∀ (d : Nat) (l0 l1 l2 l3 l4 : Option mx_V) (v0 : mx_V) (S h : mx_H) (n : Int), mx_ex d 15 72 [l0, l1, l2, l3, l4] [v0] S h n = mx_ex d 15 73 [l0, l1, l2, l3, l4] [(0, 2), v0] S h n) ∧
  (∀ (d : Nat) (x : Int) (l1 l2 l3 l4 : Option mx_V) (v0 v1 : mx_V) (S h : mx_H) (n : Int), mx_ex d 15 73 [some (2, x), l1, l2, l3, l4] [v0, v1] S h n = mx_ex d 15 74 [some (2, x), l1, l2, l3, l4] [(2, x), v0, v1] S h n) ∧
  (∀ (d : Nat) (a : Int) (l0 l1 l2 l3 l4 : Option mx_V) (v1 v2 : mx_V) (S h : mx_H) (n : Int), mx_ex d 15 74 [l0, l1, l2, l3, l4] [(2, a), v1, v2] S h n = mx_gd (9 ≤ S a (-2) ∧ S a (-2) ≤ 9) d 15 77 [l0, l1, l2, l3, l4] [(2, S a 11), v1, v2] S h n) ∧
  (∀ (d : Nat) (x : Int) (l0 l1 l2 l4 : Option mx_V) (v0 v1 v2 : mx_V) (S h : mx_H) (n : Int), mx_ex d 15 77 [l0, l1, l2, some (0, x), l4] [v0, v1, v2] S h n = mx_ex d 15 78 [l0, l1, l2, some (0, x), l4] [(0, x), v0, v1, v2] S h n) ∧
  (∀ (d : Nat) (i a : Int) (l0 l1 l2 l3 l4 : Option mx_V) (v2 v3 : mx_V) (S h : mx_H) (n : Int), mx_ex d 15 78 [l0, l1, l2, l3, l4] [(0, i), (2, a), v2, v3] S h n = mx_gd ((S a (-2) = 20 ∨ S a (-2) = 24) ∧ 0 ≤ i ∧ i < S a (-1)) d 15 79 [l0, l1, l2, l3, l4] [(0, h a i), v2, v3] S h n) ∧
  (∀ (d : Nat) (x : Int) (l0 l1 l3 l4 : Option mx_V) (v0 v1 v2 : mx_V) (S h : mx_H) (n : Int), mx_ex d 15 79 [l0, l1, some (0, x), l3, l4] [v0, v1, v2] S h n = mx_ex d 15 80 [l0, l1, some (0, x), l3, l4] [(0, x), v0, v1, v2] S h n) ∧
  (∀ (d : Nat) (x0 x1 : Int) (l0 l1 l2 l3 l4 : Option mx_V) (v2 v3 : mx_V) (S h : mx_H) (n : Int), mx_ex (d + 1) 15 80 [l0, l1, l2, l3, l4] [(0, x0), (0, x1), v2, v3] S h n = mx_rt (mx_M d 151 [(0, x1), (0, x0)] S h n) (d + 1) 15 83 [l0, l1, l2, l3, l4] [v2, v3]) ∧
  (∀ (d : Nat) (v i a : Int) (l0 l1 l2 l3 l4 : Option mx_V) (S h : mx_H) (n : Int), mx_ex d 15 83 [l0, l1, l2, l3, l4] [(0, v), (0, i), (2, a)] S h n = mx_gd (S a (-2) = 20 ∧ 0 ≤ i ∧ i < S a (-1)) d 15 84 [l0, l1, l2, l3, l4] [] S (mx_u h a i v) n) ∧
  (∀ (d : Nat) (l0 l1 l2 l3 l4 : Option mx_V) (S h : mx_H) (n : Int), mx_ex d 15 84 [l0, l1, l2, l3, l4] [] S h n = mx_ex d 15 85 [l0, l1, l2, l3, l4] [(0, 1)] S h n) ∧
  (∀ (d : Nat) (x : Int) (l0 l1 l2 l3 l4 : Option mx_V) (S h : mx_H) (n : Int), mx_ex d 15 85 [l0, l1, l2, l3, l4] [(0, x)] S h n = mx_re (0 ≤ x ∧ x ≤ 1) (some (0, x)) S h n) ∧
  (∀ (d : Nat) (x : Int) (l0 l1 l3 l4 : Option mx_V) (S h : mx_H) (n : Int), mx_ex d 15 86 [l0, l1, some (0, x), l3, l4] [] S h n = mx_ex d 15 87 [l0, l1, some (0, x), l3, l4] [(0, x)] S h n) ∧
  (∀ (d : Nat) (x : Int) (l0 l1 l2 l3 : Option mx_V) (v0 : mx_V) (S h : mx_H) (n : Int), mx_ex d 15 87 [l0, l1, l2, l3, some (0, x)] [v0] S h n = mx_ex d 15 89 [l0, l1, l2, l3, some (0, x)] [(0, x), v0] S h n) ∧
  (∀ (d : Nat) (b a : Int) (l0 l1 l2 l3 l4 : Option mx_V) (S h : mx_H) (n : Int), mx_ex d 15 89 [l0, l1, l2, l3, l4] [(0, b), (0, a)] S h n = mx_ex d 15 90 [l0, l1, l2, l3, l4] [(0, mx_w (a - b))] S h n) ∧
  (∀ (d : Nat) (x : Int) (l0 l1 l2 l3 l4 : Option mx_V) (S h : mx_H) (n : Int), mx_ex d 15 90 [l0, l1, l2, l3, l4] [(0, x)] S h n = mx_ex d 15 91 [l0, mx_nl l1, some (0, x), l3, l4] [] S h n) ∧
  (∀ (d : Nat) (x : Int) (l0 l1 l2 l4 : Option mx_V) (S h : mx_H) (n : Int), mx_ex d 15 91 [l0, l1, l2, some (0, x), l4] [] S h n = mx_ex d 15 94 [l0, l1, mx_nl l2, some (0, mx_w (x + 1)), l4] [] S h n) ∧
  (∀ (d : Nat) (l0 l1 l2 l3 l4 : Option mx_V) (S h : mx_H) (n : Int), mx_ex d 15 94 [l0, l1, l2, l3, l4] [] S h n = mx_ex d 15 22 [l0, l1, l2, l3, l4] [] S h n) ∧
  (∀ (d : Nat) (l0 l1 l2 l3 l4 : Option mx_V) (S h : mx_H) (n : Int), mx_ex d 15 97 [l0, l1, l2, l3, l4] [] S h n = mx_ex d 15 98 [l0, l1, l2, l3, l4] [(0, 0)] S h n) ∧
  (∀ (d : Nat) (x : Int) (l0 l1 l2 l3 l4 : Option mx_V) (S h : mx_H) (n : Int), mx_ex d 15 98 [l0, l1, l2, l3, l4] [(0, x)] S h n = mx_re (0 ≤ x ∧ x ≤ 1) (some (0, x)) S h n) :=
  ⟨by intros; exact rfl,
   by intros; exact eq_ld rfl rfl,
   by intros; exact eq_cv rfl (Nat.le_of_ble_eq_true rfl) rfl rfl rfl (Nat.le_of_ble_eq_true rfl),
   by intros; exact eq_ld rfl rfl,
   by intros; exact eq_if2 rfl,
   by intros; exact eq_ld rfl rfl,
   by intros; exact eq_ld rfl rfl,
   by intros; exact eq_gi rfl,
   by intros; exact eq_ic2 rfl,
   by intros; exact eq_push rfl,
   by intros; exact eq_rr rfl,
   by intros; exact eq_ld rfl rfl,
   by intros; exact eq_st rfl (by decide) (Nat.le_of_ble_eq_true rfl) rfl,
   by intros; exact eq_push rfl,
   by intros; exact eq_st rfl (by decide) (Nat.le_of_ble_eq_true rfl) rfl,
   by intros; exact eq_ld rfl rfl,
   by intros; exact eq_gr rfl,
   by intros; exact eq_alen rfl,
   by intros; exact eq_ic3 rfl,
   by intros; exact eq_ld rfl rfl,
   by intros; exact eq_gr rfl,
   by intros; exact eq_ld rfl rfl,
   by intros; exact eq_iald rfl,
   by intros; exact eq_cs rfl (Nat.le_of_ble_eq_true rfl) rfl rfl rfl (Nat.le_of_ble_eq_true rfl),
   by intros; exact eq_st rfl (by decide) (Nat.le_of_ble_eq_true rfl) rfl,
   by intros; exact eq_ld rfl rfl,
   by intros; exact eq_ld rfl rfl,
   by intros; exact eq_ic3 rfl,
   by intros; exact eq_ld rfl rfl,
   by intros; exact eq_gr rfl,
   by intros; exact eq_push rfl,
   by intros; exact eq_ld rfl rfl,
   by intros; exact eq_push rfl,
   by intros; exact eq_i2d (o := mx_div) rfl,
   by intros; exact eq_iast rfl,
   by intros; exact eq_ld rfl rfl,
   by intros; exact eq_gr rfl,
   by intros; exact eq_push rfl,
   by intros; exact eq_ld rfl rfl,
   by intros; exact eq_push rfl,
   by intros; exact eq_i2d (o := mx_rem) rfl,
   by intros; exact eq_iast rfl,
   by intros; exact eq_ld rfl rfl,
   by intros; exact eq_gr rfl,
   by intros; exact eq_push rfl,
   by intros; exact eq_ld rfl rfl,
   by intros; exact eq_gr rfl,
   by intros; exact eq_ld rfl rfl,
   by intros; exact eq_iald rfl,
   by intros; exact eq_ld rfl rfl,
   by intros; exact eq_cs rfl (Nat.le_of_ble_eq_true rfl) rfl rfl rfl (Nat.le_of_ble_eq_true rfl),
   by intros; exact eq_iast rfl,
   by intros; exact eq_push rfl,
   by intros; exact eq_rr rfl,
   by intros; exact eq_ld rfl rfl,
   by intros; exact eq_ld rfl rfl,
   by intros; exact eq_i2 (o := mx_sub) rfl,
   by intros; exact eq_st rfl (by decide) (Nat.le_of_ble_eq_true rfl) rfl,
   by intros; exact eq_inc rfl rfl rfl,
   by intros; exact eq_go rfl,
   by intros; exact eq_push rfl,
   by intros; exact eq_rr rfl⟩
theorem rh_X2_fewestLines_14 : ∀ (d : Nat) (x : Int) (l0 l1 l3 : Option mx_V) (S h : mx_H) (n : Int), mx_ex d 16 14 [l0, l1, some (0, x), l3] [] S h n = mx_ex d 16 15 [l0, l1, some (0, x), l3] [(0, x)] S h n := by intros; exact eq_ld rfl rfl
theorem rh_X2_fewestLines_22 : ∀ (d : Nat) (x : Int) (l0 l1 l2 : Option mx_V) (S h : mx_H) (n : Int), mx_ex d 16 22 [l0, l1, l2, some (0, x)] [] S h n = mx_ex d 16 23 [l0, l1, l2, some (0, x)] [(0, x)] S h n := by intros; exact eq_ld rfl rfl
theorem rw_X2_fewestLines :
  (∀ (d : Nat) (a0 : Int) (S h : mx_H) (n : Int), mx_M d 16 [(2, a0)] S h n = mx_ex d 16 0 [some (2, a0), none, none, none] [] S h n) ∧
  (∀ (d : Nat) (x : Int) (l1 l2 l3 : Option mx_V) (S h : mx_H) (n : Int), mx_ex d 16 0 [some (2, x), l1, l2, l3] [] S h n = mx_ex d 16 1 [some (2, x), l1, l2, l3] [(2, x)] S h n) ∧
  (∀ (d : Nat) (a : Int) (l0 l1 l2 l3 : Option mx_V) (S h : mx_H) (n : Int), mx_ex (d + 1) 16 1 [l0, l1, l2, l3] [(2, a)] S h n = mx_cl (S a (-2) = 9) d 23 [(2, a)] 16 4 [l0, l1, l2, l3] [] S h n) ∧
  (∀ (d : Nat) (x : Int) (l1 l2 l3 : Option mx_V) (S h : mx_H) (n : Int), mx_ex d 16 4 [some (2, x), l1, l2, l3] [] S h n = mx_ex d 16 5 [some (2, x), l1, l2, l3] [(2, x)] S h n) ∧
  (∀ (d : Nat) (a : Int) (l0 l1 l2 l3 : Option mx_V) (S h : mx_H) (n : Int), mx_ex d 16 5 [l0, l1, l2, l3] [(2, a)] S h n = mx_gd (9 ≤ S a (-2) ∧ S a (-2) ≤ 9) d 16 8 [l0, l1, l2, l3] [(2, S a 0)] S h n) ∧
  (∀ (d : Nat) (a : Int) (l0 l1 l2 l3 : Option mx_V) (S h : mx_H) (n : Int), mx_ex (d + 1) 16 8 [l0, l1, l2, l3] [(2, a)] S h n = mx_cl (S a (-2) = 8) d 97 [(2, a)] 16 11 [l0, l1, l2, l3] [] S h n) ∧
  (∀ (d : Nat) (x : Int) (l0 l1 l2 l3 : Option mx_V) (S h : mx_H) (n : Int), mx_ex d 16 11 [l0, l1, l2, l3] [(0, x)] S h n = mx_ex d 16 12 [mx_nl l0, some (0, x), l2, l3] [] S h n) ∧
  (∀ (d : Nat) (l0 l1 l2 l3 : Option mx_V) (S h : mx_H) (n : Int), mx_ex d 16 12 [l0, l1, l2, l3] [] S h n = mx_ex d 16 13 [l0, l1, l2, l3] [(0, 0)] S h n) ∧
  (∀ (d : Nat) (x : Int) (l0 l1 l2 l3 : Option mx_V) (S h : mx_H) (n : Int), mx_ex d 16 13 [l0, l1, l2, l3] [(0, x)] S h n = mx_ex d 16 14 [l0, mx_nl l1, some (0, x), l3] [] S h n) ∧
  (∀ (d : Nat) (l0 l1 l2 l3 : Option mx_V) (v0 : mx_V) (S h : mx_H) (n : Int), mx_ex d 16 15 [l0, l1, l2, l3] [v0] S h n = mx_ex d 16 17 [l0, l1, l2, l3] [(0, 6), v0] S h n) ∧
  (∀ (d : Nat) (b a : Int) (l0 l1 l2 l3 : Option mx_V) (S h : mx_H) (n : Int), mx_ex d 16 17 [l0, l1, l2, l3] [(0, b), (0, a)] S h n = mx_br (b < a) d 16 57 20 [l0, l1, l2, l3] [] S h n) ∧
  (∀ (d : Nat) (l0 l1 l2 l3 : Option mx_V) (S h : mx_H) (n : Int), mx_ex d 16 20 [l0, l1, l2, l3] [] S h n = mx_ex d 16 21 [l0, l1, l2, l3] [(0, 0)] S h n) ∧
  (∀ (d : Nat) (x : Int) (l0 l1 l2 l3 : Option mx_V) (S h : mx_H) (n : Int), mx_ex d 16 21 [l0, l1, l2, l3] [(0, x)] S h n = mx_ex d 16 22 [l0, l1, mx_nl l2, some (0, x)] [] S h n) ∧
  (∀ (d : Nat) (x : Int) (l0 l2 l3 : Option mx_V) (v0 : mx_V) (S h : mx_H) (n : Int), mx_ex d 16 23 [l0, some (0, x), l2, l3] [v0] S h n = mx_ex d 16 24 [l0, some (0, x), l2, l3] [(0, x), v0] S h n) ∧
  (∀ (d : Nat) (b a : Int) (l0 l1 l2 l3 : Option mx_V) (S h : mx_H) (n : Int), mx_ex d 16 24 [l0, l1, l2, l3] [(0, b), (0, a)] S h n = mx_br (b < a) d 16 51 27 [l0, l1, l2, l3] [] S h n) ∧
  (∀ (d : Nat) (x : Int) (l0 l1 l2 : Option mx_V) (S h : mx_H) (n : Int), mx_ex d 16 27 [l0, l1, l2, some (0, x)] [] S h n = mx_ex d 16 28 [l0, l1, l2, some (0, x)] [(0, x)] S h n) ∧
  (∀ (d : Nat) (x0 : Int) (l0 l1 l2 l3 : Option mx_V) (S h : mx_H) (n : Int), mx_ex (d + 1) 16 28 [l0, l1, l2, l3] [(0, x0)] S h n = mx_rt (mx_M d 248 [(0, x0)] S h n) (d + 1) 16 31 [l0, l1, l2, l3] []) ∧
  (∀ (d : Nat) (x : Int) (l0 l1 l3 : Option mx_V) (v0 : mx_V) (S h : mx_H) (n : Int), mx_ex d 16 31 [l0, l1, some (0, x), l3] [v0] S h n = mx_ex d 16 32 [l0, l1, some (0, x), l3] [(0, x), v0] S h n) ∧
  (∀ (d : Nat) (b a : Int) (l0 l1 l2 l3 : Option mx_V) (S h : mx_H) (n : Int), mx_ex d 16 32 [l0, l1, l2, l3] [(0, b), (0, a)] S h n = mx_br (a = b) d 16 35 45 [l0, l1, l2, l3] [] S h n) ∧
  (∀ (d : Nat) (x : Int) (l1 l2 l3 : Option mx_V) (S h : mx_H) (n : Int), mx_ex d 16 35 [some (2, x), l1, l2, l3] [] S h n = mx_ex d 16 36 [some (2, x), l1, l2, l3] [(2, x)] S h n) ∧
  (∀ (d : Nat) (x : Int) (l0 l1 l2 : Option mx_V) (v0 : mx_V) (S h : mx_H) (n : Int), mx_ex d 16 36 [l0, l1, l2, some (0, x)] [v0] S h n = mx_ex d 16 37 [l0, l1, l2, some (0, x)] [(0, x), v0] S h n) ∧
  (∀ (d : Nat) (x0 a : Int) (l0 l1 l2 l3 : Option mx_V) (S h : mx_H) (n : Int), mx_ex (d + 1) 16 37 [l0, l1, l2, l3] [(0, x0), (2, a)] S h n = mx_cl (S a (-2) = 9) d 29 [(2, a), (0, x0)] 16 40 [l0, l1, l2, l3] [] S h n) ∧
  (∀ (d : Nat) (a : Int) (l0 l1 l2 l3 : Option mx_V) (S h : mx_H) (n : Int), mx_ex d 16 40 [l0, l1, l2, l3] [(0, a)] S h n = mx_br (a = 0) d 16 43 45 [l0, l1, l2, l3] [] S h n) ∧
  (∀ (d : Nat) (x : Int) (l0 l1 l2 : Option mx_V) (S h : mx_H) (n : Int), mx_ex d 16 43 [l0, l1, l2, some (0, x)] [] S h n = mx_ex d 16 44 [l0, l1, l2, some (0, x)] [(0, x)] S h n) ∧
  (∀ (d : Nat) (x : Int) (l0 l1 l2 l3 : Option mx_V) (S h : mx_H) (n : Int), mx_ex d 16 44 [l0, l1, l2, l3] [(0, x)] S h n = some (some (0, x), S, h, n)) ∧
  (∀ (d : Nat) (x : Int) (l0 l1 l2 : Option mx_V) (S h : mx_H) (n : Int), mx_ex d 16 45 [l0, l1, l2, some (0, x)] [] S h n = mx_ex d 16 48 [l0, l1, mx_nl l2, some (0, mx_w (x + 1))] [] S h n) ∧
  (∀ (d : Nat) (l0 l1 l2 l3 : Option mx_V) (S h : mx_H) (n : Int), mx_ex d 16 48 [l0, l1, l2, l3] [] S h n = mx_ex d 16 22 [l0, l1, l2, l3] [] S h n) ∧
  (∀ (d : Nat) (x : Int) (l0 l1 l3 : Option mx_V) (S h : mx_H) (n : Int), mx_ex d 16 51 [l0, l1, some (0, x), l3] [] S h n = mx_ex d 16 54 [l0, mx_nl l1, some (0, mx_w (x + 1)), l3] [] S h n) ∧
  (∀ (d : Nat) (l0 l1 l2 l3 : Option mx_V) (S h : mx_H) (n : Int), mx_ex d 16 54 [l0, l1, l2, l3] [] S h n = mx_ex d 16 14 [l0, l1, l2, l3] [] S h n) ∧
  (∀ (d : Nat) (x : Int) (l0 l2 l3 : Option mx_V) (S h : mx_H) (n : Int), mx_ex d 16 57 [l0, some (0, x), l2, l3] [] S h n = mx_ex d 16 58 [l0, some (0, x), l2, l3] [(0, x)] S h n) ∧
  (∀ (d : Nat) (x : Int) (l0 l1 l2 l3 : Option mx_V) (S h : mx_H) (n : Int), mx_ex d 16 58 [l0, l1, l2, l3] [(0, x)] S h n = some (some (0, x), S, h, n)) :=
  ⟨by intros; exact rfl,
   by intros; exact eq_ld rfl rfl,
   by intros; exact eq_cv rfl (Nat.le_of_ble_eq_true rfl) rfl rfl rfl (Nat.le_of_ble_eq_true rfl),
   by intros; exact eq_ld rfl rfl,
   by intros; exact eq_gr rfl,
   by intros; exact eq_cv rfl (Nat.le_of_ble_eq_true rfl) rfl rfl rfl (Nat.le_of_ble_eq_true rfl),
   by intros; exact eq_st rfl (by decide) (Nat.le_of_ble_eq_true rfl) rfl,
   by intros; exact eq_push rfl,
   by intros; exact eq_st rfl (by decide) (Nat.le_of_ble_eq_true rfl) rfl,
   by intros; exact eq_push rfl,
   by intros; exact eq_ic4 rfl,
   by intros; exact eq_push rfl,
   by intros; exact eq_st rfl (by decide) (Nat.le_of_ble_eq_true rfl) rfl,
   by intros; exact eq_ld rfl rfl,
   by intros; exact eq_ic4 rfl,
   by intros; exact eq_ld rfl rfl,
   by intros; exact eq_cs rfl (Nat.le_of_ble_eq_true rfl) rfl rfl rfl (Nat.le_of_ble_eq_true rfl),
   by intros; exact eq_ld rfl rfl,
   by intros; exact eq_ic1 rfl,
   by intros; exact eq_ld rfl rfl,
   by intros; exact eq_ld rfl rfl,
   by intros; exact eq_cv rfl (Nat.le_of_ble_eq_true rfl) rfl rfl rfl (Nat.le_of_ble_eq_true rfl),
   by intros; exact eq_if1 rfl,
   by intros; exact eq_ld rfl rfl,
   by intros; exact eq_ret rfl,
   by intros; exact eq_inc rfl rfl rfl,
   by intros; exact eq_go rfl,
   by intros; exact eq_inc rfl rfl rfl,
   by intros; exact eq_go rfl,
   by intros; exact eq_ld rfl rfl,
   by intros; exact eq_ret rfl⟩
theorem rh_X2_eveningsFor_8 : ∀ (d : Nat) (x : Int) (l0 l1 l2 : Option mx_V) (S h : mx_H) (n : Int), mx_ex d 17 8 [l0, l1, l2, some (0, x)] [] S h n = mx_ex d 17 9 [l0, l1, l2, some (0, x)] [(0, x)] S h n := by intros; exact eq_ld rfl rfl
theorem rw_X2_eveningsFor :
  (∀ (d : Nat) (a0 a1 : Int) (S h : mx_H) (n : Int), mx_M d 17 [(2, a0), (0, a1)] S h n = mx_ex d 17 0 [some (2, a0), some (0, a1), none, none] [] S h n) ∧
  (∀ (d : Nat) (x : Int) (l1 l2 l3 : Option mx_V) (S h : mx_H) (n : Int), mx_ex d 17 0 [some (2, x), l1, l2, l3] [] S h n = mx_ex d 17 1 [some (2, x), l1, l2, l3] [(2, x)] S h n) ∧
  (∀ (d : Nat) (a : Int) (l0 l1 l2 l3 : Option mx_V) (S h : mx_H) (n : Int), mx_ex (d + 1) 17 1 [l0, l1, l2, l3] [(2, a)] S h n = mx_cl (S a (-2) = 9) d 23 [(2, a)] 17 4 [l0, l1, l2, l3] [] S h n) ∧
  (∀ (d : Nat) (l0 l1 l2 l3 : Option mx_V) (S h : mx_H) (n : Int), mx_ex d 17 4 [l0, l1, l2, l3] [] S h n = mx_ex d 17 5 [l0, l1, l2, l3] [(0, 0)] S h n) ∧
  (∀ (d : Nat) (x : Int) (l0 l1 l2 l3 : Option mx_V) (S h : mx_H) (n : Int), mx_ex d 17 5 [l0, l1, l2, l3] [(0, x)] S h n = mx_ex d 17 6 [l0, mx_nl l1, some (0, x), l3] [] S h n) ∧
  (∀ (d : Nat) (l0 l1 l2 l3 : Option mx_V) (S h : mx_H) (n : Int), mx_ex d 17 6 [l0, l1, l2, l3] [] S h n = mx_ex d 17 7 [l0, l1, l2, l3] [(0, 0)] S h n) ∧
  (∀ (d : Nat) (x : Int) (l0 l1 l2 l3 : Option mx_V) (S h : mx_H) (n : Int), mx_ex d 17 7 [l0, l1, l2, l3] [(0, x)] S h n = mx_ex d 17 8 [l0, l1, mx_nl l2, some (0, x)] [] S h n) ∧
  (∀ (d : Nat) (l0 l1 l2 l3 : Option mx_V) (v0 : mx_V) (S h : mx_H) (n : Int), mx_ex d 17 9 [l0, l1, l2, l3] [v0] S h n = mx_ex d 17 10 [l0, l1, l2, l3] [(0, 3), v0] S h n) ∧
  (∀ (d : Nat) (b a : Int) (l0 l1 l2 l3 : Option mx_V) (S h : mx_H) (n : Int), mx_ex d 17 10 [l0, l1, l2, l3] [(0, b), (0, a)] S h n = mx_br (a < b) d 17 13 50 [l0, l1, l2, l3] [] S h n) ∧
  (∀ (d : Nat) (x : Int) (l1 l2 l3 : Option mx_V) (S h : mx_H) (n : Int), mx_ex d 17 13 [some (2, x), l1, l2, l3] [] S h n = mx_ex d 17 14 [some (2, x), l1, l2, l3] [(2, x)] S h n) ∧
  (∀ (d : Nat) (a : Int) (l0 l1 l2 l3 : Option mx_V) (S h : mx_H) (n : Int), mx_ex d 17 14 [l0, l1, l2, l3] [(2, a)] S h n = mx_gd (9 ≤ S a (-2) ∧ S a (-2) ≤ 9) d 17 17 [l0, l1, l2, l3] [(2, S a 5)] S h n) ∧
  (∀ (d : Nat) (x : Int) (l0 l2 l3 : Option mx_V) (v0 : mx_V) (S h : mx_H) (n : Int), mx_ex d 17 17 [l0, some (0, x), l2, l3] [v0] S h n = mx_ex d 17 18 [l0, some (0, x), l2, l3] [(0, x), v0] S h n) ∧
  (∀ (d : Nat) (x : Int) (l0 l1 l2 : Option mx_V) (v0 v1 : mx_V) (S h : mx_H) (n : Int), mx_ex d 17 18 [l0, l1, l2, some (0, x)] [v0, v1] S h n = mx_ex d 17 19 [l0, l1, l2, some (0, x)] [(0, x), v0, v1] S h n) ∧
  (∀ (d : Nat) (v i a : Int) (l0 l1 l2 l3 : Option mx_V) (S h : mx_H) (n : Int), mx_ex d 17 19 [l0, l1, l2, l3] [(0, v), (0, i), (2, a)] S h n = mx_gd (S a (-2) = 20 ∧ 0 ≤ i ∧ i < S a (-1)) d 17 20 [l0, l1, l2, l3] [] S (mx_u h a i v) n) ∧
  (∀ (d : Nat) (x : Int) (l1 l2 l3 : Option mx_V) (S h : mx_H) (n : Int), mx_ex d 17 20 [some (2, x), l1, l2, l3] [] S h n = mx_ex d 17 21 [some (2, x), l1, l2, l3] [(2, x)] S h n) ∧
  (∀ (d : Nat) (a : Int) (l0 l1 l2 l3 : Option mx_V) (S h : mx_H) (n : Int), mx_ex (d + 1) 17 21 [l0, l1, l2, l3] [(2, a)] S h n = mx_cl (S a (-2) = 9) d 25 [(2, a)] 17 24 [l0, l1, l2, l3] [] S h n) ∧
  (∀ (d : Nat) (x : Int) (l1 l2 l3 : Option mx_V) (S h : mx_H) (n : Int), mx_ex d 17 24 [some (2, x), l1, l2, l3] [] S h n = mx_ex d 17 25 [some (2, x), l1, l2, l3] [(2, x)] S h n) ∧
  (∀ (d : Nat) (x : Int) (l1 l2 l3 : Option mx_V) (v0 : mx_V) (S h : mx_H) (n : Int), mx_ex d 17 25 [some (2, x), l1, l2, l3] [v0] S h n = mx_ex d 17 26 [some (2, x), l1, l2, l3] [(2, x), v0] S h n) ∧
  (∀ (d : Nat) (a : Int) (l0 l1 l2 l3 : Option mx_V) (v1 : mx_V) (S h : mx_H) (n : Int), mx_ex d 17 26 [l0, l1, l2, l3] [(2, a), v1] S h n = mx_gd (9 ≤ S a (-2) ∧ S a (-2) ≤ 9) d 17 29 [l0, l1, l2, l3] [(2, S a 0), v1] S h n) ∧
  (∀ (d : Nat) (a : Int) (l0 l1 l2 l3 : Option mx_V) (v1 : mx_V) (S h : mx_H) (n : Int), mx_ex (d + 1) 17 29 [l0, l1, l2, l3] [(2, a), v1] S h n = mx_cl (S a (-2) = 8) d 97 [(2, a)] 17 32 [l0, l1, l2, l3] [v1] S h n) ∧
  (∀ (d : Nat) (x0 a : Int) (l0 l1 l2 l3 : Option mx_V) (S h : mx_H) (n : Int), mx_ex (d + 1) 17 32 [l0, l1, l2, l3] [(0, x0), (2, a)] S h n = mx_cl (S a (-2) = 9) d 29 [(2, a), (0, x0)] 17 35 [l0, l1, l2, l3] [] S h n) ∧
  (∀ (d : Nat) (a : Int) (l0 l1 l2 l3 : Option mx_V) (S h : mx_H) (n : Int), mx_ex d 17 35 [l0, l1, l2, l3] [(0, a)] S h n = mx_br (a = 0) d 17 44 38 [l0, l1, l2, l3] [] S h n) ∧
  (∀ (d : Nat) (x : Int) (l0 l1 l3 : Option mx_V) (S h : mx_H) (n : Int), mx_ex d 17 38 [l0, l1, some (0, x), l3] [] S h n = mx_ex d 17 39 [l0, l1, some (0, x), l3] [(0, x)] S h n) ∧
  (∀ (d : Nat) (l0 l1 l2 l3 : Option mx_V) (v0 : mx_V) (S h : mx_H) (n : Int), mx_ex d 17 39 [l0, l1, l2, l3] [v0] S h n = mx_ex d 17 40 [l0, l1, l2, l3] [(0, 1), v0] S h n) ∧
  (∀ (d : Nat) (x : Int) (l0 l1 l2 : Option mx_V) (v0 v1 : mx_V) (S h : mx_H) (n : Int), mx_ex d 17 40 [l0, l1, l2, some (0, x)] [v0, v1] S h n = mx_ex d 17 41 [l0, l1, l2, some (0, x)] [(0, x), v0, v1] S h n) ∧
  (∀ (d : Nat) (b a : Int) (l0 l1 l2 l3 : Option mx_V) (v2 : mx_V) (S h : mx_H) (n : Int), mx_ex d 17 41 [l0, l1, l2, l3] [(0, b), (0, a), v2] S h n = mx_ex d 17 42 [l0, l1, l2, l3] [(0, mx_shl a b), v2] S h n) ∧
  (∀ (d : Nat) (b a : Int) (l0 l1 l2 l3 : Option mx_V) (S h : mx_H) (n : Int), mx_ex d 17 42 [l0, l1, l2, l3] [(0, b), (0, a)] S h n = mx_ex d 17 43 [l0, l1, l2, l3] [(0, mx_or a b)] S h n) ∧
  (∀ (d : Nat) (x : Int) (l0 l1 l2 l3 : Option mx_V) (S h : mx_H) (n : Int), mx_ex d 17 43 [l0, l1, l2, l3] [(0, x)] S h n = mx_ex d 17 44 [l0, mx_nl l1, some (0, x), l3] [] S h n) ∧
  (∀ (d : Nat) (x : Int) (l0 l1 l2 : Option mx_V) (S h : mx_H) (n : Int), mx_ex d 17 44 [l0, l1, l2, some (0, x)] [] S h n = mx_ex d 17 47 [l0, l1, mx_nl l2, some (0, mx_w (x + 1))] [] S h n) ∧
  (∀ (d : Nat) (l0 l1 l2 l3 : Option mx_V) (S h : mx_H) (n : Int), mx_ex d 17 47 [l0, l1, l2, l3] [] S h n = mx_ex d 17 8 [l0, l1, l2, l3] [] S h n) ∧
  (∀ (d : Nat) (x : Int) (l0 l1 l3 : Option mx_V) (S h : mx_H) (n : Int), mx_ex d 17 50 [l0, l1, some (0, x), l3] [] S h n = mx_ex d 17 51 [l0, l1, some (0, x), l3] [(0, x)] S h n) ∧
  (∀ (d : Nat) (x : Int) (l0 l1 l2 l3 : Option mx_V) (S h : mx_H) (n : Int), mx_ex d 17 51 [l0, l1, l2, l3] [(0, x)] S h n = some (some (0, x), S, h, n)) :=
  ⟨by intros; exact rfl,
   by intros; exact eq_ld rfl rfl,
   by intros; exact eq_cv rfl (Nat.le_of_ble_eq_true rfl) rfl rfl rfl (Nat.le_of_ble_eq_true rfl),
   by intros; exact eq_push rfl,
   by intros; exact eq_st rfl (by decide) (Nat.le_of_ble_eq_true rfl) rfl,
   by intros; exact eq_push rfl,
   by intros; exact eq_st rfl (by decide) (Nat.le_of_ble_eq_true rfl) rfl,
   by intros; exact eq_push rfl,
   by intros; exact eq_ic3 rfl,
   by intros; exact eq_ld rfl rfl,
   by intros; exact eq_gr rfl,
   by intros; exact eq_ld rfl rfl,
   by intros; exact eq_ld rfl rfl,
   by intros; exact eq_iast rfl,
   by intros; exact eq_ld rfl rfl,
   by intros; exact eq_cv rfl (Nat.le_of_ble_eq_true rfl) rfl rfl rfl (Nat.le_of_ble_eq_true rfl),
   by intros; exact eq_ld rfl rfl,
   by intros; exact eq_ld rfl rfl,
   by intros; exact eq_gr rfl,
   by intros; exact eq_cv rfl (Nat.le_of_ble_eq_true rfl) rfl rfl rfl (Nat.le_of_ble_eq_true rfl),
   by intros; exact eq_cv rfl (Nat.le_of_ble_eq_true rfl) rfl rfl rfl (Nat.le_of_ble_eq_true rfl),
   by intros; exact eq_if0 rfl,
   by intros; exact eq_ld rfl rfl,
   by intros; exact eq_push rfl,
   by intros; exact eq_ld rfl rfl,
   by intros; exact eq_i2 (o := mx_shl) rfl,
   by intros; exact eq_i2 (o := mx_or) rfl,
   by intros; exact eq_st rfl (by decide) (Nat.le_of_ble_eq_true rfl) rfl,
   by intros; exact eq_inc rfl rfl rfl,
   by intros; exact eq_go rfl,
   by intros; exact eq_ld rfl rfl,
   by intros; exact eq_ret rfl⟩
theorem rh_X2_canMend_45 : ∀ (d : Nat) (x : Int) (l0 : Option mx_V) (S h : mx_H) (n : Int), mx_ex d 18 45 [l0, some (0, x)] [] S h n = mx_ex d 18 46 [l0, some (0, x)] [(0, x)] S h n := by intros; exact eq_ld rfl rfl
theorem rw_X2_canMend :
  (∀ (d : Nat) (a0 : Int) (S h : mx_H) (n : Int), mx_M d 18 [(2, a0)] S h n = mx_ex d 18 0 [some (2, a0), none] [] S h n) ∧
  (∀ (d : Nat) (x : Int) (l1 : Option mx_V) (S h : mx_H) (n : Int), mx_ex d 18 0 [some (2, x), l1] [] S h n = mx_ex d 18 1 [some (2, x), l1] [(2, x)] S h n) ∧
  (∀ (d : Nat) (a : Int) (l0 l1 : Option mx_V) (S h : mx_H) (n : Int), mx_ex d 18 1 [l0, l1] [(2, a)] S h n = mx_gd (9 ≤ S a (-2) ∧ S a (-2) ≤ 9) d 18 4 [l0, l1] [(0, h a 15)] S h n) ∧
  (∀ (d : Nat) (x : Int) (l1 : Option mx_V) (v0 : mx_V) (S h : mx_H) (n : Int), mx_ex d 18 4 [some (2, x), l1] [v0] S h n = mx_ex d 18 5 [some (2, x), l1] [(2, x), v0] S h n) ∧
  (∀ (d : Nat) (a : Int) (l0 l1 : Option mx_V) (v1 : mx_V) (S h : mx_H) (n : Int), mx_ex d 18 5 [l0, l1] [(2, a), v1] S h n = mx_gd (9 ≤ S a (-2) ∧ S a (-2) ≤ 9) d 18 8 [l0, l1] [(2, S a 0), v1] S h n) ∧
  (∀ (d : Nat) (a : Int) (l0 l1 : Option mx_V) (v1 : mx_V) (S h : mx_H) (n : Int), mx_ex d 18 8 [l0, l1] [(2, a), v1] S h n = mx_gd (8 ≤ S a (-2) ∧ S a (-2) ≤ 8) d 18 11 [l0, l1] [(0, h a 5), v1] S h n) ∧
  (∀ (d : Nat) (b a : Int) (l0 l1 : Option mx_V) (S h : mx_H) (n : Int), mx_ex d 18 11 [l0, l1] [(0, b), (0, a)] S h n = mx_br (a = b) d 18 14 28 [l0, l1] [] S h n) ∧
  (∀ (d : Nat) (x : Int) (l1 : Option mx_V) (S h : mx_H) (n : Int), mx_ex d 18 14 [some (2, x), l1] [] S h n = mx_ex d 18 15 [some (2, x), l1] [(2, x)] S h n) ∧
  (∀ (d : Nat) (a : Int) (l0 l1 : Option mx_V) (S h : mx_H) (n : Int), mx_ex d 18 15 [l0, l1] [(2, a)] S h n = mx_gd (9 ≤ S a (-2) ∧ S a (-2) ≤ 9) d 18 18 [l0, l1] [(0, h a 2)] S h n) ∧
  (∀ (d : Nat) (l0 l1 : Option mx_V) (v0 : mx_V) (S h : mx_H) (n : Int), mx_ex d 18 18 [l0, l1] [v0] S h n = mx_ex d 18 19 [l0, l1] [(0, (-1)), v0] S h n) ∧
  (∀ (d : Nat) (b a : Int) (l0 l1 : Option mx_V) (S h : mx_H) (n : Int), mx_ex d 18 19 [l0, l1] [(0, b), (0, a)] S h n = mx_br (a = b) d 18 26 22 [l0, l1] [] S h n) ∧
  (∀ (d : Nat) (l0 l1 : Option mx_V) (S h : mx_H) (n : Int), mx_ex d 18 22 [l0, l1] [] S h n = mx_ex d 18 23 [l0, l1] [(0, 1)] S h n) ∧
  (∀ (d : Nat) (l0 l1 : Option mx_V) (v0 : mx_V) (S h : mx_H) (n : Int), mx_ex d 18 23 [l0, l1] [v0] S h n = mx_ex d 18 27 [l0, l1] [v0] S h n) ∧
  (∀ (d : Nat) (l0 l1 : Option mx_V) (S h : mx_H) (n : Int), mx_ex d 18 26 [l0, l1] [] S h n = mx_ex d 18 27 [l0, l1] [(0, 0)] S h n) ∧
  (∀ (d : Nat) (x : Int) (l0 l1 : Option mx_V) (S h : mx_H) (n : Int), mx_ex d 18 27 [l0, l1] [(0, x)] S h n = mx_re (0 ≤ x ∧ x ≤ 1) (some (0, x)) S h n) ∧
  (∀ (d : Nat) (x : Int) (l1 : Option mx_V) (S h : mx_H) (n : Int), mx_ex d 18 28 [some (2, x), l1] [] S h n = mx_ex d 18 29 [some (2, x), l1] [(2, x)] S h n) ∧
  (∀ (d : Nat) (x : Int) (l1 : Option mx_V) (v0 : mx_V) (S h : mx_H) (n : Int), mx_ex d 18 29 [some (2, x), l1] [v0] S h n = mx_ex d 18 30 [some (2, x), l1] [(2, x), v0] S h n) ∧
  (∀ (d : Nat) (a : Int) (l0 l1 : Option mx_V) (v1 : mx_V) (S h : mx_H) (n : Int), mx_ex d 18 30 [l0, l1] [(2, a), v1] S h n = mx_gd (9 ≤ S a (-2) ∧ S a (-2) ≤ 9) d 18 33 [l0, l1] [(2, S a 0), v1] S h n) ∧
  (∀ (d : Nat) (a : Int) (l0 l1 : Option mx_V) (v1 : mx_V) (S h : mx_H) (n : Int), mx_ex d 18 33 [l0, l1] [(2, a), v1] S h n = mx_gd (8 ≤ S a (-2) ∧ S a (-2) ≤ 8) d 18 36 [l0, l1] [(0, h a 5), v1] S h n) ∧
  (∀ (d : Nat) (v a : Int) (l0 l1 : Option mx_V) (S h : mx_H) (n : Int), mx_ex d 18 36 [l0, l1] [(0, v), (2, a)] S h n = mx_gd (9 ≤ S a (-2) ∧ S a (-2) ≤ 9) d 18 39 [l0, l1] [] S (mx_u h a 15 v) n) ∧
  (∀ (d : Nat) (x : Int) (l1 : Option mx_V) (S h : mx_H) (n : Int), mx_ex d 18 39 [some (2, x), l1] [] S h n = mx_ex d 18 40 [some (2, x), l1] [(2, x)] S h n) ∧
  (∀ (d : Nat) (a : Int) (l0 l1 : Option mx_V) (S h : mx_H) (n : Int), mx_ex (d + 1) 18 40 [l0, l1] [(2, a)] S h n = mx_cl (S a (-2) = 9) d 23 [(2, a)] 18 43 [l0, l1] [] S h n) ∧
  (∀ (d : Nat) (l0 l1 : Option mx_V) (S h : mx_H) (n : Int), mx_ex d 18 43 [l0, l1] [] S h n = mx_ex d 18 44 [l0, l1] [(0, 0)] S h n) ∧
  (∀ (d : Nat) (x : Int) (l0 l1 : Option mx_V) (S h : mx_H) (n : Int), mx_ex d 18 44 [l0, l1] [(0, x)] S h n = mx_ex d 18 45 [mx_nl l0, some (0, x)] [] S h n) ∧
  (∀ (d : Nat) (x : Int) (l1 : Option mx_V) (v0 : mx_V) (S h : mx_H) (n : Int), mx_ex d 18 46 [some (2, x), l1] [v0] S h n = mx_ex d 18 47 [some (2, x), l1] [(2, x), v0] S h n) ∧
  (∀ (d : Nat) (a : Int) (l0 l1 : Option mx_V) (v1 : mx_V) (S h : mx_H) (n : Int), mx_ex d 18 47 [l0, l1] [(2, a), v1] S h n = mx_gd (9 ≤ S a (-2) ∧ S a (-2) ≤ 9) d 18 50 [l0, l1] [(2, S a 0), v1] S h n) ∧
  (∀ (d : Nat) (a : Int) (l0 l1 : Option mx_V) (v1 : mx_V) (S h : mx_H) (n : Int), mx_ex d 18 50 [l0, l1] [(2, a), v1] S h n = mx_gd (8 ≤ S a (-2) ∧ S a (-2) ≤ 8) d 18 53 [l0, l1] [(0, h a 3), v1] S h n) ∧
  (∀ (d : Nat) (b a : Int) (l0 l1 : Option mx_V) (S h : mx_H) (n : Int), mx_ex d 18 53 [l0, l1] [(0, b), (0, a)] S h n = mx_br (a < b) d 18 56 72 [l0, l1] [] S h n) ∧
  (∀ (d : Nat) (x : Int) (l1 : Option mx_V) (S h : mx_H) (n : Int), mx_ex d 18 56 [some (2, x), l1] [] S h n = mx_ex d 18 57 [some (2, x), l1] [(2, x)] S h n) ∧
  (∀ (d : Nat) (x : Int) (l0 : Option mx_V) (v0 : mx_V) (S h : mx_H) (n : Int), mx_ex d 18 57 [l0, some (0, x)] [v0] S h n = mx_ex d 18 58 [l0, some (0, x)] [(0, x), v0] S h n) ∧
  (∀ (d : Nat) (x0 a : Int) (l0 l1 : Option mx_V) (S h : mx_H) (n : Int), mx_ex (d + 1) 18 58 [l0, l1] [(0, x0), (2, a)] S h n = mx_cl (S a (-2) = 9) d 19 [(2, a), (0, x0)] 18 61 [l0, l1] [] S h n) ∧
  (∀ (d : Nat) (a : Int) (l0 l1 : Option mx_V) (S h : mx_H) (n : Int), mx_ex d 18 61 [l0, l1] [(0, a)] S h n = mx_br (a = 0) d 18 66 64 [l0, l1] [] S h n) ∧
  (∀ (d : Nat) (l0 l1 : Option mx_V) (S h : mx_H) (n : Int), mx_ex d 18 64 [l0, l1] [] S h n = mx_ex d 18 65 [l0, l1] [(0, 1)] S h n) ∧
  (∀ (d : Nat) (x : Int) (l0 l1 : Option mx_V) (S h : mx_H) (n : Int), mx_ex d 18 65 [l0, l1] [(0, x)] S h n = mx_re (0 ≤ x ∧ x ≤ 1) (some (0, x)) S h n) ∧
  (∀ (d : Nat) (x : Int) (l0 : Option mx_V) (S h : mx_H) (n : Int), mx_ex d 18 66 [l0, some (0, x)] [] S h n = mx_ex d 18 69 [mx_nl l0, some (0, mx_w (x + 1))] [] S h n) ∧
  (∀ (d : Nat) (l0 l1 : Option mx_V) (S h : mx_H) (n : Int), mx_ex d 18 69 [l0, l1] [] S h n = mx_ex d 18 45 [l0, l1] [] S h n) ∧
  (∀ (d : Nat) (x : Int) (l1 : Option mx_V) (S h : mx_H) (n : Int), mx_ex d 18 72 [some (2, x), l1] [] S h n = mx_ex d 18 73 [some (2, x), l1] [(2, x)] S h n) ∧
  (∀ (d : Nat) (l0 l1 : Option mx_V) (v0 : mx_V) (S h : mx_H) (n : Int), mx_ex d 18 73 [l0, l1] [v0] S h n = mx_ex d 18 74 [l0, l1] [(0, (-1)), v0] S h n) ∧
  (∀ (d : Nat) (v a : Int) (l0 l1 : Option mx_V) (S h : mx_H) (n : Int), mx_ex d 18 74 [l0, l1] [(0, v), (2, a)] S h n = mx_gd (9 ≤ S a (-2) ∧ S a (-2) ≤ 9) d 18 77 [l0, l1] [] S (mx_u h a 2 v) n) ∧
  (∀ (d : Nat) (l0 l1 : Option mx_V) (S h : mx_H) (n : Int), mx_ex d 18 77 [l0, l1] [] S h n = mx_ex d 18 78 [l0, l1] [(0, 0)] S h n) ∧
  (∀ (d : Nat) (x : Int) (l0 l1 : Option mx_V) (S h : mx_H) (n : Int), mx_ex d 18 78 [l0, l1] [(0, x)] S h n = mx_re (0 ≤ x ∧ x ≤ 1) (some (0, x)) S h n) :=
  ⟨by intros; exact rfl,
   by intros; exact eq_ld rfl rfl,
   by intros; exact eq_gi rfl,
   by intros; exact eq_ld rfl rfl,
   by intros; exact eq_gr rfl,
   by intros; exact eq_gi rfl,
   by intros; exact eq_ic1 rfl,
   by intros; exact eq_ld rfl rfl,
   by intros; exact eq_gi rfl,
   by intros; exact eq_push rfl,
   by intros; exact eq_ic0 rfl,
   by intros; exact eq_push rfl,
   by intros; exact eq_go rfl,
   by intros; exact eq_push rfl,
   by intros; exact eq_rr rfl,
   by intros; exact eq_ld rfl rfl,
   by intros; exact eq_ld rfl rfl,
   by intros; exact eq_gr rfl,
   by intros; exact eq_gi rfl,
   by intros; exact eq_pi rfl,
   by intros; exact eq_ld rfl rfl,
   by intros; exact eq_cv rfl (Nat.le_of_ble_eq_true rfl) rfl rfl rfl (Nat.le_of_ble_eq_true rfl),
   by intros; exact eq_push rfl,
   by intros; exact eq_st rfl (by decide) (Nat.le_of_ble_eq_true rfl) rfl,
   by intros; exact eq_ld rfl rfl,
   by intros; exact eq_gr rfl,
   by intros; exact eq_gi rfl,
   by intros; exact eq_ic3 rfl,
   by intros; exact eq_ld rfl rfl,
   by intros; exact eq_ld rfl rfl,
   by intros; exact eq_cv rfl (Nat.le_of_ble_eq_true rfl) rfl rfl rfl (Nat.le_of_ble_eq_true rfl),
   by intros; exact eq_if0 rfl,
   by intros; exact eq_push rfl,
   by intros; exact eq_rr rfl,
   by intros; exact eq_inc rfl rfl rfl,
   by intros; exact eq_go rfl,
   by intros; exact eq_ld rfl rfl,
   by intros; exact eq_push rfl,
   by intros; exact eq_pi rfl,
   by intros; exact eq_push rfl,
   by intros; exact eq_rr rfl⟩
theorem rh_X2_mendsBy_72 : ∀ (d : Nat) (x : Int) (l0 l1 l2 l3 l4 l6 l7 : Option mx_V) (S h : mx_H) (n : Int), mx_ex d 19 72 [l0, l1, l2, l3, l4, some (0, x), l6, l7] [] S h n = mx_ex d 19 74 [l0, l1, l2, l3, l4, some (0, x), l6, l7] [(0, x)] S h n := by intros; exact eq_ld rfl rfl
theorem rh_X2_mendsBy_99 : ∀ (d : Nat) (x : Int) (l0 l1 l2 l3 l4 l5 l6 : Option mx_V) (S h : mx_H) (n : Int), mx_ex d 19 99 [l0, l1, l2, l3, l4, l5, l6, some (0, x)] [] S h n = mx_ex d 19 101 [l0, l1, l2, l3, l4, l5, l6, some (0, x)] [(0, x)] S h n := by intros; exact eq_ld rfl rfl
theorem rw_X2_mendsBy :
  (∀ (d : Nat) (a0 a1 : Int) (S h : mx_H) (n : Int), mx_M d 19 [(2, a0), (0, a1)] S h n = mx_ex d 19 0 [some (2, a0), some (0, a1), none, none, none, none, none, none] [] S h n) ∧
  (∀ (d : Nat) (x : Int) (l1 l2 l3 l4 l5 l6 l7 : Option mx_V) (S h : mx_H) (n : Int), mx_ex d 19 0 [some (2, x), l1, l2, l3, l4, l5, l6, l7] [] S h n = mx_ex d 19 1 [some (2, x), l1, l2, l3, l4, l5, l6, l7] [(2, x)] S h n) ∧
  (∀ (d : Nat) (a : Int) (l0 l1 l2 l3 l4 l5 l6 l7 : Option mx_V) (S h : mx_H) (n : Int), mx_ex d 19 1 [l0, l1, l2, l3, l4, l5, l6, l7] [(2, a)] S h n = mx_gd (9 ≤ S a (-2) ∧ S a (-2) ≤ 9) d 19 4 [l0, l1, l2, l3, l4, l5, l6, l7] [(2, S a 0)] S h n) ∧
  (∀ (d : Nat) (x : Int) (l0 l2 l3 l4 l5 l6 l7 : Option mx_V) (v0 : mx_V) (S h : mx_H) (n : Int), mx_ex d 19 4 [l0, some (0, x), l2, l3, l4, l5, l6, l7] [v0] S h n = mx_ex d 19 5 [l0, some (0, x), l2, l3, l4, l5, l6, l7] [(0, x), v0] S h n) ∧
  (∀ (d : Nat) (x0 a : Int) (l0 l1 l2 l3 l4 l5 l6 l7 : Option mx_V) (S h : mx_H) (n : Int), mx_ex (d + 1) 19 5 [l0, l1, l2, l3, l4, l5, l6, l7] [(0, x0), (2, a)] S h n = mx_cl (S a (-2) = 8) d 90 [(2, a), (0, x0)] 19 8 [l0, l1, l2, l3, l4, l5, l6, l7] [] S h n) ∧
  (∀ (d : Nat) (x : Int) (l0 l1 l2 l3 l4 l5 l6 l7 : Option mx_V) (S h : mx_H) (n : Int), mx_ex d 19 8 [l0, l1, l2, l3, l4, l5, l6, l7] [(2, x)] S h n = mx_ex d 19 9 [l0, mx_nl l1, some (2, x), l3, l4, l5, l6, l7] [] S h n) ∧
  (∀ (d : Nat) (x : Int) (l1 l2 l3 l4 l5 l6 l7 : Option mx_V) (S h : mx_H) (n : Int), mx_ex d 19 9 [some (2, x), l1, l2, l3, l4, l5, l6, l7] [] S h n = mx_ex d 19 10 [some (2, x), l1, l2, l3, l4, l5, l6, l7] [(2, x)] S h n) ∧
  (∀ (d : Nat) (a : Int) (l0 l1 l2 l3 l4 l5 l6 l7 : Option mx_V) (S h : mx_H) (n : Int), mx_ex d 19 10 [l0, l1, l2, l3, l4, l5, l6, l7] [(2, a)] S h n = mx_gd (9 ≤ S a (-2) ∧ S a (-2) ≤ 9) d 19 13 [l0, l1, l2, l3, l4, l5, l6, l7] [(2, S a 0)] S h n) ∧
  (∀ (d : Nat) (a : Int) (l0 l1 l2 l3 l4 l5 l6 l7 : Option mx_V) (S h : mx_H) (n : Int), mx_ex (d + 1) 19 13 [l0, l1, l2, l3, l4, l5, l6, l7] [(2, a)] S h n = mx_cl (S a (-2) = 8) d 97 [(2, a)] 19 16 [l0, l1, l2, l3, l4, l5, l6, l7] [] S h n) ∧
  (∀ (d : Nat) (x : Int) (l1 l2 l3 l4 l5 l6 l7 : Option mx_V) (v0 : mx_V) (S h : mx_H) (n : Int), mx_ex d 19 16 [some (2, x), l1, l2, l3, l4, l5, l6, l7] [v0] S h n = mx_ex d 19 17 [some (2, x), l1, l2, l3, l4, l5, l6, l7] [(2, x), v0] S h n) ∧
  (∀ (d : Nat) (a : Int) (l0 l1 l2 l3 l4 l5 l6 l7 : Option mx_V) (v1 : mx_V) (S h : mx_H) (n : Int), mx_ex d 19 17 [l0, l1, l2, l3, l4, l5, l6, l7] [(2, a), v1] S h n = mx_gd (9 ≤ S a (-2) ∧ S a (-2) ≤ 9) d 19 20 [l0, l1, l2, l3, l4, l5, l6, l7] [(2, S a 0), v1] S h n) ∧
  (∀ (d : Nat) (x : Int) (l0 l2 l3 l4 l5 l6 l7 : Option mx_V) (v0 v1 : mx_V) (S h : mx_H) (n : Int), mx_ex d 19 20 [l0, some (0, x), l2, l3, l4, l5, l6, l7] [v0, v1] S h n = mx_ex d 19 21 [l0, some (0, x), l2, l3, l4, l5, l6, l7] [(0, x), v0, v1] S h n) ∧
  (∀ (d : Nat) (x0 a : Int) (l0 l1 l2 l3 l4 l5 l6 l7 : Option mx_V) (v2 : mx_V) (S h : mx_H) (n : Int), mx_ex (d + 1) 19 21 [l0, l1, l2, l3, l4, l5, l6, l7] [(0, x0), (2, a), v2] S h n = mx_cl (S a (-2) = 8) d 96 [(2, a), (0, x0)] 19 24 [l0, l1, l2, l3, l4, l5, l6, l7] [v2] S h n) ∧
  (∀ (d : Nat) (l0 l1 l2 l3 l4 l5 l6 l7 : Option mx_V) (v0 v1 : mx_V) (S h : mx_H) (n : Int), mx_ex d 19 24 [l0, l1, l2, l3, l4, l5, l6, l7] [v0, v1] S h n = mx_ex d 19 25 [l0, l1, l2, l3, l4, l5, l6, l7] [(0, (-1)), v0, v1] S h n) ∧
  (∀ (d : Nat) (b a : Int) (l0 l1 l2 l3 l4 l5 l6 l7 : Option mx_V) (v2 : mx_V) (S h : mx_H) (n : Int), mx_ex d 19 25 [l0, l1, l2, l3, l4, l5, l6, l7] [(0, b), (0, a), v2] S h n = mx_ex d 19 26 [l0, l1, l2, l3, l4, l5, l6, l7] [(0, mx_xor a b), v2] S h n) ∧
  (∀ (d : Nat) (b a : Int) (l0 l1 l2 l3 l4 l5 l6 l7 : Option mx_V) (S h : mx_H) (n : Int), mx_ex d 19 26 [l0, l1, l2, l3, l4, l5, l6, l7] [(0, b), (0, a)] S h n = mx_ex d 19 27 [l0, l1, l2, l3, l4, l5, l6, l7] [(0, mx_and a b)] S h n) ∧
  (∀ (d : Nat) (x : Int) (l0 l1 l2 l3 l4 l5 l6 l7 : Option mx_V) (S h : mx_H) (n : Int), mx_ex d 19 27 [l0, l1, l2, l3, l4, l5, l6, l7] [(0, x)] S h n = mx_ex d 19 28 [l0, l1, mx_nl l2, some (0, x), l4, l5, l6, l7] [] S h n) ∧
  (∀ (d : Nat) (x : Int) (l1 l2 l3 l4 l5 l6 l7 : Option mx_V) (S h : mx_H) (n : Int), mx_ex d 19 28 [some (2, x), l1, l2, l3, l4, l5, l6, l7] [] S h n = mx_ex d 19 29 [some (2, x), l1, l2, l3, l4, l5, l6, l7] [(2, x)] S h n) ∧
  (∀ (d : Nat) (x : Int) (l0 l1 l2 l4 l5 l6 l7 : Option mx_V) (v0 : mx_V) (S h : mx_H) (n : Int), mx_ex d 19 29 [l0, l1, l2, some (0, x), l4, l5, l6, l7] [v0] S h n = mx_ex d 19 30 [l0, l1, l2, some (0, x), l4, l5, l6, l7] [(0, x), v0] S h n) ∧
  (∀ (d : Nat) (x : Int) (l0 l2 l3 l4 l5 l6 l7 : Option mx_V) (v0 v1 : mx_V) (S h : mx_H) (n : Int), mx_ex d 19 30 [l0, some (0, x), l2, l3, l4, l5, l6, l7] [v0, v1] S h n = mx_ex d 19 31 [l0, some (0, x), l2, l3, l4, l5, l6, l7] [(0, x), v0, v1] S h n) ∧
  (∀ (d : Nat) (x0 x1 a : Int) (l0 l1 l2 l3 l4 l5 l6 l7 : Option mx_V) (S h : mx_H) (n : Int), mx_ex (d + 1) 19 31 [l0, l1, l2, l3, l4, l5, l6, l7] [(0, x0), (0, x1), (2, a)] S h n = mx_cl (S a (-2) = 9) d 26 [(2, a), (0, x1), (0, x0)] 19 34 [l0, l1, l2, l3, l4, l5, l6, l7] [] S h n) ∧
  (∀ (d : Nat) (x : Int) (l0 l1 l3 l4 l5 l6 l7 : Option mx_V) (S h : mx_H) (n : Int), mx_ex d 19 34 [l0, l1, some (2, x), l3, l4, l5, l6, l7] [] S h n = mx_ex d 19 35 [l0, l1, some (2, x), l3, l4, l5, l6, l7] [(2, x)] S h n) ∧
  (∀ (d : Nat) (a : Int) (l0 l1 l2 l3 l4 l5 l6 l7 : Option mx_V) (S h : mx_H) (n : Int), mx_ex d 19 35 [l0, l1, l2, l3, l4, l5, l6, l7] [(2, a)] S h n = mx_br (a = -1) d 19 46 38 [l0, l1, l2, l3, l4, l5, l6, l7] [] S h n) ∧
  (∀ (d : Nat) (x : Int) (l1 l2 l3 l4 l5 l6 l7 : Option mx_V) (S h : mx_H) (n : Int), mx_ex d 19 38 [some (2, x), l1, l2, l3, l4, l5, l6, l7] [] S h n = mx_ex d 19 39 [some (2, x), l1, l2, l3, l4, l5, l6, l7] [(2, x)] S h n) ∧
  (∀ (d : Nat) (x : Int) (l0 l1 l2 l4 l5 l6 l7 : Option mx_V) (v0 : mx_V) (S h : mx_H) (n : Int), mx_ex d 19 39 [l0, l1, l2, some (0, x), l4, l5, l6, l7] [v0] S h n = mx_ex d 19 40 [l0, l1, l2, some (0, x), l4, l5, l6, l7] [(0, x), v0] S h n) ∧
  (∀ (d : Nat) (x0 a : Int) (l0 l1 l2 l3 l4 l5 l6 l7 : Option mx_V) (S h : mx_H) (n : Int), mx_ex (d + 1) 19 40 [l0, l1, l2, l3, l4, l5, l6, l7] [(0, x0), (2, a)] S h n = mx_cl (S a (-2) = 9) d 30 [(2, a), (0, x0)] 19 43 [l0, l1, l2, l3, l4, l5, l6, l7] [] S h n) ∧
  (∀ (d : Nat) (a : Int) (l0 l1 l2 l3 l4 l5 l6 l7 : Option mx_V) (S h : mx_H) (n : Int), mx_ex d 19 43 [l0, l1, l2, l3, l4, l5, l6, l7] [(0, a)] S h n = mx_br (a = 0) d 19 46 48 [l0, l1, l2, l3, l4, l5, l6, l7] [] S h n) ∧
  (∀ (d : Nat) (l0 l1 l2 l3 l4 l5 l6 l7 : Option mx_V) (S h : mx_H) (n : Int), mx_ex d 19 46 [l0, l1, l2, l3, l4, l5, l6, l7] [] S h n = mx_ex d 19 47 [l0, l1, l2, l3, l4, l5, l6, l7] [(0, 0)] S h n) ∧
  (∀ (d : Nat) (x : Int) (l0 l1 l2 l3 l4 l5 l6 l7 : Option mx_V) (S h : mx_H) (n : Int), mx_ex d 19 47 [l0, l1, l2, l3, l4, l5, l6, l7] [(0, x)] S h n = mx_re (0 ≤ x ∧ x ≤ 1) (some (0, x)) S h n) ∧
  (∀ (d : Nat) (x : Int) (l1 l2 l3 l4 l5 l6 l7 : Option mx_V) (S h : mx_H) (n : Int), mx_ex d 19 48 [some (2, x), l1, l2, l3, l4, l5, l6, l7] [] S h n = mx_ex d 19 49 [some (2, x), l1, l2, l3, l4, l5, l6, l7] [(2, x)] S h n) ∧
  (∀ (d : Nat) (a : Int) (l0 l1 l2 l3 l4 l5 l6 l7 : Option mx_V) (S h : mx_H) (n : Int), mx_ex d 19 49 [l0, l1, l2, l3, l4, l5, l6, l7] [(2, a)] S h n = mx_gd (9 ≤ S a (-2) ∧ S a (-2) ≤ 9) d 19 52 [l0, l1, l2, l3, l4, l5, l6, l7] [(2, S a 9)] S h n) ∧
  (∀ (d : Nat) (l0 l1 l2 l3 l4 l5 l6 l7 : Option mx_V) (v0 : mx_V) (S h : mx_H) (n : Int), mx_ex d 19 52 [l0, l1, l2, l3, l4, l5, l6, l7] [v0] S h n = mx_ex d 19 53 [l0, l1, l2, l3, l4, l5, l6, l7] [(0, 0), v0] S h n) ∧
  (∀ (d : Nat) (x : Int) (l1 l2 l3 l4 l5 l6 l7 : Option mx_V) (v0 v1 : mx_V) (S h : mx_H) (n : Int), mx_ex d 19 53 [some (2, x), l1, l2, l3, l4, l5, l6, l7] [v0, v1] S h n = mx_ex d 19 54 [some (2, x), l1, l2, l3, l4, l5, l6, l7] [(2, x), v0, v1] S h n) ∧
  (∀ (d : Nat) (a : Int) (l0 l1 l2 l3 l4 l5 l6 l7 : Option mx_V) (v1 v2 : mx_V) (S h : mx_H) (n : Int), mx_ex d 19 54 [l0, l1, l2, l3, l4, l5, l6, l7] [(2, a), v1, v2] S h n = mx_gd (9 ≤ S a (-2) ∧ S a (-2) ≤ 9) d 19 57 [l0, l1, l2, l3, l4, l5, l6, l7] [(2, S a 10), v1, v2] S h n) ∧
  (∀ (d : Nat) (l0 l1 l2 l3 l4 l5 l6 l7 : Option mx_V) (v0 v1 v2 : mx_V) (S h : mx_H) (n : Int), mx_ex d 19 57 [l0, l1, l2, l3, l4, l5, l6, l7] [v0, v1, v2] S h n = mx_ex d 19 58 [l0, l1, l2, l3, l4, l5, l6, l7] [(0, 0), v0, v1, v2] S h n) ∧
  (∀ (d : Nat) (x : Int) (l1 l2 l3 l4 l5 l6 l7 : Option mx_V) (v0 v1 v2 v3 : mx_V) (S h : mx_H) (n : Int), mx_ex d 19 58 [some (2, x), l1, l2, l3, l4, l5, l6, l7] [v0, v1, v2, v3] S h n = mx_ex d 19 59 [some (2, x), l1, l2, l3, l4, l5, l6, l7] [(2, x), v0, v1, v2, v3] S h n) ∧
  (∀ (d : Nat) (a : Int) (l0 l1 l2 l3 l4 l5 l6 l7 : Option mx_V) (v1 v2 v3 v4 : mx_V) (S h : mx_H) (n : Int), mx_ex d 19 59 [l0, l1, l2, l3, l4, l5, l6, l7] [(2, a), v1, v2, v3, v4] S h n = mx_gd (9 ≤ S a (-2) ∧ S a (-2) ≤ 9) d 19 62 [l0, l1, l2, l3, l4, l5, l6, l7] [(2, S a 9), v1, v2, v3, v4] S h n) ∧
  (∀ (d : Nat) (a : Int) (l0 l1 l2 l3 l4 l5 l6 l7 : Option mx_V) (v1 v2 v3 v4 : mx_V) (S h : mx_H) (n : Int), mx_ex d 19 62 [l0, l1, l2, l3, l4, l5, l6, l7] [(2, a), v1, v2, v3, v4] S h n = mx_gd (20 ≤ S a (-2) ∧ S a (-2) ≤ 25) d 19 63 [l0, l1, l2, l3, l4, l5, l6, l7] [(0, S a (-1)), v1, v2, v3, v4] S h n) ∧
  (∀ (d : Nat) (x j b i a : Int) (l0 l1 l2 l3 l4 l5 l6 l7 : Option mx_V) (S h : mx_H) (n : Int), mx_ex d 19 63 [l0, l1, l2, l3, l4, l5, l6, l7] [(0, x), (0, j), (2, b), (0, i), (2, a)] S h n = mx_gd (S a (-2) = 20 ∧ S b (-2) = 20 ∧ 0 ≤ x ∧ 0 ≤ i ∧ 0 ≤ j ∧ i + x ≤ S a (-1) ∧ j + x ≤ S b (-1)) d 19 66 [l0, l1, l2, l3, l4, l5, l6, l7] [] S (mx_y h a i b j x) n) ∧
  (∀ (d : Nat) (l0 l1 l2 l3 l4 l5 l6 l7 : Option mx_V) (S h : mx_H) (n : Int), mx_ex d 19 66 [l0, l1, l2, l3, l4, l5, l6, l7] [] S h n = mx_ex d 19 67 [l0, l1, l2, l3, l4, l5, l6, l7] [(0, 0)] S h n) ∧
  (∀ (d : Nat) (x : Int) (l0 l1 l2 l3 l4 l5 l6 l7 : Option mx_V) (S h : mx_H) (n : Int), mx_ex d 19 67 [l0, l1, l2, l3, l4, l5, l6, l7] [(0, x)] S h n = mx_ex d 19 69 [l0, l1, l2, mx_nl l3, some (0, x), l5, l6, l7] [] S h n) ∧
  (∀ (d : Nat) (l0 l1 l2 l3 l4 l5 l6 l7 : Option mx_V) (S h : mx_H) (n : Int), mx_ex d 19 69 [l0, l1, l2, l3, l4, l5, l6, l7] [] S h n = mx_ex d 19 70 [l0, l1, l2, l3, l4, l5, l6, l7] [(0, 0)] S h n) ∧
  (∀ (d : Nat) (x : Int) (l0 l1 l2 l3 l4 l5 l6 l7 : Option mx_V) (S h : mx_H) (n : Int), mx_ex d 19 70 [l0, l1, l2, l3, l4, l5, l6, l7] [(0, x)] S h n = mx_ex d 19 72 [l0, l1, l2, l3, mx_nl l4, some (0, x), l6, l7] [] S h n) ∧
  (∀ (d : Nat) (x : Int) (l0 l1 l3 l4 l5 l6 l7 : Option mx_V) (v0 : mx_V) (S h : mx_H) (n : Int), mx_ex d 19 74 [l0, l1, some (2, x), l3, l4, l5, l6, l7] [v0] S h n = mx_ex d 19 75 [l0, l1, some (2, x), l3, l4, l5, l6, l7] [(2, x), v0] S h n) ∧
  (∀ (d : Nat) (a : Int) (l0 l1 l2 l3 l4 l5 l6 l7 : Option mx_V) (v1 : mx_V) (S h : mx_H) (n : Int), mx_ex d 19 75 [l0, l1, l2, l3, l4, l5, l6, l7] [(2, a), v1] S h n = mx_gd (1 ≤ S a (-2) ∧ S a (-2) ≤ 6) d 19 78 [l0, l1, l2, l3, l4, l5, l6, l7] [(2, S a 2), v1] S h n) ∧
  (∀ (d : Nat) (a : Int) (l0 l1 l2 l3 l4 l5 l6 l7 : Option mx_V) (v1 : mx_V) (S h : mx_H) (n : Int), mx_ex d 19 78 [l0, l1, l2, l3, l4, l5, l6, l7] [(2, a), v1] S h n = mx_gd (20 ≤ S a (-2) ∧ S a (-2) ≤ 25) d 19 79 [l0, l1, l2, l3, l4, l5, l6, l7] [(0, S a (-1)), v1] S h n) ∧
  (∀ (d : Nat) (b a : Int) (l0 l1 l2 l3 l4 l5 l6 l7 : Option mx_V) (S h : mx_H) (n : Int), mx_ex d 19 79 [l0, l1, l2, l3, l4, l5, l6, l7] [(0, b), (0, a)] S h n = mx_br (a < b) d 19 82 177 [l0, l1, l2, l3, l4, l5, l6, l7] [] S h n) ∧
  (∀ (d : Nat) (x : Int) (l0 l1 l2 l3 l5 l6 l7 : Option mx_V) (S h : mx_H) (n : Int), mx_ex d 19 82 [l0, l1, l2, l3, some (0, x), l5, l6, l7] [] S h n = mx_ex d 19 84 [l0, l1, l2, l3, some (0, x), l5, l6, l7] [(0, x)] S h n) ∧
  (∀ (d : Nat) (a : Int) (l0 l1 l2 l3 l4 l5 l6 l7 : Option mx_V) (S h : mx_H) (n : Int), mx_ex d 19 84 [l0, l1, l2, l3, l4, l5, l6, l7] [(0, a)] S h n = mx_br (a = 0) d 19 87 177 [l0, l1, l2, l3, l4, l5, l6, l7] [] S h n) ∧
  (∀ (d : Nat) (x : Int) (l0 l1 l3 l4 l5 l6 l7 : Option mx_V) (S h : mx_H) (n : Int), mx_ex d 19 87 [l0, l1, some (2, x), l3, l4, l5, l6, l7] [] S h n = mx_ex d 19 88 [l0, l1, some (2, x), l3, l4, l5, l6, l7] [(2, x)] S h n) ∧
  (∀ (d : Nat) (a : Int) (l0 l1 l2 l3 l4 l5 l6 l7 : Option mx_V) (S h : mx_H) (n : Int), mx_ex d 19 88 [l0, l1, l2, l3, l4, l5, l6, l7] [(2, a)] S h n = mx_gd (1 ≤ S a (-2) ∧ S a (-2) ≤ 6) d 19 91 [l0, l1, l2, l3, l4, l5, l6, l7] [(2, S a 2)] S h n) ∧
  (∀ (d : Nat) (x : Int) (l0 l1 l2 l3 l4 l6 l7 : Option mx_V) (v0 : mx_V) (S h : mx_H) (n : Int), mx_ex d 19 91 [l0, l1, l2, l3, l4, some (0, x), l6, l7] [v0] S h n = mx_ex d 19 93 [l0, l1, l2, l3, l4, some (0, x), l6, l7] [(0, x), v0] S h n) ∧
  (∀ (d : Nat) (i a : Int) (l0 l1 l2 l3 l4 l5 l6 l7 : Option mx_V) (S h : mx_H) (n : Int), mx_ex d 19 93 [l0, l1, l2, l3, l4, l5, l6, l7] [(0, i), (2, a)] S h n = mx_gd ((S a (-2) = 20 ∨ S a (-2) = 24) ∧ 0 ≤ i ∧ i < S a (-1)) d 19 94 [l0, l1, l2, l3, l4, l5, l6, l7] [(0, h a i)] S h n) ∧
  (∀ (d : Nat) (x : Int) (l0 l1 l2 l3 l4 l5 l6 l7 : Option mx_V) (S h : mx_H) (n : Int), mx_ex d 19 94 [l0, l1, l2, l3, l4, l5, l6, l7] [(0, x)] S h n = mx_ex d 19 96 [l0, l1, l2, l3, l4, mx_nl l5, some (0, x), l7] [] S h n) ∧
  (∀ (d : Nat) (l0 l1 l2 l3 l4 l5 l6 l7 : Option mx_V) (S h : mx_H) (n : Int), mx_ex d 19 96 [l0, l1, l2, l3, l4, l5, l6, l7] [] S h n = mx_ex d 19 97 [l0, l1, l2, l3, l4, l5, l6, l7] [(0, 0)] S h n) ∧
  (∀ (d : Nat) (x : Int) (l0 l1 l2 l3 l4 l5 l6 l7 : Option mx_V) (S h : mx_H) (n : Int), mx_ex d 19 97 [l0, l1, l2, l3, l4, l5, l6, l7] [(0, x)] S h n = mx_ex d 19 99 [l0, l1, l2, l3, l4, l5, mx_nl l6, some (0, x)] [] S h n) ∧
  (∀ (d : Nat) (l0 l1 l2 l3 l4 l5 l6 l7 : Option mx_V) (v0 : mx_V) (S h : mx_H) (n : Int), mx_ex d 19 101 [l0, l1, l2, l3, l4, l5, l6, l7] [v0] S h n = mx_ex d 19 103 [l0, l1, l2, l3, l4, l5, l6, l7] [(0, 15), v0] S h n) ∧
  (∀ (d : Nat) (b a : Int) (l0 l1 l2 l3 l4 l5 l6 l7 : Option mx_V) (S h : mx_H) (n : Int), mx_ex d 19 103 [l0, l1, l2, l3, l4, l5, l6, l7] [(0, b), (0, a)] S h n = mx_br (b < a) d 19 162 106 [l0, l1, l2, l3, l4, l5, l6, l7] [] S h n) ∧
  (∀ (d : Nat) (x : Int) (l0 l1 l2 l3 l5 l6 l7 : Option mx_V) (S h : mx_H) (n : Int), mx_ex d 19 106 [l0, l1, l2, l3, some (0, x), l5, l6, l7] [] S h n = mx_ex d 19 108 [l0, l1, l2, l3, some (0, x), l5, l6, l7] [(0, x)] S h n) ∧
  (∀ (d : Nat) (a : Int) (l0 l1 l2 l3 l4 l5 l6 l7 : Option mx_V) (S h : mx_H) (n : Int), mx_ex d 19 108 [l0, l1, l2, l3, l4, l5, l6, l7] [(0, a)] S h n = mx_br (a = 0) d 19 111 162 [l0, l1, l2, l3, l4, l5, l6, l7] [] S h n) ∧
  (∀ (d : Nat) (x : Int) (l0 l1 l3 l4 l5 l6 l7 : Option mx_V) (S h : mx_H) (n : Int), mx_ex d 19 111 [l0, l1, some (2, x), l3, l4, l5, l6, l7] [] S h n = mx_ex d 19 112 [l0, l1, some (2, x), l3, l4, l5, l6, l7] [(2, x)] S h n) ∧
  (∀ (d : Nat) (a : Int) (l0 l1 l2 l3 l4 l5 l6 l7 : Option mx_V) (S h : mx_H) (n : Int), mx_ex d 19 112 [l0, l1, l2, l3, l4, l5, l6, l7] [(2, a)] S h n = mx_gd (1 ≤ S a (-2) ∧ S a (-2) ≤ 6) d 19 115 [l0, l1, l2, l3, l4, l5, l6, l7] [(2, S a 2)] S h n) ∧
  (∀ (d : Nat) (x : Int) (l0 l1 l2 l3 l4 l6 l7 : Option mx_V) (v0 : mx_V) (S h : mx_H) (n : Int), mx_ex d 19 115 [l0, l1, l2, l3, l4, some (0, x), l6, l7] [v0] S h n = mx_ex d 19 117 [l0, l1, l2, l3, l4, some (0, x), l6, l7] [(0, x), v0] S h n) ∧
  (∀ (d : Nat) (x : Int) (l0 l1 l2 l3 l4 l5 l6 : Option mx_V) (v0 v1 : mx_V) (S h : mx_H) (n : Int), mx_ex d 19 117 [l0, l1, l2, l3, l4, l5, l6, some (0, x)] [v0, v1] S h n = mx_ex d 19 119 [l0, l1, l2, l3, l4, l5, l6, some (0, x)] [(0, x), v0, v1] S h n) ∧
  (∀ (d : Nat) (v i a : Int) (l0 l1 l2 l3 l4 l5 l6 l7 : Option mx_V) (S h : mx_H) (n : Int), mx_ex d 19 119 [l0, l1, l2, l3, l4, l5, l6, l7] [(0, v), (0, i), (2, a)] S h n = mx_gd (S a (-2) = 20 ∧ 0 ≤ i ∧ i < S a (-1)) d 19 120 [l0, l1, l2, l3, l4, l5, l6, l7] [] S (mx_u h a i v) n) ∧
  (∀ (d : Nat) (x : Int) (l0 l1 l2 l3 l4 l5 l6 : Option mx_V) (S h : mx_H) (n : Int), mx_ex d 19 120 [l0, l1, l2, l3, l4, l5, l6, some (0, x)] [] S h n = mx_ex d 19 122 [l0, l1, l2, l3, l4, l5, l6, some (0, x)] [(0, x)] S h n) ∧
  (∀ (d : Nat) (x : Int) (l0 l1 l2 l3 l4 l5 l7 : Option mx_V) (v0 : mx_V) (S h : mx_H) (n : Int), mx_ex d 19 122 [l0, l1, l2, l3, l4, l5, some (0, x), l7] [v0] S h n = mx_ex d 19 124 [l0, l1, l2, l3, l4, l5, some (0, x), l7] [(0, x), v0] S h n) ∧
  (∀ (d : Nat) (b a : Int) (l0 l1 l2 l3 l4 l5 l6 l7 : Option mx_V) (S h : mx_H) (n : Int), mx_ex d 19 124 [l0, l1, l2, l3, l4, l5, l6, l7] [(0, b), (0, a)] S h n = mx_br (a = b) d 19 139 127 [l0, l1, l2, l3, l4, l5, l6, l7] [] S h n) ∧
  (∀ (d : Nat) (x : Int) (l1 l2 l3 l4 l5 l6 l7 : Option mx_V) (S h : mx_H) (n : Int), mx_ex d 19 127 [some (2, x), l1, l2, l3, l4, l5, l6, l7] [] S h n = mx_ex d 19 128 [some (2, x), l1, l2, l3, l4, l5, l6, l7] [(2, x)] S h n) ∧
  (∀ (d : Nat) (x : Int) (l0 l1 l3 l4 l5 l6 l7 : Option mx_V) (v0 : mx_V) (S h : mx_H) (n : Int), mx_ex d 19 128 [l0, l1, some (2, x), l3, l4, l5, l6, l7] [v0] S h n = mx_ex d 19 129 [l0, l1, some (2, x), l3, l4, l5, l6, l7] [(2, x), v0] S h n) :=
  ⟨by intros; exact rfl,
   by intros; exact eq_ld rfl rfl,
   by intros; exact eq_gr rfl,
   by intros; exact eq_ld rfl rfl,
   by intros; exact eq_cv rfl (Nat.le_of_ble_eq_true rfl) rfl rfl rfl (Nat.le_of_ble_eq_true rfl),
   by intros; exact eq_st rfl (by decide) (Nat.le_of_ble_eq_true rfl) rfl,
   by intros; exact eq_ld rfl rfl,
   by intros; exact eq_gr rfl,
   by intros; exact eq_cv rfl (Nat.le_of_ble_eq_true rfl) rfl rfl rfl (Nat.le_of_ble_eq_true rfl),
   by intros; exact eq_ld rfl rfl,
   by intros; exact eq_gr rfl,
   by intros; exact eq_ld rfl rfl,
   by intros; exact eq_cv rfl (Nat.le_of_ble_eq_true rfl) rfl rfl rfl (Nat.le_of_ble_eq_true rfl),
   by intros; exact eq_push rfl,
   by intros; exact eq_i2 (o := mx_xor) rfl,
   by intros; exact eq_i2 (o := mx_and) rfl,
   by intros; exact eq_st rfl (by decide) (Nat.le_of_ble_eq_true rfl) rfl,
   by intros; exact eq_ld rfl rfl,
   by intros; exact eq_ld rfl rfl,
   by intros; exact eq_ld rfl rfl,
   by intros; exact eq_cv rfl (Nat.le_of_ble_eq_true rfl) rfl rfl rfl (Nat.le_of_ble_eq_true rfl),
   by intros; exact eq_ld rfl rfl,
   by intros; exact eq_nul rfl,
   by intros; exact eq_ld rfl rfl,
   by intros; exact eq_ld rfl rfl,
   by intros; exact eq_cv rfl (Nat.le_of_ble_eq_true rfl) rfl rfl rfl (Nat.le_of_ble_eq_true rfl),
   by intros; exact eq_if1 rfl,
   by intros; exact eq_push rfl,
   by intros; exact eq_rr rfl,
   by intros; exact eq_ld rfl rfl,
   by intros; exact eq_gr rfl,
   by intros; exact eq_push rfl,
   by intros; exact eq_ld rfl rfl,
   by intros; exact eq_gr rfl,
   by intros; exact eq_push rfl,
   by intros; exact eq_ld rfl rfl,
   by intros; exact eq_gr rfl,
   by intros; exact eq_alen rfl,
   by intros; exact eq_copy rfl (Nat.le_of_ble_eq_true rfl),
   by intros; exact eq_push rfl,
   by intros; exact eq_st rfl (by decide) (Nat.le_of_ble_eq_true rfl) rfl,
   by intros; exact eq_push rfl,
   by intros; exact eq_st rfl (by decide) (Nat.le_of_ble_eq_true rfl) rfl,
   by intros; exact eq_ld rfl rfl,
   by intros; exact eq_gr rfl,
   by intros; exact eq_alen rfl,
   by intros; exact eq_ic3 rfl,
   by intros; exact eq_ld rfl rfl,
   by intros; exact eq_if1 rfl,
   by intros; exact eq_ld rfl rfl,
   by intros; exact eq_gr rfl,
   by intros; exact eq_ld rfl rfl,
   by intros; exact eq_iald rfl,
   by intros; exact eq_st rfl (by decide) (Nat.le_of_ble_eq_true rfl) rfl,
   by intros; exact eq_push rfl,
   by intros; exact eq_st rfl (by decide) (Nat.le_of_ble_eq_true rfl) rfl,
   by intros; exact eq_push rfl,
   by intros; exact eq_ic4 rfl,
   by intros; exact eq_ld rfl rfl,
   by intros; exact eq_if1 rfl,
   by intros; exact eq_ld rfl rfl,
   by intros; exact eq_gr rfl,
   by intros; exact eq_ld rfl rfl,
   by intros; exact eq_ld rfl rfl,
   by intros; exact eq_iast rfl,
   by intros; exact eq_ld rfl rfl,
   by intros; exact eq_ld rfl rfl,
   by intros; exact eq_ic0 rfl,
   by intros; exact eq_ld rfl rfl,
   by intros; exact eq_ld rfl rfl⟩
theorem rw_X2_mendsBy_1 :
  (∀ (d : Nat) (x0 a : Int) (l0 l1 l2 l3 l4 l5 l6 l7 : Option mx_V) (S h : mx_H) (n : Int), mx_ex (d + 1) 19 129 [l0, l1, l2, l3, l4, l5, l6, l7] [(2, x0), (2, a)] S h n = mx_cl (S a (-2) = 9) d 21 [(2, a), (2, x0)] 19 132 [l0, l1, l2, l3, l4, l5, l6, l7] [] S h n) ∧
  (∀ (d : Nat) (a : Int) (l0 l1 l2 l3 l4 l5 l6 l7 : Option mx_V) (S h : mx_H) (n : Int), mx_ex d 19 132 [l0, l1, l2, l3, l4, l5, l6, l7] [(0, a)] S h n = mx_br (a = 0) d 19 139 135 [l0, l1, l2, l3, l4, l5, l6, l7] [] S h n) ∧
  (∀ (d : Nat) (l0 l1 l2 l3 l4 l5 l6 l7 : Option mx_V) (S h : mx_H) (n : Int), mx_ex d 19 135 [l0, l1, l2, l3, l4, l5, l6, l7] [] S h n = mx_ex d 19 136 [l0, l1, l2, l3, l4, l5, l6, l7] [(0, 1)] S h n) ∧
  (∀ (d : Nat) (l0 l1 l2 l3 l4 l5 l6 l7 : Option mx_V) (v0 : mx_V) (S h : mx_H) (n : Int), mx_ex d 19 136 [l0, l1, l2, l3, l4, l5, l6, l7] [v0] S h n = mx_ex d 19 140 [l0, l1, l2, l3, l4, l5, l6, l7] [v0] S h n) ∧
  (∀ (d : Nat) (l0 l1 l2 l3 l4 l5 l6 l7 : Option mx_V) (S h : mx_H) (n : Int), mx_ex d 19 139 [l0, l1, l2, l3, l4, l5, l6, l7] [] S h n = mx_ex d 19 140 [l0, l1, l2, l3, l4, l5, l6, l7] [(0, 0)] S h n) ∧
  (∀ (d : Nat) (x : Int) (l0 l1 l2 l3 l4 l5 l6 l7 : Option mx_V) (S h : mx_H) (n : Int), mx_ex d 19 140 [l0, l1, l2, l3, l4, l5, l6, l7] [(0, x)] S h n = mx_ex d 19 142 [l0, l1, l2, mx_nl l3, some (0, x), l5, l6, l7] [] S h n) ∧
  (∀ (d : Nat) (x : Int) (l0 l1 l2 l3 l5 l6 l7 : Option mx_V) (S h : mx_H) (n : Int), mx_ex d 19 142 [l0, l1, l2, l3, some (0, x), l5, l6, l7] [] S h n = mx_ex d 19 144 [l0, l1, l2, l3, some (0, x), l5, l6, l7] [(0, x)] S h n) ∧
  (∀ (d : Nat) (a : Int) (l0 l1 l2 l3 l4 l5 l6 l7 : Option mx_V) (S h : mx_H) (n : Int), mx_ex d 19 144 [l0, l1, l2, l3, l4, l5, l6, l7] [(0, a)] S h n = mx_br (a = 0) d 19 156 147 [l0, l1, l2, l3, l4, l5, l6, l7] [] S h n) ∧
  (∀ (d : Nat) (x : Int) (l1 l2 l3 l4 l5 l6 l7 : Option mx_V) (S h : mx_H) (n : Int), mx_ex d 19 147 [some (2, x), l1, l2, l3, l4, l5, l6, l7] [] S h n = mx_ex d 19 148 [some (2, x), l1, l2, l3, l4, l5, l6, l7] [(2, x)] S h n) ∧
  (∀ (d : Nat) (x : Int) (l0 l2 l3 l4 l5 l6 l7 : Option mx_V) (v0 : mx_V) (S h : mx_H) (n : Int), mx_ex d 19 148 [l0, some (0, x), l2, l3, l4, l5, l6, l7] [v0] S h n = mx_ex d 19 149 [l0, some (0, x), l2, l3, l4, l5, l6, l7] [(0, x), v0] S h n) ∧
  (∀ (d : Nat) (x : Int) (l0 l1 l2 l3 l4 l6 l7 : Option mx_V) (v0 v1 : mx_V) (S h : mx_H) (n : Int), mx_ex d 19 149 [l0, l1, l2, l3, l4, some (0, x), l6, l7] [v0, v1] S h n = mx_ex d 19 151 [l0, l1, l2, l3, l4, some (0, x), l6, l7] [(0, x), v0, v1] S h n) ∧
  (∀ (d : Nat) (x : Int) (l0 l1 l2 l3 l4 l5 l6 : Option mx_V) (v0 v1 v2 : mx_V) (S h : mx_H) (n : Int), mx_ex d 19 151 [l0, l1, l2, l3, l4, l5, l6, some (0, x)] [v0, v1, v2] S h n = mx_ex d 19 153 [l0, l1, l2, l3, l4, l5, l6, some (0, x)] [(0, x), v0, v1, v2] S h n) ∧
  (∀ (d : Nat) (x0 x1 x2 a : Int) (l0 l1 l2 l3 l4 l5 l6 l7 : Option mx_V) (S h : mx_H) (n : Int), mx_ex (d + 1) 19 153 [l0, l1, l2, l3, l4, l5, l6, l7] [(0, x0), (0, x1), (0, x2), (2, a)] S h n = mx_cl (S a (-2) = 9) d 20 [(2, a), (0, x2), (0, x1), (0, x0)] 19 156 [l0, l1, l2, l3, l4, l5, l6, l7] [] S h n) ∧
  (∀ (d : Nat) (x : Int) (l0 l1 l2 l3 l4 l5 l6 : Option mx_V) (S h : mx_H) (n : Int), mx_ex d 19 156 [l0, l1, l2, l3, l4, l5, l6, some (0, x)] [] S h n = mx_ex d 19 159 [l0, l1, l2, l3, l4, l5, mx_nl l6, some (0, mx_w (x + 1))] [] S h n) ∧
  (∀ (d : Nat) (l0 l1 l2 l3 l4 l5 l6 l7 : Option mx_V) (S h : mx_H) (n : Int), mx_ex d 19 159 [l0, l1, l2, l3, l4, l5, l6, l7] [] S h n = mx_ex d 19 99 [l0, l1, l2, l3, l4, l5, l6, l7] [] S h n) ∧
  (∀ (d : Nat) (x : Int) (l0 l1 l3 l4 l5 l6 l7 : Option mx_V) (S h : mx_H) (n : Int), mx_ex d 19 162 [l0, l1, some (2, x), l3, l4, l5, l6, l7] [] S h n = mx_ex d 19 163 [l0, l1, some (2, x), l3, l4, l5, l6, l7] [(2, x)] S h n) ∧
  (∀ (d : Nat) (a : Int) (l0 l1 l2 l3 l4 l5 l6 l7 : Option mx_V) (S h : mx_H) (n : Int), mx_ex d 19 163 [l0, l1, l2, l3, l4, l5, l6, l7] [(2, a)] S h n = mx_gd (1 ≤ S a (-2) ∧ S a (-2) ≤ 6) d 19 166 [l0, l1, l2, l3, l4, l5, l6, l7] [(2, S a 2)] S h n) ∧
  (∀ (d : Nat) (x : Int) (l0 l1 l2 l3 l4 l6 l7 : Option mx_V) (v0 : mx_V) (S h : mx_H) (n : Int), mx_ex d 19 166 [l0, l1, l2, l3, l4, some (0, x), l6, l7] [v0] S h n = mx_ex d 19 168 [l0, l1, l2, l3, l4, some (0, x), l6, l7] [(0, x), v0] S h n) ∧
  (∀ (d : Nat) (x : Int) (l0 l1 l2 l3 l4 l5 l7 : Option mx_V) (v0 v1 : mx_V) (S h : mx_H) (n : Int), mx_ex d 19 168 [l0, l1, l2, l3, l4, l5, some (0, x), l7] [v0, v1] S h n = mx_ex d 19 170 [l0, l1, l2, l3, l4, l5, some (0, x), l7] [(0, x), v0, v1] S h n) ∧
  (∀ (d : Nat) (v i a : Int) (l0 l1 l2 l3 l4 l5 l6 l7 : Option mx_V) (S h : mx_H) (n : Int), mx_ex d 19 170 [l0, l1, l2, l3, l4, l5, l6, l7] [(0, v), (0, i), (2, a)] S h n = mx_gd (S a (-2) = 20 ∧ 0 ≤ i ∧ i < S a (-1)) d 19 171 [l0, l1, l2, l3, l4, l5, l6, l7] [] S (mx_u h a i v) n) ∧
  (∀ (d : Nat) (x : Int) (l0 l1 l2 l3 l4 l6 l7 : Option mx_V) (S h : mx_H) (n : Int), mx_ex d 19 171 [l0, l1, l2, l3, l4, some (0, x), l6, l7] [] S h n = mx_ex d 19 174 [l0, l1, l2, l3, mx_nl l4, some (0, mx_w (x + 1)), l6, l7] [] S h n) ∧
  (∀ (d : Nat) (l0 l1 l2 l3 l4 l5 l6 l7 : Option mx_V) (S h : mx_H) (n : Int), mx_ex d 19 174 [l0, l1, l2, l3, l4, l5, l6, l7] [] S h n = mx_ex d 19 72 [l0, l1, l2, l3, l4, l5, l6, l7] [] S h n) ∧
  (∀ (d : Nat) (x : Int) (l1 l2 l3 l4 l5 l6 l7 : Option mx_V) (S h : mx_H) (n : Int), mx_ex d 19 177 [some (2, x), l1, l2, l3, l4, l5, l6, l7] [] S h n = mx_ex d 19 178 [some (2, x), l1, l2, l3, l4, l5, l6, l7] [(2, x)] S h n) ∧
  (∀ (d : Nat) (x : Int) (l0 l1 l3 l4 l5 l6 l7 : Option mx_V) (v0 : mx_V) (S h : mx_H) (n : Int), mx_ex d 19 178 [l0, l1, some (2, x), l3, l4, l5, l6, l7] [v0] S h n = mx_ex d 19 179 [l0, l1, some (2, x), l3, l4, l5, l6, l7] [(2, x), v0] S h n) ∧
  (∀ (d : Nat) (x0 a : Int) (l0 l1 l2 l3 l4 l5 l6 l7 : Option mx_V) (S h : mx_H) (n : Int), mx_ex (d + 1) 19 179 [l0, l1, l2, l3, l4, l5, l6, l7] [(2, x0), (2, a)] S h n = mx_cl (S a (-2) = 9) d 24 [(2, a), (2, x0)] 19 182 [l0, l1, l2, l3, l4, l5, l6, l7] [] S h n) ∧
  (∀ (d : Nat) (x : Int) (l0 l1 l2 l3 l5 l6 l7 : Option mx_V) (S h : mx_H) (n : Int), mx_ex d 19 182 [l0, l1, l2, l3, some (0, x), l5, l6, l7] [] S h n = mx_ex d 19 184 [l0, l1, l2, l3, some (0, x), l5, l6, l7] [(0, x)] S h n) ∧
  (∀ (d : Nat) (x : Int) (l0 l1 l2 l3 l4 l5 l6 l7 : Option mx_V) (S h : mx_H) (n : Int), mx_ex d 19 184 [l0, l1, l2, l3, l4, l5, l6, l7] [(0, x)] S h n = mx_re (0 ≤ x ∧ x ≤ 1) (some (0, x)) S h n) :=
  ⟨by intros; exact eq_cv rfl (Nat.le_of_ble_eq_true rfl) rfl rfl rfl (Nat.le_of_ble_eq_true rfl),
   by intros; exact eq_if0 rfl,
   by intros; exact eq_push rfl,
   by intros; exact eq_go rfl,
   by intros; exact eq_push rfl,
   by intros; exact eq_st rfl (by decide) (Nat.le_of_ble_eq_true rfl) rfl,
   by intros; exact eq_ld rfl rfl,
   by intros; exact eq_if0 rfl,
   by intros; exact eq_ld rfl rfl,
   by intros; exact eq_ld rfl rfl,
   by intros; exact eq_ld rfl rfl,
   by intros; exact eq_ld rfl rfl,
   by intros; exact eq_cv rfl (Nat.le_of_ble_eq_true rfl) rfl rfl rfl (Nat.le_of_ble_eq_true rfl),
   by intros; exact eq_inc rfl rfl rfl,
   by intros; exact eq_go rfl,
   by intros; exact eq_ld rfl rfl,
   by intros; exact eq_gr rfl,
   by intros; exact eq_ld rfl rfl,
   by intros; exact eq_ld rfl rfl,
   by intros; exact eq_iast rfl,
   by intros; exact eq_inc rfl rfl rfl,
   by intros; exact eq_go rfl,
   by intros; exact eq_ld rfl rfl,
   by intros; exact eq_ld rfl rfl,
   by intros; exact eq_cv rfl (Nat.le_of_ble_eq_true rfl) rfl rfl rfl (Nat.le_of_ble_eq_true rfl),
   by intros; exact eq_ld rfl rfl,
   by intros; exact eq_rr rfl⟩
theorem rw_X2_keepMend :
  (∀ (d : Nat) (a0 a1 a2 a3 : Int) (S h : mx_H) (n : Int), mx_M d 20 [(2, a0), (0, a1), (0, a2), (0, a3)] S h n = mx_ex d 20 0 [some (2, a0), some (0, a1), some (0, a2), some (0, a3)] [] S h n) ∧
  (∀ (d : Nat) (x : Int) (l1 l2 l3 : Option mx_V) (S h : mx_H) (n : Int), mx_ex d 20 0 [some (2, x), l1, l2, l3] [] S h n = mx_ex d 20 1 [some (2, x), l1, l2, l3] [(2, x)] S h n) ∧
  (∀ (d : Nat) (x : Int) (l0 l2 l3 : Option mx_V) (v0 : mx_V) (S h : mx_H) (n : Int), mx_ex d 20 1 [l0, some (0, x), l2, l3] [v0] S h n = mx_ex d 20 2 [l0, some (0, x), l2, l3] [(0, x), v0] S h n) ∧
  (∀ (d : Nat) (v a : Int) (l0 l1 l2 l3 : Option mx_V) (S h : mx_H) (n : Int), mx_ex d 20 2 [l0, l1, l2, l3] [(0, v), (2, a)] S h n = mx_gd (9 ≤ S a (-2) ∧ S a (-2) ≤ 9) d 20 5 [l0, l1, l2, l3] [] S (mx_u h a 2 v) n) ∧
  (∀ (d : Nat) (x : Int) (l1 l2 l3 : Option mx_V) (S h : mx_H) (n : Int), mx_ex d 20 5 [some (2, x), l1, l2, l3] [] S h n = mx_ex d 20 6 [some (2, x), l1, l2, l3] [(2, x)] S h n) ∧
  (∀ (d : Nat) (x : Int) (l0 l1 l3 : Option mx_V) (v0 : mx_V) (S h : mx_H) (n : Int), mx_ex d 20 6 [l0, l1, some (0, x), l3] [v0] S h n = mx_ex d 20 7 [l0, l1, some (0, x), l3] [(0, x), v0] S h n) ∧
  (∀ (d : Nat) (v a : Int) (l0 l1 l2 l3 : Option mx_V) (S h : mx_H) (n : Int), mx_ex d 20 7 [l0, l1, l2, l3] [(0, v), (2, a)] S h n = mx_gd (9 ≤ S a (-2) ∧ S a (-2) ≤ 9) d 20 10 [l0, l1, l2, l3] [] S (mx_u h a 3 v) n) ∧
  (∀ (d : Nat) (x : Int) (l1 l2 l3 : Option mx_V) (S h : mx_H) (n : Int), mx_ex d 20 10 [some (2, x), l1, l2, l3] [] S h n = mx_ex d 20 11 [some (2, x), l1, l2, l3] [(2, x)] S h n) ∧
  (∀ (d : Nat) (x : Int) (l0 l1 l2 : Option mx_V) (v0 : mx_V) (S h : mx_H) (n : Int), mx_ex d 20 11 [l0, l1, l2, some (0, x)] [v0] S h n = mx_ex d 20 12 [l0, l1, l2, some (0, x)] [(0, x), v0] S h n) ∧
  (∀ (d : Nat) (v a : Int) (l0 l1 l2 l3 : Option mx_V) (S h : mx_H) (n : Int), mx_ex d 20 12 [l0, l1, l2, l3] [(0, v), (2, a)] S h n = mx_gd (9 ≤ S a (-2) ∧ S a (-2) ≤ 9) d 20 15 [l0, l1, l2, l3] [] S (mx_u h a 4 v) n) ∧
  (∀ (d : Nat) (l0 l1 l2 l3 : Option mx_V) (S h : mx_H) (n : Int), mx_ex d 20 15 [l0, l1, l2, l3] [] S h n = some (none, S, h, n)) :=
  ⟨by intros; exact rfl,
   by intros; exact eq_ld rfl rfl,
   by intros; exact eq_ld rfl rfl,
   by intros; exact eq_pi rfl,
   by intros; exact eq_ld rfl rfl,
   by intros; exact eq_ld rfl rfl,
   by intros; exact eq_pi rfl,
   by intros; exact eq_ld rfl rfl,
   by intros; exact eq_ld rfl rfl,
   by intros; exact eq_pi rfl,
   by intros; exact eq_retv rfl⟩
theorem rh_X2_fitsAgain_72 : ∀ (d : Nat) (x : Int) (l0 l1 l2 l3 : Option mx_V) (S h : mx_H) (n : Int), mx_ex d 21 72 [l0, l1, l2, l3, some (0, x)] [] S h n = mx_ex d 21 74 [l0, l1, l2, l3, some (0, x)] [(0, x)] S h n := by intros; exact eq_ld rfl rfl
theorem rw_X2_fitsAgain :
  (∀ (d : Nat) (a0 a1 : Int) (S h : mx_H) (n : Int), mx_M d 21 [(2, a0), (2, a1)] S h n = mx_ex d 21 0 [some (2, a0), some (2, a1), none, none, none] [] S h n) ∧
  (∀ (d : Nat) (x : Int) (l0 l2 l3 l4 : Option mx_V) (S h : mx_H) (n : Int), mx_ex d 21 0 [l0, some (2, x), l2, l3, l4] [] S h n = mx_ex d 21 1 [l0, some (2, x), l2, l3, l4] [(2, x)] S h n) ∧
  (∀ (d : Nat) (a : Int) (l0 l1 l2 l3 l4 : Option mx_V) (S h : mx_H) (n : Int), mx_ex (d + 1) 21 1 [l0, l1, l2, l3, l4] [(2, a)] S h n = mx_cl (1 ≤ S a (-2) ∧ S a (-2) ≤ 6) d 45 [(2, a)] 21 4 [l0, l1, l2, l3, l4] [] S h n) ∧
  (∀ (d : Nat) (x : Int) (l0 l1 l2 l3 l4 : Option mx_V) (S h : mx_H) (n : Int), mx_ex d 21 4 [l0, l1, l2, l3, l4] [(0, x)] S h n = mx_ex d 21 5 [l0, mx_nl l1, some (0, x), l3, l4] [] S h n) ∧
  (∀ (d : Nat) (x : Int) (l1 l2 l3 l4 : Option mx_V) (S h : mx_H) (n : Int), mx_ex d 21 5 [some (2, x), l1, l2, l3, l4] [] S h n = mx_ex d 21 6 [some (2, x), l1, l2, l3, l4] [(2, x)] S h n) ∧
  (∀ (d : Nat) (a : Int) (l0 l1 l2 l3 l4 : Option mx_V) (S h : mx_H) (n : Int), mx_ex d 21 6 [l0, l1, l2, l3, l4] [(2, a)] S h n = mx_gd (9 ≤ S a (-2) ∧ S a (-2) ≤ 9) d 21 9 [l0, l1, l2, l3, l4] [(2, S a 10)] S h n) ∧
  (∀ (d : Nat) (x : Int) (l0 l2 l3 l4 : Option mx_V) (v0 : mx_V) (S h : mx_H) (n : Int), mx_ex d 21 9 [l0, some (2, x), l2, l3, l4] [v0] S h n = mx_ex d 21 10 [l0, some (2, x), l2, l3, l4] [(2, x), v0] S h n) ∧
  (∀ (d : Nat) (a : Int) (l0 l1 l2 l3 l4 : Option mx_V) (v1 : mx_V) (S h : mx_H) (n : Int), mx_ex d 21 10 [l0, l1, l2, l3, l4] [(2, a), v1] S h n = mx_gd (1 ≤ S a (-2) ∧ S a (-2) ≤ 6) d 21 13 [l0, l1, l2, l3, l4] [(0, h a 3), v1] S h n) ∧
  (∀ (d : Nat) (i a : Int) (l0 l1 l2 l3 l4 : Option mx_V) (S h : mx_H) (n : Int), mx_ex d 21 13 [l0, l1, l2, l3, l4] [(0, i), (2, a)] S h n = mx_gd ((S a (-2) = 20 ∨ S a (-2) = 24) ∧ 0 ≤ i ∧ i < S a (-1)) d 21 14 [l0, l1, l2, l3, l4] [(0, h a i)] S h n) ∧
  (∀ (d : Nat) (x : Int) (l0 l1 l3 l4 : Option mx_V) (v0 : mx_V) (S h : mx_H) (n : Int), mx_ex d 21 14 [l0, l1, some (0, x), l3, l4] [v0] S h n = mx_ex d 21 15 [l0, l1, some (0, x), l3, l4] [(0, x), v0] S h n) ∧
  (∀ (d : Nat) (b a : Int) (l0 l1 l2 l3 l4 : Option mx_V) (S h : mx_H) (n : Int), mx_ex d 21 15 [l0, l1, l2, l3, l4] [(0, b), (0, a)] S h n = mx_ex d 21 16 [l0, l1, l2, l3, l4] [(0, mx_and a b)] S h n) ∧
  (∀ (d : Nat) (a : Int) (l0 l1 l2 l3 l4 : Option mx_V) (S h : mx_H) (n : Int), mx_ex d 21 16 [l0, l1, l2, l3, l4] [(0, a)] S h n = mx_br (a = 0) d 21 19 21 [l0, l1, l2, l3, l4] [] S h n) ∧
  (∀ (d : Nat) (l0 l1 l2 l3 l4 : Option mx_V) (S h : mx_H) (n : Int), mx_ex d 21 19 [l0, l1, l2, l3, l4] [] S h n = mx_ex d 21 20 [l0, l1, l2, l3, l4] [(0, 0)] S h n) ∧
  (∀ (d : Nat) (x : Int) (l0 l1 l2 l3 l4 : Option mx_V) (S h : mx_H) (n : Int), mx_ex d 21 20 [l0, l1, l2, l3, l4] [(0, x)] S h n = mx_re (0 ≤ x ∧ x ≤ 1) (some (0, x)) S h n) ∧
  (∀ (d : Nat) (x : Int) (l1 l2 l3 l4 : Option mx_V) (S h : mx_H) (n : Int), mx_ex d 21 21 [some (2, x), l1, l2, l3, l4] [] S h n = mx_ex d 21 22 [some (2, x), l1, l2, l3, l4] [(2, x)] S h n) ∧
  (∀ (d : Nat) (x : Int) (l0 l2 l3 l4 : Option mx_V) (v0 : mx_V) (S h : mx_H) (n : Int), mx_ex d 21 22 [l0, some (2, x), l2, l3, l4] [v0] S h n = mx_ex d 21 23 [l0, some (2, x), l2, l3, l4] [(2, x), v0] S h n) ∧
  (∀ (d : Nat) (x0 a : Int) (l0 l1 l2 l3 l4 : Option mx_V) (S h : mx_H) (n : Int), mx_ex (d + 1) 21 23 [l0, l1, l2, l3, l4] [(2, x0), (2, a)] S h n = mx_cl (S a (-2) = 9) d 24 [(2, a), (2, x0)] 21 26 [l0, l1, l2, l3, l4] [] S h n) ∧
  (∀ (d : Nat) (x : Int) (l1 l2 l3 l4 : Option mx_V) (S h : mx_H) (n : Int), mx_ex d 21 26 [some (2, x), l1, l2, l3, l4] [] S h n = mx_ex d 21 27 [some (2, x), l1, l2, l3, l4] [(2, x)] S h n) ∧
  (∀ (d : Nat) (a : Int) (l0 l1 l2 l3 l4 : Option mx_V) (S h : mx_H) (n : Int), mx_ex d 21 27 [l0, l1, l2, l3, l4] [(2, a)] S h n = mx_gd (9 ≤ S a (-2) ∧ S a (-2) ≤ 9) d 21 30 [l0, l1, l2, l3, l4] [(2, S a 10)] S h n) ∧
  (∀ (d : Nat) (l0 l1 l2 l3 l4 : Option mx_V) (v0 : mx_V) (S h : mx_H) (n : Int), mx_ex d 21 30 [l0, l1, l2, l3, l4] [v0] S h n = mx_ex d 21 31 [l0, l1, l2, l3, l4] [(0, 0), v0] S h n) ∧
  (∀ (d : Nat) (x : Int) (l1 l2 l3 l4 : Option mx_V) (v0 v1 : mx_V) (S h : mx_H) (n : Int), mx_ex d 21 31 [some (2, x), l1, l2, l3, l4] [v0, v1] S h n = mx_ex d 21 32 [some (2, x), l1, l2, l3, l4] [(2, x), v0, v1] S h n) ∧
  (∀ (d : Nat) (a : Int) (l0 l1 l2 l3 l4 : Option mx_V) (v1 v2 : mx_V) (S h : mx_H) (n : Int), mx_ex d 21 32 [l0, l1, l2, l3, l4] [(2, a), v1, v2] S h n = mx_gd (9 ≤ S a (-2) ∧ S a (-2) ≤ 9) d 21 35 [l0, l1, l2, l3, l4] [(2, S a 9), v1, v2] S h n) ∧
  (∀ (d : Nat) (l0 l1 l2 l3 l4 : Option mx_V) (v0 v1 v2 : mx_V) (S h : mx_H) (n : Int), mx_ex d 21 35 [l0, l1, l2, l3, l4] [v0, v1, v2] S h n = mx_ex d 21 36 [l0, l1, l2, l3, l4] [(0, 0), v0, v1, v2] S h n) ∧
  (∀ (d : Nat) (x : Int) (l1 l2 l3 l4 : Option mx_V) (v0 v1 v2 v3 : mx_V) (S h : mx_H) (n : Int), mx_ex d 21 36 [some (2, x), l1, l2, l3, l4] [v0, v1, v2, v3] S h n = mx_ex d 21 37 [some (2, x), l1, l2, l3, l4] [(2, x), v0, v1, v2, v3] S h n) ∧
  (∀ (d : Nat) (a : Int) (l0 l1 l2 l3 l4 : Option mx_V) (v1 v2 v3 v4 : mx_V) (S h : mx_H) (n : Int), mx_ex d 21 37 [l0, l1, l2, l3, l4] [(2, a), v1, v2, v3, v4] S h n = mx_gd (9 ≤ S a (-2) ∧ S a (-2) ≤ 9) d 21 40 [l0, l1, l2, l3, l4] [(2, S a 9), v1, v2, v3, v4] S h n) ∧
  (∀ (d : Nat) (a : Int) (l0 l1 l2 l3 l4 : Option mx_V) (v1 v2 v3 v4 : mx_V) (S h : mx_H) (n : Int), mx_ex d 21 40 [l0, l1, l2, l3, l4] [(2, a), v1, v2, v3, v4] S h n = mx_gd (20 ≤ S a (-2) ∧ S a (-2) ≤ 25) d 21 41 [l0, l1, l2, l3, l4] [(0, S a (-1)), v1, v2, v3, v4] S h n) ∧
  (∀ (d : Nat) (x j b i a : Int) (l0 l1 l2 l3 l4 : Option mx_V) (S h : mx_H) (n : Int), mx_ex d 21 41 [l0, l1, l2, l3, l4] [(0, x), (0, j), (2, b), (0, i), (2, a)] S h n = mx_gd (S a (-2) = 20 ∧ S b (-2) = 20 ∧ 0 ≤ x ∧ 0 ≤ i ∧ 0 ≤ j ∧ i + x ≤ S a (-1) ∧ j + x ≤ S b (-1)) d 21 44 [l0, l1, l2, l3, l4] [] S (mx_y h a i b j x) n) ∧
  (∀ (d : Nat) (x : Int) (l1 l2 l3 l4 : Option mx_V) (S h : mx_H) (n : Int), mx_ex d 21 44 [some (2, x), l1, l2, l3, l4] [] S h n = mx_ex d 21 45 [some (2, x), l1, l2, l3, l4] [(2, x)] S h n) ∧
  (∀ (d : Nat) (a : Int) (l0 l1 l2 l3 l4 : Option mx_V) (S h : mx_H) (n : Int), mx_ex d 21 45 [l0, l1, l2, l3, l4] [(2, a)] S h n = mx_gd (9 ≤ S a (-2) ∧ S a (-2) ≤ 9) d 21 48 [l0, l1, l2, l3, l4] [(2, S a 9)] S h n) ∧
  (∀ (d : Nat) (x : Int) (l0 l2 l3 l4 : Option mx_V) (v0 : mx_V) (S h : mx_H) (n : Int), mx_ex d 21 48 [l0, some (2, x), l2, l3, l4] [v0] S h n = mx_ex d 21 49 [l0, some (2, x), l2, l3, l4] [(2, x), v0] S h n) ∧
  (∀ (d : Nat) (a : Int) (l0 l1 l2 l3 l4 : Option mx_V) (v1 : mx_V) (S h : mx_H) (n : Int), mx_ex d 21 49 [l0, l1, l2, l3, l4] [(2, a), v1] S h n = mx_gd (1 ≤ S a (-2) ∧ S a (-2) ≤ 6) d 21 52 [l0, l1, l2, l3, l4] [(0, h a 3), v1] S h n) ∧
  (∀ (d : Nat) (a b : Int) (l0 l1 l2 l3 l4 : Option mx_V) (S h : mx_H) (n : Int), mx_ex d 21 52 [l0, l1, l2, l3, l4] [(0, a), (2, b)] S h n = mx_ex d 21 53 [l0, l1, l2, l3, l4] [(0, a), (2, b), (0, a), (2, b)] S h n) ∧
  (∀ (d : Nat) (i a : Int) (l0 l1 l2 l3 l4 : Option mx_V) (v2 v3 : mx_V) (S h : mx_H) (n : Int), mx_ex d 21 53 [l0, l1, l2, l3, l4] [(0, i), (2, a), v2, v3] S h n = mx_gd ((S a (-2) = 20 ∨ S a (-2) = 24) ∧ 0 ≤ i ∧ i < S a (-1)) d 21 54 [l0, l1, l2, l3, l4] [(0, h a i), v2, v3] S h n) ∧
  (∀ (d : Nat) (x : Int) (l0 l1 l3 l4 : Option mx_V) (v0 v1 v2 : mx_V) (S h : mx_H) (n : Int), mx_ex d 21 54 [l0, l1, some (0, x), l3, l4] [v0, v1, v2] S h n = mx_ex d 21 55 [l0, l1, some (0, x), l3, l4] [(0, x), v0, v1, v2] S h n) ∧
  (∀ (d : Nat) (b a : Int) (l0 l1 l2 l3 l4 : Option mx_V) (v2 v3 : mx_V) (S h : mx_H) (n : Int), mx_ex d 21 55 [l0, l1, l2, l3, l4] [(0, b), (0, a), v2, v3] S h n = mx_ex d 21 56 [l0, l1, l2, l3, l4] [(0, mx_and a b), v2, v3] S h n) ∧
  (∀ (d : Nat) (v i a : Int) (l0 l1 l2 l3 l4 : Option mx_V) (S h : mx_H) (n : Int), mx_ex d 21 56 [l0, l1, l2, l3, l4] [(0, v), (0, i), (2, a)] S h n = mx_gd (S a (-2) = 20 ∧ 0 ≤ i ∧ i < S a (-1)) d 21 57 [l0, l1, l2, l3, l4] [] S (mx_u h a i v) n) ∧
  (∀ (d : Nat) (x : Int) (l1 l2 l3 l4 : Option mx_V) (S h : mx_H) (n : Int), mx_ex d 21 57 [some (2, x), l1, l2, l3, l4] [] S h n = mx_ex d 21 58 [some (2, x), l1, l2, l3, l4] [(2, x)] S h n) ∧
  (∀ (d : Nat) (a : Int) (l0 l1 l2 l3 l4 : Option mx_V) (S h : mx_H) (n : Int), mx_ex d 21 58 [l0, l1, l2, l3, l4] [(2, a)] S h n = mx_gd (9 ≤ S a (-2) ∧ S a (-2) ≤ 9) d 21 61 [l0, l1, l2, l3, l4] [(2, S a 0)] S h n) ∧
  (∀ (d : Nat) (x : Int) (l0 l2 l3 l4 : Option mx_V) (v0 : mx_V) (S h : mx_H) (n : Int), mx_ex d 21 61 [l0, some (2, x), l2, l3, l4] [v0] S h n = mx_ex d 21 62 [l0, some (2, x), l2, l3, l4] [(2, x), v0] S h n) ∧
  (∀ (d : Nat) (a : Int) (l0 l1 l2 l3 l4 : Option mx_V) (v1 : mx_V) (S h : mx_H) (n : Int), mx_ex d 21 62 [l0, l1, l2, l3, l4] [(2, a), v1] S h n = mx_gd (1 ≤ S a (-2) ∧ S a (-2) ≤ 6) d 21 65 [l0, l1, l2, l3, l4] [(0, h a 0), v1] S h n) ∧
  (∀ (d : Nat) (x0 a : Int) (l0 l1 l2 l3 l4 : Option mx_V) (S h : mx_H) (n : Int), mx_ex (d + 1) 21 65 [l0, l1, l2, l3, l4] [(0, x0), (2, a)] S h n = mx_cl (S a (-2) = 8) d 96 [(2, a), (0, x0)] 21 68 [l0, l1, l2, l3, l4] [] S h n) ∧
  (∀ (d : Nat) (x : Int) (l0 l1 l2 l3 l4 : Option mx_V) (S h : mx_H) (n : Int), mx_ex d 21 68 [l0, l1, l2, l3, l4] [(0, x)] S h n = mx_ex d 21 69 [l0, l1, mx_nl l2, some (0, x), l4] [] S h n) ∧
  (∀ (d : Nat) (l0 l1 l2 l3 l4 : Option mx_V) (S h : mx_H) (n : Int), mx_ex d 21 69 [l0, l1, l2, l3, l4] [] S h n = mx_ex d 21 70 [l0, l1, l2, l3, l4] [(0, 0)] S h n) ∧
  (∀ (d : Nat) (x : Int) (l0 l1 l2 l3 l4 : Option mx_V) (S h : mx_H) (n : Int), mx_ex d 21 70 [l0, l1, l2, l3, l4] [(0, x)] S h n = mx_ex d 21 72 [l0, l1, l2, mx_nl l3, some (0, x)] [] S h n) ∧
  (∀ (d : Nat) (x : Int) (l1 l2 l3 l4 : Option mx_V) (v0 : mx_V) (S h : mx_H) (n : Int), mx_ex d 21 74 [some (2, x), l1, l2, l3, l4] [v0] S h n = mx_ex d 21 75 [some (2, x), l1, l2, l3, l4] [(2, x), v0] S h n) ∧
  (∀ (d : Nat) (a : Int) (l0 l1 l2 l3 l4 : Option mx_V) (v1 : mx_V) (S h : mx_H) (n : Int), mx_ex d 21 75 [l0, l1, l2, l3, l4] [(2, a), v1] S h n = mx_gd (9 ≤ S a (-2) ∧ S a (-2) ≤ 9) d 21 78 [l0, l1, l2, l3, l4] [(2, S a 0), v1] S h n) ∧
  (∀ (d : Nat) (a : Int) (l0 l1 l2 l3 l4 : Option mx_V) (v1 : mx_V) (S h : mx_H) (n : Int), mx_ex d 21 78 [l0, l1, l2, l3, l4] [(2, a), v1] S h n = mx_gd (8 ≤ S a (-2) ∧ S a (-2) ≤ 8) d 21 81 [l0, l1, l2, l3, l4] [(0, h a 4), v1] S h n) ∧
  (∀ (d : Nat) (b a : Int) (l0 l1 l2 l3 l4 : Option mx_V) (S h : mx_H) (n : Int), mx_ex d 21 81 [l0, l1, l2, l3, l4] [(0, b), (0, a)] S h n = mx_br (a < b) d 21 84 105 [l0, l1, l2, l3, l4] [] S h n) ∧
  (∀ (d : Nat) (x : Int) (l0 l1 l2 l4 : Option mx_V) (S h : mx_H) (n : Int), mx_ex d 21 84 [l0, l1, l2, some (0, x), l4] [] S h n = mx_ex d 21 85 [l0, l1, l2, some (0, x), l4] [(0, x)] S h n) ∧
  (∀ (d : Nat) (x : Int) (l0 l1 l2 l3 : Option mx_V) (v0 : mx_V) (S h : mx_H) (n : Int), mx_ex d 21 85 [l0, l1, l2, l3, some (0, x)] [v0] S h n = mx_ex d 21 87 [l0, l1, l2, l3, some (0, x)] [(0, x), v0] S h n) ∧
  (∀ (d : Nat) (b a : Int) (l0 l1 l2 l3 l4 : Option mx_V) (S h : mx_H) (n : Int), mx_ex d 21 87 [l0, l1, l2, l3, l4] [(0, b), (0, a)] S h n = mx_ex d 21 88 [l0, l1, l2, l3, l4] [(0, mx_shr a b)] S h n) ∧
  (∀ (d : Nat) (l0 l1 l2 l3 l4 : Option mx_V) (v0 : mx_V) (S h : mx_H) (n : Int), mx_ex d 21 88 [l0, l1, l2, l3, l4] [v0] S h n = mx_ex d 21 89 [l0, l1, l2, l3, l4] [(0, 1), v0] S h n) ∧
  (∀ (d : Nat) (b a : Int) (l0 l1 l2 l3 l4 : Option mx_V) (S h : mx_H) (n : Int), mx_ex d 21 89 [l0, l1, l2, l3, l4] [(0, b), (0, a)] S h n = mx_ex d 21 90 [l0, l1, l2, l3, l4] [(0, mx_and a b)] S h n) ∧
  (∀ (d : Nat) (a : Int) (l0 l1 l2 l3 l4 : Option mx_V) (S h : mx_H) (n : Int), mx_ex d 21 90 [l0, l1, l2, l3, l4] [(0, a)] S h n = mx_br (a = 0) d 21 99 93 [l0, l1, l2, l3, l4] [] S h n) ∧
  (∀ (d : Nat) (x : Int) (l1 l2 l3 l4 : Option mx_V) (S h : mx_H) (n : Int), mx_ex d 21 93 [some (2, x), l1, l2, l3, l4] [] S h n = mx_ex d 21 94 [some (2, x), l1, l2, l3, l4] [(2, x)] S h n) ∧
  (∀ (d : Nat) (x : Int) (l0 l1 l2 l3 : Option mx_V) (v0 : mx_V) (S h : mx_H) (n : Int), mx_ex d 21 94 [l0, l1, l2, l3, some (0, x)] [v0] S h n = mx_ex d 21 96 [l0, l1, l2, l3, some (0, x)] [(0, x), v0] S h n) ∧
  (∀ (d : Nat) (x0 a : Int) (l0 l1 l2 l3 l4 : Option mx_V) (S h : mx_H) (n : Int), mx_ex (d + 1) 21 96 [l0, l1, l2, l3, l4] [(0, x0), (2, a)] S h n = mx_cl (S a (-2) = 9) d 27 [(2, a), (0, x0)] 21 99 [l0, l1, l2, l3, l4] [] S h n) ∧
  (∀ (d : Nat) (x : Int) (l0 l1 l2 l3 : Option mx_V) (S h : mx_H) (n : Int), mx_ex d 21 99 [l0, l1, l2, l3, some (0, x)] [] S h n = mx_ex d 21 102 [l0, l1, l2, mx_nl l3, some (0, mx_w (x + 1))] [] S h n) ∧
  (∀ (d : Nat) (l0 l1 l2 l3 l4 : Option mx_V) (S h : mx_H) (n : Int), mx_ex d 21 102 [l0, l1, l2, l3, l4] [] S h n = mx_ex d 21 72 [l0, l1, l2, l3, l4] [] S h n) ∧
  (∀ (d : Nat) (x : Int) (l1 l2 l3 l4 : Option mx_V) (S h : mx_H) (n : Int), mx_ex d 21 105 [some (2, x), l1, l2, l3, l4] [] S h n = mx_ex d 21 106 [some (2, x), l1, l2, l3, l4] [(2, x)] S h n) ∧
  (∀ (d : Nat) (x : Int) (l1 l2 l3 l4 : Option mx_V) (v0 : mx_V) (S h : mx_H) (n : Int), mx_ex d 21 106 [some (2, x), l1, l2, l3, l4] [v0] S h n = mx_ex d 21 107 [some (2, x), l1, l2, l3, l4] [(2, x), v0] S h n) ∧
  (∀ (d : Nat) (a : Int) (l0 l1 l2 l3 l4 : Option mx_V) (v1 : mx_V) (S h : mx_H) (n : Int), mx_ex d 21 107 [l0, l1, l2, l3, l4] [(2, a), v1] S h n = mx_gd (9 ≤ S a (-2) ∧ S a (-2) ≤ 9) d 21 110 [l0, l1, l2, l3, l4] [(2, S a 0), v1] S h n) ∧
  (∀ (d : Nat) (a : Int) (l0 l1 l2 l3 l4 : Option mx_V) (v1 : mx_V) (S h : mx_H) (n : Int), mx_ex (d + 1) 21 110 [l0, l1, l2, l3, l4] [(2, a), v1] S h n = mx_cl (S a (-2) = 8) d 97 [(2, a)] 21 113 [l0, l1, l2, l3, l4] [v1] S h n) ∧
  (∀ (d : Nat) (x0 a : Int) (l0 l1 l2 l3 l4 : Option mx_V) (S h : mx_H) (n : Int), mx_ex (d + 1) 21 113 [l0, l1, l2, l3, l4] [(0, x0), (2, a)] S h n = mx_cl (S a (-2) = 9) d 30 [(2, a), (0, x0)] 21 116 [l0, l1, l2, l3, l4] [] S h n) ∧
  (∀ (d : Nat) (x : Int) (l0 l1 l2 l3 l4 : Option mx_V) (S h : mx_H) (n : Int), mx_ex d 21 116 [l0, l1, l2, l3, l4] [(0, x)] S h n = mx_re (0 ≤ x ∧ x ≤ 1) (some (0, x)) S h n) :=
  ⟨by intros; exact rfl,
   by intros; exact eq_ld rfl rfl,
   by intros; exact eq_ci rfl (Nat.le_of_ble_eq_true rfl) rfl rfl rfl (Nat.le_of_ble_eq_true rfl),
   by intros; exact eq_st rfl (by decide) (Nat.le_of_ble_eq_true rfl) rfl,
   by intros; exact eq_ld rfl rfl,
   by intros; exact eq_gr rfl,
   by intros; exact eq_ld rfl rfl,
   by intros; exact eq_gi rfl,
   by intros; exact eq_iald rfl,
   by intros; exact eq_ld rfl rfl,
   by intros; exact eq_i2 (o := mx_and) rfl,
   by intros; exact eq_if1 rfl,
   by intros; exact eq_push rfl,
   by intros; exact eq_rr rfl,
   by intros; exact eq_ld rfl rfl,
   by intros; exact eq_ld rfl rfl,
   by intros; exact eq_cv rfl (Nat.le_of_ble_eq_true rfl) rfl rfl rfl (Nat.le_of_ble_eq_true rfl),
   by intros; exact eq_ld rfl rfl,
   by intros; exact eq_gr rfl,
   by intros; exact eq_push rfl,
   by intros; exact eq_ld rfl rfl,
   by intros; exact eq_gr rfl,
   by intros; exact eq_push rfl,
   by intros; exact eq_ld rfl rfl,
   by intros; exact eq_gr rfl,
   by intros; exact eq_alen rfl,
   by intros; exact eq_copy rfl (Nat.le_of_ble_eq_true rfl),
   by intros; exact eq_ld rfl rfl,
   by intros; exact eq_gr rfl,
   by intros; exact eq_ld rfl rfl,
   by intros; exact eq_gi rfl,
   by intros; exact eq_dup2 rfl (by decide) (by decide),
   by intros; exact eq_iald rfl,
   by intros; exact eq_ld rfl rfl,
   by intros; exact eq_i2 (o := mx_and) rfl,
   by intros; exact eq_iast rfl,
   by intros; exact eq_ld rfl rfl,
   by intros; exact eq_gr rfl,
   by intros; exact eq_ld rfl rfl,
   by intros; exact eq_gi rfl,
   by intros; exact eq_cv rfl (Nat.le_of_ble_eq_true rfl) rfl rfl rfl (Nat.le_of_ble_eq_true rfl),
   by intros; exact eq_st rfl (by decide) (Nat.le_of_ble_eq_true rfl) rfl,
   by intros; exact eq_push rfl,
   by intros; exact eq_st rfl (by decide) (Nat.le_of_ble_eq_true rfl) rfl,
   by intros; exact eq_ld rfl rfl,
   by intros; exact eq_gr rfl,
   by intros; exact eq_gi rfl,
   by intros; exact eq_ic3 rfl,
   by intros; exact eq_ld rfl rfl,
   by intros; exact eq_ld rfl rfl,
   by intros; exact eq_i2 (o := mx_shr) rfl,
   by intros; exact eq_push rfl,
   by intros; exact eq_i2 (o := mx_and) rfl,
   by intros; exact eq_if0 rfl,
   by intros; exact eq_ld rfl rfl,
   by intros; exact eq_ld rfl rfl,
   by intros; exact eq_cv rfl (Nat.le_of_ble_eq_true rfl) rfl rfl rfl (Nat.le_of_ble_eq_true rfl),
   by intros; exact eq_inc rfl rfl rfl,
   by intros; exact eq_go rfl,
   by intros; exact eq_ld rfl rfl,
   by intros; exact eq_ld rfl rfl,
   by intros; exact eq_gr rfl,
   by intros; exact eq_cv rfl (Nat.le_of_ble_eq_true rfl) rfl rfl rfl (Nat.le_of_ble_eq_true rfl),
   by intros; exact eq_cv rfl (Nat.le_of_ble_eq_true rfl) rfl rfl rfl (Nat.le_of_ble_eq_true rfl),
   by intros; exact eq_rr rfl⟩
theorem rw_X2_refresh :
  (∀ (d : Nat) (a0 : Int) (S h : mx_H) (n : Int), mx_M d 22 [(2, a0)] S h n = mx_ex d 22 0 [some (2, a0)] [] S h n) ∧
  (∀ (d : Nat) (x : Int) (S h : mx_H) (n : Int), mx_ex d 22 0 [some (2, x)] [] S h n = mx_ex d 22 1 [some (2, x)] [(2, x)] S h n) ∧
  (∀ (d : Nat) (a : Int) (l0 : Option mx_V) (S h : mx_H) (n : Int), mx_ex d 22 1 [l0] [(2, a)] S h n = mx_gd (9 ≤ S a (-2) ∧ S a (-2) ≤ 9) d 22 4 [l0] [(0, h a 14)] S h n) ∧
  (∀ (d : Nat) (x : Int) (v0 : mx_V) (S h : mx_H) (n : Int), mx_ex d 22 4 [some (2, x)] [v0] S h n = mx_ex d 22 5 [some (2, x)] [(2, x), v0] S h n) ∧
  (∀ (d : Nat) (a : Int) (l0 : Option mx_V) (v1 : mx_V) (S h : mx_H) (n : Int), mx_ex d 22 5 [l0] [(2, a), v1] S h n = mx_gd (9 ≤ S a (-2) ∧ S a (-2) ≤ 9) d 22 8 [l0] [(2, S a 0), v1] S h n) ∧
  (∀ (d : Nat) (a : Int) (l0 : Option mx_V) (v1 : mx_V) (S h : mx_H) (n : Int), mx_ex d 22 8 [l0] [(2, a), v1] S h n = mx_gd (8 ≤ S a (-2) ∧ S a (-2) ≤ 8) d 22 11 [l0] [(0, h a 5), v1] S h n) ∧
  (∀ (d : Nat) (b a : Int) (l0 : Option mx_V) (S h : mx_H) (n : Int), mx_ex d 22 11 [l0] [(0, b), (0, a)] S h n = mx_br (a = b) d 22 14 15 [l0] [] S h n) ∧
  (∀ (d : Nat) (l0 : Option mx_V) (S h : mx_H) (n : Int), mx_ex d 22 14 [l0] [] S h n = some (none, S, h, n)) ∧
  (∀ (d : Nat) (x : Int) (S h : mx_H) (n : Int), mx_ex d 22 15 [some (2, x)] [] S h n = mx_ex d 22 16 [some (2, x)] [(2, x)] S h n) ∧
  (∀ (d : Nat) (x : Int) (v0 : mx_V) (S h : mx_H) (n : Int), mx_ex d 22 16 [some (2, x)] [v0] S h n = mx_ex d 22 17 [some (2, x)] [(2, x), v0] S h n) ∧
  (∀ (d : Nat) (a : Int) (l0 : Option mx_V) (v1 : mx_V) (S h : mx_H) (n : Int), mx_ex d 22 17 [l0] [(2, a), v1] S h n = mx_gd (9 ≤ S a (-2) ∧ S a (-2) ≤ 9) d 22 20 [l0] [(2, S a 0), v1] S h n) ∧
  (∀ (d : Nat) (a : Int) (l0 : Option mx_V) (v1 : mx_V) (S h : mx_H) (n : Int), mx_ex d 22 20 [l0] [(2, a), v1] S h n = mx_gd (8 ≤ S a (-2) ∧ S a (-2) ≤ 8) d 22 23 [l0] [(0, h a 5), v1] S h n) ∧
  (∀ (d : Nat) (v a : Int) (l0 : Option mx_V) (S h : mx_H) (n : Int), mx_ex d 22 23 [l0] [(0, v), (2, a)] S h n = mx_gd (9 ≤ S a (-2) ∧ S a (-2) ≤ 9) d 22 26 [l0] [] S (mx_u h a 14 v) n) ∧
  (∀ (d : Nat) (x : Int) (S h : mx_H) (n : Int), mx_ex d 22 26 [some (2, x)] [] S h n = mx_ex d 22 27 [some (2, x)] [(2, x)] S h n) ∧
  (∀ (d : Nat) (a : Int) (l0 : Option mx_V) (S h : mx_H) (n : Int), mx_ex (d + 1) 22 27 [l0] [(2, a)] S h n = mx_cl (S a (-2) = 9) d 23 [(2, a)] 22 30 [l0] [] S h n) ∧
  (∀ (d : Nat) (x : Int) (S h : mx_H) (n : Int), mx_ex d 22 30 [some (2, x)] [] S h n = mx_ex d 22 31 [some (2, x)] [(2, x)] S h n) ∧
  (∀ (d : Nat) (x : Int) (v0 : mx_V) (S h : mx_H) (n : Int), mx_ex d 22 31 [some (2, x)] [v0] S h n = mx_ex d 22 32 [some (2, x)] [(2, x), v0] S h n) ∧
  (∀ (d : Nat) (a : Int) (l0 : Option mx_V) (v1 : mx_V) (S h : mx_H) (n : Int), mx_ex d 22 32 [l0] [(2, a), v1] S h n = mx_gd (9 ≤ S a (-2) ∧ S a (-2) ≤ 9) d 22 35 [l0] [(2, S a 0), v1] S h n) ∧
  (∀ (d : Nat) (a : Int) (l0 : Option mx_V) (v1 : mx_V) (S h : mx_H) (n : Int), mx_ex (d + 1) 22 35 [l0] [(2, a), v1] S h n = mx_cl (S a (-2) = 8) d 97 [(2, a)] 22 38 [l0] [v1] S h n) ∧
  (∀ (d : Nat) (l0 : Option mx_V) (v0 v1 : mx_V) (S h : mx_H) (n : Int), mx_ex d 22 38 [l0] [v0, v1] S h n = mx_ex d 22 39 [l0] [(0, (-1)), v0, v1] S h n) ∧
  (∀ (d : Nat) (x0 x1 a : Int) (l0 : Option mx_V) (S h : mx_H) (n : Int), mx_ex (d + 1) 22 39 [l0] [(0, x0), (0, x1), (2, a)] S h n = mx_cl (S a (-2) = 9) d 26 [(2, a), (0, x1), (0, x0)] 22 42 [l0] [] S h n) ∧
  (∀ (d : Nat) (x : Int) (S h : mx_H) (n : Int), mx_ex d 22 42 [some (2, x)] [] S h n = mx_ex d 22 43 [some (2, x)] [(2, x)] S h n) ∧
  (∀ (d : Nat) (a : Int) (l0 : Option mx_V) (S h : mx_H) (n : Int), mx_ex (d + 1) 22 43 [l0] [(2, a)] S h n = mx_cl (S a (-2) = 9) d 32 [(2, a)] 22 46 [l0] [] S h n) ∧
  (∀ (d : Nat) (l0 : Option mx_V) (S h : mx_H) (n : Int), mx_ex d 22 46 [l0] [] S h n = some (none, S, h, n)) :=
  ⟨by intros; exact rfl,
   by intros; exact eq_ld rfl rfl,
   by intros; exact eq_gi rfl,
   by intros; exact eq_ld rfl rfl,
   by intros; exact eq_gr rfl,
   by intros; exact eq_gi rfl,
   by intros; exact eq_ic1 rfl,
   by intros; exact eq_retv rfl,
   by intros; exact eq_ld rfl rfl,
   by intros; exact eq_ld rfl rfl,
   by intros; exact eq_gr rfl,
   by intros; exact eq_gi rfl,
   by intros; exact eq_pi rfl,
   by intros; exact eq_ld rfl rfl,
   by intros; exact eq_cv rfl (Nat.le_of_ble_eq_true rfl) rfl rfl rfl (Nat.le_of_ble_eq_true rfl),
   by intros; exact eq_ld rfl rfl,
   by intros; exact eq_ld rfl rfl,
   by intros; exact eq_gr rfl,
   by intros; exact eq_cv rfl (Nat.le_of_ble_eq_true rfl) rfl rfl rfl (Nat.le_of_ble_eq_true rfl),
   by intros; exact eq_push rfl,
   by intros; exact eq_cv rfl (Nat.le_of_ble_eq_true rfl) rfl rfl rfl (Nat.le_of_ble_eq_true rfl),
   by intros; exact eq_ld rfl rfl,
   by intros; exact eq_cv rfl (Nat.le_of_ble_eq_true rfl) rfl rfl rfl (Nat.le_of_ble_eq_true rfl),
   by intros; exact eq_retv rfl⟩
theorem rh_X2_load_2 : ∀ (d : Nat) (x : Int) (l0 l2 : Option mx_V) (S h : mx_H) (n : Int), mx_ex d 23 2 [l0, some (0, x), l2] [] S h n = mx_ex d 23 3 [l0, some (0, x), l2] [(0, x)] S h n := by intros; exact eq_ld rfl rfl
theorem rw_X2_load :
  (∀ (d : Nat) (a0 : Int) (S h : mx_H) (n : Int), mx_M d 23 [(2, a0)] S h n = mx_ex d 23 0 [some (2, a0), none, none] [] S h n) ∧
  (∀ (d : Nat) (l0 l1 l2 : Option mx_V) (S h : mx_H) (n : Int), mx_ex d 23 0 [l0, l1, l2] [] S h n = mx_ex d 23 1 [l0, l1, l2] [(0, 0)] S h n) ∧
  (∀ (d : Nat) (x : Int) (l0 l1 l2 : Option mx_V) (S h : mx_H) (n : Int), mx_ex d 23 1 [l0, l1, l2] [(0, x)] S h n = mx_ex d 23 2 [mx_nl l0, some (0, x), l2] [] S h n) ∧
  (∀ (d : Nat) (x : Int) (l1 l2 : Option mx_V) (v0 : mx_V) (S h : mx_H) (n : Int), mx_ex d 23 3 [some (2, x), l1, l2] [v0] S h n = mx_ex d 23 4 [some (2, x), l1, l2] [(2, x), v0] S h n) ∧
  (∀ (d : Nat) (a : Int) (l0 l1 l2 : Option mx_V) (v1 : mx_V) (S h : mx_H) (n : Int), mx_ex d 23 4 [l0, l1, l2] [(2, a), v1] S h n = mx_gd (9 ≤ S a (-2) ∧ S a (-2) ≤ 9) d 23 7 [l0, l1, l2] [(2, S a 0), v1] S h n) ∧
  (∀ (d : Nat) (a : Int) (l0 l1 l2 : Option mx_V) (v1 : mx_V) (S h : mx_H) (n : Int), mx_ex d 23 7 [l0, l1, l2] [(2, a), v1] S h n = mx_gd (8 ≤ S a (-2) ∧ S a (-2) ≤ 8) d 23 10 [l0, l1, l2] [(0, h a 3), v1] S h n) ∧
  (∀ (d : Nat) (b a : Int) (l0 l1 l2 : Option mx_V) (S h : mx_H) (n : Int), mx_ex d 23 10 [l0, l1, l2] [(0, b), (0, a)] S h n = mx_br (a < b) d 23 13 37 [l0, l1, l2] [] S h n) ∧
  (∀ (d : Nat) (x : Int) (l1 l2 : Option mx_V) (S h : mx_H) (n : Int), mx_ex d 23 13 [some (2, x), l1, l2] [] S h n = mx_ex d 23 14 [some (2, x), l1, l2] [(2, x)] S h n) ∧
  (∀ (d : Nat) (a : Int) (l0 l1 l2 : Option mx_V) (S h : mx_H) (n : Int), mx_ex d 23 14 [l0, l1, l2] [(2, a)] S h n = mx_gd (9 ≤ S a (-2) ∧ S a (-2) ≤ 9) d 23 17 [l0, l1, l2] [(2, S a 0)] S h n) ∧
  (∀ (d : Nat) (x : Int) (l0 l2 : Option mx_V) (v0 : mx_V) (S h : mx_H) (n : Int), mx_ex d 23 17 [l0, some (0, x), l2] [v0] S h n = mx_ex d 23 18 [l0, some (0, x), l2] [(0, x), v0] S h n) ∧
  (∀ (d : Nat) (x0 a : Int) (l0 l1 l2 : Option mx_V) (S h : mx_H) (n : Int), mx_ex (d + 1) 23 18 [l0, l1, l2] [(0, x0), (2, a)] S h n = mx_cl (S a (-2) = 8) d 90 [(2, a), (0, x0)] 23 21 [l0, l1, l2] [] S h n) ∧
  (∀ (d : Nat) (x : Int) (l0 l1 l2 : Option mx_V) (S h : mx_H) (n : Int), mx_ex d 23 21 [l0, l1, l2] [(2, x)] S h n = mx_ex d 23 22 [l0, mx_nl l1, some (2, x)] [] S h n) ∧
  (∀ (d : Nat) (x : Int) (l0 l1 : Option mx_V) (S h : mx_H) (n : Int), mx_ex d 23 22 [l0, l1, some (2, x)] [] S h n = mx_ex d 23 23 [l0, l1, some (2, x)] [(2, x)] S h n) ∧
  (∀ (d : Nat) (a : Int) (l0 l1 l2 : Option mx_V) (S h : mx_H) (n : Int), mx_ex d 23 23 [l0, l1, l2] [(2, a)] S h n = mx_br (a = -1) d 23 31 26 [l0, l1, l2] [] S h n) ∧
  (∀ (d : Nat) (x : Int) (l1 l2 : Option mx_V) (S h : mx_H) (n : Int), mx_ex d 23 26 [some (2, x), l1, l2] [] S h n = mx_ex d 23 27 [some (2, x), l1, l2] [(2, x)] S h n) ∧
  (∀ (d : Nat) (x : Int) (l0 l1 : Option mx_V) (v0 : mx_V) (S h : mx_H) (n : Int), mx_ex d 23 27 [l0, l1, some (2, x)] [v0] S h n = mx_ex d 23 28 [l0, l1, some (2, x)] [(2, x), v0] S h n) ∧
  (∀ (d : Nat) (x0 a : Int) (l0 l1 l2 : Option mx_V) (S h : mx_H) (n : Int), mx_ex (d + 1) 23 28 [l0, l1, l2] [(2, x0), (2, a)] S h n = mx_cl (S a (-2) = 9) d 24 [(2, a), (2, x0)] 23 31 [l0, l1, l2] [] S h n) ∧
  (∀ (d : Nat) (x : Int) (l0 l2 : Option mx_V) (S h : mx_H) (n : Int), mx_ex d 23 31 [l0, some (0, x), l2] [] S h n = mx_ex d 23 34 [mx_nl l0, some (0, mx_w (x + 1)), l2] [] S h n) ∧
  (∀ (d : Nat) (l0 l1 l2 : Option mx_V) (S h : mx_H) (n : Int), mx_ex d 23 34 [l0, l1, l2] [] S h n = mx_ex d 23 2 [l0, l1, l2] [] S h n) ∧
  (∀ (d : Nat) (x : Int) (l1 l2 : Option mx_V) (S h : mx_H) (n : Int), mx_ex d 23 37 [some (2, x), l1, l2] [] S h n = mx_ex d 23 38 [some (2, x), l1, l2] [(2, x)] S h n) ∧
  (∀ (d : Nat) (a : Int) (l0 l1 l2 : Option mx_V) (S h : mx_H) (n : Int), mx_ex (d + 1) 23 38 [l0, l1, l2] [(2, a)] S h n = mx_cl (S a (-2) = 9) d 25 [(2, a)] 23 41 [l0, l1, l2] [] S h n) ∧
  (∀ (d : Nat) (l0 l1 l2 : Option mx_V) (S h : mx_H) (n : Int), mx_ex d 23 41 [l0, l1, l2] [] S h n = some (none, S, h, n)) :=
  ⟨by intros; exact rfl,
   by intros; exact eq_push rfl,
   by intros; exact eq_st rfl (by decide) (Nat.le_of_ble_eq_true rfl) rfl,
   by intros; exact eq_ld rfl rfl,
   by intros; exact eq_gr rfl,
   by intros; exact eq_gi rfl,
   by intros; exact eq_ic3 rfl,
   by intros; exact eq_ld rfl rfl,
   by intros; exact eq_gr rfl,
   by intros; exact eq_ld rfl rfl,
   by intros; exact eq_cv rfl (Nat.le_of_ble_eq_true rfl) rfl rfl rfl (Nat.le_of_ble_eq_true rfl),
   by intros; exact eq_st rfl (by decide) (Nat.le_of_ble_eq_true rfl) rfl,
   by intros; exact eq_ld rfl rfl,
   by intros; exact eq_nul rfl,
   by intros; exact eq_ld rfl rfl,
   by intros; exact eq_ld rfl rfl,
   by intros; exact eq_cv rfl (Nat.le_of_ble_eq_true rfl) rfl rfl rfl (Nat.le_of_ble_eq_true rfl),
   by intros; exact eq_inc rfl rfl rfl,
   by intros; exact eq_go rfl,
   by intros; exact eq_ld rfl rfl,
   by intros; exact eq_cv rfl (Nat.le_of_ble_eq_true rfl) rfl rfl rfl (Nat.le_of_ble_eq_true rfl),
   by intros; exact eq_retv rfl⟩
theorem rh_X2_readNote_27 : ∀ (d : Nat) (x : Int) (l0 l1 l2 : Option mx_V) (S h : mx_H) (n : Int), mx_ex d 24 27 [l0, l1, l2, some (0, x)] [] S h n = mx_ex d 24 28 [l0, l1, l2, some (0, x)] [(0, x)] S h n := by intros; exact eq_ld rfl rfl
theorem rw_X2_readNote :
  (∀ (d : Nat) (a0 a1 : Int) (S h : mx_H) (n : Int), mx_M d 24 [(2, a0), (2, a1)] S h n = mx_ex d 24 0 [some (2, a0), some (2, a1), none, none] [] S h n) ∧
  (∀ (d : Nat) (x : Int) (l0 l2 l3 : Option mx_V) (S h : mx_H) (n : Int), mx_ex d 24 0 [l0, some (2, x), l2, l3] [] S h n = mx_ex d 24 1 [l0, some (2, x), l2, l3] [(2, x)] S h n) ∧
  (∀ (d : Nat) (a : Int) (l0 l1 l2 l3 : Option mx_V) (S h : mx_H) (n : Int), mx_ex d 24 1 [l0, l1, l2, l3] [(2, a)] S h n = mx_gd (1 ≤ S a (-2) ∧ S a (-2) ≤ 6) d 24 4 [l0, l1, l2, l3] [(0, h a 0)] S h n) ∧
  (∀ (d : Nat) (x : Int) (l0 l1 l2 l3 : Option mx_V) (S h : mx_H) (n : Int), mx_ex d 24 4 [l0, l1, l2, l3] [(0, x)] S h n = mx_ex d 24 5 [l0, mx_nl l1, some (0, x), l3] [] S h n) ∧
  (∀ (d : Nat) (x : Int) (l1 l2 l3 : Option mx_V) (S h : mx_H) (n : Int), mx_ex d 24 5 [some (2, x), l1, l2, l3] [] S h n = mx_ex d 24 6 [some (2, x), l1, l2, l3] [(2, x)] S h n) ∧
  (∀ (d : Nat) (a : Int) (l0 l1 l2 l3 : Option mx_V) (S h : mx_H) (n : Int), mx_ex d 24 6 [l0, l1, l2, l3] [(2, a)] S h n = mx_gd (9 ≤ S a (-2) ∧ S a (-2) ≤ 9) d 24 9 [l0, l1, l2, l3] [(2, S a 5)] S h n) ∧
  (∀ (d : Nat) (x : Int) (l0 l1 l3 : Option mx_V) (v0 : mx_V) (S h : mx_H) (n : Int), mx_ex d 24 9 [l0, l1, some (0, x), l3] [v0] S h n = mx_ex d 24 10 [l0, l1, some (0, x), l3] [(0, x), v0] S h n) ∧
  (∀ (d : Nat) (x : Int) (l0 l2 l3 : Option mx_V) (v0 v1 : mx_V) (S h : mx_H) (n : Int), mx_ex d 24 10 [l0, some (2, x), l2, l3] [v0, v1] S h n = mx_ex d 24 11 [l0, some (2, x), l2, l3] [(2, x), v0, v1] S h n) ∧
  (∀ (d : Nat) (a : Int) (l0 l1 l2 l3 : Option mx_V) (v1 v2 : mx_V) (S h : mx_H) (n : Int), mx_ex d 24 11 [l0, l1, l2, l3] [(2, a), v1, v2] S h n = mx_gd (1 ≤ S a (-2) ∧ S a (-2) ≤ 6) d 24 14 [l0, l1, l2, l3] [(0, h a 3), v1, v2] S h n) ∧
  (∀ (d : Nat) (v i a : Int) (l0 l1 l2 l3 : Option mx_V) (S h : mx_H) (n : Int), mx_ex d 24 14 [l0, l1, l2, l3] [(0, v), (0, i), (2, a)] S h n = mx_gd (S a (-2) = 20 ∧ 0 ≤ i ∧ i < S a (-1)) d 24 15 [l0, l1, l2, l3] [] S (mx_u h a i v) n) ∧
  (∀ (d : Nat) (x : Int) (l1 l2 l3 : Option mx_V) (S h : mx_H) (n : Int), mx_ex d 24 15 [some (2, x), l1, l2, l3] [] S h n = mx_ex d 24 16 [some (2, x), l1, l2, l3] [(2, x)] S h n) ∧
  (∀ (d : Nat) (a : Int) (l0 l1 l2 l3 : Option mx_V) (S h : mx_H) (n : Int), mx_ex d 24 16 [l0, l1, l2, l3] [(2, a)] S h n = mx_gd (9 ≤ S a (-2) ∧ S a (-2) ≤ 9) d 24 19 [l0, l1, l2, l3] [(2, S a 6)] S h n) ∧
  (∀ (d : Nat) (x : Int) (l0 l1 l3 : Option mx_V) (v0 : mx_V) (S h : mx_H) (n : Int), mx_ex d 24 19 [l0, l1, some (0, x), l3] [v0] S h n = mx_ex d 24 20 [l0, l1, some (0, x), l3] [(0, x), v0] S h n) ∧
  (∀ (d : Nat) (x : Int) (l0 l2 l3 : Option mx_V) (v0 v1 : mx_V) (S h : mx_H) (n : Int), mx_ex d 24 20 [l0, some (2, x), l2, l3] [v0, v1] S h n = mx_ex d 24 21 [l0, some (2, x), l2, l3] [(2, x), v0, v1] S h n) ∧
  (∀ (d : Nat) (a : Int) (l0 l1 l2 l3 : Option mx_V) (v1 v2 : mx_V) (S h : mx_H) (n : Int), mx_ex (d + 1) 24 21 [l0, l1, l2, l3] [(2, a), v1, v2] S h n = mx_cl (1 ≤ S a (-2) ∧ S a (-2) ≤ 6) d 45 [(2, a)] 24 24 [l0, l1, l2, l3] [v1, v2] S h n) ∧
  (∀ (d : Nat) (v i a : Int) (l0 l1 l2 l3 : Option mx_V) (S h : mx_H) (n : Int), mx_ex d 24 24 [l0, l1, l2, l3] [(0, v), (0, i), (2, a)] S h n = mx_gd (S a (-2) = 20 ∧ 0 ≤ i ∧ i < S a (-1)) d 24 25 [l0, l1, l2, l3] [] S (mx_u h a i v) n) ∧
  (∀ (d : Nat) (l0 l1 l2 l3 : Option mx_V) (S h : mx_H) (n : Int), mx_ex d 24 25 [l0, l1, l2, l3] [] S h n = mx_ex d 24 26 [l0, l1, l2, l3] [(0, 2)] S h n) ∧
  (∀ (d : Nat) (x : Int) (l0 l1 l2 l3 : Option mx_V) (S h : mx_H) (n : Int), mx_ex d 24 26 [l0, l1, l2, l3] [(0, x)] S h n = mx_ex d 24 27 [l0, l1, mx_nl l2, some (0, x)] [] S h n) ∧
  (∀ (d : Nat) (l0 l1 l2 l3 : Option mx_V) (v0 : mx_V) (S h : mx_H) (n : Int), mx_ex d 24 28 [l0, l1, l2, l3] [v0] S h n = mx_ex d 24 30 [l0, l1, l2, l3] [(0, 16), v0] S h n) ∧
  (∀ (d : Nat) (b a : Int) (l0 l1 l2 l3 : Option mx_V) (S h : mx_H) (n : Int), mx_ex d 24 30 [l0, l1, l2, l3] [(0, b), (0, a)] S h n = mx_br (b < a) d 24 55 33 [l0, l1, l2, l3] [] S h n) ∧
  (∀ (d : Nat) (x : Int) (l1 l2 l3 : Option mx_V) (S h : mx_H) (n : Int), mx_ex d 24 33 [some (2, x), l1, l2, l3] [] S h n = mx_ex d 24 34 [some (2, x), l1, l2, l3] [(2, x)] S h n) ∧
  (∀ (d : Nat) (a : Int) (l0 l1 l2 l3 : Option mx_V) (S h : mx_H) (n : Int), mx_ex d 24 34 [l0, l1, l2, l3] [(2, a)] S h n = mx_gd (9 ≤ S a (-2) ∧ S a (-2) ≤ 9) d 24 37 [l0, l1, l2, l3] [(2, S a 7)] S h n) ∧
  (∀ (d : Nat) (x : Int) (l0 l1 l3 : Option mx_V) (v0 : mx_V) (S h : mx_H) (n : Int), mx_ex d 24 37 [l0, l1, some (0, x), l3] [v0] S h n = mx_ex d 24 38 [l0, l1, some (0, x), l3] [(0, x), v0] S h n) ∧
  (∀ (d : Nat) (l0 l1 l2 l3 : Option mx_V) (v0 v1 : mx_V) (S h : mx_H) (n : Int), mx_ex d 24 38 [l0, l1, l2, l3] [v0, v1] S h n = mx_ex d 24 40 [l0, l1, l2, l3] [(0, 17), v0, v1] S h n) ∧
  (∀ (d : Nat) (b a : Int) (l0 l1 l2 l3 : Option mx_V) (v2 : mx_V) (S h : mx_H) (n : Int), mx_ex d 24 40 [l0, l1, l2, l3] [(0, b), (0, a), v2] S h n = mx_ex d 24 41 [l0, l1, l2, l3] [(0, mx_w (a * b)), v2] S h n) ∧
  (∀ (d : Nat) (x : Int) (l0 l1 l2 : Option mx_V) (v0 v1 : mx_V) (S h : mx_H) (n : Int), mx_ex d 24 41 [l0, l1, l2, some (0, x)] [v0, v1] S h n = mx_ex d 24 42 [l0, l1, l2, some (0, x)] [(0, x), v0, v1] S h n) ∧
  (∀ (d : Nat) (b a : Int) (l0 l1 l2 l3 : Option mx_V) (v2 : mx_V) (S h : mx_H) (n : Int), mx_ex d 24 42 [l0, l1, l2, l3] [(0, b), (0, a), v2] S h n = mx_ex d 24 43 [l0, l1, l2, l3] [(0, mx_w (a + b)), v2] S h n) ∧
  (∀ (d : Nat) (x : Int) (l0 l2 l3 : Option mx_V) (v0 v1 : mx_V) (S h : mx_H) (n : Int), mx_ex d 24 43 [l0, some (2, x), l2, l3] [v0, v1] S h n = mx_ex d 24 44 [l0, some (2, x), l2, l3] [(2, x), v0, v1] S h n) ∧
  (∀ (d : Nat) (x : Int) (l0 l1 l2 : Option mx_V) (v0 v1 v2 : mx_V) (S h : mx_H) (n : Int), mx_ex d 24 44 [l0, l1, l2, some (0, x)] [v0, v1, v2] S h n = mx_ex d 24 45 [l0, l1, l2, some (0, x)] [(0, x), v0, v1, v2] S h n) ∧
  (∀ (d : Nat) (x0 a : Int) (l0 l1 l2 l3 : Option mx_V) (v2 v3 : mx_V) (S h : mx_H) (n : Int), mx_ex (d + 1) 24 45 [l0, l1, l2, l3] [(0, x0), (2, a), v2, v3] S h n = mx_cu (mx_vt (S a (-2)) [(1, 43), (2, 56), (3, 3), (4, 3), (5, 81), (6, 9)]) d [(2, a), (0, x0)] 24 48 [l0, l1, l2, l3] [v2, v3] S h n) ∧
  (∀ (d : Nat) (v i a : Int) (l0 l1 l2 l3 : Option mx_V) (S h : mx_H) (n : Int), mx_ex d 24 48 [l0, l1, l2, l3] [(0, v), (0, i), (2, a)] S h n = mx_gd (S a (-2) = 20 ∧ 0 ≤ i ∧ i < S a (-1)) d 24 49 [l0, l1, l2, l3] [] S (mx_u h a i v) n) ∧
  (∀ (d : Nat) (x : Int) (l0 l1 l2 : Option mx_V) (S h : mx_H) (n : Int), mx_ex d 24 49 [l0, l1, l2, some (0, x)] [] S h n = mx_ex d 24 52 [l0, l1, mx_nl l2, some (0, mx_w (x + 1))] [] S h n) ∧
  (∀ (d : Nat) (l0 l1 l2 l3 : Option mx_V) (S h : mx_H) (n : Int), mx_ex d 24 52 [l0, l1, l2, l3] [] S h n = mx_ex d 24 27 [l0, l1, l2, l3] [] S h n) ∧
  (∀ (d : Nat) (l0 l1 l2 l3 : Option mx_V) (S h : mx_H) (n : Int), mx_ex d 24 55 [l0, l1, l2, l3] [] S h n = some (none, S, h, n)) :=
  ⟨by intros; exact rfl,
   by intros; exact eq_ld rfl rfl,
   by intros; exact eq_gi rfl,
   by intros; exact eq_st rfl (by decide) (Nat.le_of_ble_eq_true rfl) rfl,
   by intros; exact eq_ld rfl rfl,
   by intros; exact eq_gr rfl,
   by intros; exact eq_ld rfl rfl,
   by intros; exact eq_ld rfl rfl,
   by intros; exact eq_gi rfl,
   by intros; exact eq_iast rfl,
   by intros; exact eq_ld rfl rfl,
   by intros; exact eq_gr rfl,
   by intros; exact eq_ld rfl rfl,
   by intros; exact eq_ld rfl rfl,
   by intros; exact eq_ci rfl (Nat.le_of_ble_eq_true rfl) rfl rfl rfl (Nat.le_of_ble_eq_true rfl),
   by intros; exact eq_iast rfl,
   by intros; exact eq_push rfl,
   by intros; exact eq_st rfl (by decide) (Nat.le_of_ble_eq_true rfl) rfl,
   by intros; exact eq_push rfl,
   by intros; exact eq_ic4 rfl,
   by intros; exact eq_ld rfl rfl,
   by intros; exact eq_gr rfl,
   by intros; exact eq_ld rfl rfl,
   by intros; exact eq_push rfl,
   by intros; exact eq_i2 (o := mx_mul) rfl,
   by intros; exact eq_ld rfl rfl,
   by intros; exact eq_i2 (o := mx_add) rfl,
   by intros; exact eq_ld rfl rfl,
   by intros; exact eq_ld rfl rfl,
   by intros; exact eq_cu rfl (Nat.le_of_ble_eq_true rfl) rfl rfl rfl (Nat.le_of_ble_eq_true rfl),
   by intros; exact eq_iast rfl,
   by intros; exact eq_inc rfl rfl rfl,
   by intros; exact eq_go rfl,
   by intros; exact eq_retv rfl⟩
theorem rh_X2_markTouched_10 : ∀ (d : Nat) (x : Int) (l0 l1 l3 l4 l5 : Option mx_V) (S h : mx_H) (n : Int), mx_ex d 25 10 [l0, l1, some (0, x), l3, l4, l5] [] S h n = mx_ex d 25 11 [l0, l1, some (0, x), l3, l4, l5] [(0, x)] S h n := by intros; exact eq_ld rfl rfl
theorem rw_X2_markTouched :
  (∀ (d : Nat) (a0 : Int) (S h : mx_H) (n : Int), mx_M d 25 [(2, a0)] S h n = mx_ex d 25 0 [some (2, a0), none, none, none, none, none] [] S h n) ∧
  (∀ (d : Nat) (x : Int) (l1 l2 l3 l4 l5 : Option mx_V) (S h : mx_H) (n : Int), mx_ex d 25 0 [some (2, x), l1, l2, l3, l4, l5] [] S h n = mx_ex d 25 1 [some (2, x), l1, l2, l3, l4, l5] [(2, x)] S h n) ∧
  (∀ (d : Nat) (a : Int) (l0 l1 l2 l3 l4 l5 : Option mx_V) (S h : mx_H) (n : Int), mx_ex d 25 1 [l0, l1, l2, l3, l4, l5] [(2, a)] S h n = mx_gd (9 ≤ S a (-2) ∧ S a (-2) ≤ 9) d 25 4 [l0, l1, l2, l3, l4, l5] [(2, S a 0)] S h n) ∧
  (∀ (d : Nat) (a : Int) (l0 l1 l2 l3 l4 l5 : Option mx_V) (S h : mx_H) (n : Int), mx_ex d 25 4 [l0, l1, l2, l3, l4, l5] [(2, a)] S h n = mx_gd (8 ≤ S a (-2) ∧ S a (-2) ≤ 8) d 25 7 [l0, l1, l2, l3, l4, l5] [(2, S a 2)] S h n) ∧
  (∀ (d : Nat) (x : Int) (l0 l1 l2 l3 l4 l5 : Option mx_V) (S h : mx_H) (n : Int), mx_ex d 25 7 [l0, l1, l2, l3, l4, l5] [(2, x)] S h n = mx_ex d 25 8 [mx_nl l0, some (2, x), l2, l3, l4, l5] [] S h n) ∧
  (∀ (d : Nat) (l0 l1 l2 l3 l4 l5 : Option mx_V) (S h : mx_H) (n : Int), mx_ex d 25 8 [l0, l1, l2, l3, l4, l5] [] S h n = mx_ex d 25 9 [l0, l1, l2, l3, l4, l5] [(0, 0)] S h n) ∧
  (∀ (d : Nat) (x : Int) (l0 l1 l2 l3 l4 l5 : Option mx_V) (S h : mx_H) (n : Int), mx_ex d 25 9 [l0, l1, l2, l3, l4, l5] [(0, x)] S h n = mx_ex d 25 10 [l0, mx_nl l1, some (0, x), l3, l4, l5] [] S h n) ∧
  (∀ (d : Nat) (x : Int) (l1 l2 l3 l4 l5 : Option mx_V) (v0 : mx_V) (S h : mx_H) (n : Int), mx_ex d 25 11 [some (2, x), l1, l2, l3, l4, l5] [v0] S h n = mx_ex d 25 12 [some (2, x), l1, l2, l3, l4, l5] [(2, x), v0] S h n) ∧
  (∀ (d : Nat) (a : Int) (l0 l1 l2 l3 l4 l5 : Option mx_V) (v1 : mx_V) (S h : mx_H) (n : Int), mx_ex d 25 12 [l0, l1, l2, l3, l4, l5] [(2, a), v1] S h n = mx_gd (9 ≤ S a (-2) ∧ S a (-2) ≤ 9) d 25 15 [l0, l1, l2, l3, l4, l5] [(2, S a 0), v1] S h n) ∧
  (∀ (d : Nat) (a : Int) (l0 l1 l2 l3 l4 l5 : Option mx_V) (v1 : mx_V) (S h : mx_H) (n : Int), mx_ex d 25 15 [l0, l1, l2, l3, l4, l5] [(2, a), v1] S h n = mx_gd (8 ≤ S a (-2) ∧ S a (-2) ≤ 8) d 25 18 [l0, l1, l2, l3, l4, l5] [(0, h a 4), v1] S h n) ∧
  (∀ (d : Nat) (b a : Int) (l0 l1 l2 l3 l4 l5 : Option mx_V) (S h : mx_H) (n : Int), mx_ex d 25 18 [l0, l1, l2, l3, l4, l5] [(0, b), (0, a)] S h n = mx_br (a < b) d 25 21 104 [l0, l1, l2, l3, l4, l5] [] S h n) ∧
  (∀ (d : Nat) (x : Int) (l0 l1 l3 l4 l5 : Option mx_V) (S h : mx_H) (n : Int), mx_ex d 25 21 [l0, l1, some (0, x), l3, l4, l5] [] S h n = mx_ex d 25 22 [l0, l1, some (0, x), l3, l4, l5] [(0, x)] S h n) ∧
  (∀ (d : Nat) (l0 l1 l2 l3 l4 l5 : Option mx_V) (v0 : mx_V) (S h : mx_H) (n : Int), mx_ex d 25 22 [l0, l1, l2, l3, l4, l5] [v0] S h n = mx_ex d 25 23 [l0, l1, l2, l3, l4, l5] [(0, 4), v0] S h n) ∧
  (∀ (d : Nat) (b a : Int) (l0 l1 l2 l3 l4 l5 : Option mx_V) (S h : mx_H) (n : Int), mx_ex d 25 23 [l0, l1, l2, l3, l4, l5] [(0, b), (0, a)] S h n = mx_ex d 25 24 [l0, l1, l2, l3, l4, l5] [(0, mx_w (a * b))] S h n) ∧
  (∀ (d : Nat) (x : Int) (l0 l1 l2 l3 l4 l5 : Option mx_V) (S h : mx_H) (n : Int), mx_ex d 25 24 [l0, l1, l2, l3, l4, l5] [(0, x)] S h n = mx_ex d 25 25 [l0, l1, mx_nl l2, some (0, x), l4, l5] [] S h n) ∧
  (∀ (d : Nat) (x : Int) (l0 l2 l3 l4 l5 : Option mx_V) (S h : mx_H) (n : Int), mx_ex d 25 25 [l0, some (2, x), l2, l3, l4, l5] [] S h n = mx_ex d 25 26 [l0, some (2, x), l2, l3, l4, l5] [(2, x)] S h n) ∧
  (∀ (d : Nat) (x : Int) (l0 l1 l2 l4 l5 : Option mx_V) (v0 : mx_V) (S h : mx_H) (n : Int), mx_ex d 25 26 [l0, l1, l2, some (0, x), l4, l5] [v0] S h n = mx_ex d 25 27 [l0, l1, l2, some (0, x), l4, l5] [(0, x), v0] S h n) ∧
  (∀ (d : Nat) (i a : Int) (l0 l1 l2 l3 l4 l5 : Option mx_V) (S h : mx_H) (n : Int), mx_ex d 25 27 [l0, l1, l2, l3, l4, l5] [(0, i), (2, a)] S h n = mx_gd ((S a (-2) = 20 ∨ S a (-2) = 24) ∧ 0 ≤ i ∧ i < S a (-1)) d 25 28 [l0, l1, l2, l3, l4, l5] [(0, h a i)] S h n) ∧
  (∀ (d : Nat) (x : Int) (l0 l1 l2 l3 l4 l5 : Option mx_V) (S h : mx_H) (n : Int), mx_ex d 25 28 [l0, l1, l2, l3, l4, l5] [(0, x)] S h n = mx_ex d 25 30 [l0, l1, l2, mx_nl l3, some (0, x), l5] [] S h n) ∧
  (∀ (d : Nat) (l0 l1 l2 l3 l4 l5 : Option mx_V) (S h : mx_H) (n : Int), mx_ex d 25 30 [l0, l1, l2, l3, l4, l5] [] S h n = mx_ex d 25 31 [l0, l1, l2, l3, l4, l5] [(0, 1)] S h n) ∧
  (∀ (d : Nat) (x : Int) (l1 l2 l3 l4 l5 : Option mx_V) (v0 : mx_V) (S h : mx_H) (n : Int), mx_ex d 25 31 [some (2, x), l1, l2, l3, l4, l5] [v0] S h n = mx_ex d 25 32 [some (2, x), l1, l2, l3, l4, l5] [(2, x), v0] S h n) ∧
  (∀ (d : Nat) (a : Int) (l0 l1 l2 l3 l4 l5 : Option mx_V) (v1 : mx_V) (S h : mx_H) (n : Int), mx_ex d 25 32 [l0, l1, l2, l3, l4, l5] [(2, a), v1] S h n = mx_gd (9 ≤ S a (-2) ∧ S a (-2) ≤ 9) d 25 35 [l0, l1, l2, l3, l4, l5] [(2, S a 5), v1] S h n) ∧
  (∀ (d : Nat) (x : Int) (l0 l2 l3 l4 l5 : Option mx_V) (v0 v1 : mx_V) (S h : mx_H) (n : Int), mx_ex d 25 35 [l0, some (2, x), l2, l3, l4, l5] [v0, v1] S h n = mx_ex d 25 36 [l0, some (2, x), l2, l3, l4, l5] [(2, x), v0, v1] S h n) ∧
  (∀ (d : Nat) (x : Int) (l0 l1 l2 l4 l5 : Option mx_V) (v0 v1 v2 : mx_V) (S h : mx_H) (n : Int), mx_ex d 25 36 [l0, l1, l2, some (0, x), l4, l5] [v0, v1, v2] S h n = mx_ex d 25 37 [l0, l1, l2, some (0, x), l4, l5] [(0, x), v0, v1, v2] S h n) ∧
  (∀ (d : Nat) (l0 l1 l2 l3 l4 l5 : Option mx_V) (v0 v1 v2 v3 : mx_V) (S h : mx_H) (n : Int), mx_ex d 25 37 [l0, l1, l2, l3, l4, l5] [v0, v1, v2, v3] S h n = mx_ex d 25 38 [l0, l1, l2, l3, l4, l5] [(0, 1), v0, v1, v2, v3] S h n) ∧
  (∀ (d : Nat) (b a : Int) (l0 l1 l2 l3 l4 l5 : Option mx_V) (v2 v3 v4 : mx_V) (S h : mx_H) (n : Int), mx_ex d 25 38 [l0, l1, l2, l3, l4, l5] [(0, b), (0, a), v2, v3, v4] S h n = mx_ex d 25 39 [l0, l1, l2, l3, l4, l5] [(0, mx_w (a + b)), v2, v3, v4] S h n) ∧
  (∀ (d : Nat) (i a : Int) (l0 l1 l2 l3 l4 l5 : Option mx_V) (v2 v3 : mx_V) (S h : mx_H) (n : Int), mx_ex d 25 39 [l0, l1, l2, l3, l4, l5] [(0, i), (2, a), v2, v3] S h n = mx_gd ((S a (-2) = 20 ∨ S a (-2) = 24) ∧ 0 ≤ i ∧ i < S a (-1)) d 25 40 [l0, l1, l2, l3, l4, l5] [(0, h a i), v2, v3] S h n) ∧
  (∀ (d : Nat) (i a : Int) (l0 l1 l2 l3 l4 l5 : Option mx_V) (v2 : mx_V) (S h : mx_H) (n : Int), mx_ex d 25 40 [l0, l1, l2, l3, l4, l5] [(0, i), (2, a), v2] S h n = mx_gd ((S a (-2) = 20 ∨ S a (-2) = 24) ∧ 0 ≤ i ∧ i < S a (-1)) d 25 41 [l0, l1, l2, l3, l4, l5] [(0, h a i), v2] S h n) ∧
  (∀ (d : Nat) (b a : Int) (l0 l1 l2 l3 l4 l5 : Option mx_V) (S h : mx_H) (n : Int), mx_ex d 25 41 [l0, l1, l2, l3, l4, l5] [(0, b), (0, a)] S h n = mx_ex d 25 42 [l0, l1, l2, l3, l4, l5] [(0, mx_shl a b)] S h n) ∧
  (∀ (d : Nat) (x : Int) (l0 l1 l2 l3 l4 l5 : Option mx_V) (S h : mx_H) (n : Int), mx_ex d 25 42 [l0, l1, l2, l3, l4, l5] [(0, x)] S h n = mx_ex d 25 44 [l0, l1, l2, l3, mx_nl l4, some (0, x)] [] S h n) ∧
  (∀ (d : Nat) (x : Int) (l0 l1 l2 l3 l5 : Option mx_V) (S h : mx_H) (n : Int), mx_ex d 25 44 [l0, l1, l2, l3, some (0, x), l5] [] S h n = mx_ex d 25 46 [l0, l1, l2, l3, some (0, x), l5] [(0, x)] S h n) ∧
  (∀ (d : Nat) (l0 l1 l2 l3 l4 l5 : Option mx_V) (v0 : mx_V) (S h : mx_H) (n : Int), mx_ex d 25 46 [l0, l1, l2, l3, l4, l5] [v0] S h n = mx_ex d 25 47 [l0, l1, l2, l3, l4, l5] [(0, 3), v0] S h n) ∧
  (∀ (d : Nat) (b a : Int) (l0 l1 l2 l3 l4 l5 : Option mx_V) (S h : mx_H) (n : Int), mx_ex d 25 47 [l0, l1, l2, l3, l4, l5] [(0, b), (0, a)] S h n = mx_br (a = b) d 25 67 50 [l0, l1, l2, l3, l4, l5] [] S h n) ∧
  (∀ (d : Nat) (x : Int) (l0 l1 l2 l3 l4 : Option mx_V) (S h : mx_H) (n : Int), mx_ex d 25 50 [l0, l1, l2, l3, l4, some (0, x)] [] S h n = mx_ex d 25 52 [l0, l1, l2, l3, l4, some (0, x)] [(0, x)] S h n) ∧
  (∀ (d : Nat) (l0 l1 l2 l3 l4 l5 : Option mx_V) (v0 : mx_V) (S h : mx_H) (n : Int), mx_ex d 25 52 [l0, l1, l2, l3, l4, l5] [v0] S h n = mx_ex d 25 53 [l0, l1, l2, l3, l4, l5] [(0, 1), v0] S h n) ∧
  (∀ (d : Nat) (x : Int) (l1 l2 l3 l4 l5 : Option mx_V) (v0 v1 : mx_V) (S h : mx_H) (n : Int), mx_ex d 25 53 [some (2, x), l1, l2, l3, l4, l5] [v0, v1] S h n = mx_ex d 25 54 [some (2, x), l1, l2, l3, l4, l5] [(2, x), v0, v1] S h n) ∧
  (∀ (d : Nat) (a : Int) (l0 l1 l2 l3 l4 l5 : Option mx_V) (v1 v2 : mx_V) (S h : mx_H) (n : Int), mx_ex d 25 54 [l0, l1, l2, l3, l4, l5] [(2, a), v1, v2] S h n = mx_gd (9 ≤ S a (-2) ∧ S a (-2) ≤ 9) d 25 57 [l0, l1, l2, l3, l4, l5] [(2, S a 5), v1, v2] S h n) ∧
  (∀ (d : Nat) (x : Int) (l0 l2 l3 l4 l5 : Option mx_V) (v0 v1 v2 : mx_V) (S h : mx_H) (n : Int), mx_ex d 25 57 [l0, some (2, x), l2, l3, l4, l5] [v0, v1, v2] S h n = mx_ex d 25 58 [l0, some (2, x), l2, l3, l4, l5] [(2, x), v0, v1, v2] S h n) ∧
  (∀ (d : Nat) (x : Int) (l0 l1 l2 l4 l5 : Option mx_V) (v0 v1 v2 v3 : mx_V) (S h : mx_H) (n : Int), mx_ex d 25 58 [l0, l1, l2, some (0, x), l4, l5] [v0, v1, v2, v3] S h n = mx_ex d 25 59 [l0, l1, l2, some (0, x), l4, l5] [(0, x), v0, v1, v2, v3] S h n) ∧
  (∀ (d : Nat) (l0 l1 l2 l3 l4 l5 : Option mx_V) (v0 v1 v2 v3 v4 : mx_V) (S h : mx_H) (n : Int), mx_ex d 25 59 [l0, l1, l2, l3, l4, l5] [v0, v1, v2, v3, v4] S h n = mx_ex d 25 60 [l0, l1, l2, l3, l4, l5] [(0, 2), v0, v1, v2, v3, v4] S h n) ∧
  (∀ (d : Nat) (b a : Int) (l0 l1 l2 l3 l4 l5 : Option mx_V) (v2 v3 v4 v5 : mx_V) (S h : mx_H) (n : Int), mx_ex d 25 60 [l0, l1, l2, l3, l4, l5] [(0, b), (0, a), v2, v3, v4, v5] S h n = mx_ex d 25 61 [l0, l1, l2, l3, l4, l5] [(0, mx_w (a + b)), v2, v3, v4, v5] S h n) ∧
  (∀ (d : Nat) (i a : Int) (l0 l1 l2 l3 l4 l5 : Option mx_V) (v2 v3 v4 : mx_V) (S h : mx_H) (n : Int), mx_ex d 25 61 [l0, l1, l2, l3, l4, l5] [(0, i), (2, a), v2, v3, v4] S h n = mx_gd ((S a (-2) = 20 ∨ S a (-2) = 24) ∧ 0 ≤ i ∧ i < S a (-1)) d 25 62 [l0, l1, l2, l3, l4, l5] [(0, h a i), v2, v3, v4] S h n) ∧
  (∀ (d : Nat) (i a : Int) (l0 l1 l2 l3 l4 l5 : Option mx_V) (v2 v3 : mx_V) (S h : mx_H) (n : Int), mx_ex d 25 62 [l0, l1, l2, l3, l4, l5] [(0, i), (2, a), v2, v3] S h n = mx_gd ((S a (-2) = 20 ∨ S a (-2) = 24) ∧ 0 ≤ i ∧ i < S a (-1)) d 25 63 [l0, l1, l2, l3, l4, l5] [(0, h a i), v2, v3] S h n) ∧
  (∀ (d : Nat) (b a : Int) (l0 l1 l2 l3 l4 l5 : Option mx_V) (v2 : mx_V) (S h : mx_H) (n : Int), mx_ex d 25 63 [l0, l1, l2, l3, l4, l5] [(0, b), (0, a), v2] S h n = mx_ex d 25 64 [l0, l1, l2, l3, l4, l5] [(0, mx_shl a b), v2] S h n) ∧
  (∀ (d : Nat) (b a : Int) (l0 l1 l2 l3 l4 l5 : Option mx_V) (S h : mx_H) (n : Int), mx_ex d 25 64 [l0, l1, l2, l3, l4, l5] [(0, b), (0, a)] S h n = mx_ex d 25 65 [l0, l1, l2, l3, l4, l5] [(0, mx_or a b)] S h n) ∧
  (∀ (d : Nat) (x : Int) (l0 l1 l2 l3 l4 l5 : Option mx_V) (S h : mx_H) (n : Int), mx_ex d 25 65 [l0, l1, l2, l3, l4, l5] [(0, x)] S h n = mx_ex d 25 67 [l0, l1, l2, l3, mx_nl l4, some (0, x)] [] S h n) ∧
  (∀ (d : Nat) (x : Int) (l0 l1 l2 l3 l5 : Option mx_V) (S h : mx_H) (n : Int), mx_ex d 25 67 [l0, l1, l2, l3, some (0, x), l5] [] S h n = mx_ex d 25 69 [l0, l1, l2, l3, some (0, x), l5] [(0, x)] S h n) ∧
  (∀ (d : Nat) (l0 l1 l2 l3 l4 l5 : Option mx_V) (v0 : mx_V) (S h : mx_H) (n : Int), mx_ex d 25 69 [l0, l1, l2, l3, l4, l5] [v0] S h n = mx_ex d 25 70 [l0, l1, l2, l3, l4, l5] [(0, 2), v0] S h n) ∧
  (∀ (d : Nat) (b a : Int) (l0 l1 l2 l3 l4 l5 : Option mx_V) (S h : mx_H) (n : Int), mx_ex d 25 70 [l0, l1, l2, l3, l4, l5] [(0, b), (0, a)] S h n = mx_br (a = b) d 25 73 90 [l0, l1, l2, l3, l4, l5] [] S h n) ∧
  (∀ (d : Nat) (x : Int) (l0 l1 l2 l3 l4 : Option mx_V) (S h : mx_H) (n : Int), mx_ex d 25 73 [l0, l1, l2, l3, l4, some (0, x)] [] S h n = mx_ex d 25 75 [l0, l1, l2, l3, l4, some (0, x)] [(0, x)] S h n) ∧
  (∀ (d : Nat) (l0 l1 l2 l3 l4 l5 : Option mx_V) (v0 : mx_V) (S h : mx_H) (n : Int), mx_ex d 25 75 [l0, l1, l2, l3, l4, l5] [v0] S h n = mx_ex d 25 76 [l0, l1, l2, l3, l4, l5] [(0, 1), v0] S h n) ∧
  (∀ (d : Nat) (x : Int) (l1 l2 l3 l4 l5 : Option mx_V) (v0 v1 : mx_V) (S h : mx_H) (n : Int), mx_ex d 25 76 [some (2, x), l1, l2, l3, l4, l5] [v0, v1] S h n = mx_ex d 25 77 [some (2, x), l1, l2, l3, l4, l5] [(2, x), v0, v1] S h n) ∧
  (∀ (d : Nat) (a : Int) (l0 l1 l2 l3 l4 l5 : Option mx_V) (v1 v2 : mx_V) (S h : mx_H) (n : Int), mx_ex d 25 77 [l0, l1, l2, l3, l4, l5] [(2, a), v1, v2] S h n = mx_gd (9 ≤ S a (-2) ∧ S a (-2) ≤ 9) d 25 80 [l0, l1, l2, l3, l4, l5] [(2, S a 5), v1, v2] S h n) ∧
  (∀ (d : Nat) (x : Int) (l0 l2 l3 l4 l5 : Option mx_V) (v0 v1 v2 : mx_V) (S h : mx_H) (n : Int), mx_ex d 25 80 [l0, some (2, x), l2, l3, l4, l5] [v0, v1, v2] S h n = mx_ex d 25 81 [l0, some (2, x), l2, l3, l4, l5] [(2, x), v0, v1, v2] S h n) ∧
  (∀ (d : Nat) (x : Int) (l0 l1 l2 l4 l5 : Option mx_V) (v0 v1 v2 v3 : mx_V) (S h : mx_H) (n : Int), mx_ex d 25 81 [l0, l1, l2, some (0, x), l4, l5] [v0, v1, v2, v3] S h n = mx_ex d 25 82 [l0, l1, l2, some (0, x), l4, l5] [(0, x), v0, v1, v2, v3] S h n) ∧
  (∀ (d : Nat) (l0 l1 l2 l3 l4 l5 : Option mx_V) (v0 v1 v2 v3 v4 : mx_V) (S h : mx_H) (n : Int), mx_ex d 25 82 [l0, l1, l2, l3, l4, l5] [v0, v1, v2, v3, v4] S h n = mx_ex d 25 83 [l0, l1, l2, l3, l4, l5] [(0, 3), v0, v1, v2, v3, v4] S h n) ∧
  (∀ (d : Nat) (b a : Int) (l0 l1 l2 l3 l4 l5 : Option mx_V) (v2 v3 v4 v5 : mx_V) (S h : mx_H) (n : Int), mx_ex d 25 83 [l0, l1, l2, l3, l4, l5] [(0, b), (0, a), v2, v3, v4, v5] S h n = mx_ex d 25 84 [l0, l1, l2, l3, l4, l5] [(0, mx_w (a + b)), v2, v3, v4, v5] S h n) ∧
  (∀ (d : Nat) (i a : Int) (l0 l1 l2 l3 l4 l5 : Option mx_V) (v2 v3 v4 : mx_V) (S h : mx_H) (n : Int), mx_ex d 25 84 [l0, l1, l2, l3, l4, l5] [(0, i), (2, a), v2, v3, v4] S h n = mx_gd ((S a (-2) = 20 ∨ S a (-2) = 24) ∧ 0 ≤ i ∧ i < S a (-1)) d 25 85 [l0, l1, l2, l3, l4, l5] [(0, h a i), v2, v3, v4] S h n) ∧
  (∀ (d : Nat) (i a : Int) (l0 l1 l2 l3 l4 l5 : Option mx_V) (v2 v3 : mx_V) (S h : mx_H) (n : Int), mx_ex d 25 85 [l0, l1, l2, l3, l4, l5] [(0, i), (2, a), v2, v3] S h n = mx_gd ((S a (-2) = 20 ∨ S a (-2) = 24) ∧ 0 ≤ i ∧ i < S a (-1)) d 25 86 [l0, l1, l2, l3, l4, l5] [(0, h a i), v2, v3] S h n) ∧
  (∀ (d : Nat) (b a : Int) (l0 l1 l2 l3 l4 l5 : Option mx_V) (v2 : mx_V) (S h : mx_H) (n : Int), mx_ex d 25 86 [l0, l1, l2, l3, l4, l5] [(0, b), (0, a), v2] S h n = mx_ex d 25 87 [l0, l1, l2, l3, l4, l5] [(0, mx_shl a b), v2] S h n) ∧
  (∀ (d : Nat) (b a : Int) (l0 l1 l2 l3 l4 l5 : Option mx_V) (S h : mx_H) (n : Int), mx_ex d 25 87 [l0, l1, l2, l3, l4, l5] [(0, b), (0, a)] S h n = mx_ex d 25 88 [l0, l1, l2, l3, l4, l5] [(0, mx_or a b)] S h n) ∧
  (∀ (d : Nat) (x : Int) (l0 l1 l2 l3 l4 l5 : Option mx_V) (S h : mx_H) (n : Int), mx_ex d 25 88 [l0, l1, l2, l3, l4, l5] [(0, x)] S h n = mx_ex d 25 90 [l0, l1, l2, l3, mx_nl l4, some (0, x)] [] S h n) ∧
  (∀ (d : Nat) (x : Int) (l1 l2 l3 l4 l5 : Option mx_V) (S h : mx_H) (n : Int), mx_ex d 25 90 [some (2, x), l1, l2, l3, l4, l5] [] S h n = mx_ex d 25 91 [some (2, x), l1, l2, l3, l4, l5] [(2, x)] S h n) ∧
  (∀ (d : Nat) (a : Int) (l0 l1 l2 l3 l4 l5 : Option mx_V) (S h : mx_H) (n : Int), mx_ex d 25 91 [l0, l1, l2, l3, l4, l5] [(2, a)] S h n = mx_gd (9 ≤ S a (-2) ∧ S a (-2) ≤ 9) d 25 94 [l0, l1, l2, l3, l4, l5] [(2, S a 8)] S h n) ∧
  (∀ (d : Nat) (x : Int) (l0 l1 l3 l4 l5 : Option mx_V) (v0 : mx_V) (S h : mx_H) (n : Int), mx_ex d 25 94 [l0, l1, some (0, x), l3, l4, l5] [v0] S h n = mx_ex d 25 95 [l0, l1, some (0, x), l3, l4, l5] [(0, x), v0] S h n) ∧
  (∀ (d : Nat) (x : Int) (l0 l1 l2 l3 l4 : Option mx_V) (v0 v1 : mx_V) (S h : mx_H) (n : Int), mx_ex d 25 95 [l0, l1, l2, l3, l4, some (0, x)] [v0, v1] S h n = mx_ex d 25 97 [l0, l1, l2, l3, l4, some (0, x)] [(0, x), v0, v1] S h n) ∧
  (∀ (d : Nat) (v i a : Int) (l0 l1 l2 l3 l4 l5 : Option mx_V) (S h : mx_H) (n : Int), mx_ex d 25 97 [l0, l1, l2, l3, l4, l5] [(0, v), (0, i), (2, a)] S h n = mx_gd (S a (-2) = 20 ∧ 0 ≤ i ∧ i < S a (-1)) d 25 98 [l0, l1, l2, l3, l4, l5] [] S (mx_u h a i v) n) ∧
  (∀ (d : Nat) (x : Int) (l0 l1 l3 l4 l5 : Option mx_V) (S h : mx_H) (n : Int), mx_ex d 25 98 [l0, l1, some (0, x), l3, l4, l5] [] S h n = mx_ex d 25 101 [l0, mx_nl l1, some (0, mx_w (x + 1)), l3, l4, l5] [] S h n) ∧
  (∀ (d : Nat) (l0 l1 l2 l3 l4 l5 : Option mx_V) (S h : mx_H) (n : Int), mx_ex d 25 101 [l0, l1, l2, l3, l4, l5] [] S h n = mx_ex d 25 10 [l0, l1, l2, l3, l4, l5] [] S h n) ∧
  (∀ (d : Nat) (l0 l1 l2 l3 l4 l5 : Option mx_V) (S h : mx_H) (n : Int), mx_ex d 25 104 [l0, l1, l2, l3, l4, l5] [] S h n = some (none, S, h, n)) :=
  ⟨by intros; exact rfl,
   by intros; exact eq_ld rfl rfl,
   by intros; exact eq_gr rfl,
   by intros; exact eq_gr rfl,
   by intros; exact eq_st rfl (by decide) (Nat.le_of_ble_eq_true rfl) rfl,
   by intros; exact eq_push rfl,
   by intros; exact eq_st rfl (by decide) (Nat.le_of_ble_eq_true rfl) rfl,
   by intros; exact eq_ld rfl rfl,
   by intros; exact eq_gr rfl,
   by intros; exact eq_gi rfl,
   by intros; exact eq_ic3 rfl,
   by intros; exact eq_ld rfl rfl,
   by intros; exact eq_push rfl,
   by intros; exact eq_i2 (o := mx_mul) rfl,
   by intros; exact eq_st rfl (by decide) (Nat.le_of_ble_eq_true rfl) rfl,
   by intros; exact eq_ld rfl rfl,
   by intros; exact eq_ld rfl rfl,
   by intros; exact eq_iald rfl,
   by intros; exact eq_st rfl (by decide) (Nat.le_of_ble_eq_true rfl) rfl,
   by intros; exact eq_push rfl,
   by intros; exact eq_ld rfl rfl,
   by intros; exact eq_gr rfl,
   by intros; exact eq_ld rfl rfl,
   by intros; exact eq_ld rfl rfl,
   by intros; exact eq_push rfl,
   by intros; exact eq_i2 (o := mx_add) rfl,
   by intros; exact eq_iald rfl,
   by intros; exact eq_iald rfl,
   by intros; exact eq_i2 (o := mx_shl) rfl,
   by intros; exact eq_st rfl (by decide) (Nat.le_of_ble_eq_true rfl) rfl,
   by intros; exact eq_ld rfl rfl,
   by intros; exact eq_push rfl,
   by intros; exact eq_ic0 rfl,
   by intros; exact eq_ld rfl rfl,
   by intros; exact eq_push rfl,
   by intros; exact eq_ld rfl rfl,
   by intros; exact eq_gr rfl,
   by intros; exact eq_ld rfl rfl,
   by intros; exact eq_ld rfl rfl,
   by intros; exact eq_push rfl,
   by intros; exact eq_i2 (o := mx_add) rfl,
   by intros; exact eq_iald rfl,
   by intros; exact eq_iald rfl,
   by intros; exact eq_i2 (o := mx_shl) rfl,
   by intros; exact eq_i2 (o := mx_or) rfl,
   by intros; exact eq_st rfl (by decide) (Nat.le_of_ble_eq_true rfl) rfl,
   by intros; exact eq_ld rfl rfl,
   by intros; exact eq_push rfl,
   by intros; exact eq_ic1 rfl,
   by intros; exact eq_ld rfl rfl,
   by intros; exact eq_push rfl,
   by intros; exact eq_ld rfl rfl,
   by intros; exact eq_gr rfl,
   by intros; exact eq_ld rfl rfl,
   by intros; exact eq_ld rfl rfl,
   by intros; exact eq_push rfl,
   by intros; exact eq_i2 (o := mx_add) rfl,
   by intros; exact eq_iald rfl,
   by intros; exact eq_iald rfl,
   by intros; exact eq_i2 (o := mx_shl) rfl,
   by intros; exact eq_i2 (o := mx_or) rfl,
   by intros; exact eq_st rfl (by decide) (Nat.le_of_ble_eq_true rfl) rfl,
   by intros; exact eq_ld rfl rfl,
   by intros; exact eq_gr rfl,
   by intros; exact eq_ld rfl rfl,
   by intros; exact eq_ld rfl rfl,
   by intros; exact eq_iast rfl,
   by intros; exact eq_inc rfl rfl rfl,
   by intros; exact eq_go rfl,
   by intros; exact eq_retv rfl⟩
theorem rh_X2_limitBy_11 : ∀ (d : Nat) (x : Int) (l0 l1 l2 : Option mx_V) (S h : mx_H) (n : Int), mx_ex d 26 11 [l0, l1, l2, some (0, x)] [] S h n = mx_ex d 26 12 [l0, l1, l2, some (0, x)] [(0, x)] S h n := by intros; exact eq_ld rfl rfl
theorem rh_X2_limitBy_38 : ∀ (d : Nat) (x : Int) (l0 l1 l2 : Option mx_V) (S h : mx_H) (n : Int), mx_ex d 26 38 [l0, l1, l2, some (0, x)] [] S h n = mx_ex d 26 39 [l0, l1, l2, some (0, x)] [(0, x)] S h n := by intros; exact eq_ld rfl rfl
theorem rh_X2_limitBy_82 : ∀ (d : Nat) (x : Int) (l0 l1 l2 : Option mx_V) (S h : mx_H) (n : Int), mx_ex d 26 82 [l0, l1, l2, some (0, x)] [] S h n = mx_ex d 26 83 [l0, l1, l2, some (0, x)] [(0, x)] S h n := by intros; exact eq_ld rfl rfl
theorem rw_X2_limitBy :
  (∀ (d : Nat) (a0 a1 a2 : Int) (S h : mx_H) (n : Int), mx_M d 26 [(2, a0), (0, a1), (0, a2)] S h n = mx_ex d 26 0 [some (2, a0), some (0, a1), some (0, a2), none] [] S h n) ∧
  (∀ (d : Nat) (x : Int) (l1 l2 l3 : Option mx_V) (S h : mx_H) (n : Int), mx_ex d 26 0 [some (2, x), l1, l2, l3] [] S h n = mx_ex d 26 1 [some (2, x), l1, l2, l3] [(2, x)] S h n) ∧
  (∀ (d : Nat) (a : Int) (l0 l1 l2 l3 : Option mx_V) (S h : mx_H) (n : Int), mx_ex d 26 1 [l0, l1, l2, l3] [(2, a)] S h n = mx_gd (9 ≤ S a (-2) ∧ S a (-2) ≤ 9) d 26 4 [l0, l1, l2, l3] [(2, S a 9)] S h n) ∧
  (∀ (d : Nat) (l0 l1 l2 l3 : Option mx_V) (v0 : mx_V) (S h : mx_H) (n : Int), mx_ex d 26 4 [l0, l1, l2, l3] [v0] S h n = mx_ex d 26 6 [l0, l1, l2, l3] [(0, 131068), v0] S h n) ∧
  (∀ (d : Nat) (x0 x1 : Int) (l0 l1 l2 l3 : Option mx_V) (S h : mx_H) (n : Int), mx_ex (d + 1) 26 6 [l0, l1, l2, l3] [(0, x0), (2, x1)] S h n = mx_rt (mx_M d 255 [(2, x1), (0, x0)] S h n) (d + 1) 26 9 [l0, l1, l2, l3] []) ∧
  (∀ (d : Nat) (l0 l1 l2 l3 : Option mx_V) (S h : mx_H) (n : Int), mx_ex d 26 9 [l0, l1, l2, l3] [] S h n = mx_ex d 26 10 [l0, l1, l2, l3] [(0, 0)] S h n) ∧
  (∀ (d : Nat) (x : Int) (l0 l1 l2 l3 : Option mx_V) (S h : mx_H) (n : Int), mx_ex d 26 10 [l0, l1, l2, l3] [(0, x)] S h n = mx_ex d 26 11 [l0, l1, mx_nl l2, some (0, x)] [] S h n) ∧
  (∀ (d : Nat) (l0 l1 l2 l3 : Option mx_V) (v0 : mx_V) (S h : mx_H) (n : Int), mx_ex d 26 12 [l0, l1, l2, l3] [v0] S h n = mx_ex d 26 13 [l0, l1, l2, l3] [(0, 3), v0] S h n) ∧
  (∀ (d : Nat) (b a : Int) (l0 l1 l2 l3 : Option mx_V) (S h : mx_H) (n : Int), mx_ex d 26 13 [l0, l1, l2, l3] [(0, b), (0, a)] S h n = mx_br (a < b) d 26 16 36 [l0, l1, l2, l3] [] S h n) ∧
  (∀ (d : Nat) (x : Int) (l1 l2 l3 : Option mx_V) (S h : mx_H) (n : Int), mx_ex d 26 16 [some (2, x), l1, l2, l3] [] S h n = mx_ex d 26 17 [some (2, x), l1, l2, l3] [(2, x)] S h n) ∧
  (∀ (d : Nat) (a : Int) (l0 l1 l2 l3 : Option mx_V) (S h : mx_H) (n : Int), mx_ex d 26 17 [l0, l1, l2, l3] [(2, a)] S h n = mx_gd (9 ≤ S a (-2) ∧ S a (-2) ≤ 9) d 26 20 [l0, l1, l2, l3] [(2, S a 9)] S h n) ∧
  (∀ (d : Nat) (x : Int) (l0 l1 l2 : Option mx_V) (v0 : mx_V) (S h : mx_H) (n : Int), mx_ex d 26 20 [l0, l1, l2, some (0, x)] [v0] S h n = mx_ex d 26 21 [l0, l1, l2, some (0, x)] [(0, x), v0] S h n) ∧
  (∀ (d : Nat) (x : Int) (l1 l2 l3 : Option mx_V) (v0 v1 : mx_V) (S h : mx_H) (n : Int), mx_ex d 26 21 [some (2, x), l1, l2, l3] [v0, v1] S h n = mx_ex d 26 22 [some (2, x), l1, l2, l3] [(2, x), v0, v1] S h n) ∧
  (∀ (d : Nat) (a : Int) (l0 l1 l2 l3 : Option mx_V) (v1 v2 : mx_V) (S h : mx_H) (n : Int), mx_ex d 26 22 [l0, l1, l2, l3] [(2, a), v1, v2] S h n = mx_gd (9 ≤ S a (-2) ∧ S a (-2) ≤ 9) d 26 25 [l0, l1, l2, l3] [(2, S a 0), v1, v2] S h n) ∧
  (∀ (d : Nat) (x : Int) (l0 l1 l2 : Option mx_V) (v0 v1 v2 : mx_V) (S h : mx_H) (n : Int), mx_ex d 26 25 [l0, l1, l2, some (0, x)] [v0, v1, v2] S h n = mx_ex d 26 26 [l0, l1, l2, some (0, x)] [(0, x), v0, v1, v2] S h n) ∧
  (∀ (d : Nat) (x0 a : Int) (l0 l1 l2 l3 : Option mx_V) (v2 v3 : mx_V) (S h : mx_H) (n : Int), mx_ex (d + 1) 26 26 [l0, l1, l2, l3] [(0, x0), (2, a), v2, v3] S h n = mx_cl (S a (-2) = 8) d 89 [(2, a), (0, x0)] 26 29 [l0, l1, l2, l3] [v2, v3] S h n) ∧
  (∀ (d : Nat) (v i a : Int) (l0 l1 l2 l3 : Option mx_V) (S h : mx_H) (n : Int), mx_ex d 26 29 [l0, l1, l2, l3] [(0, v), (0, i), (2, a)] S h n = mx_gd (S a (-2) = 20 ∧ 0 ≤ i ∧ i < S a (-1)) d 26 30 [l0, l1, l2, l3] [] S (mx_u h a i v) n) ∧
  (∀ (d : Nat) (x : Int) (l0 l1 l2 : Option mx_V) (S h : mx_H) (n : Int), mx_ex d 26 30 [l0, l1, l2, some (0, x)] [] S h n = mx_ex d 26 33 [l0, l1, mx_nl l2, some (0, mx_w (x + 1))] [] S h n) ∧
  (∀ (d : Nat) (l0 l1 l2 l3 : Option mx_V) (S h : mx_H) (n : Int), mx_ex d 26 33 [l0, l1, l2, l3] [] S h n = mx_ex d 26 11 [l0, l1, l2, l3] [] S h n) ∧
  (∀ (d : Nat) (l0 l1 l2 l3 : Option mx_V) (S h : mx_H) (n : Int), mx_ex d 26 36 [l0, l1, l2, l3] [] S h n = mx_ex d 26 37 [l0, l1, l2, l3] [(0, 0)] S h n) ∧
  (∀ (d : Nat) (x : Int) (l0 l1 l2 l3 : Option mx_V) (S h : mx_H) (n : Int), mx_ex d 26 37 [l0, l1, l2, l3] [(0, x)] S h n = mx_ex d 26 38 [l0, l1, mx_nl l2, some (0, x)] [] S h n) ∧
  (∀ (d : Nat) (x : Int) (l1 l2 l3 : Option mx_V) (v0 : mx_V) (S h : mx_H) (n : Int), mx_ex d 26 39 [some (2, x), l1, l2, l3] [v0] S h n = mx_ex d 26 40 [some (2, x), l1, l2, l3] [(2, x), v0] S h n) ∧
  (∀ (d : Nat) (a : Int) (l0 l1 l2 l3 : Option mx_V) (v1 : mx_V) (S h : mx_H) (n : Int), mx_ex d 26 40 [l0, l1, l2, l3] [(2, a), v1] S h n = mx_gd (9 ≤ S a (-2) ∧ S a (-2) ≤ 9) d 26 43 [l0, l1, l2, l3] [(2, S a 0), v1] S h n) ∧
  (∀ (d : Nat) (a : Int) (l0 l1 l2 l3 : Option mx_V) (v1 : mx_V) (S h : mx_H) (n : Int), mx_ex d 26 43 [l0, l1, l2, l3] [(2, a), v1] S h n = mx_gd (8 ≤ S a (-2) ∧ S a (-2) ≤ 8) d 26 46 [l0, l1, l2, l3] [(0, h a 3), v1] S h n) ∧
  (∀ (d : Nat) (b a : Int) (l0 l1 l2 l3 : Option mx_V) (S h : mx_H) (n : Int), mx_ex d 26 46 [l0, l1, l2, l3] [(0, b), (0, a)] S h n = mx_br (a < b) d 26 49 80 [l0, l1, l2, l3] [] S h n) ∧
  (∀ (d : Nat) (x : Int) (l0 l1 l2 : Option mx_V) (S h : mx_H) (n : Int), mx_ex d 26 49 [l0, l1, l2, some (0, x)] [] S h n = mx_ex d 26 50 [l0, l1, l2, some (0, x)] [(0, x)] S h n) ∧
  (∀ (d : Nat) (x : Int) (l0 l1 l3 : Option mx_V) (v0 : mx_V) (S h : mx_H) (n : Int), mx_ex d 26 50 [l0, l1, some (0, x), l3] [v0] S h n = mx_ex d 26 51 [l0, l1, some (0, x), l3] [(0, x), v0] S h n) ∧
  (∀ (d : Nat) (b a : Int) (l0 l1 l2 l3 : Option mx_V) (S h : mx_H) (n : Int), mx_ex d 26 51 [l0, l1, l2, l3] [(0, b), (0, a)] S h n = mx_br (a = b) d 26 74 54 [l0, l1, l2, l3] [] S h n) ∧
  (∀ (d : Nat) (x : Int) (l1 l2 l3 : Option mx_V) (S h : mx_H) (n : Int), mx_ex d 26 54 [some (2, x), l1, l2, l3] [] S h n = mx_ex d 26 55 [some (2, x), l1, l2, l3] [(2, x)] S h n) ∧
  (∀ (d : Nat) (a : Int) (l0 l1 l2 l3 : Option mx_V) (S h : mx_H) (n : Int), mx_ex d 26 55 [l0, l1, l2, l3] [(2, a)] S h n = mx_gd (9 ≤ S a (-2) ∧ S a (-2) ≤ 9) d 26 58 [l0, l1, l2, l3] [(2, S a 9)] S h n) ∧
  (∀ (d : Nat) (x : Int) (l1 l2 l3 : Option mx_V) (v0 : mx_V) (S h : mx_H) (n : Int), mx_ex d 26 58 [some (2, x), l1, l2, l3] [v0] S h n = mx_ex d 26 59 [some (2, x), l1, l2, l3] [(2, x), v0] S h n) ∧
  (∀ (d : Nat) (a : Int) (l0 l1 l2 l3 : Option mx_V) (v1 : mx_V) (S h : mx_H) (n : Int), mx_ex d 26 59 [l0, l1, l2, l3] [(2, a), v1] S h n = mx_gd (9 ≤ S a (-2) ∧ S a (-2) ≤ 9) d 26 62 [l0, l1, l2, l3] [(2, S a 5), v1] S h n) ∧
  (∀ (d : Nat) (x : Int) (l0 l1 l2 : Option mx_V) (v0 v1 : mx_V) (S h : mx_H) (n : Int), mx_ex d 26 62 [l0, l1, l2, some (0, x)] [v0, v1] S h n = mx_ex d 26 63 [l0, l1, l2, some (0, x)] [(0, x), v0, v1] S h n) ∧
  (∀ (d : Nat) (i a : Int) (l0 l1 l2 l3 : Option mx_V) (v2 : mx_V) (S h : mx_H) (n : Int), mx_ex d 26 63 [l0, l1, l2, l3] [(0, i), (2, a), v2] S h n = mx_gd ((S a (-2) = 20 ∨ S a (-2) = 24) ∧ 0 ≤ i ∧ i < S a (-1)) d 26 64 [l0, l1, l2, l3] [(0, h a i), v2] S h n) ∧
  (∀ (d : Nat) (a b : Int) (l0 l1 l2 l3 : Option mx_V) (S h : mx_H) (n : Int), mx_ex d 26 64 [l0, l1, l2, l3] [(0, a), (2, b)] S h n = mx_ex d 26 65 [l0, l1, l2, l3] [(0, a), (2, b), (0, a), (2, b)] S h n) ∧
  (∀ (d : Nat) (i a : Int) (l0 l1 l2 l3 : Option mx_V) (v2 v3 : mx_V) (S h : mx_H) (n : Int), mx_ex d 26 65 [l0, l1, l2, l3] [(0, i), (2, a), v2, v3] S h n = mx_gd ((S a (-2) = 20 ∨ S a (-2) = 24) ∧ 0 ≤ i ∧ i < S a (-1)) d 26 66 [l0, l1, l2, l3] [(0, h a i), v2, v3] S h n) ∧
  (∀ (d : Nat) (x : Int) (l1 l2 l3 : Option mx_V) (v0 v1 v2 : mx_V) (S h : mx_H) (n : Int), mx_ex d 26 66 [some (2, x), l1, l2, l3] [v0, v1, v2] S h n = mx_ex d 26 67 [some (2, x), l1, l2, l3] [(2, x), v0, v1, v2] S h n) ∧
  (∀ (d : Nat) (a : Int) (l0 l1 l2 l3 : Option mx_V) (v1 v2 v3 : mx_V) (S h : mx_H) (n : Int), mx_ex d 26 67 [l0, l1, l2, l3] [(2, a), v1, v2, v3] S h n = mx_gd (9 ≤ S a (-2) ∧ S a (-2) ≤ 9) d 26 70 [l0, l1, l2, l3] [(2, S a 6), v1, v2, v3] S h n) ∧
  (∀ (d : Nat) (x : Int) (l0 l1 l2 : Option mx_V) (v0 v1 v2 v3 : mx_V) (S h : mx_H) (n : Int), mx_ex d 26 70 [l0, l1, l2, some (0, x)] [v0, v1, v2, v3] S h n = mx_ex d 26 71 [l0, l1, l2, some (0, x)] [(0, x), v0, v1, v2, v3] S h n) ∧
  (∀ (d : Nat) (i a : Int) (l0 l1 l2 l3 : Option mx_V) (v2 v3 v4 : mx_V) (S h : mx_H) (n : Int), mx_ex d 26 71 [l0, l1, l2, l3] [(0, i), (2, a), v2, v3, v4] S h n = mx_gd ((S a (-2) = 20 ∨ S a (-2) = 24) ∧ 0 ≤ i ∧ i < S a (-1)) d 26 72 [l0, l1, l2, l3] [(0, h a i), v2, v3, v4] S h n) ∧
  (∀ (d : Nat) (b a : Int) (l0 l1 l2 l3 : Option mx_V) (v2 v3 : mx_V) (S h : mx_H) (n : Int), mx_ex d 26 72 [l0, l1, l2, l3] [(0, b), (0, a), v2, v3] S h n = mx_ex d 26 73 [l0, l1, l2, l3] [(0, mx_and a b), v2, v3] S h n) ∧
  (∀ (d : Nat) (v i a : Int) (l0 l1 l2 l3 : Option mx_V) (S h : mx_H) (n : Int), mx_ex d 26 73 [l0, l1, l2, l3] [(0, v), (0, i), (2, a)] S h n = mx_gd (S a (-2) = 20 ∧ 0 ≤ i ∧ i < S a (-1)) d 26 74 [l0, l1, l2, l3] [] S (mx_u h a i v) n) ∧
  (∀ (d : Nat) (x : Int) (l0 l1 l2 : Option mx_V) (S h : mx_H) (n : Int), mx_ex d 26 74 [l0, l1, l2, some (0, x)] [] S h n = mx_ex d 26 77 [l0, l1, mx_nl l2, some (0, mx_w (x + 1))] [] S h n) ∧
  (∀ (d : Nat) (l0 l1 l2 l3 : Option mx_V) (S h : mx_H) (n : Int), mx_ex d 26 77 [l0, l1, l2, l3] [] S h n = mx_ex d 26 38 [l0, l1, l2, l3] [] S h n) ∧
  (∀ (d : Nat) (l0 l1 l2 l3 : Option mx_V) (S h : mx_H) (n : Int), mx_ex d 26 80 [l0, l1, l2, l3] [] S h n = mx_ex d 26 81 [l0, l1, l2, l3] [(0, 0)] S h n) ∧
  (∀ (d : Nat) (x : Int) (l0 l1 l2 l3 : Option mx_V) (S h : mx_H) (n : Int), mx_ex d 26 81 [l0, l1, l2, l3] [(0, x)] S h n = mx_ex d 26 82 [l0, l1, mx_nl l2, some (0, x)] [] S h n) ∧
  (∀ (d : Nat) (x : Int) (l1 l2 l3 : Option mx_V) (v0 : mx_V) (S h : mx_H) (n : Int), mx_ex d 26 83 [some (2, x), l1, l2, l3] [v0] S h n = mx_ex d 26 84 [some (2, x), l1, l2, l3] [(2, x), v0] S h n) ∧
  (∀ (d : Nat) (a : Int) (l0 l1 l2 l3 : Option mx_V) (v1 : mx_V) (S h : mx_H) (n : Int), mx_ex d 26 84 [l0, l1, l2, l3] [(2, a), v1] S h n = mx_gd (9 ≤ S a (-2) ∧ S a (-2) ≤ 9) d 26 87 [l0, l1, l2, l3] [(2, S a 0), v1] S h n) ∧
  (∀ (d : Nat) (a : Int) (l0 l1 l2 l3 : Option mx_V) (v1 : mx_V) (S h : mx_H) (n : Int), mx_ex d 26 87 [l0, l1, l2, l3] [(2, a), v1] S h n = mx_gd (8 ≤ S a (-2) ∧ S a (-2) ≤ 8) d 26 90 [l0, l1, l2, l3] [(0, h a 4), v1] S h n) ∧
  (∀ (d : Nat) (b a : Int) (l0 l1 l2 l3 : Option mx_V) (S h : mx_H) (n : Int), mx_ex d 26 90 [l0, l1, l2, l3] [(0, b), (0, a)] S h n = mx_br (a < b) d 26 93 112 [l0, l1, l2, l3] [] S h n) ∧
  (∀ (d : Nat) (x : Int) (l0 l2 l3 : Option mx_V) (S h : mx_H) (n : Int), mx_ex d 26 93 [l0, some (0, x), l2, l3] [] S h n = mx_ex d 26 94 [l0, some (0, x), l2, l3] [(0, x)] S h n) ∧
  (∀ (d : Nat) (x : Int) (l0 l1 l2 : Option mx_V) (v0 : mx_V) (S h : mx_H) (n : Int), mx_ex d 26 94 [l0, l1, l2, some (0, x)] [v0] S h n = mx_ex d 26 95 [l0, l1, l2, some (0, x)] [(0, x), v0] S h n) ∧
  (∀ (d : Nat) (b a : Int) (l0 l1 l2 l3 : Option mx_V) (S h : mx_H) (n : Int), mx_ex d 26 95 [l0, l1, l2, l3] [(0, b), (0, a)] S h n = mx_ex d 26 96 [l0, l1, l2, l3] [(0, mx_shr a b)] S h n) ∧
  (∀ (d : Nat) (l0 l1 l2 l3 : Option mx_V) (v0 : mx_V) (S h : mx_H) (n : Int), mx_ex d 26 96 [l0, l1, l2, l3] [v0] S h n = mx_ex d 26 97 [l0, l1, l2, l3] [(0, 1), v0] S h n) ∧
  (∀ (d : Nat) (b a : Int) (l0 l1 l2 l3 : Option mx_V) (S h : mx_H) (n : Int), mx_ex d 26 97 [l0, l1, l2, l3] [(0, b), (0, a)] S h n = mx_ex d 26 98 [l0, l1, l2, l3] [(0, mx_and a b)] S h n) ∧
  (∀ (d : Nat) (a : Int) (l0 l1 l2 l3 : Option mx_V) (S h : mx_H) (n : Int), mx_ex d 26 98 [l0, l1, l2, l3] [(0, a)] S h n = mx_br (a = 0) d 26 106 101 [l0, l1, l2, l3] [] S h n) ∧
  (∀ (d : Nat) (x : Int) (l1 l2 l3 : Option mx_V) (S h : mx_H) (n : Int), mx_ex d 26 101 [some (2, x), l1, l2, l3] [] S h n = mx_ex d 26 102 [some (2, x), l1, l2, l3] [(2, x)] S h n) ∧
  (∀ (d : Nat) (x : Int) (l0 l1 l2 : Option mx_V) (v0 : mx_V) (S h : mx_H) (n : Int), mx_ex d 26 102 [l0, l1, l2, some (0, x)] [v0] S h n = mx_ex d 26 103 [l0, l1, l2, some (0, x)] [(0, x), v0] S h n) ∧
  (∀ (d : Nat) (x0 a : Int) (l0 l1 l2 l3 : Option mx_V) (S h : mx_H) (n : Int), mx_ex (d + 1) 26 103 [l0, l1, l2, l3] [(0, x0), (2, a)] S h n = mx_cl (S a (-2) = 9) d 27 [(2, a), (0, x0)] 26 106 [l0, l1, l2, l3] [] S h n) ∧
  (∀ (d : Nat) (x : Int) (l0 l1 l2 : Option mx_V) (S h : mx_H) (n : Int), mx_ex d 26 106 [l0, l1, l2, some (0, x)] [] S h n = mx_ex d 26 109 [l0, l1, mx_nl l2, some (0, mx_w (x + 1))] [] S h n) ∧
  (∀ (d : Nat) (l0 l1 l2 l3 : Option mx_V) (S h : mx_H) (n : Int), mx_ex d 26 109 [l0, l1, l2, l3] [] S h n = mx_ex d 26 82 [l0, l1, l2, l3] [] S h n) ∧
  (∀ (d : Nat) (l0 l1 l2 l3 : Option mx_V) (S h : mx_H) (n : Int), mx_ex d 26 112 [l0, l1, l2, l3] [] S h n = some (none, S, h, n)) :=
  ⟨by intros; exact rfl,
   by intros; exact eq_ld rfl rfl,
   by intros; exact eq_gr rfl,
   by intros; exact eq_push rfl,
   by intros; exact eq_cs rfl (Nat.le_of_ble_eq_true rfl) rfl rfl rfl (Nat.le_of_ble_eq_true rfl),
   by intros; exact eq_push rfl,
   by intros; exact eq_st rfl (by decide) (Nat.le_of_ble_eq_true rfl) rfl,
   by intros; exact eq_push rfl,
   by intros; exact eq_ic3 rfl,
   by intros; exact eq_ld rfl rfl,
   by intros; exact eq_gr rfl,
   by intros; exact eq_ld rfl rfl,
   by intros; exact eq_ld rfl rfl,
   by intros; exact eq_gr rfl,
   by intros; exact eq_ld rfl rfl,
   by intros; exact eq_cv rfl (Nat.le_of_ble_eq_true rfl) rfl rfl rfl (Nat.le_of_ble_eq_true rfl),
   by intros; exact eq_iast rfl,
   by intros; exact eq_inc rfl rfl rfl,
   by intros; exact eq_go rfl,
   by intros; exact eq_push rfl,
   by intros; exact eq_st rfl (by decide) (Nat.le_of_ble_eq_true rfl) rfl,
   by intros; exact eq_ld rfl rfl,
   by intros; exact eq_gr rfl,
   by intros; exact eq_gi rfl,
   by intros; exact eq_ic3 rfl,
   by intros; exact eq_ld rfl rfl,
   by intros; exact eq_ld rfl rfl,
   by intros; exact eq_ic0 rfl,
   by intros; exact eq_ld rfl rfl,
   by intros; exact eq_gr rfl,
   by intros; exact eq_ld rfl rfl,
   by intros; exact eq_gr rfl,
   by intros; exact eq_ld rfl rfl,
   by intros; exact eq_iald rfl,
   by intros; exact eq_dup2 rfl (by decide) (by decide),
   by intros; exact eq_iald rfl,
   by intros; exact eq_ld rfl rfl,
   by intros; exact eq_gr rfl,
   by intros; exact eq_ld rfl rfl,
   by intros; exact eq_iald rfl,
   by intros; exact eq_i2 (o := mx_and) rfl,
   by intros; exact eq_iast rfl,
   by intros; exact eq_inc rfl rfl rfl,
   by intros; exact eq_go rfl,
   by intros; exact eq_push rfl,
   by intros; exact eq_st rfl (by decide) (Nat.le_of_ble_eq_true rfl) rfl,
   by intros; exact eq_ld rfl rfl,
   by intros; exact eq_gr rfl,
   by intros; exact eq_gi rfl,
   by intros; exact eq_ic3 rfl,
   by intros; exact eq_ld rfl rfl,
   by intros; exact eq_ld rfl rfl,
   by intros; exact eq_i2 (o := mx_shr) rfl,
   by intros; exact eq_push rfl,
   by intros; exact eq_i2 (o := mx_and) rfl,
   by intros; exact eq_if0 rfl,
   by intros; exact eq_ld rfl rfl,
   by intros; exact eq_ld rfl rfl,
   by intros; exact eq_cv rfl (Nat.le_of_ble_eq_true rfl) rfl rfl rfl (Nat.le_of_ble_eq_true rfl),
   by intros; exact eq_inc rfl rfl rfl,
   by intros; exact eq_go rfl,
   by intros; exact eq_retv rfl⟩
theorem rh_X2_limitByLine_65 : ∀ (d : Nat) (x : Int) (l0 l1 l2 l3 l4 : Option mx_V) (S h : mx_H) (n : Int), mx_ex d 27 65 [l0, l1, l2, l3, l4, some (0, x)] [] S h n = mx_ex d 27 67 [l0, l1, l2, l3, l4, some (0, x)] [(0, x)] S h n := by intros; exact eq_ld rfl rfl
theorem rw_X2_limitByLine :
  (∀ (d : Nat) (a0 a1 : Int) (S h : mx_H) (n : Int), mx_M d 27 [(2, a0), (0, a1)] S h n = mx_ex d 27 0 [some (2, a0), some (0, a1), none, none, none, none] [] S h n) ∧
  (∀ (d : Nat) (l0 l1 l2 l3 l4 l5 : Option mx_V) (S h : mx_H) (n : Int), mx_ex d 27 0 [l0, l1, l2, l3, l4, l5] [] S h n = mx_ex d 27 3 [l0, l1, l2, l3, l4, l5] [(2, (-3))] S h n) ∧
  (∀ (d : Nat) (x : Int) (l1 l2 l3 l4 l5 : Option mx_V) (v0 : mx_V) (S h : mx_H) (n : Int), mx_ex d 27 3 [some (2, x), l1, l2, l3, l4, l5] [v0] S h n = mx_ex d 27 4 [some (2, x), l1, l2, l3, l4, l5] [(2, x), v0] S h n) ∧
  (∀ (d : Nat) (a : Int) (l0 l1 l2 l3 l4 l5 : Option mx_V) (v1 : mx_V) (S h : mx_H) (n : Int), mx_ex d 27 4 [l0, l1, l2, l3, l4, l5] [(2, a), v1] S h n = mx_gd (9 ≤ S a (-2) ∧ S a (-2) ≤ 9) d 27 7 [l0, l1, l2, l3, l4, l5] [(2, S a 8), v1] S h n) ∧
  (∀ (d : Nat) (x : Int) (l0 l2 l3 l4 l5 : Option mx_V) (v0 v1 : mx_V) (S h : mx_H) (n : Int), mx_ex d 27 7 [l0, some (0, x), l2, l3, l4, l5] [v0, v1] S h n = mx_ex d 27 8 [l0, some (0, x), l2, l3, l4, l5] [(0, x), v0, v1] S h n) ∧
  (∀ (d : Nat) (i a : Int) (l0 l1 l2 l3 l4 l5 : Option mx_V) (v2 : mx_V) (S h : mx_H) (n : Int), mx_ex d 27 8 [l0, l1, l2, l3, l4, l5] [(0, i), (2, a), v2] S h n = mx_gd ((S a (-2) = 20 ∨ S a (-2) = 24) ∧ 0 ≤ i ∧ i < S a (-1)) d 27 9 [l0, l1, l2, l3, l4, l5] [(0, h a i), v2] S h n) ∧
  (∀ (d : Nat) (i a : Int) (l0 l1 l2 l3 l4 l5 : Option mx_V) (S h : mx_H) (n : Int), mx_ex d 27 9 [l0, l1, l2, l3, l4, l5] [(0, i), (2, a)] S h n = mx_gd ((S a (-2) = 20 ∨ S a (-2) = 24) ∧ 0 ≤ i ∧ i < S a (-1)) d 27 10 [l0, l1, l2, l3, l4, l5] [(0, h a i)] S h n) ∧
  (∀ (d : Nat) (x : Int) (l0 l1 l2 l3 l4 l5 : Option mx_V) (S h : mx_H) (n : Int), mx_ex d 27 10 [l0, l1, l2, l3, l4, l5] [(0, x)] S h n = mx_ex d 27 11 [l0, mx_nl l1, some (0, x), l3, l4, l5] [] S h n) ∧
  (∀ (d : Nat) (l0 l1 l2 l3 l4 l5 : Option mx_V) (S h : mx_H) (n : Int), mx_ex d 27 11 [l0, l1, l2, l3, l4, l5] [] S h n = mx_ex d 27 14 [l0, l1, l2, l3, l4, l5] [(2, (-4))] S h n) ∧
  (∀ (d : Nat) (x : Int) (l1 l2 l3 l4 l5 : Option mx_V) (v0 : mx_V) (S h : mx_H) (n : Int), mx_ex d 27 14 [some (2, x), l1, l2, l3, l4, l5] [v0] S h n = mx_ex d 27 15 [some (2, x), l1, l2, l3, l4, l5] [(2, x), v0] S h n) ∧
  (∀ (d : Nat) (a : Int) (l0 l1 l2 l3 l4 l5 : Option mx_V) (v1 : mx_V) (S h : mx_H) (n : Int), mx_ex d 27 15 [l0, l1, l2, l3, l4, l5] [(2, a), v1] S h n = mx_gd (9 ≤ S a (-2) ∧ S a (-2) ≤ 9) d 27 18 [l0, l1, l2, l3, l4, l5] [(2, S a 8), v1] S h n) ∧
  (∀ (d : Nat) (x : Int) (l0 l2 l3 l4 l5 : Option mx_V) (v0 v1 : mx_V) (S h : mx_H) (n : Int), mx_ex d 27 18 [l0, some (0, x), l2, l3, l4, l5] [v0, v1] S h n = mx_ex d 27 19 [l0, some (0, x), l2, l3, l4, l5] [(0, x), v0, v1] S h n) ∧
  (∀ (d : Nat) (i a : Int) (l0 l1 l2 l3 l4 l5 : Option mx_V) (v2 : mx_V) (S h : mx_H) (n : Int), mx_ex d 27 19 [l0, l1, l2, l3, l4, l5] [(0, i), (2, a), v2] S h n = mx_gd ((S a (-2) = 20 ∨ S a (-2) = 24) ∧ 0 ≤ i ∧ i < S a (-1)) d 27 20 [l0, l1, l2, l3, l4, l5] [(0, h a i), v2] S h n) ∧
  (∀ (d : Nat) (i a : Int) (l0 l1 l2 l3 l4 l5 : Option mx_V) (S h : mx_H) (n : Int), mx_ex d 27 20 [l0, l1, l2, l3, l4, l5] [(0, i), (2, a)] S h n = mx_gd ((S a (-2) = 20 ∨ S a (-2) = 24) ∧ 0 ≤ i ∧ i < S a (-1)) d 27 21 [l0, l1, l2, l3, l4, l5] [(0, h a i)] S h n) ∧
  (∀ (d : Nat) (x : Int) (l0 l1 l2 l3 l4 l5 : Option mx_V) (S h : mx_H) (n : Int), mx_ex d 27 21 [l0, l1, l2, l3, l4, l5] [(0, x)] S h n = mx_ex d 27 22 [l0, l1, mx_nl l2, some (0, x), l4, l5] [] S h n) ∧
  (∀ (d : Nat) (x : Int) (l0 l1 l3 l4 l5 : Option mx_V) (S h : mx_H) (n : Int), mx_ex d 27 22 [l0, l1, some (0, x), l3, l4, l5] [] S h n = mx_ex d 27 23 [l0, l1, some (0, x), l3, l4, l5] [(0, x)] S h n) ∧
  (∀ (d : Nat) (a : Int) (l0 l1 l2 l3 l4 l5 : Option mx_V) (S h : mx_H) (n : Int), mx_ex d 27 23 [l0, l1, l2, l3, l4, l5] [(0, a)] S h n = mx_br (a < 0) d 27 26 27 [l0, l1, l2, l3, l4, l5] [] S h n) ∧
  (∀ (d : Nat) (l0 l1 l2 l3 l4 l5 : Option mx_V) (S h : mx_H) (n : Int), mx_ex d 27 26 [l0, l1, l2, l3, l4, l5] [] S h n = some (none, S, h, n)) ∧
  (∀ (d : Nat) (x : Int) (l0 l1 l2 l4 l5 : Option mx_V) (S h : mx_H) (n : Int), mx_ex d 27 27 [l0, l1, l2, some (0, x), l4, l5] [] S h n = mx_ex d 27 28 [l0, l1, l2, some (0, x), l4, l5] [(0, x)] S h n) ∧
  (∀ (d : Nat) (a : Int) (l0 l1 l2 l3 l4 l5 : Option mx_V) (S h : mx_H) (n : Int), mx_ex d 27 28 [l0, l1, l2, l3, l4, l5] [(0, a)] S h n = mx_br (a < 0) d 27 31 50 [l0, l1, l2, l3, l4, l5] [] S h n) ∧
  (∀ (d : Nat) (x : Int) (l1 l2 l3 l4 l5 : Option mx_V) (S h : mx_H) (n : Int), mx_ex d 27 31 [some (2, x), l1, l2, l3, l4, l5] [] S h n = mx_ex d 27 32 [some (2, x), l1, l2, l3, l4, l5] [(2, x)] S h n) ∧
  (∀ (d : Nat) (a : Int) (l0 l1 l2 l3 l4 l5 : Option mx_V) (S h : mx_H) (n : Int), mx_ex d 27 32 [l0, l1, l2, l3, l4, l5] [(2, a)] S h n = mx_gd (9 ≤ S a (-2) ∧ S a (-2) ≤ 9) d 27 35 [l0, l1, l2, l3, l4, l5] [(2, S a 9)] S h n) ∧
  (∀ (d : Nat) (x : Int) (l0 l1 l3 l4 l5 : Option mx_V) (v0 : mx_V) (S h : mx_H) (n : Int), mx_ex d 27 35 [l0, l1, some (0, x), l3, l4, l5] [v0] S h n = mx_ex d 27 36 [l0, l1, some (0, x), l3, l4, l5] [(0, x), v0] S h n) ∧
  (∀ (d : Nat) (x : Int) (l1 l2 l3 l4 l5 : Option mx_V) (v0 v1 : mx_V) (S h : mx_H) (n : Int), mx_ex d 27 36 [some (2, x), l1, l2, l3, l4, l5] [v0, v1] S h n = mx_ex d 27 37 [some (2, x), l1, l2, l3, l4, l5] [(2, x), v0, v1] S h n) ∧
  (∀ (d : Nat) (x : Int) (l0 l2 l3 l4 l5 : Option mx_V) (v0 v1 v2 : mx_V) (S h : mx_H) (n : Int), mx_ex d 27 37 [l0, some (0, x), l2, l3, l4, l5] [v0, v1, v2] S h n = mx_ex d 27 38 [l0, some (0, x), l2, l3, l4, l5] [(0, x), v0, v1, v2] S h n) ∧
  (∀ (d : Nat) (x : Int) (l0 l1 l3 l4 l5 : Option mx_V) (v0 v1 v2 v3 : mx_V) (S h : mx_H) (n : Int), mx_ex d 27 38 [l0, l1, some (0, x), l3, l4, l5] [v0, v1, v2, v3] S h n = mx_ex d 27 39 [l0, l1, some (0, x), l3, l4, l5] [(0, x), v0, v1, v2, v3] S h n) ∧
  (∀ (d : Nat) (x : Int) (l1 l2 l3 l4 l5 : Option mx_V) (v0 v1 v2 v3 v4 : mx_V) (S h : mx_H) (n : Int), mx_ex d 27 39 [some (2, x), l1, l2, l3, l4, l5] [v0, v1, v2, v3, v4] S h n = mx_ex d 27 40 [some (2, x), l1, l2, l3, l4, l5] [(2, x), v0, v1, v2, v3, v4] S h n) ∧
  (∀ (d : Nat) (a : Int) (l0 l1 l2 l3 l4 l5 : Option mx_V) (v1 v2 v3 v4 v5 : mx_V) (S h : mx_H) (n : Int), mx_ex d 27 40 [l0, l1, l2, l3, l4, l5] [(2, a), v1, v2, v3, v4, v5] S h n = mx_gd (9 ≤ S a (-2) ∧ S a (-2) ≤ 9) d 27 43 [l0, l1, l2, l3, l4, l5] [(2, S a 9), v1, v2, v3, v4, v5] S h n) ∧
  (∀ (d : Nat) (x : Int) (l0 l1 l3 l4 l5 : Option mx_V) (v0 v1 v2 v3 v4 v5 : mx_V) (S h : mx_H) (n : Int), mx_ex d 27 43 [l0, l1, some (0, x), l3, l4, l5] [v0, v1, v2, v3, v4, v5] S h n = mx_ex d 27 44 [l0, l1, some (0, x), l3, l4, l5] [(0, x), v0, v1, v2, v3, v4, v5] S h n) ∧
  (∀ (d : Nat) (i a : Int) (l0 l1 l2 l3 l4 l5 : Option mx_V) (v2 v3 v4 v5 v6 : mx_V) (S h : mx_H) (n : Int), mx_ex d 27 44 [l0, l1, l2, l3, l4, l5] [(0, i), (2, a), v2, v3, v4, v5, v6] S h n = mx_gd ((S a (-2) = 20 ∨ S a (-2) = 24) ∧ 0 ≤ i ∧ i < S a (-1)) d 27 45 [l0, l1, l2, l3, l4, l5] [(0, h a i), v2, v3, v4, v5, v6] S h n) ∧
  (∀ (d : Nat) (x0 x1 x2 a : Int) (l0 l1 l2 l3 l4 l5 : Option mx_V) (v4 v5 : mx_V) (S h : mx_H) (n : Int), mx_ex (d + 1) 27 45 [l0, l1, l2, l3, l4, l5] [(0, x0), (0, x1), (0, x2), (2, a), v4, v5] S h n = mx_cl (S a (-2) = 9) d 28 [(2, a), (0, x2), (0, x1), (0, x0)] 27 48 [l0, l1, l2, l3, l4, l5] [v4, v5] S h n) ∧
  (∀ (d : Nat) (v i a : Int) (l0 l1 l2 l3 l4 l5 : Option mx_V) (S h : mx_H) (n : Int), mx_ex d 27 48 [l0, l1, l2, l3, l4, l5] [(0, v), (0, i), (2, a)] S h n = mx_gd (S a (-2) = 20 ∧ 0 ≤ i ∧ i < S a (-1)) d 27 49 [l0, l1, l2, l3, l4, l5] [] S (mx_u h a i v) n) ∧
  (∀ (d : Nat) (l0 l1 l2 l3 l4 l5 : Option mx_V) (S h : mx_H) (n : Int), mx_ex d 27 49 [l0, l1, l2, l3, l4, l5] [] S h n = some (none, S, h, n)) ∧
  (∀ (d : Nat) (l0 l1 l2 l3 l4 l5 : Option mx_V) (S h : mx_H) (n : Int), mx_ex d 27 50 [l0, l1, l2, l3, l4, l5] [] S h n = mx_ex d 27 51 [l0, l1, l2, l3, l4, l5] [(0, 3)] S h n) ∧
  (∀ (d : Nat) (x : Int) (l0 l1 l3 l4 l5 : Option mx_V) (v0 : mx_V) (S h : mx_H) (n : Int), mx_ex d 27 51 [l0, l1, some (0, x), l3, l4, l5] [v0] S h n = mx_ex d 27 52 [l0, l1, some (0, x), l3, l4, l5] [(0, x), v0] S h n) ∧
  (∀ (d : Nat) (x : Int) (l0 l1 l2 l4 l5 : Option mx_V) (v0 v1 : mx_V) (S h : mx_H) (n : Int), mx_ex d 27 52 [l0, l1, l2, some (0, x), l4, l5] [v0, v1] S h n = mx_ex d 27 53 [l0, l1, l2, some (0, x), l4, l5] [(0, x), v0, v1] S h n) ∧
  (∀ (d : Nat) (b a : Int) (l0 l1 l2 l3 l4 l5 : Option mx_V) (v2 : mx_V) (S h : mx_H) (n : Int), mx_ex d 27 53 [l0, l1, l2, l3, l4, l5] [(0, b), (0, a), v2] S h n = mx_ex d 27 54 [l0, l1, l2, l3, l4, l5] [(0, mx_w (a + b)), v2] S h n) ∧
  (∀ (d : Nat) (l0 l1 l2 l3 l4 l5 : Option mx_V) (v0 v1 : mx_V) (S h : mx_H) (n : Int), mx_ex d 27 54 [l0, l1, l2, l3, l4, l5] [v0, v1] S h n = mx_ex d 27 55 [l0, l1, l2, l3, l4, l5] [(0, 1), v0, v1] S h n) ∧
  (∀ (d : Nat) (b a : Int) (l0 l1 l2 l3 l4 l5 : Option mx_V) (v2 : mx_V) (S h : mx_H) (n : Int), mx_ex d 27 55 [l0, l1, l2, l3, l4, l5] [(0, b), (0, a), v2] S h n = mx_ex d 27 56 [l0, l1, l2, l3, l4, l5] [(0, mx_w (a - b)), v2] S h n) ∧
  (∀ (d : Nat) (l0 l1 l2 l3 l4 l5 : Option mx_V) (v0 v1 : mx_V) (S h : mx_H) (n : Int), mx_ex d 27 56 [l0, l1, l2, l3, l4, l5] [v0, v1] S h n = mx_ex d 27 58 [l0, l1, l2, l3, l4, l5] [(0, 17), v0, v1] S h n) ∧
  (∀ (d : Nat) (b a : Int) (l0 l1 l2 l3 l4 l5 : Option mx_V) (v2 : mx_V) (S h : mx_H) (n : Int), mx_ex d 27 58 [l0, l1, l2, l3, l4, l5] [(0, b), (0, a), v2] S h n = mx_ex d 27 59 [l0, l1, l2, l3, l4, l5] [(0, mx_w (a * b)), v2] S h n) ∧
  (∀ (d : Nat) (b a : Int) (l0 l1 l2 l3 l4 l5 : Option mx_V) (S h : mx_H) (n : Int), mx_ex d 27 59 [l0, l1, l2, l3, l4, l5] [(0, b), (0, a)] S h n = mx_ex d 27 60 [l0, l1, l2, l3, l4, l5] [(0, mx_w (a + b))] S h n) ∧
  (∀ (d : Nat) (x : Int) (l0 l1 l2 l3 l4 l5 : Option mx_V) (S h : mx_H) (n : Int), mx_ex d 27 60 [l0, l1, l2, l3, l4, l5] [(0, x)] S h n = mx_ex d 27 62 [l0, l1, l2, mx_nl l3, some (0, x), l5] [] S h n) ∧
  (∀ (d : Nat) (l0 l1 l2 l3 l4 l5 : Option mx_V) (S h : mx_H) (n : Int), mx_ex d 27 62 [l0, l1, l2, l3, l4, l5] [] S h n = mx_ex d 27 63 [l0, l1, l2, l3, l4, l5] [(0, 2)] S h n) ∧
  (∀ (d : Nat) (x : Int) (l0 l1 l2 l3 l4 l5 : Option mx_V) (S h : mx_H) (n : Int), mx_ex d 27 63 [l0, l1, l2, l3, l4, l5] [(0, x)] S h n = mx_ex d 27 65 [l0, l1, l2, l3, mx_nl l4, some (0, x)] [] S h n) ∧
  (∀ (d : Nat) (l0 l1 l2 l3 l4 l5 : Option mx_V) (v0 : mx_V) (S h : mx_H) (n : Int), mx_ex d 27 67 [l0, l1, l2, l3, l4, l5] [v0] S h n = mx_ex d 27 69 [l0, l1, l2, l3, l4, l5] [(0, 16), v0] S h n) ∧
  (∀ (d : Nat) (b a : Int) (l0 l1 l2 l3 l4 l5 : Option mx_V) (S h : mx_H) (n : Int), mx_ex d 27 69 [l0, l1, l2, l3, l4, l5] [(0, b), (0, a)] S h n = mx_br (b < a) d 27 136 72 [l0, l1, l2, l3, l4, l5] [] S h n) ∧
  (∀ (d : Nat) (x : Int) (l1 l2 l3 l4 l5 : Option mx_V) (S h : mx_H) (n : Int), mx_ex d 27 72 [some (2, x), l1, l2, l3, l4, l5] [] S h n = mx_ex d 27 73 [some (2, x), l1, l2, l3, l4, l5] [(2, x)] S h n) ∧
  (∀ (d : Nat) (a : Int) (l0 l1 l2 l3 l4 l5 : Option mx_V) (S h : mx_H) (n : Int), mx_ex d 27 73 [l0, l1, l2, l3, l4, l5] [(2, a)] S h n = mx_gd (9 ≤ S a (-2) ∧ S a (-2) ≤ 9) d 27 76 [l0, l1, l2, l3, l4, l5] [(2, S a 9)] S h n) ∧
  (∀ (d : Nat) (x : Int) (l0 l1 l3 l4 l5 : Option mx_V) (v0 : mx_V) (S h : mx_H) (n : Int), mx_ex d 27 76 [l0, l1, some (0, x), l3, l4, l5] [v0] S h n = mx_ex d 27 77 [l0, l1, some (0, x), l3, l4, l5] [(0, x), v0] S h n) ∧
  (∀ (d : Nat) (i a : Int) (l0 l1 l2 l3 l4 l5 : Option mx_V) (S h : mx_H) (n : Int), mx_ex d 27 77 [l0, l1, l2, l3, l4, l5] [(0, i), (2, a)] S h n = mx_gd ((S a (-2) = 20 ∨ S a (-2) = 24) ∧ 0 ≤ i ∧ i < S a (-1)) d 27 78 [l0, l1, l2, l3, l4, l5] [(0, h a i)] S h n) ∧
  (∀ (d : Nat) (x : Int) (l0 l1 l2 l3 l4 : Option mx_V) (v0 : mx_V) (S h : mx_H) (n : Int), mx_ex d 27 78 [l0, l1, l2, l3, l4, some (0, x)] [v0] S h n = mx_ex d 27 80 [l0, l1, l2, l3, l4, some (0, x)] [(0, x), v0] S h n) ∧
  (∀ (d : Nat) (b a : Int) (l0 l1 l2 l3 l4 l5 : Option mx_V) (S h : mx_H) (n : Int), mx_ex d 27 80 [l0, l1, l2, l3, l4, l5] [(0, b), (0, a)] S h n = mx_ex d 27 81 [l0, l1, l2, l3, l4, l5] [(0, mx_shr a b)] S h n) ∧
  (∀ (d : Nat) (l0 l1 l2 l3 l4 l5 : Option mx_V) (v0 : mx_V) (S h : mx_H) (n : Int), mx_ex d 27 81 [l0, l1, l2, l3, l4, l5] [v0] S h n = mx_ex d 27 82 [l0, l1, l2, l3, l4, l5] [(0, 1), v0] S h n) ∧
  (∀ (d : Nat) (b a : Int) (l0 l1 l2 l3 l4 l5 : Option mx_V) (S h : mx_H) (n : Int), mx_ex d 27 82 [l0, l1, l2, l3, l4, l5] [(0, b), (0, a)] S h n = mx_ex d 27 83 [l0, l1, l2, l3, l4, l5] [(0, mx_and a b)] S h n) ∧
  (∀ (d : Nat) (a : Int) (l0 l1 l2 l3 l4 l5 : Option mx_V) (S h : mx_H) (n : Int), mx_ex d 27 83 [l0, l1, l2, l3, l4, l5] [(0, a)] S h n = mx_br (a = 0) d 27 86 89 [l0, l1, l2, l3, l4, l5] [] S h n) ∧
  (∀ (d : Nat) (l0 l1 l2 l3 l4 l5 : Option mx_V) (S h : mx_H) (n : Int), mx_ex d 27 86 [l0, l1, l2, l3, l4, l5] [] S h n = mx_ex d 27 130 [l0, l1, l2, l3, l4, l5] [] S h n) ∧
  (∀ (d : Nat) (x : Int) (l1 l2 l3 l4 l5 : Option mx_V) (S h : mx_H) (n : Int), mx_ex d 27 89 [some (2, x), l1, l2, l3, l4, l5] [] S h n = mx_ex d 27 90 [some (2, x), l1, l2, l3, l4, l5] [(2, x)] S h n) ∧
  (∀ (d : Nat) (a : Int) (l0 l1 l2 l3 l4 l5 : Option mx_V) (S h : mx_H) (n : Int), mx_ex d 27 90 [l0, l1, l2, l3, l4, l5] [(2, a)] S h n = mx_gd (9 ≤ S a (-2) ∧ S a (-2) ≤ 9) d 27 93 [l0, l1, l2, l3, l4, l5] [(2, S a 1)] S h n) ∧
  (∀ (d : Nat) (x : Int) (l0 l1 l3 l4 l5 : Option mx_V) (v0 : mx_V) (S h : mx_H) (n : Int), mx_ex d 27 93 [l0, l1, some (0, x), l3, l4, l5] [v0] S h n = mx_ex d 27 94 [l0, l1, some (0, x), l3, l4, l5] [(0, x), v0] S h n) ∧
  (∀ (d : Nat) (x : Int) (l0 l1 l2 l3 l4 : Option mx_V) (v0 v1 : mx_V) (S h : mx_H) (n : Int), mx_ex d 27 94 [l0, l1, l2, l3, l4, some (0, x)] [v0, v1] S h n = mx_ex d 27 96 [l0, l1, l2, l3, l4, some (0, x)] [(0, x), v0, v1] S h n) ∧
  (∀ (d : Nat) (v i a : Int) (l0 l1 l2 l3 l4 l5 : Option mx_V) (S h : mx_H) (n : Int), mx_ex d 27 96 [l0, l1, l2, l3, l4, l5] [(0, v), (0, i), (2, a)] S h n = mx_gd (S a (-2) = 20 ∧ 0 ≤ i ∧ i < S a (-1)) d 27 97 [l0, l1, l2, l3, l4, l5] [] S (mx_u h a i v) n) ∧
  (∀ (d : Nat) (x : Int) (l1 l2 l3 l4 l5 : Option mx_V) (S h : mx_H) (n : Int), mx_ex d 27 97 [some (2, x), l1, l2, l3, l4, l5] [] S h n = mx_ex d 27 98 [some (2, x), l1, l2, l3, l4, l5] [(2, x)] S h n) ∧
  (∀ (d : Nat) (a : Int) (l0 l1 l2 l3 l4 l5 : Option mx_V) (S h : mx_H) (n : Int), mx_ex d 27 98 [l0, l1, l2, l3, l4, l5] [(2, a)] S h n = mx_gd (9 ≤ S a (-2) ∧ S a (-2) ≤ 9) d 27 101 [l0, l1, l2, l3, l4, l5] [(2, S a 9)] S h n) ∧
  (∀ (d : Nat) (x : Int) (l0 l1 l2 l3 l5 : Option mx_V) (v0 : mx_V) (S h : mx_H) (n : Int), mx_ex d 27 101 [l0, l1, l2, l3, some (0, x), l5] [v0] S h n = mx_ex d 27 103 [l0, l1, l2, l3, some (0, x), l5] [(0, x), v0] S h n) ∧
  (∀ (d : Nat) (x : Int) (l0 l1 l2 l3 l4 : Option mx_V) (v0 v1 : mx_V) (S h : mx_H) (n : Int), mx_ex d 27 103 [l0, l1, l2, l3, l4, some (0, x)] [v0, v1] S h n = mx_ex d 27 105 [l0, l1, l2, l3, l4, some (0, x)] [(0, x), v0, v1] S h n) ∧
  (∀ (d : Nat) (b a : Int) (l0 l1 l2 l3 l4 l5 : Option mx_V) (v2 : mx_V) (S h : mx_H) (n : Int), mx_ex d 27 105 [l0, l1, l2, l3, l4, l5] [(0, b), (0, a), v2] S h n = mx_ex d 27 106 [l0, l1, l2, l3, l4, l5] [(0, mx_w (a + b)), v2] S h n) ∧
  (∀ (d : Nat) (x : Int) (l1 l2 l3 l4 l5 : Option mx_V) (v0 v1 : mx_V) (S h : mx_H) (n : Int), mx_ex d 27 106 [some (2, x), l1, l2, l3, l4, l5] [v0, v1] S h n = mx_ex d 27 107 [some (2, x), l1, l2, l3, l4, l5] [(2, x), v0, v1] S h n) ∧
  (∀ (d : Nat) (x : Int) (l0 l2 l3 l4 l5 : Option mx_V) (v0 v1 v2 : mx_V) (S h : mx_H) (n : Int), mx_ex d 27 107 [l0, some (0, x), l2, l3, l4, l5] [v0, v1, v2] S h n = mx_ex d 27 108 [l0, some (0, x), l2, l3, l4, l5] [(0, x), v0, v1, v2] S h n) ∧
  (∀ (d : Nat) (x : Int) (l0 l1 l2 l4 l5 : Option mx_V) (v0 v1 v2 v3 : mx_V) (S h : mx_H) (n : Int), mx_ex d 27 108 [l0, l1, l2, some (0, x), l4, l5] [v0, v1, v2, v3] S h n = mx_ex d 27 109 [l0, l1, l2, some (0, x), l4, l5] [(0, x), v0, v1, v2, v3] S h n) :=
  ⟨by intros; exact rfl,
   by intros; exact eq_push rfl,
   by intros; exact eq_ld rfl rfl,
   by intros; exact eq_gr rfl,
   by intros; exact eq_ld rfl rfl,
   by intros; exact eq_iald rfl,
   by intros; exact eq_iald rfl,
   by intros; exact eq_st rfl (by decide) (Nat.le_of_ble_eq_true rfl) rfl,
   by intros; exact eq_push rfl,
   by intros; exact eq_ld rfl rfl,
   by intros; exact eq_gr rfl,
   by intros; exact eq_ld rfl rfl,
   by intros; exact eq_iald rfl,
   by intros; exact eq_iald rfl,
   by intros; exact eq_st rfl (by decide) (Nat.le_of_ble_eq_true rfl) rfl,
   by intros; exact eq_ld rfl rfl,
   by intros; exact eq_if3 rfl,
   by intros; exact eq_retv rfl,
   by intros; exact eq_ld rfl rfl,
   by intros; exact eq_if3 rfl,
   by intros; exact eq_ld rfl rfl,
   by intros; exact eq_gr rfl,
   by intros; exact eq_ld rfl rfl,
   by intros; exact eq_ld rfl rfl,
   by intros; exact eq_ld rfl rfl,
   by intros; exact eq_ld rfl rfl,
   by intros; exact eq_ld rfl rfl,
   by intros; exact eq_gr rfl,
   by intros; exact eq_ld rfl rfl,
   by intros; exact eq_iald rfl,
   by intros; exact eq_cv rfl (Nat.le_of_ble_eq_true rfl) rfl rfl rfl (Nat.le_of_ble_eq_true rfl),
   by intros; exact eq_iast rfl,
   by intros; exact eq_retv rfl,
   by intros; exact eq_push rfl,
   by intros; exact eq_ld rfl rfl,
   by intros; exact eq_ld rfl rfl,
   by intros; exact eq_i2 (o := mx_add) rfl,
   by intros; exact eq_push rfl,
   by intros; exact eq_i2 (o := mx_sub) rfl,
   by intros; exact eq_push rfl,
   by intros; exact eq_i2 (o := mx_mul) rfl,
   by intros; exact eq_i2 (o := mx_add) rfl,
   by intros; exact eq_st rfl (by decide) (Nat.le_of_ble_eq_true rfl) rfl,
   by intros; exact eq_push rfl,
   by intros; exact eq_st rfl (by decide) (Nat.le_of_ble_eq_true rfl) rfl,
   by intros; exact eq_push rfl,
   by intros; exact eq_ic4 rfl,
   by intros; exact eq_ld rfl rfl,
   by intros; exact eq_gr rfl,
   by intros; exact eq_ld rfl rfl,
   by intros; exact eq_iald rfl,
   by intros; exact eq_ld rfl rfl,
   by intros; exact eq_i2 (o := mx_shr) rfl,
   by intros; exact eq_push rfl,
   by intros; exact eq_i2 (o := mx_and) rfl,
   by intros; exact eq_if1 rfl,
   by intros; exact eq_go rfl,
   by intros; exact eq_ld rfl rfl,
   by intros; exact eq_gr rfl,
   by intros; exact eq_ld rfl rfl,
   by intros; exact eq_ld rfl rfl,
   by intros; exact eq_iast rfl,
   by intros; exact eq_ld rfl rfl,
   by intros; exact eq_gr rfl,
   by intros; exact eq_ld rfl rfl,
   by intros; exact eq_ld rfl rfl,
   by intros; exact eq_i2 (o := mx_add) rfl,
   by intros; exact eq_ld rfl rfl,
   by intros; exact eq_ld rfl rfl,
   by intros; exact eq_ld rfl rfl⟩
theorem rw_X2_limitByLine_1 :
  (∀ (d : Nat) (x : Int) (l1 l2 l3 l4 l5 : Option mx_V) (v0 v1 v2 v3 v4 : mx_V) (S h : mx_H) (n : Int), mx_ex d 27 109 [some (2, x), l1, l2, l3, l4, l5] [v0, v1, v2, v3, v4] S h n = mx_ex d 27 110 [some (2, x), l1, l2, l3, l4, l5] [(2, x), v0, v1, v2, v3, v4] S h n) ∧
  (∀ (d : Nat) (a : Int) (l0 l1 l2 l3 l4 l5 : Option mx_V) (v1 v2 v3 v4 v5 : mx_V) (S h : mx_H) (n : Int), mx_ex d 27 110 [l0, l1, l2, l3, l4, l5] [(2, a), v1, v2, v3, v4, v5] S h n = mx_gd (9 ≤ S a (-2) ∧ S a (-2) ≤ 9) d 27 113 [l0, l1, l2, l3, l4, l5] [(2, S a 9), v1, v2, v3, v4, v5] S h n) ∧
  (∀ (d : Nat) (x : Int) (l0 l1 l2 l3 l5 : Option mx_V) (v0 v1 v2 v3 v4 v5 : mx_V) (S h : mx_H) (n : Int), mx_ex d 27 113 [l0, l1, l2, l3, some (0, x), l5] [v0, v1, v2, v3, v4, v5] S h n = mx_ex d 27 115 [l0, l1, l2, l3, some (0, x), l5] [(0, x), v0, v1, v2, v3, v4, v5] S h n) ∧
  (∀ (d : Nat) (x : Int) (l0 l1 l2 l3 l4 : Option mx_V) (v0 v1 v2 v3 v4 v5 v6 : mx_V) (S h : mx_H) (n : Int), mx_ex d 27 115 [l0, l1, l2, l3, l4, some (0, x)] [v0, v1, v2, v3, v4, v5, v6] S h n = mx_ex d 27 117 [l0, l1, l2, l3, l4, some (0, x)] [(0, x), v0, v1, v2, v3, v4, v5, v6] S h n) ∧
  (∀ (d : Nat) (b a : Int) (l0 l1 l2 l3 l4 l5 : Option mx_V) (v2 v3 v4 v5 v6 v7 : mx_V) (S h : mx_H) (n : Int), mx_ex d 27 117 [l0, l1, l2, l3, l4, l5] [(0, b), (0, a), v2, v3, v4, v5, v6, v7] S h n = mx_ex d 27 118 [l0, l1, l2, l3, l4, l5] [(0, mx_w (a + b)), v2, v3, v4, v5, v6, v7] S h n) ∧
  (∀ (d : Nat) (i a : Int) (l0 l1 l2 l3 l4 l5 : Option mx_V) (v2 v3 v4 v5 v6 : mx_V) (S h : mx_H) (n : Int), mx_ex d 27 118 [l0, l1, l2, l3, l4, l5] [(0, i), (2, a), v2, v3, v4, v5, v6] S h n = mx_gd ((S a (-2) = 20 ∨ S a (-2) = 24) ∧ 0 ≤ i ∧ i < S a (-1)) d 27 119 [l0, l1, l2, l3, l4, l5] [(0, h a i), v2, v3, v4, v5, v6] S h n) ∧
  (∀ (d : Nat) (x : Int) (l1 l2 l3 l4 l5 : Option mx_V) (v0 v1 v2 v3 v4 v5 : mx_V) (S h : mx_H) (n : Int), mx_ex d 27 119 [some (2, x), l1, l2, l3, l4, l5] [v0, v1, v2, v3, v4, v5] S h n = mx_ex d 27 120 [some (2, x), l1, l2, l3, l4, l5] [(2, x), v0, v1, v2, v3, v4, v5] S h n) ∧
  (∀ (d : Nat) (a : Int) (l0 l1 l2 l3 l4 l5 : Option mx_V) (v1 v2 v3 v4 v5 v6 : mx_V) (S h : mx_H) (n : Int), mx_ex d 27 120 [l0, l1, l2, l3, l4, l5] [(2, a), v1, v2, v3, v4, v5, v6] S h n = mx_gd (9 ≤ S a (-2) ∧ S a (-2) ≤ 9) d 27 123 [l0, l1, l2, l3, l4, l5] [(2, S a 9), v1, v2, v3, v4, v5, v6] S h n) ∧
  (∀ (d : Nat) (x : Int) (l0 l1 l2 l4 l5 : Option mx_V) (v0 v1 v2 v3 v4 v5 v6 : mx_V) (S h : mx_H) (n : Int), mx_ex d 27 123 [l0, l1, l2, some (0, x), l4, l5] [v0, v1, v2, v3, v4, v5, v6] S h n = mx_ex d 27 124 [l0, l1, l2, some (0, x), l4, l5] [(0, x), v0, v1, v2, v3, v4, v5, v6] S h n) ∧
  (∀ (d : Nat) (i a : Int) (l0 l1 l2 l3 l4 l5 : Option mx_V) (v2 v3 v4 v5 v6 v7 : mx_V) (S h : mx_H) (n : Int), mx_ex d 27 124 [l0, l1, l2, l3, l4, l5] [(0, i), (2, a), v2, v3, v4, v5, v6, v7] S h n = mx_gd ((S a (-2) = 20 ∨ S a (-2) = 24) ∧ 0 ≤ i ∧ i < S a (-1)) d 27 125 [l0, l1, l2, l3, l4, l5] [(0, h a i), v2, v3, v4, v5, v6, v7] S h n) ∧
  (∀ (d : Nat) (b a : Int) (l0 l1 l2 l3 l4 l5 : Option mx_V) (v2 v3 v4 v5 v6 : mx_V) (S h : mx_H) (n : Int), mx_ex d 27 125 [l0, l1, l2, l3, l4, l5] [(0, b), (0, a), v2, v3, v4, v5, v6] S h n = mx_ex d 27 126 [l0, l1, l2, l3, l4, l5] [(0, mx_and a b), v2, v3, v4, v5, v6] S h n) ∧
  (∀ (d : Nat) (x0 x1 x2 a : Int) (l0 l1 l2 l3 l4 l5 : Option mx_V) (v4 v5 : mx_V) (S h : mx_H) (n : Int), mx_ex (d + 1) 27 126 [l0, l1, l2, l3, l4, l5] [(0, x0), (0, x1), (0, x2), (2, a), v4, v5] S h n = mx_cl (S a (-2) = 9) d 28 [(2, a), (0, x2), (0, x1), (0, x0)] 27 129 [l0, l1, l2, l3, l4, l5] [v4, v5] S h n) ∧
  (∀ (d : Nat) (v i a : Int) (l0 l1 l2 l3 l4 l5 : Option mx_V) (S h : mx_H) (n : Int), mx_ex d 27 129 [l0, l1, l2, l3, l4, l5] [(0, v), (0, i), (2, a)] S h n = mx_gd (S a (-2) = 20 ∧ 0 ≤ i ∧ i < S a (-1)) d 27 130 [l0, l1, l2, l3, l4, l5] [] S (mx_u h a i v) n) ∧
  (∀ (d : Nat) (x : Int) (l0 l1 l2 l3 l4 : Option mx_V) (S h : mx_H) (n : Int), mx_ex d 27 130 [l0, l1, l2, l3, l4, some (0, x)] [] S h n = mx_ex d 27 133 [l0, l1, l2, l3, mx_nl l4, some (0, mx_w (x + 1))] [] S h n) ∧
  (∀ (d : Nat) (l0 l1 l2 l3 l4 l5 : Option mx_V) (S h : mx_H) (n : Int), mx_ex d 27 133 [l0, l1, l2, l3, l4, l5] [] S h n = mx_ex d 27 65 [l0, l1, l2, l3, l4, l5] [] S h n) ∧
  (∀ (d : Nat) (l0 l1 l2 l3 l4 l5 : Option mx_V) (S h : mx_H) (n : Int), mx_ex d 27 136 [l0, l1, l2, l3, l4, l5] [] S h n = some (none, S, h, n)) :=
  ⟨by intros; exact eq_ld rfl rfl,
   by intros; exact eq_gr rfl,
   by intros; exact eq_ld rfl rfl,
   by intros; exact eq_ld rfl rfl,
   by intros; exact eq_i2 (o := mx_add) rfl,
   by intros; exact eq_iald rfl,
   by intros; exact eq_ld rfl rfl,
   by intros; exact eq_gr rfl,
   by intros; exact eq_ld rfl rfl,
   by intros; exact eq_iald rfl,
   by intros; exact eq_i2 (o := mx_and) rfl,
   by intros; exact eq_cv rfl (Nat.le_of_ble_eq_true rfl) rfl rfl rfl (Nat.le_of_ble_eq_true rfl),
   by intros; exact eq_iast rfl,
   by intros; exact eq_inc rfl rfl rfl,
   by intros; exact eq_go rfl,
   by intros; exact eq_retv rfl⟩
theorem rh_X2_basesThatHold_53 : ∀ (d : Nat) (x : Int) (l0 l1 l2 l3 l4 l5 l6 l7 l8 l9 l11 l12 l13 : Option mx_V) (S h : mx_H) (n : Int), mx_ex d 28 53 [l0, l1, l2, l3, l4, l5, l6, l7, l8, l9, some (0, x), l11, l12, l13] [] S h n = mx_ex d 28 55 [l0, l1, l2, l3, l4, l5, l6, l7, l8, l9, some (0, x), l11, l12, l13] [(0, x)] S h n := by intros; exact eq_ld rfl rfl
theorem rw_X2_basesThatHold :
  (∀ (d : Nat) (a0 a1 a2 a3 : Int) (S h : mx_H) (n : Int), mx_M d 28 [(2, a0), (0, a1), (0, a2), (0, a3)] S h n = mx_ex d 28 0 [some (2, a0), some (0, a1), some (0, a2), some (0, a3), none, none, none, none, none, none, none, none, none, none] [] S h n) ∧
  (∀ (d : Nat) (x : Int) (l1 l2 l3 l4 l5 l6 l7 l8 l9 l10 l11 l12 l13 : Option mx_V) (S h : mx_H) (n : Int), mx_ex d 28 0 [some (2, x), l1, l2, l3, l4, l5, l6, l7, l8, l9, l10, l11, l12, l13] [] S h n = mx_ex d 28 1 [some (2, x), l1, l2, l3, l4, l5, l6, l7, l8, l9, l10, l11, l12, l13] [(2, x)] S h n) ∧
  (∀ (d : Nat) (a : Int) (l0 l1 l2 l3 l4 l5 l6 l7 l8 l9 l10 l11 l12 l13 : Option mx_V) (S h : mx_H) (n : Int), mx_ex d 28 1 [l0, l1, l2, l3, l4, l5, l6, l7, l8, l9, l10, l11, l12, l13] [(2, a)] S h n = mx_gd (9 ≤ S a (-2) ∧ S a (-2) ≤ 9) d 28 4 [l0, l1, l2, l3, l4, l5, l6, l7, l8, l9, l10, l11, l12, l13] [(2, S a 0)] S h n) ∧
  (∀ (d : Nat) (a : Int) (l0 l1 l2 l3 l4 l5 l6 l7 l8 l9 l10 l11 l12 l13 : Option mx_V) (S h : mx_H) (n : Int), mx_ex d 28 4 [l0, l1, l2, l3, l4, l5, l6, l7, l8, l9, l10, l11, l12, l13] [(2, a)] S h n = mx_gd (8 ≤ S a (-2) ∧ S a (-2) ≤ 8) d 28 7 [l0, l1, l2, l3, l4, l5, l6, l7, l8, l9, l10, l11, l12, l13] [(2, S a 2)] S h n) ∧
  (∀ (d : Nat) (x : Int) (l0 l1 l2 l3 l4 l5 l6 l7 l8 l9 l10 l11 l12 l13 : Option mx_V) (S h : mx_H) (n : Int), mx_ex d 28 7 [l0, l1, l2, l3, l4, l5, l6, l7, l8, l9, l10, l11, l12, l13] [(2, x)] S h n = mx_ex d 28 9 [l0, l1, l2, mx_nl l3, some (2, x), l5, l6, l7, l8, l9, l10, l11, l12, l13] [] S h n) ∧
  (∀ (d : Nat) (x : Int) (l0 l1 l2 l3 l5 l6 l7 l8 l9 l10 l11 l12 l13 : Option mx_V) (S h : mx_H) (n : Int), mx_ex d 28 9 [l0, l1, l2, l3, some (2, x), l5, l6, l7, l8, l9, l10, l11, l12, l13] [] S h n = mx_ex d 28 11 [l0, l1, l2, l3, some (2, x), l5, l6, l7, l8, l9, l10, l11, l12, l13] [(2, x)] S h n) ∧
  (∀ (d : Nat) (x : Int) (l0 l2 l3 l4 l5 l6 l7 l8 l9 l10 l11 l12 l13 : Option mx_V) (v0 : mx_V) (S h : mx_H) (n : Int), mx_ex d 28 11 [l0, some (0, x), l2, l3, l4, l5, l6, l7, l8, l9, l10, l11, l12, l13] [v0] S h n = mx_ex d 28 12 [l0, some (0, x), l2, l3, l4, l5, l6, l7, l8, l9, l10, l11, l12, l13] [(0, x), v0] S h n) ∧
  (∀ (d : Nat) (l0 l1 l2 l3 l4 l5 l6 l7 l8 l9 l10 l11 l12 l13 : Option mx_V) (v0 v1 : mx_V) (S h : mx_H) (n : Int), mx_ex d 28 12 [l0, l1, l2, l3, l4, l5, l6, l7, l8, l9, l10, l11, l12, l13] [v0, v1] S h n = mx_ex d 28 13 [l0, l1, l2, l3, l4, l5, l6, l7, l8, l9, l10, l11, l12, l13] [(0, 4), v0, v1] S h n) ∧
  (∀ (d : Nat) (b a : Int) (l0 l1 l2 l3 l4 l5 l6 l7 l8 l9 l10 l11 l12 l13 : Option mx_V) (v2 : mx_V) (S h : mx_H) (n : Int), mx_ex d 28 13 [l0, l1, l2, l3, l4, l5, l6, l7, l8, l9, l10, l11, l12, l13] [(0, b), (0, a), v2] S h n = mx_ex d 28 14 [l0, l1, l2, l3, l4, l5, l6, l7, l8, l9, l10, l11, l12, l13] [(0, mx_w (a * b)), v2] S h n) ∧
  (∀ (d : Nat) (i a : Int) (l0 l1 l2 l3 l4 l5 l6 l7 l8 l9 l10 l11 l12 l13 : Option mx_V) (S h : mx_H) (n : Int), mx_ex d 28 14 [l0, l1, l2, l3, l4, l5, l6, l7, l8, l9, l10, l11, l12, l13] [(0, i), (2, a)] S h n = mx_gd ((S a (-2) = 20 ∨ S a (-2) = 24) ∧ 0 ≤ i ∧ i < S a (-1)) d 28 15 [l0, l1, l2, l3, l4, l5, l6, l7, l8, l9, l10, l11, l12, l13] [(0, h a i)] S h n) ∧
  (∀ (d : Nat) (x : Int) (l0 l1 l2 l3 l4 l5 l6 l7 l8 l9 l10 l11 l12 l13 : Option mx_V) (S h : mx_H) (n : Int), mx_ex d 28 15 [l0, l1, l2, l3, l4, l5, l6, l7, l8, l9, l10, l11, l12, l13] [(0, x)] S h n = mx_ex d 28 17 [l0, l1, l2, l3, mx_nl l4, some (0, x), l6, l7, l8, l9, l10, l11, l12, l13] [] S h n) ∧
  (∀ (d : Nat) (x : Int) (l0 l1 l2 l3 l5 l6 l7 l8 l9 l10 l11 l12 l13 : Option mx_V) (S h : mx_H) (n : Int), mx_ex d 28 17 [l0, l1, l2, l3, some (2, x), l5, l6, l7, l8, l9, l10, l11, l12, l13] [] S h n = mx_ex d 28 19 [l0, l1, l2, l3, some (2, x), l5, l6, l7, l8, l9, l10, l11, l12, l13] [(2, x)] S h n) ∧
  (∀ (d : Nat) (x : Int) (l0 l2 l3 l4 l5 l6 l7 l8 l9 l10 l11 l12 l13 : Option mx_V) (v0 : mx_V) (S h : mx_H) (n : Int), mx_ex d 28 19 [l0, some (0, x), l2, l3, l4, l5, l6, l7, l8, l9, l10, l11, l12, l13] [v0] S h n = mx_ex d 28 20 [l0, some (0, x), l2, l3, l4, l5, l6, l7, l8, l9, l10, l11, l12, l13] [(0, x), v0] S h n) ∧
  (∀ (d : Nat) (l0 l1 l2 l3 l4 l5 l6 l7 l8 l9 l10 l11 l12 l13 : Option mx_V) (v0 v1 : mx_V) (S h : mx_H) (n : Int), mx_ex d 28 20 [l0, l1, l2, l3, l4, l5, l6, l7, l8, l9, l10, l11, l12, l13] [v0, v1] S h n = mx_ex d 28 21 [l0, l1, l2, l3, l4, l5, l6, l7, l8, l9, l10, l11, l12, l13] [(0, 4), v0, v1] S h n) ∧
  (∀ (d : Nat) (b a : Int) (l0 l1 l2 l3 l4 l5 l6 l7 l8 l9 l10 l11 l12 l13 : Option mx_V) (v2 : mx_V) (S h : mx_H) (n : Int), mx_ex d 28 21 [l0, l1, l2, l3, l4, l5, l6, l7, l8, l9, l10, l11, l12, l13] [(0, b), (0, a), v2] S h n = mx_ex d 28 22 [l0, l1, l2, l3, l4, l5, l6, l7, l8, l9, l10, l11, l12, l13] [(0, mx_w (a * b)), v2] S h n) ∧
  (∀ (d : Nat) (l0 l1 l2 l3 l4 l5 l6 l7 l8 l9 l10 l11 l12 l13 : Option mx_V) (v0 v1 : mx_V) (S h : mx_H) (n : Int), mx_ex d 28 22 [l0, l1, l2, l3, l4, l5, l6, l7, l8, l9, l10, l11, l12, l13] [v0, v1] S h n = mx_ex d 28 23 [l0, l1, l2, l3, l4, l5, l6, l7, l8, l9, l10, l11, l12, l13] [(0, 1), v0, v1] S h n) ∧
  (∀ (d : Nat) (b a : Int) (l0 l1 l2 l3 l4 l5 l6 l7 l8 l9 l10 l11 l12 l13 : Option mx_V) (v2 : mx_V) (S h : mx_H) (n : Int), mx_ex d 28 23 [l0, l1, l2, l3, l4, l5, l6, l7, l8, l9, l10, l11, l12, l13] [(0, b), (0, a), v2] S h n = mx_ex d 28 24 [l0, l1, l2, l3, l4, l5, l6, l7, l8, l9, l10, l11, l12, l13] [(0, mx_w (a + b)), v2] S h n) ∧
  (∀ (d : Nat) (i a : Int) (l0 l1 l2 l3 l4 l5 l6 l7 l8 l9 l10 l11 l12 l13 : Option mx_V) (S h : mx_H) (n : Int), mx_ex d 28 24 [l0, l1, l2, l3, l4, l5, l6, l7, l8, l9, l10, l11, l12, l13] [(0, i), (2, a)] S h n = mx_gd ((S a (-2) = 20 ∨ S a (-2) = 24) ∧ 0 ≤ i ∧ i < S a (-1)) d 28 25 [l0, l1, l2, l3, l4, l5, l6, l7, l8, l9, l10, l11, l12, l13] [(0, h a i)] S h n) ∧
  (∀ (d : Nat) (x : Int) (l0 l1 l2 l3 l4 l5 l6 l7 l8 l9 l10 l11 l12 l13 : Option mx_V) (S h : mx_H) (n : Int), mx_ex d 28 25 [l0, l1, l2, l3, l4, l5, l6, l7, l8, l9, l10, l11, l12, l13] [(0, x)] S h n = mx_ex d 28 27 [l0, l1, l2, l3, l4, mx_nl l5, some (0, x), l7, l8, l9, l10, l11, l12, l13] [] S h n) ∧
  (∀ (d : Nat) (x : Int) (l0 l1 l2 l3 l5 l6 l7 l8 l9 l10 l11 l12 l13 : Option mx_V) (S h : mx_H) (n : Int), mx_ex d 28 27 [l0, l1, l2, l3, some (2, x), l5, l6, l7, l8, l9, l10, l11, l12, l13] [] S h n = mx_ex d 28 29 [l0, l1, l2, l3, some (2, x), l5, l6, l7, l8, l9, l10, l11, l12, l13] [(2, x)] S h n) ∧
  (∀ (d : Nat) (x : Int) (l0 l2 l3 l4 l5 l6 l7 l8 l9 l10 l11 l12 l13 : Option mx_V) (v0 : mx_V) (S h : mx_H) (n : Int), mx_ex d 28 29 [l0, some (0, x), l2, l3, l4, l5, l6, l7, l8, l9, l10, l11, l12, l13] [v0] S h n = mx_ex d 28 30 [l0, some (0, x), l2, l3, l4, l5, l6, l7, l8, l9, l10, l11, l12, l13] [(0, x), v0] S h n) ∧
  (∀ (d : Nat) (l0 l1 l2 l3 l4 l5 l6 l7 l8 l9 l10 l11 l12 l13 : Option mx_V) (v0 v1 : mx_V) (S h : mx_H) (n : Int), mx_ex d 28 30 [l0, l1, l2, l3, l4, l5, l6, l7, l8, l9, l10, l11, l12, l13] [v0, v1] S h n = mx_ex d 28 31 [l0, l1, l2, l3, l4, l5, l6, l7, l8, l9, l10, l11, l12, l13] [(0, 4), v0, v1] S h n) ∧
  (∀ (d : Nat) (b a : Int) (l0 l1 l2 l3 l4 l5 l6 l7 l8 l9 l10 l11 l12 l13 : Option mx_V) (v2 : mx_V) (S h : mx_H) (n : Int), mx_ex d 28 31 [l0, l1, l2, l3, l4, l5, l6, l7, l8, l9, l10, l11, l12, l13] [(0, b), (0, a), v2] S h n = mx_ex d 28 32 [l0, l1, l2, l3, l4, l5, l6, l7, l8, l9, l10, l11, l12, l13] [(0, mx_w (a * b)), v2] S h n) ∧
  (∀ (d : Nat) (l0 l1 l2 l3 l4 l5 l6 l7 l8 l9 l10 l11 l12 l13 : Option mx_V) (v0 v1 : mx_V) (S h : mx_H) (n : Int), mx_ex d 28 32 [l0, l1, l2, l3, l4, l5, l6, l7, l8, l9, l10, l11, l12, l13] [v0, v1] S h n = mx_ex d 28 33 [l0, l1, l2, l3, l4, l5, l6, l7, l8, l9, l10, l11, l12, l13] [(0, 2), v0, v1] S h n) ∧
  (∀ (d : Nat) (b a : Int) (l0 l1 l2 l3 l4 l5 l6 l7 l8 l9 l10 l11 l12 l13 : Option mx_V) (v2 : mx_V) (S h : mx_H) (n : Int), mx_ex d 28 33 [l0, l1, l2, l3, l4, l5, l6, l7, l8, l9, l10, l11, l12, l13] [(0, b), (0, a), v2] S h n = mx_ex d 28 34 [l0, l1, l2, l3, l4, l5, l6, l7, l8, l9, l10, l11, l12, l13] [(0, mx_w (a + b)), v2] S h n) ∧
  (∀ (d : Nat) (i a : Int) (l0 l1 l2 l3 l4 l5 l6 l7 l8 l9 l10 l11 l12 l13 : Option mx_V) (S h : mx_H) (n : Int), mx_ex d 28 34 [l0, l1, l2, l3, l4, l5, l6, l7, l8, l9, l10, l11, l12, l13] [(0, i), (2, a)] S h n = mx_gd ((S a (-2) = 20 ∨ S a (-2) = 24) ∧ 0 ≤ i ∧ i < S a (-1)) d 28 35 [l0, l1, l2, l3, l4, l5, l6, l7, l8, l9, l10, l11, l12, l13] [(0, h a i)] S h n) ∧
  (∀ (d : Nat) (x : Int) (l0 l1 l2 l3 l4 l5 l6 l7 l8 l9 l10 l11 l12 l13 : Option mx_V) (S h : mx_H) (n : Int), mx_ex d 28 35 [l0, l1, l2, l3, l4, l5, l6, l7, l8, l9, l10, l11, l12, l13] [(0, x)] S h n = mx_ex d 28 37 [l0, l1, l2, l3, l4, l5, mx_nl l6, some (0, x), l8, l9, l10, l11, l12, l13] [] S h n) ∧
  (∀ (d : Nat) (x : Int) (l0 l1 l2 l3 l5 l6 l7 l8 l9 l10 l11 l12 l13 : Option mx_V) (S h : mx_H) (n : Int), mx_ex d 28 37 [l0, l1, l2, l3, some (2, x), l5, l6, l7, l8, l9, l10, l11, l12, l13] [] S h n = mx_ex d 28 39 [l0, l1, l2, l3, some (2, x), l5, l6, l7, l8, l9, l10, l11, l12, l13] [(2, x)] S h n) ∧
  (∀ (d : Nat) (x : Int) (l0 l2 l3 l4 l5 l6 l7 l8 l9 l10 l11 l12 l13 : Option mx_V) (v0 : mx_V) (S h : mx_H) (n : Int), mx_ex d 28 39 [l0, some (0, x), l2, l3, l4, l5, l6, l7, l8, l9, l10, l11, l12, l13] [v0] S h n = mx_ex d 28 40 [l0, some (0, x), l2, l3, l4, l5, l6, l7, l8, l9, l10, l11, l12, l13] [(0, x), v0] S h n) ∧
  (∀ (d : Nat) (l0 l1 l2 l3 l4 l5 l6 l7 l8 l9 l10 l11 l12 l13 : Option mx_V) (v0 v1 : mx_V) (S h : mx_H) (n : Int), mx_ex d 28 40 [l0, l1, l2, l3, l4, l5, l6, l7, l8, l9, l10, l11, l12, l13] [v0, v1] S h n = mx_ex d 28 41 [l0, l1, l2, l3, l4, l5, l6, l7, l8, l9, l10, l11, l12, l13] [(0, 4), v0, v1] S h n) ∧
  (∀ (d : Nat) (b a : Int) (l0 l1 l2 l3 l4 l5 l6 l7 l8 l9 l10 l11 l12 l13 : Option mx_V) (v2 : mx_V) (S h : mx_H) (n : Int), mx_ex d 28 41 [l0, l1, l2, l3, l4, l5, l6, l7, l8, l9, l10, l11, l12, l13] [(0, b), (0, a), v2] S h n = mx_ex d 28 42 [l0, l1, l2, l3, l4, l5, l6, l7, l8, l9, l10, l11, l12, l13] [(0, mx_w (a * b)), v2] S h n) ∧
  (∀ (d : Nat) (l0 l1 l2 l3 l4 l5 l6 l7 l8 l9 l10 l11 l12 l13 : Option mx_V) (v0 v1 : mx_V) (S h : mx_H) (n : Int), mx_ex d 28 42 [l0, l1, l2, l3, l4, l5, l6, l7, l8, l9, l10, l11, l12, l13] [v0, v1] S h n = mx_ex d 28 43 [l0, l1, l2, l3, l4, l5, l6, l7, l8, l9, l10, l11, l12, l13] [(0, 3), v0, v1] S h n) ∧
  (∀ (d : Nat) (b a : Int) (l0 l1 l2 l3 l4 l5 l6 l7 l8 l9 l10 l11 l12 l13 : Option mx_V) (v2 : mx_V) (S h : mx_H) (n : Int), mx_ex d 28 43 [l0, l1, l2, l3, l4, l5, l6, l7, l8, l9, l10, l11, l12, l13] [(0, b), (0, a), v2] S h n = mx_ex d 28 44 [l0, l1, l2, l3, l4, l5, l6, l7, l8, l9, l10, l11, l12, l13] [(0, mx_w (a + b)), v2] S h n) ∧
  (∀ (d : Nat) (i a : Int) (l0 l1 l2 l3 l4 l5 l6 l7 l8 l9 l10 l11 l12 l13 : Option mx_V) (S h : mx_H) (n : Int), mx_ex d 28 44 [l0, l1, l2, l3, l4, l5, l6, l7, l8, l9, l10, l11, l12, l13] [(0, i), (2, a)] S h n = mx_gd ((S a (-2) = 20 ∨ S a (-2) = 24) ∧ 0 ≤ i ∧ i < S a (-1)) d 28 45 [l0, l1, l2, l3, l4, l5, l6, l7, l8, l9, l10, l11, l12, l13] [(0, h a i)] S h n) ∧
  (∀ (d : Nat) (x : Int) (l0 l1 l2 l3 l4 l5 l6 l7 l8 l9 l10 l11 l12 l13 : Option mx_V) (S h : mx_H) (n : Int), mx_ex d 28 45 [l0, l1, l2, l3, l4, l5, l6, l7, l8, l9, l10, l11, l12, l13] [(0, x)] S h n = mx_ex d 28 47 [l0, l1, l2, l3, l4, l5, l6, mx_nl l7, some (0, x), l9, l10, l11, l12, l13] [] S h n) ∧
  (∀ (d : Nat) (x : Int) (l0 l1 l2 l4 l5 l6 l7 l8 l9 l10 l11 l12 l13 : Option mx_V) (S h : mx_H) (n : Int), mx_ex d 28 47 [l0, l1, l2, some (0, x), l4, l5, l6, l7, l8, l9, l10, l11, l12, l13] [] S h n = mx_ex d 28 48 [l0, l1, l2, some (0, x), l4, l5, l6, l7, l8, l9, l10, l11, l12, l13] [(0, x)] S h n) ∧
  (∀ (d : Nat) (x : Int) (l0 l1 l2 l3 l4 l5 l6 l7 l8 l9 l10 l11 l12 l13 : Option mx_V) (S h : mx_H) (n : Int), mx_ex d 28 48 [l0, l1, l2, l3, l4, l5, l6, l7, l8, l9, l10, l11, l12, l13] [(0, x)] S h n = mx_ex d 28 50 [l0, l1, l2, l3, l4, l5, l6, l7, mx_nl l8, some (0, x), l10, l11, l12, l13] [] S h n) ∧
  (∀ (d : Nat) (l0 l1 l2 l3 l4 l5 l6 l7 l8 l9 l10 l11 l12 l13 : Option mx_V) (S h : mx_H) (n : Int), mx_ex d 28 50 [l0, l1, l2, l3, l4, l5, l6, l7, l8, l9, l10, l11, l12, l13] [] S h n = mx_ex d 28 51 [l0, l1, l2, l3, l4, l5, l6, l7, l8, l9, l10, l11, l12, l13] [(0, 2)] S h n) ∧
  (∀ (d : Nat) (x : Int) (l0 l1 l2 l3 l4 l5 l6 l7 l8 l9 l10 l11 l12 l13 : Option mx_V) (S h : mx_H) (n : Int), mx_ex d 28 51 [l0, l1, l2, l3, l4, l5, l6, l7, l8, l9, l10, l11, l12, l13] [(0, x)] S h n = mx_ex d 28 53 [l0, l1, l2, l3, l4, l5, l6, l7, l8, mx_nl l9, some (0, x), l11, l12, l13] [] S h n) ∧
  (∀ (d : Nat) (l0 l1 l2 l3 l4 l5 l6 l7 l8 l9 l10 l11 l12 l13 : Option mx_V) (v0 : mx_V) (S h : mx_H) (n : Int), mx_ex d 28 55 [l0, l1, l2, l3, l4, l5, l6, l7, l8, l9, l10, l11, l12, l13] [v0] S h n = mx_ex d 28 57 [l0, l1, l2, l3, l4, l5, l6, l7, l8, l9, l10, l11, l12, l13] [(0, 16), v0] S h n) ∧
  (∀ (d : Nat) (b a : Int) (l0 l1 l2 l3 l4 l5 l6 l7 l8 l9 l10 l11 l12 l13 : Option mx_V) (S h : mx_H) (n : Int), mx_ex d 28 57 [l0, l1, l2, l3, l4, l5, l6, l7, l8, l9, l10, l11, l12, l13] [(0, b), (0, a)] S h n = mx_br (b < a) d 28 207 60 [l0, l1, l2, l3, l4, l5, l6, l7, l8, l9, l10, l11, l12, l13] [] S h n) ∧
  (∀ (d : Nat) (x : Int) (l0 l1 l2 l4 l5 l6 l7 l8 l9 l10 l11 l12 l13 : Option mx_V) (S h : mx_H) (n : Int), mx_ex d 28 60 [l0, l1, l2, some (0, x), l4, l5, l6, l7, l8, l9, l10, l11, l12, l13] [] S h n = mx_ex d 28 61 [l0, l1, l2, some (0, x), l4, l5, l6, l7, l8, l9, l10, l11, l12, l13] [(0, x)] S h n) ∧
  (∀ (d : Nat) (x : Int) (l0 l1 l2 l3 l4 l5 l6 l7 l8 l9 l11 l12 l13 : Option mx_V) (v0 : mx_V) (S h : mx_H) (n : Int), mx_ex d 28 61 [l0, l1, l2, l3, l4, l5, l6, l7, l8, l9, some (0, x), l11, l12, l13] [v0] S h n = mx_ex d 28 63 [l0, l1, l2, l3, l4, l5, l6, l7, l8, l9, some (0, x), l11, l12, l13] [(0, x), v0] S h n) ∧
  (∀ (d : Nat) (b a : Int) (l0 l1 l2 l3 l4 l5 l6 l7 l8 l9 l10 l11 l12 l13 : Option mx_V) (S h : mx_H) (n : Int), mx_ex d 28 63 [l0, l1, l2, l3, l4, l5, l6, l7, l8, l9, l10, l11, l12, l13] [(0, b), (0, a)] S h n = mx_ex d 28 64 [l0, l1, l2, l3, l4, l5, l6, l7, l8, l9, l10, l11, l12, l13] [(0, mx_shr a b)] S h n) ∧
  (∀ (d : Nat) (l0 l1 l2 l3 l4 l5 l6 l7 l8 l9 l10 l11 l12 l13 : Option mx_V) (v0 : mx_V) (S h : mx_H) (n : Int), mx_ex d 28 64 [l0, l1, l2, l3, l4, l5, l6, l7, l8, l9, l10, l11, l12, l13] [v0] S h n = mx_ex d 28 65 [l0, l1, l2, l3, l4, l5, l6, l7, l8, l9, l10, l11, l12, l13] [(0, 1), v0] S h n) ∧
  (∀ (d : Nat) (b a : Int) (l0 l1 l2 l3 l4 l5 l6 l7 l8 l9 l10 l11 l12 l13 : Option mx_V) (S h : mx_H) (n : Int), mx_ex d 28 65 [l0, l1, l2, l3, l4, l5, l6, l7, l8, l9, l10, l11, l12, l13] [(0, b), (0, a)] S h n = mx_ex d 28 66 [l0, l1, l2, l3, l4, l5, l6, l7, l8, l9, l10, l11, l12, l13] [(0, mx_and a b)] S h n) ∧
  (∀ (d : Nat) (a : Int) (l0 l1 l2 l3 l4 l5 l6 l7 l8 l9 l10 l11 l12 l13 : Option mx_V) (S h : mx_H) (n : Int), mx_ex d 28 66 [l0, l1, l2, l3, l4, l5, l6, l7, l8, l9, l10, l11, l12, l13] [(0, a)] S h n = mx_br (a = 0) d 28 69 72 [l0, l1, l2, l3, l4, l5, l6, l7, l8, l9, l10, l11, l12, l13] [] S h n) ∧
  (∀ (d : Nat) (l0 l1 l2 l3 l4 l5 l6 l7 l8 l9 l10 l11 l12 l13 : Option mx_V) (S h : mx_H) (n : Int), mx_ex d 28 69 [l0, l1, l2, l3, l4, l5, l6, l7, l8, l9, l10, l11, l12, l13] [] S h n = mx_ex d 28 201 [l0, l1, l2, l3, l4, l5, l6, l7, l8, l9, l10, l11, l12, l13] [] S h n) ∧
  (∀ (d : Nat) (x : Int) (l1 l2 l3 l4 l5 l6 l7 l8 l9 l10 l11 l12 l13 : Option mx_V) (S h : mx_H) (n : Int), mx_ex d 28 72 [some (2, x), l1, l2, l3, l4, l5, l6, l7, l8, l9, l10, l11, l12, l13] [] S h n = mx_ex d 28 73 [some (2, x), l1, l2, l3, l4, l5, l6, l7, l8, l9, l10, l11, l12, l13] [(2, x)] S h n) ∧
  (∀ (d : Nat) (a : Int) (l0 l1 l2 l3 l4 l5 l6 l7 l8 l9 l10 l11 l12 l13 : Option mx_V) (S h : mx_H) (n : Int), mx_ex d 28 73 [l0, l1, l2, l3, l4, l5, l6, l7, l8, l9, l10, l11, l12, l13] [(2, a)] S h n = mx_gd (9 ≤ S a (-2) ∧ S a (-2) ≤ 9) d 28 76 [l0, l1, l2, l3, l4, l5, l6, l7, l8, l9, l10, l11, l12, l13] [(2, S a 1)] S h n) ∧
  (∀ (d : Nat) (x : Int) (l0 l1 l3 l4 l5 l6 l7 l8 l9 l10 l11 l12 l13 : Option mx_V) (v0 : mx_V) (S h : mx_H) (n : Int), mx_ex d 28 76 [l0, l1, some (0, x), l3, l4, l5, l6, l7, l8, l9, l10, l11, l12, l13] [v0] S h n = mx_ex d 28 77 [l0, l1, some (0, x), l3, l4, l5, l6, l7, l8, l9, l10, l11, l12, l13] [(0, x), v0] S h n) ∧
  (∀ (d : Nat) (x : Int) (l0 l1 l2 l3 l4 l5 l6 l7 l8 l9 l11 l12 l13 : Option mx_V) (v0 v1 : mx_V) (S h : mx_H) (n : Int), mx_ex d 28 77 [l0, l1, l2, l3, l4, l5, l6, l7, l8, l9, some (0, x), l11, l12, l13] [v0, v1] S h n = mx_ex d 28 79 [l0, l1, l2, l3, l4, l5, l6, l7, l8, l9, some (0, x), l11, l12, l13] [(0, x), v0, v1] S h n) ∧
  (∀ (d : Nat) (v i a : Int) (l0 l1 l2 l3 l4 l5 l6 l7 l8 l9 l10 l11 l12 l13 : Option mx_V) (S h : mx_H) (n : Int), mx_ex d 28 79 [l0, l1, l2, l3, l4, l5, l6, l7, l8, l9, l10, l11, l12, l13] [(0, v), (0, i), (2, a)] S h n = mx_gd (S a (-2) = 20 ∧ 0 ≤ i ∧ i < S a (-1)) d 28 80 [l0, l1, l2, l3, l4, l5, l6, l7, l8, l9, l10, l11, l12, l13] [] S (mx_u h a i v) n) ∧
  (∀ (d : Nat) (x : Int) (l1 l2 l3 l4 l5 l6 l7 l8 l9 l10 l11 l12 l13 : Option mx_V) (S h : mx_H) (n : Int), mx_ex d 28 80 [some (2, x), l1, l2, l3, l4, l5, l6, l7, l8, l9, l10, l11, l12, l13] [] S h n = mx_ex d 28 81 [some (2, x), l1, l2, l3, l4, l5, l6, l7, l8, l9, l10, l11, l12, l13] [(2, x)] S h n) ∧
  (∀ (d : Nat) (a : Int) (l0 l1 l2 l3 l4 l5 l6 l7 l8 l9 l10 l11 l12 l13 : Option mx_V) (S h : mx_H) (n : Int), mx_ex d 28 81 [l0, l1, l2, l3, l4, l5, l6, l7, l8, l9, l10, l11, l12, l13] [(2, a)] S h n = mx_gd (9 ≤ S a (-2) ∧ S a (-2) ≤ 9) d 28 84 [l0, l1, l2, l3, l4, l5, l6, l7, l8, l9, l10, l11, l12, l13] [(2, S a 7)] S h n) ∧
  (∀ (d : Nat) (x : Int) (l0 l1 l2 l3 l4 l5 l7 l8 l9 l10 l11 l12 l13 : Option mx_V) (v0 : mx_V) (S h : mx_H) (n : Int), mx_ex d 28 84 [l0, l1, l2, l3, l4, l5, some (0, x), l7, l8, l9, l10, l11, l12, l13] [v0] S h n = mx_ex d 28 86 [l0, l1, l2, l3, l4, l5, some (0, x), l7, l8, l9, l10, l11, l12, l13] [(0, x), v0] S h n) ∧
  (∀ (d : Nat) (l0 l1 l2 l3 l4 l5 l6 l7 l8 l9 l10 l11 l12 l13 : Option mx_V) (v0 v1 : mx_V) (S h : mx_H) (n : Int), mx_ex d 28 86 [l0, l1, l2, l3, l4, l5, l6, l7, l8, l9, l10, l11, l12, l13] [v0, v1] S h n = mx_ex d 28 88 [l0, l1, l2, l3, l4, l5, l6, l7, l8, l9, l10, l11, l12, l13] [(0, 17), v0, v1] S h n) ∧
  (∀ (d : Nat) (b a : Int) (l0 l1 l2 l3 l4 l5 l6 l7 l8 l9 l10 l11 l12 l13 : Option mx_V) (v2 : mx_V) (S h : mx_H) (n : Int), mx_ex d 28 88 [l0, l1, l2, l3, l4, l5, l6, l7, l8, l9, l10, l11, l12, l13] [(0, b), (0, a), v2] S h n = mx_ex d 28 89 [l0, l1, l2, l3, l4, l5, l6, l7, l8, l9, l10, l11, l12, l13] [(0, mx_w (a * b)), v2] S h n) ∧
  (∀ (d : Nat) (x : Int) (l1 l2 l3 l4 l5 l6 l7 l8 l9 l10 l11 l12 l13 : Option mx_V) (v0 v1 : mx_V) (S h : mx_H) (n : Int), mx_ex d 28 89 [some (2, x), l1, l2, l3, l4, l5, l6, l7, l8, l9, l10, l11, l12, l13] [v0, v1] S h n = mx_ex d 28 90 [some (2, x), l1, l2, l3, l4, l5, l6, l7, l8, l9, l10, l11, l12, l13] [(2, x), v0, v1] S h n) ∧
  (∀ (d : Nat) (a : Int) (l0 l1 l2 l3 l4 l5 l6 l7 l8 l9 l10 l11 l12 l13 : Option mx_V) (v1 v2 : mx_V) (S h : mx_H) (n : Int), mx_ex d 28 90 [l0, l1, l2, l3, l4, l5, l6, l7, l8, l9, l10, l11, l12, l13] [(2, a), v1, v2] S h n = mx_gd (9 ≤ S a (-2) ∧ S a (-2) ≤ 9) d 28 93 [l0, l1, l2, l3, l4, l5, l6, l7, l8, l9, l10, l11, l12, l13] [(2, S a 1), v1, v2] S h n) ∧
  (∀ (d : Nat) (x : Int) (l1 l2 l3 l4 l5 l6 l7 l8 l9 l10 l11 l12 l13 : Option mx_V) (v0 v1 v2 : mx_V) (S h : mx_H) (n : Int), mx_ex d 28 93 [some (2, x), l1, l2, l3, l4, l5, l6, l7, l8, l9, l10, l11, l12, l13] [v0, v1, v2] S h n = mx_ex d 28 94 [some (2, x), l1, l2, l3, l4, l5, l6, l7, l8, l9, l10, l11, l12, l13] [(2, x), v0, v1, v2] S h n) ∧
  (∀ (d : Nat) (a : Int) (l0 l1 l2 l3 l4 l5 l6 l7 l8 l9 l10 l11 l12 l13 : Option mx_V) (v1 v2 v3 : mx_V) (S h : mx_H) (n : Int), mx_ex d 28 94 [l0, l1, l2, l3, l4, l5, l6, l7, l8, l9, l10, l11, l12, l13] [(2, a), v1, v2, v3] S h n = mx_gd (9 ≤ S a (-2) ∧ S a (-2) ≤ 9) d 28 97 [l0, l1, l2, l3, l4, l5, l6, l7, l8, l9, l10, l11, l12, l13] [(2, S a 5), v1, v2, v3] S h n) ∧
  (∀ (d : Nat) (x : Int) (l0 l1 l2 l3 l4 l5 l7 l8 l9 l10 l11 l12 l13 : Option mx_V) (v0 v1 v2 v3 : mx_V) (S h : mx_H) (n : Int), mx_ex d 28 97 [l0, l1, l2, l3, l4, l5, some (0, x), l7, l8, l9, l10, l11, l12, l13] [v0, v1, v2, v3] S h n = mx_ex d 28 99 [l0, l1, l2, l3, l4, l5, some (0, x), l7, l8, l9, l10, l11, l12, l13] [(0, x), v0, v1, v2, v3] S h n) ∧
  (∀ (d : Nat) (i a : Int) (l0 l1 l2 l3 l4 l5 l6 l7 l8 l9 l10 l11 l12 l13 : Option mx_V) (v2 v3 v4 : mx_V) (S h : mx_H) (n : Int), mx_ex d 28 99 [l0, l1, l2, l3, l4, l5, l6, l7, l8, l9, l10, l11, l12, l13] [(0, i), (2, a), v2, v3, v4] S h n = mx_gd ((S a (-2) = 20 ∨ S a (-2) = 24) ∧ 0 ≤ i ∧ i < S a (-1)) d 28 100 [l0, l1, l2, l3, l4, l5, l6, l7, l8, l9, l10, l11, l12, l13] [(0, h a i), v2, v3, v4] S h n) ∧
  (∀ (d : Nat) (i a : Int) (l0 l1 l2 l3 l4 l5 l6 l7 l8 l9 l10 l11 l12 l13 : Option mx_V) (v2 v3 : mx_V) (S h : mx_H) (n : Int), mx_ex d 28 100 [l0, l1, l2, l3, l4, l5, l6, l7, l8, l9, l10, l11, l12, l13] [(0, i), (2, a), v2, v3] S h n = mx_gd ((S a (-2) = 20 ∨ S a (-2) = 24) ∧ 0 ≤ i ∧ i < S a (-1)) d 28 101 [l0, l1, l2, l3, l4, l5, l6, l7, l8, l9, l10, l11, l12, l13] [(0, h a i), v2, v3] S h n) ∧
  (∀ (d : Nat) (b a : Int) (l0 l1 l2 l3 l4 l5 l6 l7 l8 l9 l10 l11 l12 l13 : Option mx_V) (v2 : mx_V) (S h : mx_H) (n : Int), mx_ex d 28 101 [l0, l1, l2, l3, l4, l5, l6, l7, l8, l9, l10, l11, l12, l13] [(0, b), (0, a), v2] S h n = mx_ex d 28 102 [l0, l1, l2, l3, l4, l5, l6, l7, l8, l9, l10, l11, l12, l13] [(0, mx_w (a + b)), v2] S h n) ∧
  (∀ (d : Nat) (i a : Int) (l0 l1 l2 l3 l4 l5 l6 l7 l8 l9 l10 l11 l12 l13 : Option mx_V) (S h : mx_H) (n : Int), mx_ex d 28 102 [l0, l1, l2, l3, l4, l5, l6, l7, l8, l9, l10, l11, l12, l13] [(0, i), (2, a)] S h n = mx_gd ((S a (-2) = 20 ∨ S a (-2) = 24) ∧ 0 ≤ i ∧ i < S a (-1)) d 28 103 [l0, l1, l2, l3, l4, l5, l6, l7, l8, l9, l10, l11, l12, l13] [(0, h a i)] S h n) ∧
  (∀ (d : Nat) (x : Int) (l0 l1 l2 l3 l4 l5 l6 l7 l8 l9 l10 l11 l12 l13 : Option mx_V) (S h : mx_H) (n : Int), mx_ex d 28 103 [l0, l1, l2, l3, l4, l5, l6, l7, l8, l9, l10, l11, l12, l13] [(0, x)] S h n = mx_ex d 28 105 [l0, l1, l2, l3, l4, l5, l6, l7, l8, l9, mx_nl l10, some (0, x), l12, l13] [] S h n) ∧
  (∀ (d : Nat) (x : Int) (l0 l1 l2 l3 l4 l6 l7 l8 l9 l10 l11 l12 l13 : Option mx_V) (S h : mx_H) (n : Int), mx_ex d 28 105 [l0, l1, l2, l3, l4, some (0, x), l6, l7, l8, l9, l10, l11, l12, l13] [] S h n = mx_ex d 28 107 [l0, l1, l2, l3, l4, some (0, x), l6, l7, l8, l9, l10, l11, l12, l13] [(0, x)] S h n) ∧
  (∀ (d : Nat) (l0 l1 l2 l3 l4 l5 l6 l7 l8 l9 l10 l11 l12 l13 : Option mx_V) (v0 : mx_V) (S h : mx_H) (n : Int), mx_ex d 28 107 [l0, l1, l2, l3, l4, l5, l6, l7, l8, l9, l10, l11, l12, l13] [v0] S h n = mx_ex d 28 108 [l0, l1, l2, l3, l4, l5, l6, l7, l8, l9, l10, l11, l12, l13] [(0, 3), v0] S h n) :=
  ⟨by intros; exact rfl,
   by intros; exact eq_ld rfl rfl,
   by intros; exact eq_gr rfl,
   by intros; exact eq_gr rfl,
   by intros; exact eq_st rfl (by decide) (Nat.le_of_ble_eq_true rfl) rfl,
   by intros; exact eq_ld rfl rfl,
   by intros; exact eq_ld rfl rfl,
   by intros; exact eq_push rfl,
   by intros; exact eq_i2 (o := mx_mul) rfl,
   by intros; exact eq_iald rfl,
   by intros; exact eq_st rfl (by decide) (Nat.le_of_ble_eq_true rfl) rfl,
   by intros; exact eq_ld rfl rfl,
   by intros; exact eq_ld rfl rfl,
   by intros; exact eq_push rfl,
   by intros; exact eq_i2 (o := mx_mul) rfl,
   by intros; exact eq_push rfl,
   by intros; exact eq_i2 (o := mx_add) rfl,
   by intros; exact eq_iald rfl,
   by intros; exact eq_st rfl (by decide) (Nat.le_of_ble_eq_true rfl) rfl,
   by intros; exact eq_ld rfl rfl,
   by intros; exact eq_ld rfl rfl,
   by intros; exact eq_push rfl,
   by intros; exact eq_i2 (o := mx_mul) rfl,
   by intros; exact eq_push rfl,
   by intros; exact eq_i2 (o := mx_add) rfl,
   by intros; exact eq_iald rfl,
   by intros; exact eq_st rfl (by decide) (Nat.le_of_ble_eq_true rfl) rfl,
   by intros; exact eq_ld rfl rfl,
   by intros; exact eq_ld rfl rfl,
   by intros; exact eq_push rfl,
   by intros; exact eq_i2 (o := mx_mul) rfl,
   by intros; exact eq_push rfl,
   by intros; exact eq_i2 (o := mx_add) rfl,
   by intros; exact eq_iald rfl,
   by intros; exact eq_st rfl (by decide) (Nat.le_of_ble_eq_true rfl) rfl,
   by intros; exact eq_ld rfl rfl,
   by intros; exact eq_st rfl (by decide) (Nat.le_of_ble_eq_true rfl) rfl,
   by intros; exact eq_push rfl,
   by intros; exact eq_st rfl (by decide) (Nat.le_of_ble_eq_true rfl) rfl,
   by intros; exact eq_push rfl,
   by intros; exact eq_ic4 rfl,
   by intros; exact eq_ld rfl rfl,
   by intros; exact eq_ld rfl rfl,
   by intros; exact eq_i2 (o := mx_shr) rfl,
   by intros; exact eq_push rfl,
   by intros; exact eq_i2 (o := mx_and) rfl,
   by intros; exact eq_if1 rfl,
   by intros; exact eq_go rfl,
   by intros; exact eq_ld rfl rfl,
   by intros; exact eq_gr rfl,
   by intros; exact eq_ld rfl rfl,
   by intros; exact eq_ld rfl rfl,
   by intros; exact eq_iast rfl,
   by intros; exact eq_ld rfl rfl,
   by intros; exact eq_gr rfl,
   by intros; exact eq_ld rfl rfl,
   by intros; exact eq_push rfl,
   by intros; exact eq_i2 (o := mx_mul) rfl,
   by intros; exact eq_ld rfl rfl,
   by intros; exact eq_gr rfl,
   by intros; exact eq_ld rfl rfl,
   by intros; exact eq_gr rfl,
   by intros; exact eq_ld rfl rfl,
   by intros; exact eq_iald rfl,
   by intros; exact eq_iald rfl,
   by intros; exact eq_i2 (o := mx_add) rfl,
   by intros; exact eq_iald rfl,
   by intros; exact eq_st rfl (by decide) (Nat.le_of_ble_eq_true rfl) rfl,
   by intros; exact eq_ld rfl rfl,
   by intros; exact eq_push rfl⟩
theorem rw_X2_basesThatHold_1 :
  (∀ (d : Nat) (b a : Int) (l0 l1 l2 l3 l4 l5 l6 l7 l8 l9 l10 l11 l12 l13 : Option mx_V) (S h : mx_H) (n : Int), mx_ex d 28 108 [l0, l1, l2, l3, l4, l5, l6, l7, l8, l9, l10, l11, l12, l13] [(0, b), (0, a)] S h n = mx_br (a = b) d 28 111 115 [l0, l1, l2, l3, l4, l5, l6, l7, l8, l9, l10, l11, l12, l13] [] S h n) ∧
  (∀ (d : Nat) (l0 l1 l2 l3 l4 l5 l6 l7 l8 l9 l10 l11 l12 l13 : Option mx_V) (S h : mx_H) (n : Int), mx_ex d 28 111 [l0, l1, l2, l3, l4, l5, l6, l7, l8, l9, l10, l11, l12, l13] [] S h n = mx_ex d 28 112 [l0, l1, l2, l3, l4, l5, l6, l7, l8, l9, l10, l11, l12, l13] [(0, 0)] S h n) ∧
  (∀ (d : Nat) (l0 l1 l2 l3 l4 l5 l6 l7 l8 l9 l10 l11 l12 l13 : Option mx_V) (v0 : mx_V) (S h : mx_H) (n : Int), mx_ex d 28 112 [l0, l1, l2, l3, l4, l5, l6, l7, l8, l9, l10, l11, l12, l13] [v0] S h n = mx_ex d 28 138 [l0, l1, l2, l3, l4, l5, l6, l7, l8, l9, l10, l11, l12, l13] [v0] S h n) ∧
  (∀ (d : Nat) (x : Int) (l1 l2 l3 l4 l5 l6 l7 l8 l9 l10 l11 l12 l13 : Option mx_V) (S h : mx_H) (n : Int), mx_ex d 28 115 [some (2, x), l1, l2, l3, l4, l5, l6, l7, l8, l9, l10, l11, l12, l13] [] S h n = mx_ex d 28 116 [some (2, x), l1, l2, l3, l4, l5, l6, l7, l8, l9, l10, l11, l12, l13] [(2, x)] S h n) ∧
  (∀ (d : Nat) (a : Int) (l0 l1 l2 l3 l4 l5 l6 l7 l8 l9 l10 l11 l12 l13 : Option mx_V) (S h : mx_H) (n : Int), mx_ex d 28 116 [l0, l1, l2, l3, l4, l5, l6, l7, l8, l9, l10, l11, l12, l13] [(2, a)] S h n = mx_gd (9 ≤ S a (-2) ∧ S a (-2) ≤ 9) d 28 119 [l0, l1, l2, l3, l4, l5, l6, l7, l8, l9, l10, l11, l12, l13] [(2, S a 7)] S h n) ∧
  (∀ (d : Nat) (x : Int) (l0 l1 l2 l3 l4 l5 l6 l8 l9 l10 l11 l12 l13 : Option mx_V) (v0 : mx_V) (S h : mx_H) (n : Int), mx_ex d 28 119 [l0, l1, l2, l3, l4, l5, l6, some (0, x), l8, l9, l10, l11, l12, l13] [v0] S h n = mx_ex d 28 121 [l0, l1, l2, l3, l4, l5, l6, some (0, x), l8, l9, l10, l11, l12, l13] [(0, x), v0] S h n) ∧
  (∀ (d : Nat) (l0 l1 l2 l3 l4 l5 l6 l7 l8 l9 l10 l11 l12 l13 : Option mx_V) (v0 v1 : mx_V) (S h : mx_H) (n : Int), mx_ex d 28 121 [l0, l1, l2, l3, l4, l5, l6, l7, l8, l9, l10, l11, l12, l13] [v0, v1] S h n = mx_ex d 28 123 [l0, l1, l2, l3, l4, l5, l6, l7, l8, l9, l10, l11, l12, l13] [(0, 17), v0, v1] S h n) ∧
  (∀ (d : Nat) (b a : Int) (l0 l1 l2 l3 l4 l5 l6 l7 l8 l9 l10 l11 l12 l13 : Option mx_V) (v2 : mx_V) (S h : mx_H) (n : Int), mx_ex d 28 123 [l0, l1, l2, l3, l4, l5, l6, l7, l8, l9, l10, l11, l12, l13] [(0, b), (0, a), v2] S h n = mx_ex d 28 124 [l0, l1, l2, l3, l4, l5, l6, l7, l8, l9, l10, l11, l12, l13] [(0, mx_w (a * b)), v2] S h n) ∧
  (∀ (d : Nat) (x : Int) (l1 l2 l3 l4 l5 l6 l7 l8 l9 l10 l11 l12 l13 : Option mx_V) (v0 v1 : mx_V) (S h : mx_H) (n : Int), mx_ex d 28 124 [some (2, x), l1, l2, l3, l4, l5, l6, l7, l8, l9, l10, l11, l12, l13] [v0, v1] S h n = mx_ex d 28 125 [some (2, x), l1, l2, l3, l4, l5, l6, l7, l8, l9, l10, l11, l12, l13] [(2, x), v0, v1] S h n) ∧
  (∀ (d : Nat) (a : Int) (l0 l1 l2 l3 l4 l5 l6 l7 l8 l9 l10 l11 l12 l13 : Option mx_V) (v1 v2 : mx_V) (S h : mx_H) (n : Int), mx_ex d 28 125 [l0, l1, l2, l3, l4, l5, l6, l7, l8, l9, l10, l11, l12, l13] [(2, a), v1, v2] S h n = mx_gd (9 ≤ S a (-2) ∧ S a (-2) ≤ 9) d 28 128 [l0, l1, l2, l3, l4, l5, l6, l7, l8, l9, l10, l11, l12, l13] [(2, S a 1), v1, v2] S h n) ∧
  (∀ (d : Nat) (x : Int) (l1 l2 l3 l4 l5 l6 l7 l8 l9 l10 l11 l12 l13 : Option mx_V) (v0 v1 v2 : mx_V) (S h : mx_H) (n : Int), mx_ex d 28 128 [some (2, x), l1, l2, l3, l4, l5, l6, l7, l8, l9, l10, l11, l12, l13] [v0, v1, v2] S h n = mx_ex d 28 129 [some (2, x), l1, l2, l3, l4, l5, l6, l7, l8, l9, l10, l11, l12, l13] [(2, x), v0, v1, v2] S h n) ∧
  (∀ (d : Nat) (a : Int) (l0 l1 l2 l3 l4 l5 l6 l7 l8 l9 l10 l11 l12 l13 : Option mx_V) (v1 v2 v3 : mx_V) (S h : mx_H) (n : Int), mx_ex d 28 129 [l0, l1, l2, l3, l4, l5, l6, l7, l8, l9, l10, l11, l12, l13] [(2, a), v1, v2, v3] S h n = mx_gd (9 ≤ S a (-2) ∧ S a (-2) ≤ 9) d 28 132 [l0, l1, l2, l3, l4, l5, l6, l7, l8, l9, l10, l11, l12, l13] [(2, S a 5), v1, v2, v3] S h n) ∧
  (∀ (d : Nat) (x : Int) (l0 l1 l2 l3 l4 l5 l6 l8 l9 l10 l11 l12 l13 : Option mx_V) (v0 v1 v2 v3 : mx_V) (S h : mx_H) (n : Int), mx_ex d 28 132 [l0, l1, l2, l3, l4, l5, l6, some (0, x), l8, l9, l10, l11, l12, l13] [v0, v1, v2, v3] S h n = mx_ex d 28 134 [l0, l1, l2, l3, l4, l5, l6, some (0, x), l8, l9, l10, l11, l12, l13] [(0, x), v0, v1, v2, v3] S h n) ∧
  (∀ (d : Nat) (i a : Int) (l0 l1 l2 l3 l4 l5 l6 l7 l8 l9 l10 l11 l12 l13 : Option mx_V) (v2 v3 v4 : mx_V) (S h : mx_H) (n : Int), mx_ex d 28 134 [l0, l1, l2, l3, l4, l5, l6, l7, l8, l9, l10, l11, l12, l13] [(0, i), (2, a), v2, v3, v4] S h n = mx_gd ((S a (-2) = 20 ∨ S a (-2) = 24) ∧ 0 ≤ i ∧ i < S a (-1)) d 28 135 [l0, l1, l2, l3, l4, l5, l6, l7, l8, l9, l10, l11, l12, l13] [(0, h a i), v2, v3, v4] S h n) ∧
  (∀ (d : Nat) (i a : Int) (l0 l1 l2 l3 l4 l5 l6 l7 l8 l9 l10 l11 l12 l13 : Option mx_V) (v2 v3 : mx_V) (S h : mx_H) (n : Int), mx_ex d 28 135 [l0, l1, l2, l3, l4, l5, l6, l7, l8, l9, l10, l11, l12, l13] [(0, i), (2, a), v2, v3] S h n = mx_gd ((S a (-2) = 20 ∨ S a (-2) = 24) ∧ 0 ≤ i ∧ i < S a (-1)) d 28 136 [l0, l1, l2, l3, l4, l5, l6, l7, l8, l9, l10, l11, l12, l13] [(0, h a i), v2, v3] S h n) ∧
  (∀ (d : Nat) (b a : Int) (l0 l1 l2 l3 l4 l5 l6 l7 l8 l9 l10 l11 l12 l13 : Option mx_V) (v2 : mx_V) (S h : mx_H) (n : Int), mx_ex d 28 136 [l0, l1, l2, l3, l4, l5, l6, l7, l8, l9, l10, l11, l12, l13] [(0, b), (0, a), v2] S h n = mx_ex d 28 137 [l0, l1, l2, l3, l4, l5, l6, l7, l8, l9, l10, l11, l12, l13] [(0, mx_w (a + b)), v2] S h n) ∧
  (∀ (d : Nat) (i a : Int) (l0 l1 l2 l3 l4 l5 l6 l7 l8 l9 l10 l11 l12 l13 : Option mx_V) (S h : mx_H) (n : Int), mx_ex d 28 137 [l0, l1, l2, l3, l4, l5, l6, l7, l8, l9, l10, l11, l12, l13] [(0, i), (2, a)] S h n = mx_gd ((S a (-2) = 20 ∨ S a (-2) = 24) ∧ 0 ≤ i ∧ i < S a (-1)) d 28 138 [l0, l1, l2, l3, l4, l5, l6, l7, l8, l9, l10, l11, l12, l13] [(0, h a i)] S h n) ∧
  (∀ (d : Nat) (x : Int) (l0 l1 l2 l3 l4 l5 l6 l7 l8 l9 l10 l11 l12 l13 : Option mx_V) (S h : mx_H) (n : Int), mx_ex d 28 138 [l0, l1, l2, l3, l4, l5, l6, l7, l8, l9, l10, l11, l12, l13] [(0, x)] S h n = mx_ex d 28 140 [l0, l1, l2, l3, l4, l5, l6, l7, l8, l9, l10, mx_nl l11, some (0, x), l13] [] S h n) ∧
  (∀ (d : Nat) (x : Int) (l0 l1 l2 l3 l4 l6 l7 l8 l9 l10 l11 l12 l13 : Option mx_V) (S h : mx_H) (n : Int), mx_ex d 28 140 [l0, l1, l2, l3, l4, some (0, x), l6, l7, l8, l9, l10, l11, l12, l13] [] S h n = mx_ex d 28 142 [l0, l1, l2, l3, l4, some (0, x), l6, l7, l8, l9, l10, l11, l12, l13] [(0, x)] S h n) ∧
  (∀ (d : Nat) (l0 l1 l2 l3 l4 l5 l6 l7 l8 l9 l10 l11 l12 l13 : Option mx_V) (v0 : mx_V) (S h : mx_H) (n : Int), mx_ex d 28 142 [l0, l1, l2, l3, l4, l5, l6, l7, l8, l9, l10, l11, l12, l13] [v0] S h n = mx_ex d 28 143 [l0, l1, l2, l3, l4, l5, l6, l7, l8, l9, l10, l11, l12, l13] [(0, 2), v0] S h n) ∧
  (∀ (d : Nat) (b a : Int) (l0 l1 l2 l3 l4 l5 l6 l7 l8 l9 l10 l11 l12 l13 : Option mx_V) (S h : mx_H) (n : Int), mx_ex d 28 143 [l0, l1, l2, l3, l4, l5, l6, l7, l8, l9, l10, l11, l12, l13] [(0, b), (0, a)] S h n = mx_br (a = b) d 28 146 172 [l0, l1, l2, l3, l4, l5, l6, l7, l8, l9, l10, l11, l12, l13] [] S h n) ∧
  (∀ (d : Nat) (x : Int) (l1 l2 l3 l4 l5 l6 l7 l8 l9 l10 l11 l12 l13 : Option mx_V) (S h : mx_H) (n : Int), mx_ex d 28 146 [some (2, x), l1, l2, l3, l4, l5, l6, l7, l8, l9, l10, l11, l12, l13] [] S h n = mx_ex d 28 147 [some (2, x), l1, l2, l3, l4, l5, l6, l7, l8, l9, l10, l11, l12, l13] [(2, x)] S h n) ∧
  (∀ (d : Nat) (a : Int) (l0 l1 l2 l3 l4 l5 l6 l7 l8 l9 l10 l11 l12 l13 : Option mx_V) (S h : mx_H) (n : Int), mx_ex d 28 147 [l0, l1, l2, l3, l4, l5, l6, l7, l8, l9, l10, l11, l12, l13] [(2, a)] S h n = mx_gd (9 ≤ S a (-2) ∧ S a (-2) ≤ 9) d 28 150 [l0, l1, l2, l3, l4, l5, l6, l7, l8, l9, l10, l11, l12, l13] [(2, S a 7)] S h n) ∧
  (∀ (d : Nat) (x : Int) (l0 l1 l2 l3 l4 l5 l6 l7 l9 l10 l11 l12 l13 : Option mx_V) (v0 : mx_V) (S h : mx_H) (n : Int), mx_ex d 28 150 [l0, l1, l2, l3, l4, l5, l6, l7, some (0, x), l9, l10, l11, l12, l13] [v0] S h n = mx_ex d 28 152 [l0, l1, l2, l3, l4, l5, l6, l7, some (0, x), l9, l10, l11, l12, l13] [(0, x), v0] S h n) ∧
  (∀ (d : Nat) (l0 l1 l2 l3 l4 l5 l6 l7 l8 l9 l10 l11 l12 l13 : Option mx_V) (v0 v1 : mx_V) (S h : mx_H) (n : Int), mx_ex d 28 152 [l0, l1, l2, l3, l4, l5, l6, l7, l8, l9, l10, l11, l12, l13] [v0, v1] S h n = mx_ex d 28 154 [l0, l1, l2, l3, l4, l5, l6, l7, l8, l9, l10, l11, l12, l13] [(0, 17), v0, v1] S h n) ∧
  (∀ (d : Nat) (b a : Int) (l0 l1 l2 l3 l4 l5 l6 l7 l8 l9 l10 l11 l12 l13 : Option mx_V) (v2 : mx_V) (S h : mx_H) (n : Int), mx_ex d 28 154 [l0, l1, l2, l3, l4, l5, l6, l7, l8, l9, l10, l11, l12, l13] [(0, b), (0, a), v2] S h n = mx_ex d 28 155 [l0, l1, l2, l3, l4, l5, l6, l7, l8, l9, l10, l11, l12, l13] [(0, mx_w (a * b)), v2] S h n) ∧
  (∀ (d : Nat) (x : Int) (l1 l2 l3 l4 l5 l6 l7 l8 l9 l10 l11 l12 l13 : Option mx_V) (v0 v1 : mx_V) (S h : mx_H) (n : Int), mx_ex d 28 155 [some (2, x), l1, l2, l3, l4, l5, l6, l7, l8, l9, l10, l11, l12, l13] [v0, v1] S h n = mx_ex d 28 156 [some (2, x), l1, l2, l3, l4, l5, l6, l7, l8, l9, l10, l11, l12, l13] [(2, x), v0, v1] S h n) ∧
  (∀ (d : Nat) (a : Int) (l0 l1 l2 l3 l4 l5 l6 l7 l8 l9 l10 l11 l12 l13 : Option mx_V) (v1 v2 : mx_V) (S h : mx_H) (n : Int), mx_ex d 28 156 [l0, l1, l2, l3, l4, l5, l6, l7, l8, l9, l10, l11, l12, l13] [(2, a), v1, v2] S h n = mx_gd (9 ≤ S a (-2) ∧ S a (-2) ≤ 9) d 28 159 [l0, l1, l2, l3, l4, l5, l6, l7, l8, l9, l10, l11, l12, l13] [(2, S a 1), v1, v2] S h n) ∧
  (∀ (d : Nat) (x : Int) (l1 l2 l3 l4 l5 l6 l7 l8 l9 l10 l11 l12 l13 : Option mx_V) (v0 v1 v2 : mx_V) (S h : mx_H) (n : Int), mx_ex d 28 159 [some (2, x), l1, l2, l3, l4, l5, l6, l7, l8, l9, l10, l11, l12, l13] [v0, v1, v2] S h n = mx_ex d 28 160 [some (2, x), l1, l2, l3, l4, l5, l6, l7, l8, l9, l10, l11, l12, l13] [(2, x), v0, v1, v2] S h n) ∧
  (∀ (d : Nat) (a : Int) (l0 l1 l2 l3 l4 l5 l6 l7 l8 l9 l10 l11 l12 l13 : Option mx_V) (v1 v2 v3 : mx_V) (S h : mx_H) (n : Int), mx_ex d 28 160 [l0, l1, l2, l3, l4, l5, l6, l7, l8, l9, l10, l11, l12, l13] [(2, a), v1, v2, v3] S h n = mx_gd (9 ≤ S a (-2) ∧ S a (-2) ≤ 9) d 28 163 [l0, l1, l2, l3, l4, l5, l6, l7, l8, l9, l10, l11, l12, l13] [(2, S a 5), v1, v2, v3] S h n) ∧
  (∀ (d : Nat) (x : Int) (l0 l1 l2 l3 l4 l5 l6 l7 l9 l10 l11 l12 l13 : Option mx_V) (v0 v1 v2 v3 : mx_V) (S h : mx_H) (n : Int), mx_ex d 28 163 [l0, l1, l2, l3, l4, l5, l6, l7, some (0, x), l9, l10, l11, l12, l13] [v0, v1, v2, v3] S h n = mx_ex d 28 165 [l0, l1, l2, l3, l4, l5, l6, l7, some (0, x), l9, l10, l11, l12, l13] [(0, x), v0, v1, v2, v3] S h n) ∧
  (∀ (d : Nat) (i a : Int) (l0 l1 l2 l3 l4 l5 l6 l7 l8 l9 l10 l11 l12 l13 : Option mx_V) (v2 v3 v4 : mx_V) (S h : mx_H) (n : Int), mx_ex d 28 165 [l0, l1, l2, l3, l4, l5, l6, l7, l8, l9, l10, l11, l12, l13] [(0, i), (2, a), v2, v3, v4] S h n = mx_gd ((S a (-2) = 20 ∨ S a (-2) = 24) ∧ 0 ≤ i ∧ i < S a (-1)) d 28 166 [l0, l1, l2, l3, l4, l5, l6, l7, l8, l9, l10, l11, l12, l13] [(0, h a i), v2, v3, v4] S h n) ∧
  (∀ (d : Nat) (i a : Int) (l0 l1 l2 l3 l4 l5 l6 l7 l8 l9 l10 l11 l12 l13 : Option mx_V) (v2 v3 : mx_V) (S h : mx_H) (n : Int), mx_ex d 28 166 [l0, l1, l2, l3, l4, l5, l6, l7, l8, l9, l10, l11, l12, l13] [(0, i), (2, a), v2, v3] S h n = mx_gd ((S a (-2) = 20 ∨ S a (-2) = 24) ∧ 0 ≤ i ∧ i < S a (-1)) d 28 167 [l0, l1, l2, l3, l4, l5, l6, l7, l8, l9, l10, l11, l12, l13] [(0, h a i), v2, v3] S h n) ∧
  (∀ (d : Nat) (b a : Int) (l0 l1 l2 l3 l4 l5 l6 l7 l8 l9 l10 l11 l12 l13 : Option mx_V) (v2 : mx_V) (S h : mx_H) (n : Int), mx_ex d 28 167 [l0, l1, l2, l3, l4, l5, l6, l7, l8, l9, l10, l11, l12, l13] [(0, b), (0, a), v2] S h n = mx_ex d 28 168 [l0, l1, l2, l3, l4, l5, l6, l7, l8, l9, l10, l11, l12, l13] [(0, mx_w (a + b)), v2] S h n) ∧
  (∀ (d : Nat) (i a : Int) (l0 l1 l2 l3 l4 l5 l6 l7 l8 l9 l10 l11 l12 l13 : Option mx_V) (S h : mx_H) (n : Int), mx_ex d 28 168 [l0, l1, l2, l3, l4, l5, l6, l7, l8, l9, l10, l11, l12, l13] [(0, i), (2, a)] S h n = mx_gd ((S a (-2) = 20 ∨ S a (-2) = 24) ∧ 0 ≤ i ∧ i < S a (-1)) d 28 169 [l0, l1, l2, l3, l4, l5, l6, l7, l8, l9, l10, l11, l12, l13] [(0, h a i)] S h n) ∧
  (∀ (d : Nat) (l0 l1 l2 l3 l4 l5 l6 l7 l8 l9 l10 l11 l12 l13 : Option mx_V) (v0 : mx_V) (S h : mx_H) (n : Int), mx_ex d 28 169 [l0, l1, l2, l3, l4, l5, l6, l7, l8, l9, l10, l11, l12, l13] [v0] S h n = mx_ex d 28 174 [l0, l1, l2, l3, l4, l5, l6, l7, l8, l9, l10, l11, l12, l13] [v0] S h n) ∧
  (∀ (d : Nat) (x : Int) (l0 l1 l2 l3 l4 l5 l6 l7 l9 l10 l11 l12 l13 : Option mx_V) (S h : mx_H) (n : Int), mx_ex d 28 172 [l0, l1, l2, l3, l4, l5, l6, l7, some (0, x), l9, l10, l11, l12, l13] [] S h n = mx_ex d 28 174 [l0, l1, l2, l3, l4, l5, l6, l7, some (0, x), l9, l10, l11, l12, l13] [(0, x)] S h n) ∧
  (∀ (d : Nat) (x : Int) (l0 l1 l2 l3 l4 l5 l6 l7 l8 l9 l10 l11 l12 l13 : Option mx_V) (S h : mx_H) (n : Int), mx_ex d 28 174 [l0, l1, l2, l3, l4, l5, l6, l7, l8, l9, l10, l11, l12, l13] [(0, x)] S h n = mx_ex d 28 176 [l0, l1, l2, l3, l4, l5, l6, l7, l8, l9, l10, l11, mx_nl l12, some (0, x)] [] S h n) ∧
  (∀ (d : Nat) (x : Int) (l0 l1 l2 l3 l4 l6 l7 l8 l9 l10 l11 l12 l13 : Option mx_V) (S h : mx_H) (n : Int), mx_ex d 28 176 [l0, l1, l2, l3, l4, some (0, x), l6, l7, l8, l9, l10, l11, l12, l13] [] S h n = mx_ex d 28 178 [l0, l1, l2, l3, l4, some (0, x), l6, l7, l8, l9, l10, l11, l12, l13] [(0, x)] S h n) ∧
  (∀ (d : Nat) (x : Int) (l0 l1 l2 l3 l4 l5 l6 l7 l8 l9 l10 l12 l13 : Option mx_V) (v0 : mx_V) (S h : mx_H) (n : Int), mx_ex d 28 178 [l0, l1, l2, l3, l4, l5, l6, l7, l8, l9, l10, some (0, x), l12, l13] [v0] S h n = mx_ex d 28 180 [l0, l1, l2, l3, l4, l5, l6, l7, l8, l9, l10, some (0, x), l12, l13] [(0, x), v0] S h n) ∧
  (∀ (d : Nat) (x : Int) (l0 l1 l2 l3 l4 l5 l6 l7 l8 l9 l10 l11 l13 : Option mx_V) (v0 v1 : mx_V) (S h : mx_H) (n : Int), mx_ex d 28 180 [l0, l1, l2, l3, l4, l5, l6, l7, l8, l9, l10, l11, some (0, x), l13] [v0, v1] S h n = mx_ex d 28 182 [l0, l1, l2, l3, l4, l5, l6, l7, l8, l9, l10, l11, some (0, x), l13] [(0, x), v0, v1] S h n) ∧
  (∀ (d : Nat) (x : Int) (l0 l1 l2 l3 l4 l5 l6 l7 l8 l9 l10 l11 l12 : Option mx_V) (v0 v1 v2 : mx_V) (S h : mx_H) (n : Int), mx_ex d 28 182 [l0, l1, l2, l3, l4, l5, l6, l7, l8, l9, l10, l11, l12, some (0, x)] [v0, v1, v2] S h n = mx_ex d 28 184 [l0, l1, l2, l3, l4, l5, l6, l7, l8, l9, l10, l11, l12, some (0, x)] [(0, x), v0, v1, v2] S h n) ∧
  (∀ (d : Nat) (x0 x1 x2 x3 : Int) (l0 l1 l2 l3 l4 l5 l6 l7 l8 l9 l10 l11 l12 l13 : Option mx_V) (S h : mx_H) (n : Int), mx_ex (d + 1) 28 184 [l0, l1, l2, l3, l4, l5, l6, l7, l8, l9, l10, l11, l12, l13] [(0, x0), (0, x1), (0, x2), (0, x3)] S h n = mx_rt (mx_M d 153 [(0, x3), (0, x2), (0, x1), (0, x0)] S h n) (d + 1) 28 187 [l0, l1, l2, l3, l4, l5, l6, l7, l8, l9, l10, l11, l12, l13] []) ∧
  (∀ (d : Nat) (a : Int) (l0 l1 l2 l3 l4 l5 l6 l7 l8 l9 l10 l11 l12 l13 : Option mx_V) (S h : mx_H) (n : Int), mx_ex d 28 187 [l0, l1, l2, l3, l4, l5, l6, l7, l8, l9, l10, l11, l12, l13] [(0, a)] S h n = mx_br (a = 0) d 28 190 201 [l0, l1, l2, l3, l4, l5, l6, l7, l8, l9, l10, l11, l12, l13] [] S h n) ∧
  (∀ (d : Nat) (x : Int) (l0 l1 l2 l3 l4 l5 l6 l7 l8 l10 l11 l12 l13 : Option mx_V) (S h : mx_H) (n : Int), mx_ex d 28 190 [l0, l1, l2, l3, l4, l5, l6, l7, l8, some (0, x), l10, l11, l12, l13] [] S h n = mx_ex d 28 192 [l0, l1, l2, l3, l4, l5, l6, l7, l8, some (0, x), l10, l11, l12, l13] [(0, x)] S h n) ∧
  (∀ (d : Nat) (l0 l1 l2 l3 l4 l5 l6 l7 l8 l9 l10 l11 l12 l13 : Option mx_V) (v0 : mx_V) (S h : mx_H) (n : Int), mx_ex d 28 192 [l0, l1, l2, l3, l4, l5, l6, l7, l8, l9, l10, l11, l12, l13] [v0] S h n = mx_ex d 28 193 [l0, l1, l2, l3, l4, l5, l6, l7, l8, l9, l10, l11, l12, l13] [(0, 1), v0] S h n) ∧
  (∀ (d : Nat) (x : Int) (l0 l1 l2 l3 l4 l5 l6 l7 l8 l9 l11 l12 l13 : Option mx_V) (v0 v1 : mx_V) (S h : mx_H) (n : Int), mx_ex d 28 193 [l0, l1, l2, l3, l4, l5, l6, l7, l8, l9, some (0, x), l11, l12, l13] [v0, v1] S h n = mx_ex d 28 195 [l0, l1, l2, l3, l4, l5, l6, l7, l8, l9, some (0, x), l11, l12, l13] [(0, x), v0, v1] S h n) ∧
  (∀ (d : Nat) (b a : Int) (l0 l1 l2 l3 l4 l5 l6 l7 l8 l9 l10 l11 l12 l13 : Option mx_V) (v2 : mx_V) (S h : mx_H) (n : Int), mx_ex d 28 195 [l0, l1, l2, l3, l4, l5, l6, l7, l8, l9, l10, l11, l12, l13] [(0, b), (0, a), v2] S h n = mx_ex d 28 196 [l0, l1, l2, l3, l4, l5, l6, l7, l8, l9, l10, l11, l12, l13] [(0, mx_shl a b), v2] S h n) ∧
  (∀ (d : Nat) (l0 l1 l2 l3 l4 l5 l6 l7 l8 l9 l10 l11 l12 l13 : Option mx_V) (v0 v1 : mx_V) (S h : mx_H) (n : Int), mx_ex d 28 196 [l0, l1, l2, l3, l4, l5, l6, l7, l8, l9, l10, l11, l12, l13] [v0, v1] S h n = mx_ex d 28 197 [l0, l1, l2, l3, l4, l5, l6, l7, l8, l9, l10, l11, l12, l13] [(0, (-1)), v0, v1] S h n) ∧
  (∀ (d : Nat) (b a : Int) (l0 l1 l2 l3 l4 l5 l6 l7 l8 l9 l10 l11 l12 l13 : Option mx_V) (v2 : mx_V) (S h : mx_H) (n : Int), mx_ex d 28 197 [l0, l1, l2, l3, l4, l5, l6, l7, l8, l9, l10, l11, l12, l13] [(0, b), (0, a), v2] S h n = mx_ex d 28 198 [l0, l1, l2, l3, l4, l5, l6, l7, l8, l9, l10, l11, l12, l13] [(0, mx_xor a b), v2] S h n) ∧
  (∀ (d : Nat) (b a : Int) (l0 l1 l2 l3 l4 l5 l6 l7 l8 l9 l10 l11 l12 l13 : Option mx_V) (S h : mx_H) (n : Int), mx_ex d 28 198 [l0, l1, l2, l3, l4, l5, l6, l7, l8, l9, l10, l11, l12, l13] [(0, b), (0, a)] S h n = mx_ex d 28 199 [l0, l1, l2, l3, l4, l5, l6, l7, l8, l9, l10, l11, l12, l13] [(0, mx_and a b)] S h n) ∧
  (∀ (d : Nat) (x : Int) (l0 l1 l2 l3 l4 l5 l6 l7 l8 l9 l10 l11 l12 l13 : Option mx_V) (S h : mx_H) (n : Int), mx_ex d 28 199 [l0, l1, l2, l3, l4, l5, l6, l7, l8, l9, l10, l11, l12, l13] [(0, x)] S h n = mx_ex d 28 201 [l0, l1, l2, l3, l4, l5, l6, l7, mx_nl l8, some (0, x), l10, l11, l12, l13] [] S h n) ∧
  (∀ (d : Nat) (x : Int) (l0 l1 l2 l3 l4 l5 l6 l7 l8 l9 l11 l12 l13 : Option mx_V) (S h : mx_H) (n : Int), mx_ex d 28 201 [l0, l1, l2, l3, l4, l5, l6, l7, l8, l9, some (0, x), l11, l12, l13] [] S h n = mx_ex d 28 204 [l0, l1, l2, l3, l4, l5, l6, l7, l8, mx_nl l9, some (0, mx_w (x + 1)), l11, l12, l13] [] S h n) ∧
  (∀ (d : Nat) (l0 l1 l2 l3 l4 l5 l6 l7 l8 l9 l10 l11 l12 l13 : Option mx_V) (S h : mx_H) (n : Int), mx_ex d 28 204 [l0, l1, l2, l3, l4, l5, l6, l7, l8, l9, l10, l11, l12, l13] [] S h n = mx_ex d 28 53 [l0, l1, l2, l3, l4, l5, l6, l7, l8, l9, l10, l11, l12, l13] [] S h n) ∧
  (∀ (d : Nat) (x : Int) (l0 l1 l2 l3 l4 l5 l6 l7 l8 l10 l11 l12 l13 : Option mx_V) (S h : mx_H) (n : Int), mx_ex d 28 207 [l0, l1, l2, l3, l4, l5, l6, l7, l8, some (0, x), l10, l11, l12, l13] [] S h n = mx_ex d 28 209 [l0, l1, l2, l3, l4, l5, l6, l7, l8, some (0, x), l10, l11, l12, l13] [(0, x)] S h n) ∧
  (∀ (d : Nat) (x : Int) (l0 l1 l2 l3 l4 l5 l6 l7 l8 l9 l10 l11 l12 l13 : Option mx_V) (S h : mx_H) (n : Int), mx_ex d 28 209 [l0, l1, l2, l3, l4, l5, l6, l7, l8, l9, l10, l11, l12, l13] [(0, x)] S h n = some (some (0, x), S, h, n)) :=
  ⟨by intros; exact eq_ic1 rfl,
   by intros; exact eq_push rfl,
   by intros; exact eq_go rfl,
   by intros; exact eq_ld rfl rfl,
   by intros; exact eq_gr rfl,
   by intros; exact eq_ld rfl rfl,
   by intros; exact eq_push rfl,
   by intros; exact eq_i2 (o := mx_mul) rfl,
   by intros; exact eq_ld rfl rfl,
   by intros; exact eq_gr rfl,
   by intros; exact eq_ld rfl rfl,
   by intros; exact eq_gr rfl,
   by intros; exact eq_ld rfl rfl,
   by intros; exact eq_iald rfl,
   by intros; exact eq_iald rfl,
   by intros; exact eq_i2 (o := mx_add) rfl,
   by intros; exact eq_iald rfl,
   by intros; exact eq_st rfl (by decide) (Nat.le_of_ble_eq_true rfl) rfl,
   by intros; exact eq_ld rfl rfl,
   by intros; exact eq_push rfl,
   by intros; exact eq_ic1 rfl,
   by intros; exact eq_ld rfl rfl,
   by intros; exact eq_gr rfl,
   by intros; exact eq_ld rfl rfl,
   by intros; exact eq_push rfl,
   by intros; exact eq_i2 (o := mx_mul) rfl,
   by intros; exact eq_ld rfl rfl,
   by intros; exact eq_gr rfl,
   by intros; exact eq_ld rfl rfl,
   by intros; exact eq_gr rfl,
   by intros; exact eq_ld rfl rfl,
   by intros; exact eq_iald rfl,
   by intros; exact eq_iald rfl,
   by intros; exact eq_i2 (o := mx_add) rfl,
   by intros; exact eq_iald rfl,
   by intros; exact eq_go rfl,
   by intros; exact eq_ld rfl rfl,
   by intros; exact eq_st rfl (by decide) (Nat.le_of_ble_eq_true rfl) rfl,
   by intros; exact eq_ld rfl rfl,
   by intros; exact eq_ld rfl rfl,
   by intros; exact eq_ld rfl rfl,
   by intros; exact eq_ld rfl rfl,
   by intros; exact eq_cs rfl (Nat.le_of_ble_eq_true rfl) rfl rfl rfl (Nat.le_of_ble_eq_true rfl),
   by intros; exact eq_if1 rfl,
   by intros; exact eq_ld rfl rfl,
   by intros; exact eq_push rfl,
   by intros; exact eq_ld rfl rfl,
   by intros; exact eq_i2 (o := mx_shl) rfl,
   by intros; exact eq_push rfl,
   by intros; exact eq_i2 (o := mx_xor) rfl,
   by intros; exact eq_i2 (o := mx_and) rfl,
   by intros; exact eq_st rfl (by decide) (Nat.le_of_ble_eq_true rfl) rfl,
   by intros; exact eq_inc rfl rfl rfl,
   by intros; exact eq_go rfl,
   by intros; exact eq_ld rfl rfl,
   by intros; exact eq_ret rfl⟩
theorem rw_X2_isWorldBy :
  (∀ (d : Nat) (a0 a1 : Int) (S h : mx_H) (n : Int), mx_M d 29 [(2, a0), (0, a1)] S h n = mx_ex d 29 0 [some (2, a0), some (0, a1)] [] S h n) ∧
  (∀ (d : Nat) (x : Int) (l1 : Option mx_V) (S h : mx_H) (n : Int), mx_ex d 29 0 [some (2, x), l1] [] S h n = mx_ex d 29 1 [some (2, x), l1] [(2, x)] S h n) ∧
  (∀ (d : Nat) (x : Int) (l0 : Option mx_V) (v0 : mx_V) (S h : mx_H) (n : Int), mx_ex d 29 1 [l0, some (0, x)] [v0] S h n = mx_ex d 29 2 [l0, some (0, x)] [(0, x), v0] S h n) ∧
  (∀ (d : Nat) (l0 l1 : Option mx_V) (v0 v1 : mx_V) (S h : mx_H) (n : Int), mx_ex d 29 2 [l0, l1] [v0, v1] S h n = mx_ex d 29 3 [l0, l1] [(0, (-1)), v0, v1] S h n) ∧
  (∀ (d : Nat) (x0 x1 a : Int) (l0 l1 : Option mx_V) (S h : mx_H) (n : Int), mx_ex (d + 1) 29 3 [l0, l1] [(0, x0), (0, x1), (2, a)] S h n = mx_cl (S a (-2) = 9) d 26 [(2, a), (0, x1), (0, x0)] 29 6 [l0, l1] [] S h n) ∧
  (∀ (d : Nat) (x : Int) (l1 : Option mx_V) (S h : mx_H) (n : Int), mx_ex d 29 6 [some (2, x), l1] [] S h n = mx_ex d 29 7 [some (2, x), l1] [(2, x)] S h n) ∧
  (∀ (d : Nat) (x : Int) (l0 : Option mx_V) (v0 : mx_V) (S h : mx_H) (n : Int), mx_ex d 29 7 [l0, some (0, x)] [v0] S h n = mx_ex d 29 8 [l0, some (0, x)] [(0, x), v0] S h n) ∧
  (∀ (d : Nat) (x0 a : Int) (l0 l1 : Option mx_V) (S h : mx_H) (n : Int), mx_ex (d + 1) 29 8 [l0, l1] [(0, x0), (2, a)] S h n = mx_cl (S a (-2) = 9) d 30 [(2, a), (0, x0)] 29 11 [l0, l1] [] S h n) ∧
  (∀ (d : Nat) (x : Int) (l0 l1 : Option mx_V) (S h : mx_H) (n : Int), mx_ex d 29 11 [l0, l1] [(0, x)] S h n = mx_re (0 ≤ x ∧ x ≤ 1) (some (0, x)) S h n) :=
  ⟨by intros; exact rfl,
   by intros; exact eq_ld rfl rfl,
   by intros; exact eq_ld rfl rfl,
   by intros; exact eq_push rfl,
   by intros; exact eq_cv rfl (Nat.le_of_ble_eq_true rfl) rfl rfl rfl (Nat.le_of_ble_eq_true rfl),
   by intros; exact eq_ld rfl rfl,
   by intros; exact eq_ld rfl rfl,
   by intros; exact eq_cv rfl (Nat.le_of_ble_eq_true rfl) rfl rfl rfl (Nat.le_of_ble_eq_true rfl),
   by intros; exact eq_rr rfl⟩
theorem rh_X2_isWorldWithin_31 : ∀ (d : Nat) (x : Int) (l0 l1 l3 : Option mx_V) (S h : mx_H) (n : Int), mx_ex d 30 31 [l0, l1, some (0, x), l3] [] S h n = mx_ex d 30 32 [l0, l1, some (0, x), l3] [(0, x)] S h n := by intros; exact eq_ld rfl rfl
theorem rh_X2_isWorldWithin_55 : ∀ (d : Nat) (x : Int) (l0 l1 l2 : Option mx_V) (S h : mx_H) (n : Int), mx_ex d 30 55 [l0, l1, l2, some (0, x)] [] S h n = mx_ex d 30 56 [l0, l1, l2, some (0, x)] [(0, x)] S h n := by intros; exact eq_ld rfl rfl
theorem rw_X2_isWorldWithin :
  (∀ (d : Nat) (a0 a1 : Int) (S h : mx_H) (n : Int), mx_M d 30 [(2, a0), (0, a1)] S h n = mx_ex d 30 0 [some (2, a0), some (0, a1), none, none] [] S h n) ∧
  (∀ (d : Nat) (x : Int) (l1 l2 l3 : Option mx_V) (S h : mx_H) (n : Int), mx_ex d 30 0 [some (2, x), l1, l2, l3] [] S h n = mx_ex d 30 1 [some (2, x), l1, l2, l3] [(2, x)] S h n) ∧
  (∀ (d : Nat) (a : Int) (l0 l1 l2 l3 : Option mx_V) (S h : mx_H) (n : Int), mx_ex d 30 1 [l0, l1, l2, l3] [(2, a)] S h n = mx_gd (9 ≤ S a (-2) ∧ S a (-2) ≤ 9) d 30 4 [l0, l1, l2, l3] [(2, S a 9)] S h n) ∧
  (∀ (d : Nat) (l0 l1 l2 l3 : Option mx_V) (v0 : mx_V) (S h : mx_H) (n : Int), mx_ex d 30 4 [l0, l1, l2, l3] [v0] S h n = mx_ex d 30 5 [l0, l1, l2, l3] [(0, 0), v0] S h n) ∧
  (∀ (d : Nat) (i a : Int) (l0 l1 l2 l3 : Option mx_V) (S h : mx_H) (n : Int), mx_ex d 30 5 [l0, l1, l2, l3] [(0, i), (2, a)] S h n = mx_gd ((S a (-2) = 20 ∨ S a (-2) = 24) ∧ 0 ≤ i ∧ i < S a (-1)) d 30 6 [l0, l1, l2, l3] [(0, h a i)] S h n) ∧
  (∀ (d : Nat) (a : Int) (l0 l1 l2 l3 : Option mx_V) (S h : mx_H) (n : Int), mx_ex d 30 6 [l0, l1, l2, l3] [(0, a)] S h n = mx_br (a = 0) d 30 27 9 [l0, l1, l2, l3] [] S h n) ∧
  (∀ (d : Nat) (x : Int) (l1 l2 l3 : Option mx_V) (S h : mx_H) (n : Int), mx_ex d 30 9 [some (2, x), l1, l2, l3] [] S h n = mx_ex d 30 10 [some (2, x), l1, l2, l3] [(2, x)] S h n) ∧
  (∀ (d : Nat) (a : Int) (l0 l1 l2 l3 : Option mx_V) (S h : mx_H) (n : Int), mx_ex d 30 10 [l0, l1, l2, l3] [(2, a)] S h n = mx_gd (9 ≤ S a (-2) ∧ S a (-2) ≤ 9) d 30 13 [l0, l1, l2, l3] [(2, S a 9)] S h n) ∧
  (∀ (d : Nat) (l0 l1 l2 l3 : Option mx_V) (v0 : mx_V) (S h : mx_H) (n : Int), mx_ex d 30 13 [l0, l1, l2, l3] [v0] S h n = mx_ex d 30 14 [l0, l1, l2, l3] [(0, 1), v0] S h n) ∧
  (∀ (d : Nat) (i a : Int) (l0 l1 l2 l3 : Option mx_V) (S h : mx_H) (n : Int), mx_ex d 30 14 [l0, l1, l2, l3] [(0, i), (2, a)] S h n = mx_gd ((S a (-2) = 20 ∨ S a (-2) = 24) ∧ 0 ≤ i ∧ i < S a (-1)) d 30 15 [l0, l1, l2, l3] [(0, h a i)] S h n) ∧
  (∀ (d : Nat) (a : Int) (l0 l1 l2 l3 : Option mx_V) (S h : mx_H) (n : Int), mx_ex d 30 15 [l0, l1, l2, l3] [(0, a)] S h n = mx_br (a = 0) d 30 27 18 [l0, l1, l2, l3] [] S h n) ∧
  (∀ (d : Nat) (x : Int) (l1 l2 l3 : Option mx_V) (S h : mx_H) (n : Int), mx_ex d 30 18 [some (2, x), l1, l2, l3] [] S h n = mx_ex d 30 19 [some (2, x), l1, l2, l3] [(2, x)] S h n) ∧
  (∀ (d : Nat) (a : Int) (l0 l1 l2 l3 : Option mx_V) (S h : mx_H) (n : Int), mx_ex d 30 19 [l0, l1, l2, l3] [(2, a)] S h n = mx_gd (9 ≤ S a (-2) ∧ S a (-2) ≤ 9) d 30 22 [l0, l1, l2, l3] [(2, S a 9)] S h n) ∧
  (∀ (d : Nat) (l0 l1 l2 l3 : Option mx_V) (v0 : mx_V) (S h : mx_H) (n : Int), mx_ex d 30 22 [l0, l1, l2, l3] [v0] S h n = mx_ex d 30 23 [l0, l1, l2, l3] [(0, 2), v0] S h n) ∧
  (∀ (d : Nat) (i a : Int) (l0 l1 l2 l3 : Option mx_V) (S h : mx_H) (n : Int), mx_ex d 30 23 [l0, l1, l2, l3] [(0, i), (2, a)] S h n = mx_gd ((S a (-2) = 20 ∨ S a (-2) = 24) ∧ 0 ≤ i ∧ i < S a (-1)) d 30 24 [l0, l1, l2, l3] [(0, h a i)] S h n) ∧
  (∀ (d : Nat) (a : Int) (l0 l1 l2 l3 : Option mx_V) (S h : mx_H) (n : Int), mx_ex d 30 24 [l0, l1, l2, l3] [(0, a)] S h n = mx_br (a = 0) d 30 27 29 [l0, l1, l2, l3] [] S h n) ∧
  (∀ (d : Nat) (l0 l1 l2 l3 : Option mx_V) (S h : mx_H) (n : Int), mx_ex d 30 27 [l0, l1, l2, l3] [] S h n = mx_ex d 30 28 [l0, l1, l2, l3] [(0, 0)] S h n) ∧
  (∀ (d : Nat) (x : Int) (l0 l1 l2 l3 : Option mx_V) (S h : mx_H) (n : Int), mx_ex d 30 28 [l0, l1, l2, l3] [(0, x)] S h n = mx_re (0 ≤ x ∧ x ≤ 1) (some (0, x)) S h n) ∧
  (∀ (d : Nat) (l0 l1 l2 l3 : Option mx_V) (S h : mx_H) (n : Int), mx_ex d 30 29 [l0, l1, l2, l3] [] S h n = mx_ex d 30 30 [l0, l1, l2, l3] [(0, 2)] S h n) ∧
  (∀ (d : Nat) (x : Int) (l0 l1 l2 l3 : Option mx_V) (S h : mx_H) (n : Int), mx_ex d 30 30 [l0, l1, l2, l3] [(0, x)] S h n = mx_ex d 30 31 [l0, mx_nl l1, some (0, x), l3] [] S h n) ∧
  (∀ (d : Nat) (l0 l1 l2 l3 : Option mx_V) (v0 : mx_V) (S h : mx_H) (n : Int), mx_ex d 30 32 [l0, l1, l2, l3] [v0] S h n = mx_ex d 30 34 [l0, l1, l2, l3] [(0, 16), v0] S h n) ∧
  (∀ (d : Nat) (b a : Int) (l0 l1 l2 l3 : Option mx_V) (S h : mx_H) (n : Int), mx_ex d 30 34 [l0, l1, l2, l3] [(0, b), (0, a)] S h n = mx_br (b < a) d 30 85 37 [l0, l1, l2, l3] [] S h n) ∧
  (∀ (d : Nat) (x : Int) (l1 l2 l3 : Option mx_V) (S h : mx_H) (n : Int), mx_ex d 30 37 [some (2, x), l1, l2, l3] [] S h n = mx_ex d 30 38 [some (2, x), l1, l2, l3] [(2, x)] S h n) ∧
  (∀ (d : Nat) (a : Int) (l0 l1 l2 l3 : Option mx_V) (S h : mx_H) (n : Int), mx_ex d 30 38 [l0, l1, l2, l3] [(2, a)] S h n = mx_gd (9 ≤ S a (-2) ∧ S a (-2) ≤ 9) d 30 41 [l0, l1, l2, l3] [(2, S a 9)] S h n) ∧
  (∀ (d : Nat) (l0 l1 l2 l3 : Option mx_V) (v0 : mx_V) (S h : mx_H) (n : Int), mx_ex d 30 41 [l0, l1, l2, l3] [v0] S h n = mx_ex d 30 42 [l0, l1, l2, l3] [(0, 0), v0] S h n) ∧
  (∀ (d : Nat) (i a : Int) (l0 l1 l2 l3 : Option mx_V) (S h : mx_H) (n : Int), mx_ex d 30 42 [l0, l1, l2, l3] [(0, i), (2, a)] S h n = mx_gd ((S a (-2) = 20 ∨ S a (-2) = 24) ∧ 0 ≤ i ∧ i < S a (-1)) d 30 43 [l0, l1, l2, l3] [(0, h a i)] S h n) ∧
  (∀ (d : Nat) (x : Int) (l0 l1 l3 : Option mx_V) (v0 : mx_V) (S h : mx_H) (n : Int), mx_ex d 30 43 [l0, l1, some (0, x), l3] [v0] S h n = mx_ex d 30 44 [l0, l1, some (0, x), l3] [(0, x), v0] S h n) ∧
  (∀ (d : Nat) (b a : Int) (l0 l1 l2 l3 : Option mx_V) (S h : mx_H) (n : Int), mx_ex d 30 44 [l0, l1, l2, l3] [(0, b), (0, a)] S h n = mx_ex d 30 45 [l0, l1, l2, l3] [(0, mx_shr a b)] S h n) ∧
  (∀ (d : Nat) (l0 l1 l2 l3 : Option mx_V) (v0 : mx_V) (S h : mx_H) (n : Int), mx_ex d 30 45 [l0, l1, l2, l3] [v0] S h n = mx_ex d 30 46 [l0, l1, l2, l3] [(0, 1), v0] S h n) ∧
  (∀ (d : Nat) (b a : Int) (l0 l1 l2 l3 : Option mx_V) (S h : mx_H) (n : Int), mx_ex d 30 46 [l0, l1, l2, l3] [(0, b), (0, a)] S h n = mx_ex d 30 47 [l0, l1, l2, l3] [(0, mx_and a b)] S h n) ∧
  (∀ (d : Nat) (a : Int) (l0 l1 l2 l3 : Option mx_V) (S h : mx_H) (n : Int), mx_ex d 30 47 [l0, l1, l2, l3] [(0, a)] S h n = mx_br (a = 0) d 30 50 53 [l0, l1, l2, l3] [] S h n) ∧
  (∀ (d : Nat) (l0 l1 l2 l3 : Option mx_V) (S h : mx_H) (n : Int), mx_ex d 30 50 [l0, l1, l2, l3] [] S h n = mx_ex d 30 79 [l0, l1, l2, l3] [] S h n) ∧
  (∀ (d : Nat) (l0 l1 l2 l3 : Option mx_V) (S h : mx_H) (n : Int), mx_ex d 30 53 [l0, l1, l2, l3] [] S h n = mx_ex d 30 54 [l0, l1, l2, l3] [(0, 2)] S h n) ∧
  (∀ (d : Nat) (x : Int) (l0 l1 l2 l3 : Option mx_V) (S h : mx_H) (n : Int), mx_ex d 30 54 [l0, l1, l2, l3] [(0, x)] S h n = mx_ex d 30 55 [l0, l1, mx_nl l2, some (0, x)] [] S h n) ∧
  (∀ (d : Nat) (l0 l1 l2 l3 : Option mx_V) (v0 : mx_V) (S h : mx_H) (n : Int), mx_ex d 30 56 [l0, l1, l2, l3] [v0] S h n = mx_ex d 30 58 [l0, l1, l2, l3] [(0, 16), v0] S h n) ∧
  (∀ (d : Nat) (b a : Int) (l0 l1 l2 l3 : Option mx_V) (S h : mx_H) (n : Int), mx_ex d 30 58 [l0, l1, l2, l3] [(0, b), (0, a)] S h n = mx_br (b < a) d 30 79 61 [l0, l1, l2, l3] [] S h n) ∧
  (∀ (d : Nat) (x : Int) (l1 l2 l3 : Option mx_V) (S h : mx_H) (n : Int), mx_ex d 30 61 [some (2, x), l1, l2, l3] [] S h n = mx_ex d 30 62 [some (2, x), l1, l2, l3] [(2, x)] S h n) ∧
  (∀ (d : Nat) (x : Int) (l0 l1 l3 : Option mx_V) (v0 : mx_V) (S h : mx_H) (n : Int), mx_ex d 30 62 [l0, l1, some (0, x), l3] [v0] S h n = mx_ex d 30 63 [l0, l1, some (0, x), l3] [(0, x), v0] S h n) ∧
  (∀ (d : Nat) (x : Int) (l0 l1 l2 : Option mx_V) (v0 v1 : mx_V) (S h : mx_H) (n : Int), mx_ex d 30 63 [l0, l1, l2, some (0, x)] [v0, v1] S h n = mx_ex d 30 64 [l0, l1, l2, some (0, x)] [(0, x), v0, v1] S h n) ∧
  (∀ (d : Nat) (x : Int) (l0 l2 l3 : Option mx_V) (v0 v1 v2 : mx_V) (S h : mx_H) (n : Int), mx_ex d 30 64 [l0, some (0, x), l2, l3] [v0, v1, v2] S h n = mx_ex d 30 65 [l0, some (0, x), l2, l3] [(0, x), v0, v1, v2] S h n) ∧
  (∀ (d : Nat) (x0 x1 x2 a : Int) (l0 l1 l2 l3 : Option mx_V) (S h : mx_H) (n : Int), mx_ex (d + 1) 30 65 [l0, l1, l2, l3] [(0, x0), (0, x1), (0, x2), (2, a)] S h n = mx_cl (S a (-2) = 9) d 31 [(2, a), (0, x2), (0, x1), (0, x0)] 30 68 [l0, l1, l2, l3] [] S h n) ∧
  (∀ (d : Nat) (a : Int) (l0 l1 l2 l3 : Option mx_V) (S h : mx_H) (n : Int), mx_ex d 30 68 [l0, l1, l2, l3] [(0, a)] S h n = mx_br (a = 0) d 30 73 71 [l0, l1, l2, l3] [] S h n) ∧
  (∀ (d : Nat) (l0 l1 l2 l3 : Option mx_V) (S h : mx_H) (n : Int), mx_ex d 30 71 [l0, l1, l2, l3] [] S h n = mx_ex d 30 72 [l0, l1, l2, l3] [(0, 1)] S h n) ∧
  (∀ (d : Nat) (x : Int) (l0 l1 l2 l3 : Option mx_V) (S h : mx_H) (n : Int), mx_ex d 30 72 [l0, l1, l2, l3] [(0, x)] S h n = mx_re (0 ≤ x ∧ x ≤ 1) (some (0, x)) S h n) ∧
  (∀ (d : Nat) (x : Int) (l0 l1 l2 : Option mx_V) (S h : mx_H) (n : Int), mx_ex d 30 73 [l0, l1, l2, some (0, x)] [] S h n = mx_ex d 30 76 [l0, l1, mx_nl l2, some (0, mx_w (x + 1))] [] S h n) ∧
  (∀ (d : Nat) (l0 l1 l2 l3 : Option mx_V) (S h : mx_H) (n : Int), mx_ex d 30 76 [l0, l1, l2, l3] [] S h n = mx_ex d 30 55 [l0, l1, l2, l3] [] S h n) ∧
  (∀ (d : Nat) (x : Int) (l0 l1 l3 : Option mx_V) (S h : mx_H) (n : Int), mx_ex d 30 79 [l0, l1, some (0, x), l3] [] S h n = mx_ex d 30 82 [l0, mx_nl l1, some (0, mx_w (x + 1)), l3] [] S h n) ∧
  (∀ (d : Nat) (l0 l1 l2 l3 : Option mx_V) (S h : mx_H) (n : Int), mx_ex d 30 82 [l0, l1, l2, l3] [] S h n = mx_ex d 30 31 [l0, l1, l2, l3] [] S h n) ∧
  (∀ (d : Nat) (l0 l1 l2 l3 : Option mx_V) (S h : mx_H) (n : Int), mx_ex d 30 85 [l0, l1, l2, l3] [] S h n = mx_ex d 30 86 [l0, l1, l2, l3] [(0, 0)] S h n) ∧
  (∀ (d : Nat) (x : Int) (l0 l1 l2 l3 : Option mx_V) (S h : mx_H) (n : Int), mx_ex d 30 86 [l0, l1, l2, l3] [(0, x)] S h n = mx_re (0 ≤ x ∧ x ≤ 1) (some (0, x)) S h n) :=
  ⟨by intros; exact rfl,
   by intros; exact eq_ld rfl rfl,
   by intros; exact eq_gr rfl,
   by intros; exact eq_push rfl,
   by intros; exact eq_iald rfl,
   by intros; exact eq_if0 rfl,
   by intros; exact eq_ld rfl rfl,
   by intros; exact eq_gr rfl,
   by intros; exact eq_push rfl,
   by intros; exact eq_iald rfl,
   by intros; exact eq_if0 rfl,
   by intros; exact eq_ld rfl rfl,
   by intros; exact eq_gr rfl,
   by intros; exact eq_push rfl,
   by intros; exact eq_iald rfl,
   by intros; exact eq_if1 rfl,
   by intros; exact eq_push rfl,
   by intros; exact eq_rr rfl,
   by intros; exact eq_push rfl,
   by intros; exact eq_st rfl (by decide) (Nat.le_of_ble_eq_true rfl) rfl,
   by intros; exact eq_push rfl,
   by intros; exact eq_ic4 rfl,
   by intros; exact eq_ld rfl rfl,
   by intros; exact eq_gr rfl,
   by intros; exact eq_push rfl,
   by intros; exact eq_iald rfl,
   by intros; exact eq_ld rfl rfl,
   by intros; exact eq_i2 (o := mx_shr) rfl,
   by intros; exact eq_push rfl,
   by intros; exact eq_i2 (o := mx_and) rfl,
   by intros; exact eq_if1 rfl,
   by intros; exact eq_go rfl,
   by intros; exact eq_push rfl,
   by intros; exact eq_st rfl (by decide) (Nat.le_of_ble_eq_true rfl) rfl,
   by intros; exact eq_push rfl,
   by intros; exact eq_ic4 rfl,
   by intros; exact eq_ld rfl rfl,
   by intros; exact eq_ld rfl rfl,
   by intros; exact eq_ld rfl rfl,
   by intros; exact eq_ld rfl rfl,
   by intros; exact eq_cv rfl (Nat.le_of_ble_eq_true rfl) rfl rfl rfl (Nat.le_of_ble_eq_true rfl),
   by intros; exact eq_if0 rfl,
   by intros; exact eq_push rfl,
   by intros; exact eq_rr rfl,
   by intros; exact eq_inc rfl rfl rfl,
   by intros; exact eq_go rfl,
   by intros; exact eq_inc rfl rfl rfl,
   by intros; exact eq_go rfl,
   by intros; exact eq_push rfl,
   by intros; exact eq_rr rfl⟩
theorem rh_X2_thirdBases_94 : ∀ (d : Nat) (x : Int) (l0 l1 l2 l3 l4 l5 : Option mx_V) (S h : mx_H) (n : Int), mx_ex d 31 94 [l0, l1, l2, l3, l4, l5, some (0, x)] [] S h n = mx_ex d 31 96 [l0, l1, l2, l3, l4, l5, some (0, x)] [(0, x)] S h n := by intros; exact eq_ld rfl rfl
theorem rw_X2_thirdBases :
  (∀ (d : Nat) (a0 a1 a2 a3 : Int) (S h : mx_H) (n : Int), mx_M d 31 [(2, a0), (0, a1), (0, a2), (0, a3)] S h n = mx_ex d 31 0 [some (2, a0), some (0, a1), some (0, a2), some (0, a3), none, none, none] [] S h n) ∧
  (∀ (d : Nat) (x : Int) (l1 l2 l3 l4 l5 l6 : Option mx_V) (S h : mx_H) (n : Int), mx_ex d 31 0 [some (2, x), l1, l2, l3, l4, l5, l6] [] S h n = mx_ex d 31 1 [some (2, x), l1, l2, l3, l4, l5, l6] [(2, x)] S h n) ∧
  (∀ (d : Nat) (a : Int) (l0 l1 l2 l3 l4 l5 l6 : Option mx_V) (S h : mx_H) (n : Int), mx_ex d 31 1 [l0, l1, l2, l3, l4, l5, l6] [(2, a)] S h n = mx_gd (9 ≤ S a (-2) ∧ S a (-2) ≤ 9) d 31 4 [l0, l1, l2, l3, l4, l5, l6] [(2, S a 9)] S h n) ∧
  (∀ (d : Nat) (l0 l1 l2 l3 l4 l5 l6 : Option mx_V) (v0 : mx_V) (S h : mx_H) (n : Int), mx_ex d 31 4 [l0, l1, l2, l3, l4, l5, l6] [v0] S h n = mx_ex d 31 5 [l0, l1, l2, l3, l4, l5, l6] [(0, 0), v0] S h n) ∧
  (∀ (d : Nat) (i a : Int) (l0 l1 l2 l3 l4 l5 l6 : Option mx_V) (S h : mx_H) (n : Int), mx_ex d 31 5 [l0, l1, l2, l3, l4, l5, l6] [(0, i), (2, a)] S h n = mx_gd ((S a (-2) = 20 ∨ S a (-2) = 24) ∧ 0 ≤ i ∧ i < S a (-1)) d 31 6 [l0, l1, l2, l3, l4, l5, l6] [(0, h a i)] S h n) ∧
  (∀ (d : Nat) (x : Int) (l0 l2 l3 l4 l5 l6 : Option mx_V) (v0 : mx_V) (S h : mx_H) (n : Int), mx_ex d 31 6 [l0, some (0, x), l2, l3, l4, l5, l6] [v0] S h n = mx_ex d 31 7 [l0, some (0, x), l2, l3, l4, l5, l6] [(0, x), v0] S h n) ∧
  (∀ (d : Nat) (b a : Int) (l0 l1 l2 l3 l4 l5 l6 : Option mx_V) (S h : mx_H) (n : Int), mx_ex d 31 7 [l0, l1, l2, l3, l4, l5, l6] [(0, b), (0, a)] S h n = mx_ex d 31 8 [l0, l1, l2, l3, l4, l5, l6] [(0, mx_shr a b)] S h n) ∧
  (∀ (d : Nat) (l0 l1 l2 l3 l4 l5 l6 : Option mx_V) (v0 : mx_V) (S h : mx_H) (n : Int), mx_ex d 31 8 [l0, l1, l2, l3, l4, l5, l6] [v0] S h n = mx_ex d 31 9 [l0, l1, l2, l3, l4, l5, l6] [(0, 1), v0] S h n) ∧
  (∀ (d : Nat) (b a : Int) (l0 l1 l2 l3 l4 l5 l6 : Option mx_V) (S h : mx_H) (n : Int), mx_ex d 31 9 [l0, l1, l2, l3, l4, l5, l6] [(0, b), (0, a)] S h n = mx_ex d 31 10 [l0, l1, l2, l3, l4, l5, l6] [(0, mx_and a b)] S h n) ∧
  (∀ (d : Nat) (a : Int) (l0 l1 l2 l3 l4 l5 l6 : Option mx_V) (S h : mx_H) (n : Int), mx_ex d 31 10 [l0, l1, l2, l3, l4, l5, l6] [(0, a)] S h n = mx_br (a = 0) d 31 39 13 [l0, l1, l2, l3, l4, l5, l6] [] S h n) ∧
  (∀ (d : Nat) (x : Int) (l1 l2 l3 l4 l5 l6 : Option mx_V) (S h : mx_H) (n : Int), mx_ex d 31 13 [some (2, x), l1, l2, l3, l4, l5, l6] [] S h n = mx_ex d 31 14 [some (2, x), l1, l2, l3, l4, l5, l6] [(2, x)] S h n) ∧
  (∀ (d : Nat) (a : Int) (l0 l1 l2 l3 l4 l5 l6 : Option mx_V) (S h : mx_H) (n : Int), mx_ex d 31 14 [l0, l1, l2, l3, l4, l5, l6] [(2, a)] S h n = mx_gd (9 ≤ S a (-2) ∧ S a (-2) ≤ 9) d 31 17 [l0, l1, l2, l3, l4, l5, l6] [(2, S a 9)] S h n) ∧
  (∀ (d : Nat) (l0 l1 l2 l3 l4 l5 l6 : Option mx_V) (v0 : mx_V) (S h : mx_H) (n : Int), mx_ex d 31 17 [l0, l1, l2, l3, l4, l5, l6] [v0] S h n = mx_ex d 31 18 [l0, l1, l2, l3, l4, l5, l6] [(0, 1), v0] S h n) ∧
  (∀ (d : Nat) (i a : Int) (l0 l1 l2 l3 l4 l5 l6 : Option mx_V) (S h : mx_H) (n : Int), mx_ex d 31 18 [l0, l1, l2, l3, l4, l5, l6] [(0, i), (2, a)] S h n = mx_gd ((S a (-2) = 20 ∨ S a (-2) = 24) ∧ 0 ≤ i ∧ i < S a (-1)) d 31 19 [l0, l1, l2, l3, l4, l5, l6] [(0, h a i)] S h n) ∧
  (∀ (d : Nat) (x : Int) (l1 l2 l3 l4 l5 l6 : Option mx_V) (v0 : mx_V) (S h : mx_H) (n : Int), mx_ex d 31 19 [some (2, x), l1, l2, l3, l4, l5, l6] [v0] S h n = mx_ex d 31 20 [some (2, x), l1, l2, l3, l4, l5, l6] [(2, x), v0] S h n) ∧
  (∀ (d : Nat) (a : Int) (l0 l1 l2 l3 l4 l5 l6 : Option mx_V) (v1 : mx_V) (S h : mx_H) (n : Int), mx_ex d 31 20 [l0, l1, l2, l3, l4, l5, l6] [(2, a), v1] S h n = mx_gd (9 ≤ S a (-2) ∧ S a (-2) ≤ 9) d 31 23 [l0, l1, l2, l3, l4, l5, l6] [(2, S a 9), v1] S h n) ∧
  (∀ (d : Nat) (l0 l1 l2 l3 l4 l5 l6 : Option mx_V) (v0 v1 : mx_V) (S h : mx_H) (n : Int), mx_ex d 31 23 [l0, l1, l2, l3, l4, l5, l6] [v0, v1] S h n = mx_ex d 31 24 [l0, l1, l2, l3, l4, l5, l6] [(0, 3), v0, v1] S h n) ∧
  (∀ (d : Nat) (x : Int) (l0 l2 l3 l4 l5 l6 : Option mx_V) (v0 v1 v2 : mx_V) (S h : mx_H) (n : Int), mx_ex d 31 24 [l0, some (0, x), l2, l3, l4, l5, l6] [v0, v1, v2] S h n = mx_ex d 31 25 [l0, some (0, x), l2, l3, l4, l5, l6] [(0, x), v0, v1, v2] S h n) ∧
  (∀ (d : Nat) (b a : Int) (l0 l1 l2 l3 l4 l5 l6 : Option mx_V) (v2 v3 : mx_V) (S h : mx_H) (n : Int), mx_ex d 31 25 [l0, l1, l2, l3, l4, l5, l6] [(0, b), (0, a), v2, v3] S h n = mx_ex d 31 26 [l0, l1, l2, l3, l4, l5, l6] [(0, mx_w (a + b)), v2, v3] S h n) ∧
  (∀ (d : Nat) (i a : Int) (l0 l1 l2 l3 l4 l5 l6 : Option mx_V) (v2 : mx_V) (S h : mx_H) (n : Int), mx_ex d 31 26 [l0, l1, l2, l3, l4, l5, l6] [(0, i), (2, a), v2] S h n = mx_gd ((S a (-2) = 20 ∨ S a (-2) = 24) ∧ 0 ≤ i ∧ i < S a (-1)) d 31 27 [l0, l1, l2, l3, l4, l5, l6] [(0, h a i), v2] S h n) ∧
  (∀ (d : Nat) (b a : Int) (l0 l1 l2 l3 l4 l5 l6 : Option mx_V) (S h : mx_H) (n : Int), mx_ex d 31 27 [l0, l1, l2, l3, l4, l5, l6] [(0, b), (0, a)] S h n = mx_ex d 31 28 [l0, l1, l2, l3, l4, l5, l6] [(0, mx_and a b)] S h n) ∧
  (∀ (d : Nat) (l0 l1 l2 l3 l4 l5 l6 : Option mx_V) (v0 : mx_V) (S h : mx_H) (n : Int), mx_ex d 31 28 [l0, l1, l2, l3, l4, l5, l6] [v0] S h n = mx_ex d 31 29 [l0, l1, l2, l3, l4, l5, l6] [(0, 1), v0] S h n) ∧
  (∀ (d : Nat) (x : Int) (l0 l1 l3 l4 l5 l6 : Option mx_V) (v0 v1 : mx_V) (S h : mx_H) (n : Int), mx_ex d 31 29 [l0, l1, some (0, x), l3, l4, l5, l6] [v0, v1] S h n = mx_ex d 31 30 [l0, l1, some (0, x), l3, l4, l5, l6] [(0, x), v0, v1] S h n) ∧
  (∀ (d : Nat) (b a : Int) (l0 l1 l2 l3 l4 l5 l6 : Option mx_V) (v2 : mx_V) (S h : mx_H) (n : Int), mx_ex d 31 30 [l0, l1, l2, l3, l4, l5, l6] [(0, b), (0, a), v2] S h n = mx_ex d 31 31 [l0, l1, l2, l3, l4, l5, l6] [(0, mx_shl a b), v2] S h n) ∧
  (∀ (d : Nat) (b a : Int) (l0 l1 l2 l3 l4 l5 l6 : Option mx_V) (S h : mx_H) (n : Int), mx_ex d 31 31 [l0, l1, l2, l3, l4, l5, l6] [(0, b), (0, a)] S h n = mx_ex d 31 32 [l0, l1, l2, l3, l4, l5, l6] [(0, mx_and a b)] S h n) ∧
  (∀ (d : Nat) (a : Int) (l0 l1 l2 l3 l4 l5 l6 : Option mx_V) (S h : mx_H) (n : Int), mx_ex d 31 32 [l0, l1, l2, l3, l4, l5, l6] [(0, a)] S h n = mx_br (a = 0) d 31 39 35 [l0, l1, l2, l3, l4, l5, l6] [] S h n) ∧
  (∀ (d : Nat) (l0 l1 l2 l3 l4 l5 l6 : Option mx_V) (S h : mx_H) (n : Int), mx_ex d 31 35 [l0, l1, l2, l3, l4, l5, l6] [] S h n = mx_ex d 31 36 [l0, l1, l2, l3, l4, l5, l6] [(0, 1)] S h n) ∧
  (∀ (d : Nat) (l0 l1 l2 l3 l4 l5 l6 : Option mx_V) (v0 : mx_V) (S h : mx_H) (n : Int), mx_ex d 31 36 [l0, l1, l2, l3, l4, l5, l6] [v0] S h n = mx_ex d 31 40 [l0, l1, l2, l3, l4, l5, l6] [v0] S h n) ∧
  (∀ (d : Nat) (l0 l1 l2 l3 l4 l5 l6 : Option mx_V) (S h : mx_H) (n : Int), mx_ex d 31 39 [l0, l1, l2, l3, l4, l5, l6] [] S h n = mx_ex d 31 40 [l0, l1, l2, l3, l4, l5, l6] [(0, 0)] S h n) ∧
  (∀ (d : Nat) (x : Int) (l0 l1 l2 l3 l4 l5 l6 : Option mx_V) (S h : mx_H) (n : Int), mx_ex d 31 40 [l0, l1, l2, l3, l4, l5, l6] [(0, x)] S h n = mx_ex d 31 42 [l0, l1, l2, mx_nl l3, some (0, x), l5, l6] [] S h n) ∧
  (∀ (d : Nat) (x : Int) (l0 l1 l2 l3 l5 l6 : Option mx_V) (S h : mx_H) (n : Int), mx_ex d 31 42 [l0, l1, l2, l3, some (0, x), l5, l6] [] S h n = mx_ex d 31 44 [l0, l1, l2, l3, some (0, x), l5, l6] [(0, x)] S h n) ∧
  (∀ (d : Nat) (a : Int) (l0 l1 l2 l3 l4 l5 l6 : Option mx_V) (S h : mx_H) (n : Int), mx_ex d 31 44 [l0, l1, l2, l3, l4, l5, l6] [(0, a)] S h n = mx_br (a = 0) d 31 47 49 [l0, l1, l2, l3, l4, l5, l6] [] S h n) ∧
  (∀ (d : Nat) (l0 l1 l2 l3 l4 l5 l6 : Option mx_V) (S h : mx_H) (n : Int), mx_ex d 31 47 [l0, l1, l2, l3, l4, l5, l6] [] S h n = mx_ex d 31 48 [l0, l1, l2, l3, l4, l5, l6] [(0, 0)] S h n) ∧
  (∀ (d : Nat) (x : Int) (l0 l1 l2 l3 l4 l5 l6 : Option mx_V) (S h : mx_H) (n : Int), mx_ex d 31 48 [l0, l1, l2, l3, l4, l5, l6] [(0, x)] S h n = some (some (0, x), S, h, n)) ∧
  (∀ (d : Nat) (x : Int) (l1 l2 l3 l4 l5 l6 : Option mx_V) (S h : mx_H) (n : Int), mx_ex d 31 49 [some (2, x), l1, l2, l3, l4, l5, l6] [] S h n = mx_ex d 31 50 [some (2, x), l1, l2, l3, l4, l5, l6] [(2, x)] S h n) ∧
  (∀ (d : Nat) (a : Int) (l0 l1 l2 l3 l4 l5 l6 : Option mx_V) (S h : mx_H) (n : Int), mx_ex d 31 50 [l0, l1, l2, l3, l4, l5, l6] [(2, a)] S h n = mx_gd (9 ≤ S a (-2) ∧ S a (-2) ≤ 9) d 31 53 [l0, l1, l2, l3, l4, l5, l6] [(2, S a 9)] S h n) ∧
  (∀ (d : Nat) (l0 l1 l2 l3 l4 l5 l6 : Option mx_V) (v0 : mx_V) (S h : mx_H) (n : Int), mx_ex d 31 53 [l0, l1, l2, l3, l4, l5, l6] [v0] S h n = mx_ex d 31 54 [l0, l1, l2, l3, l4, l5, l6] [(0, 2), v0] S h n) ∧
  (∀ (d : Nat) (i a : Int) (l0 l1 l2 l3 l4 l5 l6 : Option mx_V) (S h : mx_H) (n : Int), mx_ex d 31 54 [l0, l1, l2, l3, l4, l5, l6] [(0, i), (2, a)] S h n = mx_gd ((S a (-2) = 20 ∨ S a (-2) = 24) ∧ 0 ≤ i ∧ i < S a (-1)) d 31 55 [l0, l1, l2, l3, l4, l5, l6] [(0, h a i)] S h n) ∧
  (∀ (d : Nat) (x : Int) (l1 l2 l3 l4 l5 l6 : Option mx_V) (v0 : mx_V) (S h : mx_H) (n : Int), mx_ex d 31 55 [some (2, x), l1, l2, l3, l4, l5, l6] [v0] S h n = mx_ex d 31 56 [some (2, x), l1, l2, l3, l4, l5, l6] [(2, x), v0] S h n) ∧
  (∀ (d : Nat) (a : Int) (l0 l1 l2 l3 l4 l5 l6 : Option mx_V) (v1 : mx_V) (S h : mx_H) (n : Int), mx_ex d 31 56 [l0, l1, l2, l3, l4, l5, l6] [(2, a), v1] S h n = mx_gd (9 ≤ S a (-2) ∧ S a (-2) ≤ 9) d 31 59 [l0, l1, l2, l3, l4, l5, l6] [(2, S a 9), v1] S h n) ∧
  (∀ (d : Nat) (l0 l1 l2 l3 l4 l5 l6 : Option mx_V) (v0 v1 : mx_V) (S h : mx_H) (n : Int), mx_ex d 31 59 [l0, l1, l2, l3, l4, l5, l6] [v0, v1] S h n = mx_ex d 31 61 [l0, l1, l2, l3, l4, l5, l6] [(0, 20), v0, v1] S h n) ∧
  (∀ (d : Nat) (x : Int) (l0 l2 l3 l4 l5 l6 : Option mx_V) (v0 v1 v2 : mx_V) (S h : mx_H) (n : Int), mx_ex d 31 61 [l0, some (0, x), l2, l3, l4, l5, l6] [v0, v1, v2] S h n = mx_ex d 31 62 [l0, some (0, x), l2, l3, l4, l5, l6] [(0, x), v0, v1, v2] S h n) ∧
  (∀ (d : Nat) (b a : Int) (l0 l1 l2 l3 l4 l5 l6 : Option mx_V) (v2 v3 : mx_V) (S h : mx_H) (n : Int), mx_ex d 31 62 [l0, l1, l2, l3, l4, l5, l6] [(0, b), (0, a), v2, v3] S h n = mx_ex d 31 63 [l0, l1, l2, l3, l4, l5, l6] [(0, mx_w (a + b)), v2, v3] S h n) ∧
  (∀ (d : Nat) (i a : Int) (l0 l1 l2 l3 l4 l5 l6 : Option mx_V) (v2 : mx_V) (S h : mx_H) (n : Int), mx_ex d 31 63 [l0, l1, l2, l3, l4, l5, l6] [(0, i), (2, a), v2] S h n = mx_gd ((S a (-2) = 20 ∨ S a (-2) = 24) ∧ 0 ≤ i ∧ i < S a (-1)) d 31 64 [l0, l1, l2, l3, l4, l5, l6] [(0, h a i), v2] S h n) ∧
  (∀ (d : Nat) (b a : Int) (l0 l1 l2 l3 l4 l5 l6 : Option mx_V) (S h : mx_H) (n : Int), mx_ex d 31 64 [l0, l1, l2, l3, l4, l5, l6] [(0, b), (0, a)] S h n = mx_ex d 31 65 [l0, l1, l2, l3, l4, l5, l6] [(0, mx_and a b)] S h n) ∧
  (∀ (d : Nat) (x : Int) (l1 l2 l3 l4 l5 l6 : Option mx_V) (v0 : mx_V) (S h : mx_H) (n : Int), mx_ex d 31 65 [some (2, x), l1, l2, l3, l4, l5, l6] [v0] S h n = mx_ex d 31 66 [some (2, x), l1, l2, l3, l4, l5, l6] [(2, x), v0] S h n) ∧
  (∀ (d : Nat) (a : Int) (l0 l1 l2 l3 l4 l5 l6 : Option mx_V) (v1 : mx_V) (S h : mx_H) (n : Int), mx_ex d 31 66 [l0, l1, l2, l3, l4, l5, l6] [(2, a), v1] S h n = mx_gd (9 ≤ S a (-2) ∧ S a (-2) ≤ 9) d 31 69 [l0, l1, l2, l3, l4, l5, l6] [(2, S a 9), v1] S h n) ∧
  (∀ (d : Nat) (l0 l1 l2 l3 l4 l5 l6 : Option mx_V) (v0 v1 : mx_V) (S h : mx_H) (n : Int), mx_ex d 31 69 [l0, l1, l2, l3, l4, l5, l6] [v0, v1] S h n = mx_ex d 31 71 [l0, l1, l2, l3, l4, l5, l6] [(0, 37), v0, v1] S h n) ∧
  (∀ (d : Nat) (x : Int) (l0 l1 l3 l4 l5 l6 : Option mx_V) (v0 v1 v2 : mx_V) (S h : mx_H) (n : Int), mx_ex d 31 71 [l0, l1, some (0, x), l3, l4, l5, l6] [v0, v1, v2] S h n = mx_ex d 31 72 [l0, l1, some (0, x), l3, l4, l5, l6] [(0, x), v0, v1, v2] S h n) ∧
  (∀ (d : Nat) (b a : Int) (l0 l1 l2 l3 l4 l5 l6 : Option mx_V) (v2 v3 : mx_V) (S h : mx_H) (n : Int), mx_ex d 31 72 [l0, l1, l2, l3, l4, l5, l6] [(0, b), (0, a), v2, v3] S h n = mx_ex d 31 73 [l0, l1, l2, l3, l4, l5, l6] [(0, mx_w (a + b)), v2, v3] S h n) ∧
  (∀ (d : Nat) (i a : Int) (l0 l1 l2 l3 l4 l5 l6 : Option mx_V) (v2 : mx_V) (S h : mx_H) (n : Int), mx_ex d 31 73 [l0, l1, l2, l3, l4, l5, l6] [(0, i), (2, a), v2] S h n = mx_gd ((S a (-2) = 20 ∨ S a (-2) = 24) ∧ 0 ≤ i ∧ i < S a (-1)) d 31 74 [l0, l1, l2, l3, l4, l5, l6] [(0, h a i), v2] S h n) ∧
  (∀ (d : Nat) (b a : Int) (l0 l1 l2 l3 l4 l5 l6 : Option mx_V) (S h : mx_H) (n : Int), mx_ex d 31 74 [l0, l1, l2, l3, l4, l5, l6] [(0, b), (0, a)] S h n = mx_ex d 31 75 [l0, l1, l2, l3, l4, l5, l6] [(0, mx_and a b)] S h n) ∧
  (∀ (d : Nat) (x : Int) (l0 l1 l2 l3 l4 l5 l6 : Option mx_V) (S h : mx_H) (n : Int), mx_ex d 31 75 [l0, l1, l2, l3, l4, l5, l6] [(0, x)] S h n = mx_ex d 31 77 [l0, l1, l2, l3, mx_nl l4, some (0, x), l6] [] S h n) ∧
  (∀ (d : Nat) (x : Int) (l1 l2 l3 l4 l5 l6 : Option mx_V) (S h : mx_H) (n : Int), mx_ex d 31 77 [some (2, x), l1, l2, l3, l4, l5, l6] [] S h n = mx_ex d 31 78 [some (2, x), l1, l2, l3, l4, l5, l6] [(2, x)] S h n) ∧
  (∀ (d : Nat) (a : Int) (l0 l1 l2 l3 l4 l5 l6 : Option mx_V) (S h : mx_H) (n : Int), mx_ex d 31 78 [l0, l1, l2, l3, l4, l5, l6] [(2, a)] S h n = mx_gd (9 ≤ S a (-2) ∧ S a (-2) ≤ 9) d 31 81 [l0, l1, l2, l3, l4, l5, l6] [(2, S a 1)] S h n) ∧
  (∀ (d : Nat) (l0 l1 l2 l3 l4 l5 l6 : Option mx_V) (v0 : mx_V) (S h : mx_H) (n : Int), mx_ex d 31 81 [l0, l1, l2, l3, l4, l5, l6] [v0] S h n = mx_ex d 31 82 [l0, l1, l2, l3, l4, l5, l6] [(0, 0), v0] S h n) ∧
  (∀ (d : Nat) (x : Int) (l0 l2 l3 l4 l5 l6 : Option mx_V) (v0 v1 : mx_V) (S h : mx_H) (n : Int), mx_ex d 31 82 [l0, some (0, x), l2, l3, l4, l5, l6] [v0, v1] S h n = mx_ex d 31 83 [l0, some (0, x), l2, l3, l4, l5, l6] [(0, x), v0, v1] S h n) ∧
  (∀ (d : Nat) (v i a : Int) (l0 l1 l2 l3 l4 l5 l6 : Option mx_V) (S h : mx_H) (n : Int), mx_ex d 31 83 [l0, l1, l2, l3, l4, l5, l6] [(0, v), (0, i), (2, a)] S h n = mx_gd (S a (-2) = 20 ∧ 0 ≤ i ∧ i < S a (-1)) d 31 84 [l0, l1, l2, l3, l4, l5, l6] [] S (mx_u h a i v) n) ∧
  (∀ (d : Nat) (x : Int) (l1 l2 l3 l4 l5 l6 : Option mx_V) (S h : mx_H) (n : Int), mx_ex d 31 84 [some (2, x), l1, l2, l3, l4, l5, l6] [] S h n = mx_ex d 31 85 [some (2, x), l1, l2, l3, l4, l5, l6] [(2, x)] S h n) ∧
  (∀ (d : Nat) (a : Int) (l0 l1 l2 l3 l4 l5 l6 : Option mx_V) (S h : mx_H) (n : Int), mx_ex d 31 85 [l0, l1, l2, l3, l4, l5, l6] [(2, a)] S h n = mx_gd (9 ≤ S a (-2) ∧ S a (-2) ≤ 9) d 31 88 [l0, l1, l2, l3, l4, l5, l6] [(2, S a 1)] S h n) ∧
  (∀ (d : Nat) (l0 l1 l2 l3 l4 l5 l6 : Option mx_V) (v0 : mx_V) (S h : mx_H) (n : Int), mx_ex d 31 88 [l0, l1, l2, l3, l4, l5, l6] [v0] S h n = mx_ex d 31 89 [l0, l1, l2, l3, l4, l5, l6] [(0, 1), v0] S h n) ∧
  (∀ (d : Nat) (x : Int) (l0 l1 l3 l4 l5 l6 : Option mx_V) (v0 v1 : mx_V) (S h : mx_H) (n : Int), mx_ex d 31 89 [l0, l1, some (0, x), l3, l4, l5, l6] [v0, v1] S h n = mx_ex d 31 90 [l0, l1, some (0, x), l3, l4, l5, l6] [(0, x), v0, v1] S h n) ∧
  (∀ (d : Nat) (v i a : Int) (l0 l1 l2 l3 l4 l5 l6 : Option mx_V) (S h : mx_H) (n : Int), mx_ex d 31 90 [l0, l1, l2, l3, l4, l5, l6] [(0, v), (0, i), (2, a)] S h n = mx_gd (S a (-2) = 20 ∧ 0 ≤ i ∧ i < S a (-1)) d 31 91 [l0, l1, l2, l3, l4, l5, l6] [] S (mx_u h a i v) n) ∧
  (∀ (d : Nat) (l0 l1 l2 l3 l4 l5 l6 : Option mx_V) (S h : mx_H) (n : Int), mx_ex d 31 91 [l0, l1, l2, l3, l4, l5, l6] [] S h n = mx_ex d 31 92 [l0, l1, l2, l3, l4, l5, l6] [(0, 0)] S h n) ∧
  (∀ (d : Nat) (x : Int) (l0 l1 l2 l3 l4 l5 l6 : Option mx_V) (S h : mx_H) (n : Int), mx_ex d 31 92 [l0, l1, l2, l3, l4, l5, l6] [(0, x)] S h n = mx_ex d 31 94 [l0, l1, l2, l3, l4, mx_nl l5, some (0, x)] [] S h n) ∧
  (∀ (d : Nat) (x : Int) (l1 l2 l3 l4 l5 l6 : Option mx_V) (v0 : mx_V) (S h : mx_H) (n : Int), mx_ex d 31 96 [some (2, x), l1, l2, l3, l4, l5, l6] [v0] S h n = mx_ex d 31 97 [some (2, x), l1, l2, l3, l4, l5, l6] [(2, x), v0] S h n) ∧
  (∀ (d : Nat) (a : Int) (l0 l1 l2 l3 l4 l5 l6 : Option mx_V) (v1 : mx_V) (S h : mx_H) (n : Int), mx_ex d 31 97 [l0, l1, l2, l3, l4, l5, l6] [(2, a), v1] S h n = mx_gd (9 ≤ S a (-2) ∧ S a (-2) ≤ 9) d 31 100 [l0, l1, l2, l3, l4, l5, l6] [(2, S a 0), v1] S h n) ∧
  (∀ (d : Nat) (a : Int) (l0 l1 l2 l3 l4 l5 l6 : Option mx_V) (v1 : mx_V) (S h : mx_H) (n : Int), mx_ex d 31 100 [l0, l1, l2, l3, l4, l5, l6] [(2, a), v1] S h n = mx_gd (8 ≤ S a (-2) ∧ S a (-2) ≤ 8) d 31 103 [l0, l1, l2, l3, l4, l5, l6] [(0, h a 4), v1] S h n) ∧
  (∀ (d : Nat) (b a : Int) (l0 l1 l2 l3 l4 l5 l6 : Option mx_V) (S h : mx_H) (n : Int), mx_ex d 31 103 [l0, l1, l2, l3, l4, l5, l6] [(0, b), (0, a)] S h n = mx_br (a < b) d 31 106 149 [l0, l1, l2, l3, l4, l5, l6] [] S h n) ∧
  (∀ (d : Nat) (x : Int) (l0 l1 l2 l3 l4 l6 : Option mx_V) (S h : mx_H) (n : Int), mx_ex d 31 106 [l0, l1, l2, l3, l4, some (0, x), l6] [] S h n = mx_ex d 31 108 [l0, l1, l2, l3, l4, some (0, x), l6] [(0, x)] S h n) :=
  ⟨by intros; exact rfl,
   by intros; exact eq_ld rfl rfl,
   by intros; exact eq_gr rfl,
   by intros; exact eq_push rfl,
   by intros; exact eq_iald rfl,
   by intros; exact eq_ld rfl rfl,
   by intros; exact eq_i2 (o := mx_shr) rfl,
   by intros; exact eq_push rfl,
   by intros; exact eq_i2 (o := mx_and) rfl,
   by intros; exact eq_if0 rfl,
   by intros; exact eq_ld rfl rfl,
   by intros; exact eq_gr rfl,
   by intros; exact eq_push rfl,
   by intros; exact eq_iald rfl,
   by intros; exact eq_ld rfl rfl,
   by intros; exact eq_gr rfl,
   by intros; exact eq_push rfl,
   by intros; exact eq_ld rfl rfl,
   by intros; exact eq_i2 (o := mx_add) rfl,
   by intros; exact eq_iald rfl,
   by intros; exact eq_i2 (o := mx_and) rfl,
   by intros; exact eq_push rfl,
   by intros; exact eq_ld rfl rfl,
   by intros; exact eq_i2 (o := mx_shl) rfl,
   by intros; exact eq_i2 (o := mx_and) rfl,
   by intros; exact eq_if0 rfl,
   by intros; exact eq_push rfl,
   by intros; exact eq_go rfl,
   by intros; exact eq_push rfl,
   by intros; exact eq_st rfl (by decide) (Nat.le_of_ble_eq_true rfl) rfl,
   by intros; exact eq_ld rfl rfl,
   by intros; exact eq_if1 rfl,
   by intros; exact eq_push rfl,
   by intros; exact eq_ret rfl,
   by intros; exact eq_ld rfl rfl,
   by intros; exact eq_gr rfl,
   by intros; exact eq_push rfl,
   by intros; exact eq_iald rfl,
   by intros; exact eq_ld rfl rfl,
   by intros; exact eq_gr rfl,
   by intros; exact eq_push rfl,
   by intros; exact eq_ld rfl rfl,
   by intros; exact eq_i2 (o := mx_add) rfl,
   by intros; exact eq_iald rfl,
   by intros; exact eq_i2 (o := mx_and) rfl,
   by intros; exact eq_ld rfl rfl,
   by intros; exact eq_gr rfl,
   by intros; exact eq_push rfl,
   by intros; exact eq_ld rfl rfl,
   by intros; exact eq_i2 (o := mx_add) rfl,
   by intros; exact eq_iald rfl,
   by intros; exact eq_i2 (o := mx_and) rfl,
   by intros; exact eq_st rfl (by decide) (Nat.le_of_ble_eq_true rfl) rfl,
   by intros; exact eq_ld rfl rfl,
   by intros; exact eq_gr rfl,
   by intros; exact eq_push rfl,
   by intros; exact eq_ld rfl rfl,
   by intros; exact eq_iast rfl,
   by intros; exact eq_ld rfl rfl,
   by intros; exact eq_gr rfl,
   by intros; exact eq_push rfl,
   by intros; exact eq_ld rfl rfl,
   by intros; exact eq_iast rfl,
   by intros; exact eq_push rfl,
   by intros; exact eq_st rfl (by decide) (Nat.le_of_ble_eq_true rfl) rfl,
   by intros; exact eq_ld rfl rfl,
   by intros; exact eq_gr rfl,
   by intros; exact eq_gi rfl,
   by intros; exact eq_ic3 rfl,
   by intros; exact eq_ld rfl rfl⟩
theorem rw_X2_thirdBases_1 :
  (∀ (d : Nat) (a : Int) (l0 l1 l2 l3 l4 l5 l6 : Option mx_V) (S h : mx_H) (n : Int), mx_ex d 31 108 [l0, l1, l2, l3, l4, l5, l6] [(0, a)] S h n = mx_br (a = 0) d 31 149 111 [l0, l1, l2, l3, l4, l5, l6] [] S h n) ∧
  (∀ (d : Nat) (x : Int) (l0 l1 l2 l4 l5 l6 : Option mx_V) (S h : mx_H) (n : Int), mx_ex d 31 111 [l0, l1, l2, some (0, x), l4, l5, l6] [] S h n = mx_ex d 31 112 [l0, l1, l2, some (0, x), l4, l5, l6] [(0, x)] S h n) ∧
  (∀ (d : Nat) (x : Int) (l0 l1 l2 l3 l4 l5 : Option mx_V) (v0 : mx_V) (S h : mx_H) (n : Int), mx_ex d 31 112 [l0, l1, l2, l3, l4, l5, some (0, x)] [v0] S h n = mx_ex d 31 114 [l0, l1, l2, l3, l4, l5, some (0, x)] [(0, x), v0] S h n) ∧
  (∀ (d : Nat) (b a : Int) (l0 l1 l2 l3 l4 l5 l6 : Option mx_V) (S h : mx_H) (n : Int), mx_ex d 31 114 [l0, l1, l2, l3, l4, l5, l6] [(0, b), (0, a)] S h n = mx_ex d 31 115 [l0, l1, l2, l3, l4, l5, l6] [(0, mx_shr a b)] S h n) ∧
  (∀ (d : Nat) (l0 l1 l2 l3 l4 l5 l6 : Option mx_V) (v0 : mx_V) (S h : mx_H) (n : Int), mx_ex d 31 115 [l0, l1, l2, l3, l4, l5, l6] [v0] S h n = mx_ex d 31 116 [l0, l1, l2, l3, l4, l5, l6] [(0, 1), v0] S h n) ∧
  (∀ (d : Nat) (b a : Int) (l0 l1 l2 l3 l4 l5 l6 : Option mx_V) (S h : mx_H) (n : Int), mx_ex d 31 116 [l0, l1, l2, l3, l4, l5, l6] [(0, b), (0, a)] S h n = mx_ex d 31 117 [l0, l1, l2, l3, l4, l5, l6] [(0, mx_and a b)] S h n) ∧
  (∀ (d : Nat) (a : Int) (l0 l1 l2 l3 l4 l5 l6 : Option mx_V) (S h : mx_H) (n : Int), mx_ex d 31 117 [l0, l1, l2, l3, l4, l5, l6] [(0, a)] S h n = mx_br (a = 0) d 31 143 120 [l0, l1, l2, l3, l4, l5, l6] [] S h n) ∧
  (∀ (d : Nat) (x : Int) (l1 l2 l3 l4 l5 l6 : Option mx_V) (S h : mx_H) (n : Int), mx_ex d 31 120 [some (2, x), l1, l2, l3, l4, l5, l6] [] S h n = mx_ex d 31 121 [some (2, x), l1, l2, l3, l4, l5, l6] [(2, x)] S h n) ∧
  (∀ (d : Nat) (a : Int) (l0 l1 l2 l3 l4 l5 l6 : Option mx_V) (S h : mx_H) (n : Int), mx_ex d 31 121 [l0, l1, l2, l3, l4, l5, l6] [(2, a)] S h n = mx_gd (9 ≤ S a (-2) ∧ S a (-2) ≤ 9) d 31 124 [l0, l1, l2, l3, l4, l5, l6] [(2, S a 8)] S h n) ∧
  (∀ (d : Nat) (x : Int) (l0 l1 l2 l3 l4 l5 : Option mx_V) (v0 : mx_V) (S h : mx_H) (n : Int), mx_ex d 31 124 [l0, l1, l2, l3, l4, l5, some (0, x)] [v0] S h n = mx_ex d 31 126 [l0, l1, l2, l3, l4, l5, some (0, x)] [(0, x), v0] S h n) ∧
  (∀ (d : Nat) (i a : Int) (l0 l1 l2 l3 l4 l5 l6 : Option mx_V) (S h : mx_H) (n : Int), mx_ex d 31 126 [l0, l1, l2, l3, l4, l5, l6] [(0, i), (2, a)] S h n = mx_gd ((S a (-2) = 20 ∨ S a (-2) = 24) ∧ 0 ≤ i ∧ i < S a (-1)) d 31 127 [l0, l1, l2, l3, l4, l5, l6] [(0, h a i)] S h n) ∧
  (∀ (d : Nat) (l0 l1 l2 l3 l4 l5 l6 : Option mx_V) (v0 : mx_V) (S h : mx_H) (n : Int), mx_ex d 31 127 [l0, l1, l2, l3, l4, l5, l6] [v0] S h n = mx_ex d 31 129 [l0, l1, l2, l3, l4, l5, l6] [(0, 7), v0] S h n) ∧
  (∀ (d : Nat) (b a : Int) (l0 l1 l2 l3 l4 l5 l6 : Option mx_V) (S h : mx_H) (n : Int), mx_ex d 31 129 [l0, l1, l2, l3, l4, l5, l6] [(0, b), (0, a)] S h n = mx_br (a = b) d 31 132 143 [l0, l1, l2, l3, l4, l5, l6] [] S h n) ∧
  (∀ (d : Nat) (x : Int) (l1 l2 l3 l4 l5 l6 : Option mx_V) (S h : mx_H) (n : Int), mx_ex d 31 132 [some (2, x), l1, l2, l3, l4, l5, l6] [] S h n = mx_ex d 31 133 [some (2, x), l1, l2, l3, l4, l5, l6] [(2, x)] S h n) ∧
  (∀ (d : Nat) (x : Int) (l0 l1 l2 l3 l4 l5 : Option mx_V) (v0 : mx_V) (S h : mx_H) (n : Int), mx_ex d 31 133 [l0, l1, l2, l3, l4, l5, some (0, x)] [v0] S h n = mx_ex d 31 135 [l0, l1, l2, l3, l4, l5, some (0, x)] [(0, x), v0] S h n) ∧
  (∀ (d : Nat) (l0 l1 l2 l3 l4 l5 l6 : Option mx_V) (v0 v1 : mx_V) (S h : mx_H) (n : Int), mx_ex d 31 135 [l0, l1, l2, l3, l4, l5, l6] [v0, v1] S h n = mx_ex d 31 136 [l0, l1, l2, l3, l4, l5, l6] [(0, 2), v0, v1] S h n) ∧
  (∀ (d : Nat) (x : Int) (l0 l1 l2 l3 l4 l6 : Option mx_V) (v0 v1 v2 : mx_V) (S h : mx_H) (n : Int), mx_ex d 31 136 [l0, l1, l2, l3, l4, some (0, x), l6] [v0, v1, v2] S h n = mx_ex d 31 138 [l0, l1, l2, l3, l4, some (0, x), l6] [(0, x), v0, v1, v2] S h n) ∧
  (∀ (d : Nat) (x0 x1 x2 a : Int) (l0 l1 l2 l3 l4 l5 l6 : Option mx_V) (S h : mx_H) (n : Int), mx_ex (d + 1) 31 138 [l0, l1, l2, l3, l4, l5, l6] [(0, x0), (0, x1), (0, x2), (2, a)] S h n = mx_cl (S a (-2) = 9) d 28 [(2, a), (0, x2), (0, x1), (0, x0)] 31 141 [l0, l1, l2, l3, l4, l5, l6] [] S h n) ∧
  (∀ (d : Nat) (x : Int) (l0 l1 l2 l3 l4 l5 l6 : Option mx_V) (S h : mx_H) (n : Int), mx_ex d 31 141 [l0, l1, l2, l3, l4, l5, l6] [(0, x)] S h n = mx_ex d 31 143 [l0, l1, l2, l3, mx_nl l4, some (0, x), l6] [] S h n) ∧
  (∀ (d : Nat) (x : Int) (l0 l1 l2 l3 l4 l5 : Option mx_V) (S h : mx_H) (n : Int), mx_ex d 31 143 [l0, l1, l2, l3, l4, l5, some (0, x)] [] S h n = mx_ex d 31 146 [l0, l1, l2, l3, l4, mx_nl l5, some (0, mx_w (x + 1))] [] S h n) ∧
  (∀ (d : Nat) (l0 l1 l2 l3 l4 l5 l6 : Option mx_V) (S h : mx_H) (n : Int), mx_ex d 31 146 [l0, l1, l2, l3, l4, l5, l6] [] S h n = mx_ex d 31 94 [l0, l1, l2, l3, l4, l5, l6] [] S h n) ∧
  (∀ (d : Nat) (x : Int) (l0 l1 l2 l3 l4 l6 : Option mx_V) (S h : mx_H) (n : Int), mx_ex d 31 149 [l0, l1, l2, l3, l4, some (0, x), l6] [] S h n = mx_ex d 31 151 [l0, l1, l2, l3, l4, some (0, x), l6] [(0, x)] S h n) ∧
  (∀ (d : Nat) (x : Int) (l0 l1 l2 l3 l4 l5 l6 : Option mx_V) (S h : mx_H) (n : Int), mx_ex d 31 151 [l0, l1, l2, l3, l4, l5, l6] [(0, x)] S h n = some (some (0, x), S, h, n)) :=
  ⟨by intros; exact eq_if0 rfl,
   by intros; exact eq_ld rfl rfl,
   by intros; exact eq_ld rfl rfl,
   by intros; exact eq_i2 (o := mx_shr) rfl,
   by intros; exact eq_push rfl,
   by intros; exact eq_i2 (o := mx_and) rfl,
   by intros; exact eq_if0 rfl,
   by intros; exact eq_ld rfl rfl,
   by intros; exact eq_gr rfl,
   by intros; exact eq_ld rfl rfl,
   by intros; exact eq_iald rfl,
   by intros; exact eq_push rfl,
   by intros; exact eq_ic1 rfl,
   by intros; exact eq_ld rfl rfl,
   by intros; exact eq_ld rfl rfl,
   by intros; exact eq_push rfl,
   by intros; exact eq_ld rfl rfl,
   by intros; exact eq_cv rfl (Nat.le_of_ble_eq_true rfl) rfl rfl rfl (Nat.le_of_ble_eq_true rfl),
   by intros; exact eq_st rfl (by decide) (Nat.le_of_ble_eq_true rfl) rfl,
   by intros; exact eq_inc rfl rfl rfl,
   by intros; exact eq_go rfl,
   by intros; exact eq_ld rfl rfl,
   by intros; exact eq_ret rfl⟩
theorem rh_X2_fill_23 : ∀ (d : Nat) (x : Int) (l0 l1 l3 l4 : Option mx_V) (S h : mx_H) (n : Int), mx_ex d 32 23 [l0, l1, some (0, x), l3, l4] [] S h n = mx_ex d 32 24 [l0, l1, some (0, x), l3, l4] [(0, x)] S h n := by intros; exact eq_ld rfl rfl
theorem rh_X2_fill_31 : ∀ (d : Nat) (x : Int) (l0 l1 l2 l4 : Option mx_V) (S h : mx_H) (n : Int), mx_ex d 32 31 [l0, l1, l2, some (0, x), l4] [] S h n = mx_ex d 32 32 [l0, l1, l2, some (0, x), l4] [(0, x)] S h n := by intros; exact eq_ld rfl rfl
theorem rw_X2_fill :
  (∀ (d : Nat) (a0 : Int) (S h : mx_H) (n : Int), mx_M d 32 [(2, a0)] S h n = mx_ex d 32 0 [some (2, a0), none, none, none, none] [] S h n) ∧
  (∀ (d : Nat) (x : Int) (l1 l2 l3 l4 : Option mx_V) (S h : mx_H) (n : Int), mx_ex d 32 0 [some (2, x), l1, l2, l3, l4] [] S h n = mx_ex d 32 1 [some (2, x), l1, l2, l3, l4] [(2, x)] S h n) ∧
  (∀ (d : Nat) (a : Int) (l0 l1 l2 l3 l4 : Option mx_V) (S h : mx_H) (n : Int), mx_ex d 32 1 [l0, l1, l2, l3, l4] [(2, a)] S h n = mx_gd (9 ≤ S a (-2) ∧ S a (-2) ≤ 9) d 32 4 [l0, l1, l2, l3, l4] [(2, S a 0)] S h n) ∧
  (∀ (d : Nat) (a : Int) (l0 l1 l2 l3 l4 : Option mx_V) (S h : mx_H) (n : Int), mx_ex (d + 1) 32 4 [l0, l1, l2, l3, l4] [(2, a)] S h n = mx_cl (S a (-2) = 8) d 97 [(2, a)] 32 7 [l0, l1, l2, l3, l4] [] S h n) ∧
  (∀ (d : Nat) (x : Int) (l0 l1 l2 l3 l4 : Option mx_V) (S h : mx_H) (n : Int), mx_ex d 32 7 [l0, l1, l2, l3, l4] [(0, x)] S h n = mx_ex d 32 8 [mx_nl l0, some (0, x), l2, l3, l4] [] S h n) ∧
  (∀ (d : Nat) (x : Int) (l1 l2 l3 l4 : Option mx_V) (S h : mx_H) (n : Int), mx_ex d 32 8 [some (2, x), l1, l2, l3, l4] [] S h n = mx_ex d 32 9 [some (2, x), l1, l2, l3, l4] [(2, x)] S h n) ∧
  (∀ (d : Nat) (a : Int) (l0 l1 l2 l3 l4 : Option mx_V) (S h : mx_H) (n : Int), mx_ex d 32 9 [l0, l1, l2, l3, l4] [(2, a)] S h n = mx_gd (9 ≤ S a (-2) ∧ S a (-2) ≤ 9) d 32 12 [l0, l1, l2, l3, l4] [(2, S a 12)] S h n) ∧
  (∀ (d : Nat) (l0 l1 l2 l3 l4 : Option mx_V) (v0 : mx_V) (S h : mx_H) (n : Int), mx_ex d 32 12 [l0, l1, l2, l3, l4] [v0] S h n = mx_ex d 32 13 [l0, l1, l2, l3, l4] [(0, 0), v0] S h n) ∧
  (∀ (d : Nat) (x0 x1 : Int) (l0 l1 l2 l3 l4 : Option mx_V) (S h : mx_H) (n : Int), mx_ex (d + 1) 32 13 [l0, l1, l2, l3, l4] [(0, x0), (2, x1)] S h n = mx_rt (mx_M d 255 [(2, x1), (0, x0)] S h n) (d + 1) 32 16 [l0, l1, l2, l3, l4] []) ∧
  (∀ (d : Nat) (x : Int) (l1 l2 l3 l4 : Option mx_V) (S h : mx_H) (n : Int), mx_ex d 32 16 [some (2, x), l1, l2, l3, l4] [] S h n = mx_ex d 32 17 [some (2, x), l1, l2, l3, l4] [(2, x)] S h n) ∧
  (∀ (d : Nat) (l0 l1 l2 l3 l4 : Option mx_V) (v0 : mx_V) (S h : mx_H) (n : Int), mx_ex d 32 17 [l0, l1, l2, l3, l4] [v0] S h n = mx_ex d 32 18 [l0, l1, l2, l3, l4] [(0, 0), v0] S h n) ∧
  (∀ (d : Nat) (v a : Int) (l0 l1 l2 l3 l4 : Option mx_V) (S h : mx_H) (n : Int), mx_ex d 32 18 [l0, l1, l2, l3, l4] [(0, v), (2, a)] S h n = mx_gd (9 ≤ S a (-2) ∧ S a (-2) ≤ 9) d 32 21 [l0, l1, l2, l3, l4] [] S (mx_u h a 13 v) n) ∧
  (∀ (d : Nat) (l0 l1 l2 l3 l4 : Option mx_V) (S h : mx_H) (n : Int), mx_ex d 32 21 [l0, l1, l2, l3, l4] [] S h n = mx_ex d 32 22 [l0, l1, l2, l3, l4] [(0, 2)] S h n) ∧
  (∀ (d : Nat) (x : Int) (l0 l1 l2 l3 l4 : Option mx_V) (S h : mx_H) (n : Int), mx_ex d 32 22 [l0, l1, l2, l3, l4] [(0, x)] S h n = mx_ex d 32 23 [l0, mx_nl l1, some (0, x), l3, l4] [] S h n) ∧
  (∀ (d : Nat) (l0 l1 l2 l3 l4 : Option mx_V) (v0 : mx_V) (S h : mx_H) (n : Int), mx_ex d 32 24 [l0, l1, l2, l3, l4] [v0] S h n = mx_ex d 32 26 [l0, l1, l2, l3, l4] [(0, 16), v0] S h n) ∧
  (∀ (d : Nat) (b a : Int) (l0 l1 l2 l3 l4 : Option mx_V) (S h : mx_H) (n : Int), mx_ex d 32 26 [l0, l1, l2, l3, l4] [(0, b), (0, a)] S h n = mx_br (b < a) d 32 128 29 [l0, l1, l2, l3, l4] [] S h n) ∧
  (∀ (d : Nat) (l0 l1 l2 l3 l4 : Option mx_V) (S h : mx_H) (n : Int), mx_ex d 32 29 [l0, l1, l2, l3, l4] [] S h n = mx_ex d 32 30 [l0, l1, l2, l3, l4] [(0, 2)] S h n) ∧
  (∀ (d : Nat) (x : Int) (l0 l1 l2 l3 l4 : Option mx_V) (S h : mx_H) (n : Int), mx_ex d 32 30 [l0, l1, l2, l3, l4] [(0, x)] S h n = mx_ex d 32 31 [l0, l1, mx_nl l2, some (0, x), l4] [] S h n) ∧
  (∀ (d : Nat) (l0 l1 l2 l3 l4 : Option mx_V) (v0 : mx_V) (S h : mx_H) (n : Int), mx_ex d 32 32 [l0, l1, l2, l3, l4] [v0] S h n = mx_ex d 32 34 [l0, l1, l2, l3, l4] [(0, 16), v0] S h n) ∧
  (∀ (d : Nat) (b a : Int) (l0 l1 l2 l3 l4 : Option mx_V) (S h : mx_H) (n : Int), mx_ex d 32 34 [l0, l1, l2, l3, l4] [(0, b), (0, a)] S h n = mx_br (b < a) d 32 122 37 [l0, l1, l2, l3, l4] [] S h n) ∧
  (∀ (d : Nat) (x : Int) (l1 l2 l3 l4 : Option mx_V) (S h : mx_H) (n : Int), mx_ex d 32 37 [some (2, x), l1, l2, l3, l4] [] S h n = mx_ex d 32 38 [some (2, x), l1, l2, l3, l4] [(2, x)] S h n) ∧
  (∀ (d : Nat) (x : Int) (l0 l1 l3 l4 : Option mx_V) (v0 : mx_V) (S h : mx_H) (n : Int), mx_ex d 32 38 [l0, l1, some (0, x), l3, l4] [v0] S h n = mx_ex d 32 39 [l0, l1, some (0, x), l3, l4] [(0, x), v0] S h n) ∧
  (∀ (d : Nat) (x : Int) (l0 l1 l2 l4 : Option mx_V) (v0 v1 : mx_V) (S h : mx_H) (n : Int), mx_ex d 32 39 [l0, l1, l2, some (0, x), l4] [v0, v1] S h n = mx_ex d 32 40 [l0, l1, l2, some (0, x), l4] [(0, x), v0, v1] S h n) ∧
  (∀ (d : Nat) (x : Int) (l0 l2 l3 l4 : Option mx_V) (v0 v1 v2 : mx_V) (S h : mx_H) (n : Int), mx_ex d 32 40 [l0, some (0, x), l2, l3, l4] [v0, v1, v2] S h n = mx_ex d 32 41 [l0, some (0, x), l2, l3, l4] [(0, x), v0, v1, v2] S h n) ∧
  (∀ (d : Nat) (x0 x1 x2 a : Int) (l0 l1 l2 l3 l4 : Option mx_V) (S h : mx_H) (n : Int), mx_ex (d + 1) 32 41 [l0, l1, l2, l3, l4] [(0, x0), (0, x1), (0, x2), (2, a)] S h n = mx_cl (S a (-2) = 9) d 31 [(2, a), (0, x2), (0, x1), (0, x0)] 32 44 [l0, l1, l2, l3, l4] [] S h n) ∧
  (∀ (d : Nat) (x : Int) (l0 l1 l2 l3 l4 : Option mx_V) (S h : mx_H) (n : Int), mx_ex d 32 44 [l0, l1, l2, l3, l4] [(0, x)] S h n = mx_ex d 32 46 [l0, l1, l2, mx_nl l3, some (0, x)] [] S h n) ∧
  (∀ (d : Nat) (x : Int) (l1 l2 l3 l4 : Option mx_V) (S h : mx_H) (n : Int), mx_ex d 32 46 [some (2, x), l1, l2, l3, l4] [] S h n = mx_ex d 32 47 [some (2, x), l1, l2, l3, l4] [(2, x)] S h n) ∧
  (∀ (d : Nat) (a : Int) (l0 l1 l2 l3 l4 : Option mx_V) (S h : mx_H) (n : Int), mx_ex d 32 47 [l0, l1, l2, l3, l4] [(2, a)] S h n = mx_gd (9 ≤ S a (-2) ∧ S a (-2) ≤ 9) d 32 50 [l0, l1, l2, l3, l4] [(2, S a 11)] S h n) ∧
  (∀ (d : Nat) (x : Int) (l0 l1 l3 l4 : Option mx_V) (v0 : mx_V) (S h : mx_H) (n : Int), mx_ex d 32 50 [l0, l1, some (0, x), l3, l4] [v0] S h n = mx_ex d 32 51 [l0, l1, some (0, x), l3, l4] [(0, x), v0] S h n) ∧
  (∀ (d : Nat) (l0 l1 l2 l3 l4 : Option mx_V) (v0 v1 : mx_V) (S h : mx_H) (n : Int), mx_ex d 32 51 [l0, l1, l2, l3, l4] [v0, v1] S h n = mx_ex d 32 53 [l0, l1, l2, l3, l4] [(0, 17), v0, v1] S h n) ∧
  (∀ (d : Nat) (b a : Int) (l0 l1 l2 l3 l4 : Option mx_V) (v2 : mx_V) (S h : mx_H) (n : Int), mx_ex d 32 53 [l0, l1, l2, l3, l4] [(0, b), (0, a), v2] S h n = mx_ex d 32 54 [l0, l1, l2, l3, l4] [(0, mx_w (a * b)), v2] S h n) ∧
  (∀ (d : Nat) (x : Int) (l0 l1 l2 l4 : Option mx_V) (v0 v1 : mx_V) (S h : mx_H) (n : Int), mx_ex d 32 54 [l0, l1, l2, some (0, x), l4] [v0, v1] S h n = mx_ex d 32 55 [l0, l1, l2, some (0, x), l4] [(0, x), v0, v1] S h n) ∧
  (∀ (d : Nat) (b a : Int) (l0 l1 l2 l3 l4 : Option mx_V) (v2 : mx_V) (S h : mx_H) (n : Int), mx_ex d 32 55 [l0, l1, l2, l3, l4] [(0, b), (0, a), v2] S h n = mx_ex d 32 56 [l0, l1, l2, l3, l4] [(0, mx_w (a + b)), v2] S h n) ∧
  (∀ (d : Nat) (x : Int) (l0 l1 l2 l3 : Option mx_V) (v0 v1 : mx_V) (S h : mx_H) (n : Int), mx_ex d 32 56 [l0, l1, l2, l3, some (0, x)] [v0, v1] S h n = mx_ex d 32 58 [l0, l1, l2, l3, some (0, x)] [(0, x), v0, v1] S h n) ∧
  (∀ (d : Nat) (v i a : Int) (l0 l1 l2 l3 l4 : Option mx_V) (S h : mx_H) (n : Int), mx_ex d 32 58 [l0, l1, l2, l3, l4] [(0, v), (0, i), (2, a)] S h n = mx_gd (S a (-2) = 20 ∧ 0 ≤ i ∧ i < S a (-1)) d 32 59 [l0, l1, l2, l3, l4] [] S (mx_u h a i v) n) ∧
  (∀ (d : Nat) (x : Int) (l0 l1 l2 l3 : Option mx_V) (S h : mx_H) (n : Int), mx_ex d 32 59 [l0, l1, l2, l3, some (0, x)] [] S h n = mx_ex d 32 61 [l0, l1, l2, l3, some (0, x)] [(0, x)] S h n) ∧
  (∀ (d : Nat) (a : Int) (l0 l1 l2 l3 l4 : Option mx_V) (S h : mx_H) (n : Int), mx_ex d 32 61 [l0, l1, l2, l3, l4] [(0, a)] S h n = mx_br (a = 0) d 32 64 67 [l0, l1, l2, l3, l4] [] S h n) ∧
  (∀ (d : Nat) (l0 l1 l2 l3 l4 : Option mx_V) (S h : mx_H) (n : Int), mx_ex d 32 64 [l0, l1, l2, l3, l4] [] S h n = mx_ex d 32 116 [l0, l1, l2, l3, l4] [] S h n) ∧
  (∀ (d : Nat) (x : Int) (l1 l2 l3 l4 : Option mx_V) (S h : mx_H) (n : Int), mx_ex d 32 67 [some (2, x), l1, l2, l3, l4] [] S h n = mx_ex d 32 68 [some (2, x), l1, l2, l3, l4] [(2, x)] S h n) ∧
  (∀ (d : Nat) (a : Int) (l0 l1 l2 l3 l4 : Option mx_V) (S h : mx_H) (n : Int), mx_ex d 32 68 [l0, l1, l2, l3, l4] [(2, a)] S h n = mx_ex d 32 69 [l0, l1, l2, l3, l4] [(2, a), (2, a)] S h n) ∧
  (∀ (d : Nat) (a : Int) (l0 l1 l2 l3 l4 : Option mx_V) (v1 : mx_V) (S h : mx_H) (n : Int), mx_ex d 32 69 [l0, l1, l2, l3, l4] [(2, a), v1] S h n = mx_gd (9 ≤ S a (-2) ∧ S a (-2) ≤ 9) d 32 72 [l0, l1, l2, l3, l4] [(0, h a 13), v1] S h n) ∧
  (∀ (d : Nat) (x : Int) (l0 l1 l2 l3 : Option mx_V) (v0 v1 : mx_V) (S h : mx_H) (n : Int), mx_ex d 32 72 [l0, l1, l2, l3, some (0, x)] [v0, v1] S h n = mx_ex d 32 74 [l0, l1, l2, l3, some (0, x)] [(0, x), v0, v1] S h n) ∧
  (∀ (d : Nat) (x0 : Int) (l0 l1 l2 l3 l4 : Option mx_V) (v1 v2 : mx_V) (S h : mx_H) (n : Int), mx_ex (d + 1) 32 74 [l0, l1, l2, l3, l4] [(0, x0), v1, v2] S h n = mx_rt (mx_M d 248 [(0, x0)] S h n) (d + 1) 32 77 [l0, l1, l2, l3, l4] [v1, v2]) ∧
  (∀ (d : Nat) (b a : Int) (l0 l1 l2 l3 l4 : Option mx_V) (v2 : mx_V) (S h : mx_H) (n : Int), mx_ex d 32 77 [l0, l1, l2, l3, l4] [(0, b), (0, a), v2] S h n = mx_ex d 32 78 [l0, l1, l2, l3, l4] [(0, mx_w (a + b)), v2] S h n) ∧
  (∀ (d : Nat) (v a : Int) (l0 l1 l2 l3 l4 : Option mx_V) (S h : mx_H) (n : Int), mx_ex d 32 78 [l0, l1, l2, l3, l4] [(0, v), (2, a)] S h n = mx_gd (9 ≤ S a (-2) ∧ S a (-2) ≤ 9) d 32 81 [l0, l1, l2, l3, l4] [] S (mx_u h a 13 v) n) ∧
  (∀ (d : Nat) (x : Int) (l1 l2 l3 l4 : Option mx_V) (S h : mx_H) (n : Int), mx_ex d 32 81 [some (2, x), l1, l2, l3, l4] [] S h n = mx_ex d 32 82 [some (2, x), l1, l2, l3, l4] [(2, x)] S h n) ∧
  (∀ (d : Nat) (a : Int) (l0 l1 l2 l3 l4 : Option mx_V) (S h : mx_H) (n : Int), mx_ex d 32 82 [l0, l1, l2, l3, l4] [(2, a)] S h n = mx_gd (9 ≤ S a (-2) ∧ S a (-2) ≤ 9) d 32 85 [l0, l1, l2, l3, l4] [(2, S a 12)] S h n) ∧
  (∀ (d : Nat) (l0 l1 l2 l3 l4 : Option mx_V) (v0 : mx_V) (S h : mx_H) (n : Int), mx_ex d 32 85 [l0, l1, l2, l3, l4] [v0] S h n = mx_ex d 32 86 [l0, l1, l2, l3, l4] [(0, 0), v0] S h n) ∧
  (∀ (d : Nat) (a b : Int) (l0 l1 l2 l3 l4 : Option mx_V) (S h : mx_H) (n : Int), mx_ex d 32 86 [l0, l1, l2, l3, l4] [(0, a), (2, b)] S h n = mx_ex d 32 87 [l0, l1, l2, l3, l4] [(0, a), (2, b), (0, a), (2, b)] S h n) ∧
  (∀ (d : Nat) (i a : Int) (l0 l1 l2 l3 l4 : Option mx_V) (v2 v3 : mx_V) (S h : mx_H) (n : Int), mx_ex d 32 87 [l0, l1, l2, l3, l4] [(0, i), (2, a), v2, v3] S h n = mx_gd ((S a (-2) = 20 ∨ S a (-2) = 24) ∧ 0 ≤ i ∧ i < S a (-1)) d 32 88 [l0, l1, l2, l3, l4] [(0, h a i), v2, v3] S h n) ∧
  (∀ (d : Nat) (l0 l1 l2 l3 l4 : Option mx_V) (v0 v1 v2 : mx_V) (S h : mx_H) (n : Int), mx_ex d 32 88 [l0, l1, l2, l3, l4] [v0, v1, v2] S h n = mx_ex d 32 89 [l0, l1, l2, l3, l4] [(0, 1), v0, v1, v2] S h n) ∧
  (∀ (d : Nat) (x : Int) (l0 l1 l3 l4 : Option mx_V) (v0 v1 v2 v3 : mx_V) (S h : mx_H) (n : Int), mx_ex d 32 89 [l0, l1, some (0, x), l3, l4] [v0, v1, v2, v3] S h n = mx_ex d 32 90 [l0, l1, some (0, x), l3, l4] [(0, x), v0, v1, v2, v3] S h n) ∧
  (∀ (d : Nat) (b a : Int) (l0 l1 l2 l3 l4 : Option mx_V) (v2 v3 v4 : mx_V) (S h : mx_H) (n : Int), mx_ex d 32 90 [l0, l1, l2, l3, l4] [(0, b), (0, a), v2, v3, v4] S h n = mx_ex d 32 91 [l0, l1, l2, l3, l4] [(0, mx_shl a b), v2, v3, v4] S h n) ∧
  (∀ (d : Nat) (b a : Int) (l0 l1 l2 l3 l4 : Option mx_V) (v2 v3 : mx_V) (S h : mx_H) (n : Int), mx_ex d 32 91 [l0, l1, l2, l3, l4] [(0, b), (0, a), v2, v3] S h n = mx_ex d 32 92 [l0, l1, l2, l3, l4] [(0, mx_or a b), v2, v3] S h n) ∧
  (∀ (d : Nat) (v i a : Int) (l0 l1 l2 l3 l4 : Option mx_V) (S h : mx_H) (n : Int), mx_ex d 32 92 [l0, l1, l2, l3, l4] [(0, v), (0, i), (2, a)] S h n = mx_gd (S a (-2) = 20 ∧ 0 ≤ i ∧ i < S a (-1)) d 32 93 [l0, l1, l2, l3, l4] [] S (mx_u h a i v) n) ∧
  (∀ (d : Nat) (x : Int) (l1 l2 l3 l4 : Option mx_V) (S h : mx_H) (n : Int), mx_ex d 32 93 [some (2, x), l1, l2, l3, l4] [] S h n = mx_ex d 32 94 [some (2, x), l1, l2, l3, l4] [(2, x)] S h n) ∧
  (∀ (d : Nat) (a : Int) (l0 l1 l2 l3 l4 : Option mx_V) (S h : mx_H) (n : Int), mx_ex d 32 94 [l0, l1, l2, l3, l4] [(2, a)] S h n = mx_gd (9 ≤ S a (-2) ∧ S a (-2) ≤ 9) d 32 97 [l0, l1, l2, l3, l4] [(2, S a 12)] S h n) ∧
  (∀ (d : Nat) (l0 l1 l2 l3 l4 : Option mx_V) (v0 : mx_V) (S h : mx_H) (n : Int), mx_ex d 32 97 [l0, l1, l2, l3, l4] [v0] S h n = mx_ex d 32 98 [l0, l1, l2, l3, l4] [(0, 1), v0] S h n) ∧
  (∀ (d : Nat) (a b : Int) (l0 l1 l2 l3 l4 : Option mx_V) (S h : mx_H) (n : Int), mx_ex d 32 98 [l0, l1, l2, l3, l4] [(0, a), (2, b)] S h n = mx_ex d 32 99 [l0, l1, l2, l3, l4] [(0, a), (2, b), (0, a), (2, b)] S h n) ∧
  (∀ (d : Nat) (i a : Int) (l0 l1 l2 l3 l4 : Option mx_V) (v2 v3 : mx_V) (S h : mx_H) (n : Int), mx_ex d 32 99 [l0, l1, l2, l3, l4] [(0, i), (2, a), v2, v3] S h n = mx_gd ((S a (-2) = 20 ∨ S a (-2) = 24) ∧ 0 ≤ i ∧ i < S a (-1)) d 32 100 [l0, l1, l2, l3, l4] [(0, h a i), v2, v3] S h n) ∧
  (∀ (d : Nat) (l0 l1 l2 l3 l4 : Option mx_V) (v0 v1 v2 : mx_V) (S h : mx_H) (n : Int), mx_ex d 32 100 [l0, l1, l2, l3, l4] [v0, v1, v2] S h n = mx_ex d 32 101 [l0, l1, l2, l3, l4] [(0, 1), v0, v1, v2] S h n) ∧
  (∀ (d : Nat) (x : Int) (l0 l1 l2 l4 : Option mx_V) (v0 v1 v2 v3 : mx_V) (S h : mx_H) (n : Int), mx_ex d 32 101 [l0, l1, l2, some (0, x), l4] [v0, v1, v2, v3] S h n = mx_ex d 32 102 [l0, l1, l2, some (0, x), l4] [(0, x), v0, v1, v2, v3] S h n) ∧
  (∀ (d : Nat) (b a : Int) (l0 l1 l2 l3 l4 : Option mx_V) (v2 v3 v4 : mx_V) (S h : mx_H) (n : Int), mx_ex d 32 102 [l0, l1, l2, l3, l4] [(0, b), (0, a), v2, v3, v4] S h n = mx_ex d 32 103 [l0, l1, l2, l3, l4] [(0, mx_shl a b), v2, v3, v4] S h n) ∧
  (∀ (d : Nat) (b a : Int) (l0 l1 l2 l3 l4 : Option mx_V) (v2 v3 : mx_V) (S h : mx_H) (n : Int), mx_ex d 32 103 [l0, l1, l2, l3, l4] [(0, b), (0, a), v2, v3] S h n = mx_ex d 32 104 [l0, l1, l2, l3, l4] [(0, mx_or a b), v2, v3] S h n) ∧
  (∀ (d : Nat) (v i a : Int) (l0 l1 l2 l3 l4 : Option mx_V) (S h : mx_H) (n : Int), mx_ex d 32 104 [l0, l1, l2, l3, l4] [(0, v), (0, i), (2, a)] S h n = mx_gd (S a (-2) = 20 ∧ 0 ≤ i ∧ i < S a (-1)) d 32 105 [l0, l1, l2, l3, l4] [] S (mx_u h a i v) n) ∧
  (∀ (d : Nat) (x : Int) (l1 l2 l3 l4 : Option mx_V) (S h : mx_H) (n : Int), mx_ex d 32 105 [some (2, x), l1, l2, l3, l4] [] S h n = mx_ex d 32 106 [some (2, x), l1, l2, l3, l4] [(2, x)] S h n) ∧
  (∀ (d : Nat) (a : Int) (l0 l1 l2 l3 l4 : Option mx_V) (S h : mx_H) (n : Int), mx_ex d 32 106 [l0, l1, l2, l3, l4] [(2, a)] S h n = mx_gd (9 ≤ S a (-2) ∧ S a (-2) ≤ 9) d 32 109 [l0, l1, l2, l3, l4] [(2, S a 12)] S h n) ∧
  (∀ (d : Nat) (l0 l1 l2 l3 l4 : Option mx_V) (v0 : mx_V) (S h : mx_H) (n : Int), mx_ex d 32 109 [l0, l1, l2, l3, l4] [v0] S h n = mx_ex d 32 110 [l0, l1, l2, l3, l4] [(0, 2), v0] S h n) ∧
  (∀ (d : Nat) (a b : Int) (l0 l1 l2 l3 l4 : Option mx_V) (S h : mx_H) (n : Int), mx_ex d 32 110 [l0, l1, l2, l3, l4] [(0, a), (2, b)] S h n = mx_ex d 32 111 [l0, l1, l2, l3, l4] [(0, a), (2, b), (0, a), (2, b)] S h n) ∧
  (∀ (d : Nat) (i a : Int) (l0 l1 l2 l3 l4 : Option mx_V) (v2 v3 : mx_V) (S h : mx_H) (n : Int), mx_ex d 32 111 [l0, l1, l2, l3, l4] [(0, i), (2, a), v2, v3] S h n = mx_gd ((S a (-2) = 20 ∨ S a (-2) = 24) ∧ 0 ≤ i ∧ i < S a (-1)) d 32 112 [l0, l1, l2, l3, l4] [(0, h a i), v2, v3] S h n) :=
  ⟨by intros; exact rfl,
   by intros; exact eq_ld rfl rfl,
   by intros; exact eq_gr rfl,
   by intros; exact eq_cv rfl (Nat.le_of_ble_eq_true rfl) rfl rfl rfl (Nat.le_of_ble_eq_true rfl),
   by intros; exact eq_st rfl (by decide) (Nat.le_of_ble_eq_true rfl) rfl,
   by intros; exact eq_ld rfl rfl,
   by intros; exact eq_gr rfl,
   by intros; exact eq_push rfl,
   by intros; exact eq_cs rfl (Nat.le_of_ble_eq_true rfl) rfl rfl rfl (Nat.le_of_ble_eq_true rfl),
   by intros; exact eq_ld rfl rfl,
   by intros; exact eq_push rfl,
   by intros; exact eq_pi rfl,
   by intros; exact eq_push rfl,
   by intros; exact eq_st rfl (by decide) (Nat.le_of_ble_eq_true rfl) rfl,
   by intros; exact eq_push rfl,
   by intros; exact eq_ic4 rfl,
   by intros; exact eq_push rfl,
   by intros; exact eq_st rfl (by decide) (Nat.le_of_ble_eq_true rfl) rfl,
   by intros; exact eq_push rfl,
   by intros; exact eq_ic4 rfl,
   by intros; exact eq_ld rfl rfl,
   by intros; exact eq_ld rfl rfl,
   by intros; exact eq_ld rfl rfl,
   by intros; exact eq_ld rfl rfl,
   by intros; exact eq_cv rfl (Nat.le_of_ble_eq_true rfl) rfl rfl rfl (Nat.le_of_ble_eq_true rfl),
   by intros; exact eq_st rfl (by decide) (Nat.le_of_ble_eq_true rfl) rfl,
   by intros; exact eq_ld rfl rfl,
   by intros; exact eq_gr rfl,
   by intros; exact eq_ld rfl rfl,
   by intros; exact eq_push rfl,
   by intros; exact eq_i2 (o := mx_mul) rfl,
   by intros; exact eq_ld rfl rfl,
   by intros; exact eq_i2 (o := mx_add) rfl,
   by intros; exact eq_ld rfl rfl,
   by intros; exact eq_iast rfl,
   by intros; exact eq_ld rfl rfl,
   by intros; exact eq_if1 rfl,
   by intros; exact eq_go rfl,
   by intros; exact eq_ld rfl rfl,
   by intros; exact eq_dup rfl (by decide),
   by intros; exact eq_gi rfl,
   by intros; exact eq_ld rfl rfl,
   by intros; exact eq_cs rfl (Nat.le_of_ble_eq_true rfl) rfl rfl rfl (Nat.le_of_ble_eq_true rfl),
   by intros; exact eq_i2 (o := mx_add) rfl,
   by intros; exact eq_pi rfl,
   by intros; exact eq_ld rfl rfl,
   by intros; exact eq_gr rfl,
   by intros; exact eq_push rfl,
   by intros; exact eq_dup2 rfl (by decide) (by decide),
   by intros; exact eq_iald rfl,
   by intros; exact eq_push rfl,
   by intros; exact eq_ld rfl rfl,
   by intros; exact eq_i2 (o := mx_shl) rfl,
   by intros; exact eq_i2 (o := mx_or) rfl,
   by intros; exact eq_iast rfl,
   by intros; exact eq_ld rfl rfl,
   by intros; exact eq_gr rfl,
   by intros; exact eq_push rfl,
   by intros; exact eq_dup2 rfl (by decide) (by decide),
   by intros; exact eq_iald rfl,
   by intros; exact eq_push rfl,
   by intros; exact eq_ld rfl rfl,
   by intros; exact eq_i2 (o := mx_shl) rfl,
   by intros; exact eq_i2 (o := mx_or) rfl,
   by intros; exact eq_iast rfl,
   by intros; exact eq_ld rfl rfl,
   by intros; exact eq_gr rfl,
   by intros; exact eq_push rfl,
   by intros; exact eq_dup2 rfl (by decide) (by decide),
   by intros; exact eq_iald rfl⟩
theorem rw_X2_fill_1 :
  (∀ (d : Nat) (x : Int) (l0 l1 l2 l3 : Option mx_V) (v0 v1 v2 : mx_V) (S h : mx_H) (n : Int), mx_ex d 32 112 [l0, l1, l2, l3, some (0, x)] [v0, v1, v2] S h n = mx_ex d 32 114 [l0, l1, l2, l3, some (0, x)] [(0, x), v0, v1, v2] S h n) ∧
  (∀ (d : Nat) (b a : Int) (l0 l1 l2 l3 l4 : Option mx_V) (v2 v3 : mx_V) (S h : mx_H) (n : Int), mx_ex d 32 114 [l0, l1, l2, l3, l4] [(0, b), (0, a), v2, v3] S h n = mx_ex d 32 115 [l0, l1, l2, l3, l4] [(0, mx_or a b), v2, v3] S h n) ∧
  (∀ (d : Nat) (v i a : Int) (l0 l1 l2 l3 l4 : Option mx_V) (S h : mx_H) (n : Int), mx_ex d 32 115 [l0, l1, l2, l3, l4] [(0, v), (0, i), (2, a)] S h n = mx_gd (S a (-2) = 20 ∧ 0 ≤ i ∧ i < S a (-1)) d 32 116 [l0, l1, l2, l3, l4] [] S (mx_u h a i v) n) ∧
  (∀ (d : Nat) (x : Int) (l0 l1 l2 l4 : Option mx_V) (S h : mx_H) (n : Int), mx_ex d 32 116 [l0, l1, l2, some (0, x), l4] [] S h n = mx_ex d 32 119 [l0, l1, mx_nl l2, some (0, mx_w (x + 1)), l4] [] S h n) ∧
  (∀ (d : Nat) (l0 l1 l2 l3 l4 : Option mx_V) (S h : mx_H) (n : Int), mx_ex d 32 119 [l0, l1, l2, l3, l4] [] S h n = mx_ex d 32 31 [l0, l1, l2, l3, l4] [] S h n) ∧
  (∀ (d : Nat) (x : Int) (l0 l1 l3 l4 : Option mx_V) (S h : mx_H) (n : Int), mx_ex d 32 122 [l0, l1, some (0, x), l3, l4] [] S h n = mx_ex d 32 125 [l0, mx_nl l1, some (0, mx_w (x + 1)), l3, l4] [] S h n) ∧
  (∀ (d : Nat) (l0 l1 l2 l3 l4 : Option mx_V) (S h : mx_H) (n : Int), mx_ex d 32 125 [l0, l1, l2, l3, l4] [] S h n = mx_ex d 32 23 [l0, l1, l2, l3, l4] [] S h n) ∧
  (∀ (d : Nat) (l0 l1 l2 l3 l4 : Option mx_V) (S h : mx_H) (n : Int), mx_ex d 32 128 [l0, l1, l2, l3, l4] [] S h n = some (none, S, h, n)) :=
  ⟨by intros; exact eq_ld rfl rfl,
   by intros; exact eq_i2 (o := mx_or) rfl,
   by intros; exact eq_iast rfl,
   by intros; exact eq_inc rfl rfl rfl,
   by intros; exact eq_go rfl,
   by intros; exact eq_inc rfl rfl rfl,
   by intros; exact eq_go rfl,
   by intros; exact eq_retv rfl⟩
