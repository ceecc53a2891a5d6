/-! PRINTED (gen_rows.py): a row an instruction -/
theorem rw_X12_init :
  (∀ (d : Nat) (a0 : Int) (S h : mx_H) (n : Int), mx_M d 154 [(2, a0)] S h n = mx_ex d 154 0 [some (2, a0)] [] S h n) ∧
  (∀ (d : Nat) (x : Int) (S h : mx_H) (n : Int), mx_ex d 154 0 [some (2, x)] [] S h n = mx_ex d 154 1 [some (2, x)] [(2, x)] S h n) ∧
  (∀ (d : Nat) (a : Int) (l0 : Option mx_V) (S h : mx_H) (n : Int), mx_ex d 154 1 [l0] [(2, a)] S h n = mx_gd (0 ≤ a) d 154 4 [l0] [] S h n) ∧
  (∀ (d : Nat) (x : Int) (S h : mx_H) (n : Int), mx_ex d 154 4 [some (2, x)] [] S h n = mx_ex d 154 5 [some (2, x)] [(2, x)] S h n) ∧
  (∀ (d : Nat) (l0 : Option mx_V) (v0 : mx_V) (S h : mx_H) (n : Int), mx_ex d 154 5 [l0] [v0] S h n = mx_ex d 154 7 [l0] [(0, 93), v0] S h n) ∧
  (∀ (d : Nat) (x : Int) (l0 : Option mx_V) (v1 : mx_V) (S h : mx_H) (n : Int), mx_ex d 154 7 [l0] [(0, x), v1] S h n = mx_gd (0 ≤ x ∧ x ≤ 300) d 154 9 [l0] [(2, n), v1] (mx_t S n 20 x) (mx_z h n) (n + 1)) ∧
  (∀ (d : Nat) (v a : Int) (l0 : Option mx_V) (S h : mx_H) (n : Int), mx_ex d 154 9 [l0] [(2, v), (2, a)] S h n = mx_gd (13 ≤ S a (-2) ∧ S a (-2) ≤ 13) d 154 12 [l0] [] (mx_u S a 0 v) h n) ∧
  (∀ (d : Nat) (x : Int) (S h : mx_H) (n : Int), mx_ex d 154 12 [some (2, x)] [] S h n = mx_ex d 154 13 [some (2, x)] [(2, x)] S h n) ∧
  (∀ (d : Nat) (l0 : Option mx_V) (v0 : mx_V) (S h : mx_H) (n : Int), mx_ex d 154 13 [l0] [v0] S h n = mx_ex d 154 15 [l0] [(0, 93), v0] S h n) ∧
  (∀ (d : Nat) (x : Int) (l0 : Option mx_V) (v1 : mx_V) (S h : mx_H) (n : Int), mx_ex d 154 15 [l0] [(0, x), v1] S h n = mx_gd (0 ≤ x ∧ x ≤ 300) d 154 17 [l0] [(2, n), v1] (mx_t S n 20 x) (mx_z h n) (n + 1)) ∧
  (∀ (d : Nat) (v a : Int) (l0 : Option mx_V) (S h : mx_H) (n : Int), mx_ex d 154 17 [l0] [(2, v), (2, a)] S h n = mx_gd (13 ≤ S a (-2) ∧ S a (-2) ≤ 13) d 154 20 [l0] [] (mx_u S a 1 v) h n) ∧
  (∀ (d : Nat) (x : Int) (S h : mx_H) (n : Int), mx_ex d 154 20 [some (2, x)] [] S h n = mx_ex d 154 21 [some (2, x)] [(2, x)] S h n) ∧
  (∀ (d : Nat) (l0 : Option mx_V) (v0 : mx_V) (S h : mx_H) (n : Int), mx_ex d 154 21 [l0] [v0] S h n = mx_ex d 154 23 [l0] [(0, 93), v0] S h n) ∧
  (∀ (d : Nat) (x : Int) (l0 : Option mx_V) (v1 : mx_V) (S h : mx_H) (n : Int), mx_ex d 154 23 [l0] [(0, x), v1] S h n = mx_gd (0 ≤ x ∧ x ≤ 300) d 154 25 [l0] [(2, n), v1] (mx_t S n 20 x) (mx_z h n) (n + 1)) ∧
  (∀ (d : Nat) (v a : Int) (l0 : Option mx_V) (S h : mx_H) (n : Int), mx_ex d 154 25 [l0] [(2, v), (2, a)] S h n = mx_gd (13 ≤ S a (-2) ∧ S a (-2) ≤ 13) d 154 28 [l0] [] (mx_u S a 2 v) h n) ∧
  (∀ (d : Nat) (x : Int) (S h : mx_H) (n : Int), mx_ex d 154 28 [some (2, x)] [] S h n = mx_ex d 154 29 [some (2, x)] [(2, x)] S h n) ∧
  (∀ (d : Nat) (l0 : Option mx_V) (v0 : mx_V) (S h : mx_H) (n : Int), mx_ex d 154 29 [l0] [v0] S h n = mx_ex d 154 32 [l0] [(0, 200), v0] S h n) ∧
  (∀ (d : Nat) (x : Int) (l0 : Option mx_V) (v1 : mx_V) (S h : mx_H) (n : Int), mx_ex d 154 32 [l0] [(0, x), v1] S h n = mx_gd (0 ≤ x ∧ x ≤ 300) d 154 34 [l0] [(2, n), v1] (mx_t S n 20 x) (mx_z h n) (n + 1)) ∧
  (∀ (d : Nat) (v a : Int) (l0 : Option mx_V) (S h : mx_H) (n : Int), mx_ex d 154 34 [l0] [(2, v), (2, a)] S h n = mx_gd (13 ≤ S a (-2) ∧ S a (-2) ≤ 13) d 154 37 [l0] [] (mx_u S a 4 v) h n) ∧
  (∀ (d : Nat) (x : Int) (S h : mx_H) (n : Int), mx_ex d 154 37 [some (2, x)] [] S h n = mx_ex d 154 38 [some (2, x)] [(2, x)] S h n) ∧
  (∀ (d : Nat) (l0 : Option mx_V) (v0 : mx_V) (S h : mx_H) (n : Int), mx_ex d 154 38 [l0] [v0] S h n = mx_ex d 154 39 [l0] [(0, 3), v0] S h n) ∧
  (∀ (d : Nat) (x : Int) (l0 : Option mx_V) (v1 : mx_V) (S h : mx_H) (n : Int), mx_ex d 154 39 [l0] [(0, x), v1] S h n = mx_gd (0 ≤ x ∧ x ≤ 300) d 154 41 [l0] [(2, n), v1] (mx_t S n 20 x) (mx_z h n) (n + 1)) ∧
  (∀ (d : Nat) (v a : Int) (l0 : Option mx_V) (S h : mx_H) (n : Int), mx_ex d 154 41 [l0] [(2, v), (2, a)] S h n = mx_gd (13 ≤ S a (-2) ∧ S a (-2) ≤ 13) d 154 44 [l0] [] (mx_u S a 11 v) h n) ∧
  (∀ (d : Nat) (x : Int) (S h : mx_H) (n : Int), mx_ex d 154 44 [some (2, x)] [] S h n = mx_ex d 154 45 [some (2, x)] [(2, x)] S h n) ∧
  (∀ (d : Nat) (l0 : Option mx_V) (v0 : mx_V) (S h : mx_H) (n : Int), mx_ex d 154 45 [l0] [v0] S h n = mx_ex d 154 46 [l0] [(0, 3), v0] S h n) ∧
  (∀ (d : Nat) (x : Int) (l0 : Option mx_V) (v1 : mx_V) (S h : mx_H) (n : Int), mx_ex d 154 46 [l0] [(0, x), v1] S h n = mx_gd (0 ≤ x ∧ x ≤ 300) d 154 48 [l0] [(2, n), v1] (mx_t S n 20 x) (mx_z h n) (n + 1)) ∧
  (∀ (d : Nat) (v a : Int) (l0 : Option mx_V) (S h : mx_H) (n : Int), mx_ex d 154 48 [l0] [(2, v), (2, a)] S h n = mx_gd (13 ≤ S a (-2) ∧ S a (-2) ≤ 13) d 154 51 [l0] [] (mx_u S a 12 v) h n) ∧
  (∀ (d : Nat) (x : Int) (S h : mx_H) (n : Int), mx_ex d 154 51 [some (2, x)] [] S h n = mx_ex d 154 52 [some (2, x)] [(2, x)] S h n) ∧
  (∀ (d : Nat) (l0 : Option mx_V) (v0 : mx_V) (S h : mx_H) (n : Int), mx_ex d 154 52 [l0] [v0] S h n = mx_ex d 154 53 [l0] [(0, 3), v0] S h n) ∧
  (∀ (d : Nat) (x : Int) (l0 : Option mx_V) (v1 : mx_V) (S h : mx_H) (n : Int), mx_ex d 154 53 [l0] [(0, x), v1] S h n = mx_gd (0 ≤ x ∧ x ≤ 300) d 154 55 [l0] [(2, n), v1] (mx_t S n 20 x) (mx_z h n) (n + 1)) ∧
  (∀ (d : Nat) (v a : Int) (l0 : Option mx_V) (S h : mx_H) (n : Int), mx_ex d 154 55 [l0] [(2, v), (2, a)] S h n = mx_gd (13 ≤ S a (-2) ∧ S a (-2) ≤ 13) d 154 58 [l0] [] (mx_u S a 13 v) h n) ∧
  (∀ (d : Nat) (x : Int) (S h : mx_H) (n : Int), mx_ex d 154 58 [some (2, x)] [] S h n = mx_ex d 154 59 [some (2, x)] [(2, x)] S h n) ∧
  (∀ (d : Nat) (l0 : Option mx_V) (v0 : mx_V) (S h : mx_H) (n : Int), mx_ex d 154 59 [l0] [v0] S h n = mx_ex d 154 61 [l0] [(0, 18), v0] S h n) ∧
  (∀ (d : Nat) (x : Int) (l0 : Option mx_V) (v1 : mx_V) (S h : mx_H) (n : Int), mx_ex d 154 61 [l0] [(0, x), v1] S h n = mx_gd (0 ≤ x ∧ x ≤ 300) d 154 63 [l0] [(2, n), v1] (mx_t S n 21 x) (mx_z h n) (n + 1)) ∧
  (∀ (d : Nat) (v a : Int) (l0 : Option mx_V) (S h : mx_H) (n : Int), mx_ex d 154 63 [l0] [(2, v), (2, a)] S h n = mx_gd (13 ≤ S a (-2) ∧ S a (-2) ≤ 13) d 154 66 [l0] [] (mx_u S a 14 v) h n) ∧
  (∀ (d : Nat) (x : Int) (S h : mx_H) (n : Int), mx_ex d 154 66 [some (2, x)] [] S h n = mx_ex d 154 67 [some (2, x)] [(2, x)] S h n) ∧
  (∀ (d : Nat) (l0 : Option mx_V) (v0 : mx_V) (S h : mx_H) (n : Int), mx_ex d 154 67 [l0] [v0] S h n = mx_ex d 154 68 [l0] [(0, 4), v0] S h n) ∧
  (∀ (d : Nat) (x : Int) (l0 : Option mx_V) (v1 : mx_V) (S h : mx_H) (n : Int), mx_ex d 154 68 [l0] [(0, x), v1] S h n = mx_gd (0 ≤ x ∧ x ≤ 300) d 154 70 [l0] [(2, n), v1] (mx_t S n 20 x) (mx_z h n) (n + 1)) ∧
  (∀ (d : Nat) (a : Int) (l0 : Option mx_V) (v1 : mx_V) (S h : mx_H) (n : Int), mx_ex d 154 70 [l0] [(2, a), v1] S h n = mx_ex d 154 71 [l0] [(2, a), (2, a), v1] S h n) ∧
  (∀ (d : Nat) (l0 : Option mx_V) (v0 v1 v2 : mx_V) (S h : mx_H) (n : Int), mx_ex d 154 71 [l0] [v0, v1, v2] S h n = mx_ex d 154 72 [l0] [(0, 0), v0, v1, v2] S h n) ∧
  (∀ (d : Nat) (l0 : Option mx_V) (v0 v1 v2 v3 : mx_V) (S h : mx_H) (n : Int), mx_ex d 154 72 [l0] [v0, v1, v2, v3] S h n = mx_ex d 154 73 [l0] [(0, (-1)), v0, v1, v2, v3] S h n) ∧
  (∀ (d : Nat) (v i a : Int) (l0 : Option mx_V) (v3 v4 : mx_V) (S h : mx_H) (n : Int), mx_ex d 154 73 [l0] [(0, v), (0, i), (2, a), v3, v4] S h n = mx_gd (S a (-2) = 20 ∧ 0 ≤ i ∧ i < S a (-1)) d 154 74 [l0] [v3, v4] S (mx_u h a i v) n) ∧
  (∀ (d : Nat) (a : Int) (l0 : Option mx_V) (v1 : mx_V) (S h : mx_H) (n : Int), mx_ex d 154 74 [l0] [(2, a), v1] S h n = mx_ex d 154 75 [l0] [(2, a), (2, a), v1] S h n) ∧
  (∀ (d : Nat) (l0 : Option mx_V) (v0 v1 v2 : mx_V) (S h : mx_H) (n : Int), mx_ex d 154 75 [l0] [v0, v1, v2] S h n = mx_ex d 154 76 [l0] [(0, 1), v0, v1, v2] S h n) ∧
  (∀ (d : Nat) (l0 : Option mx_V) (v0 v1 v2 v3 : mx_V) (S h : mx_H) (n : Int), mx_ex d 154 76 [l0] [v0, v1, v2, v3] S h n = mx_ex d 154 77 [l0] [(0, (-1)), v0, v1, v2, v3] S h n) ∧
  (∀ (d : Nat) (v i a : Int) (l0 : Option mx_V) (v3 v4 : mx_V) (S h : mx_H) (n : Int), mx_ex d 154 77 [l0] [(0, v), (0, i), (2, a), v3, v4] S h n = mx_gd (S a (-2) = 20 ∧ 0 ≤ i ∧ i < S a (-1)) d 154 78 [l0] [v3, v4] S (mx_u h a i v) n) ∧
  (∀ (d : Nat) (a : Int) (l0 : Option mx_V) (v1 : mx_V) (S h : mx_H) (n : Int), mx_ex d 154 78 [l0] [(2, a), v1] S h n = mx_ex d 154 79 [l0] [(2, a), (2, a), v1] S h n) ∧
  (∀ (d : Nat) (l0 : Option mx_V) (v0 v1 v2 : mx_V) (S h : mx_H) (n : Int), mx_ex d 154 79 [l0] [v0, v1, v2] S h n = mx_ex d 154 80 [l0] [(0, 2), v0, v1, v2] S h n) ∧
  (∀ (d : Nat) (l0 : Option mx_V) (v0 v1 v2 v3 : mx_V) (S h : mx_H) (n : Int), mx_ex d 154 80 [l0] [v0, v1, v2, v3] S h n = mx_ex d 154 81 [l0] [(0, (-1)), v0, v1, v2, v3] S h n) ∧
  (∀ (d : Nat) (v i a : Int) (l0 : Option mx_V) (v3 v4 : mx_V) (S h : mx_H) (n : Int), mx_ex d 154 81 [l0] [(0, v), (0, i), (2, a), v3, v4] S h n = mx_gd (S a (-2) = 20 ∧ 0 ≤ i ∧ i < S a (-1)) d 154 82 [l0] [v3, v4] S (mx_u h a i v) n) ∧
  (∀ (d : Nat) (a : Int) (l0 : Option mx_V) (v1 : mx_V) (S h : mx_H) (n : Int), mx_ex d 154 82 [l0] [(2, a), v1] S h n = mx_ex d 154 83 [l0] [(2, a), (2, a), v1] S h n) ∧
  (∀ (d : Nat) (l0 : Option mx_V) (v0 v1 v2 : mx_V) (S h : mx_H) (n : Int), mx_ex d 154 83 [l0] [v0, v1, v2] S h n = mx_ex d 154 84 [l0] [(0, 3), v0, v1, v2] S h n) ∧
  (∀ (d : Nat) (l0 : Option mx_V) (v0 v1 v2 v3 : mx_V) (S h : mx_H) (n : Int), mx_ex d 154 84 [l0] [v0, v1, v2, v3] S h n = mx_ex d 154 85 [l0] [(0, (-1)), v0, v1, v2, v3] S h n) ∧
  (∀ (d : Nat) (v i a : Int) (l0 : Option mx_V) (v3 v4 : mx_V) (S h : mx_H) (n : Int), mx_ex d 154 85 [l0] [(0, v), (0, i), (2, a), v3, v4] S h n = mx_gd (S a (-2) = 20 ∧ 0 ≤ i ∧ i < S a (-1)) d 154 86 [l0] [v3, v4] S (mx_u h a i v) n) ∧
  (∀ (d : Nat) (v a : Int) (l0 : Option mx_V) (S h : mx_H) (n : Int), mx_ex d 154 86 [l0] [(2, v), (2, a)] S h n = mx_gd (13 ≤ S a (-2) ∧ S a (-2) ≤ 13) d 154 89 [l0] [] (mx_u S a 16 v) h n) ∧
  (∀ (d : Nat) (x : Int) (S h : mx_H) (n : Int), mx_ex d 154 89 [some (2, x)] [] S h n = mx_ex d 154 90 [some (2, x)] [(2, x)] S h n) ∧
  (∀ (d : Nat) (l0 : Option mx_V) (v0 : mx_V) (S h : mx_H) (n : Int), mx_ex d 154 90 [l0] [v0] S h n = mx_ex d 154 91 [l0] [(0, 4), v0] S h n) ∧
  (∀ (d : Nat) (x : Int) (l0 : Option mx_V) (v1 : mx_V) (S h : mx_H) (n : Int), mx_ex d 154 91 [l0] [(0, x), v1] S h n = mx_gd (0 ≤ x ∧ x ≤ 300) d 154 93 [l0] [(2, n), v1] (mx_t S n 20 x) (mx_z h n) (n + 1)) ∧
  (∀ (d : Nat) (v a : Int) (l0 : Option mx_V) (S h : mx_H) (n : Int), mx_ex d 154 93 [l0] [(2, v), (2, a)] S h n = mx_gd (13 ≤ S a (-2) ∧ S a (-2) ≤ 13) d 154 96 [l0] [] (mx_u S a 17 v) h n) ∧
  (∀ (d : Nat) (x : Int) (S h : mx_H) (n : Int), mx_ex d 154 96 [some (2, x)] [] S h n = mx_ex d 154 97 [some (2, x)] [(2, x)] S h n) ∧
  (∀ (d : Nat) (l0 : Option mx_V) (v0 : mx_V) (S h : mx_H) (n : Int), mx_ex d 154 97 [l0] [v0] S h n = mx_ex d 154 100 [l0] [(0, 160), v0] S h n) ∧
  (∀ (d : Nat) (x : Int) (l0 : Option mx_V) (v1 : mx_V) (S h : mx_H) (n : Int), mx_ex d 154 100 [l0] [(0, x), v1] S h n = mx_gd (0 ≤ x ∧ x ≤ 300) d 154 102 [l0] [(2, n), v1] (mx_t S n 21 x) (mx_z h n) (n + 1)) ∧
  (∀ (d : Nat) (v a : Int) (l0 : Option mx_V) (S h : mx_H) (n : Int), mx_ex d 154 102 [l0] [(2, v), (2, a)] S h n = mx_gd (13 ≤ S a (-2) ∧ S a (-2) ≤ 13) d 154 105 [l0] [] (mx_u S a 18 v) h n) ∧
  (∀ (d : Nat) (x : Int) (S h : mx_H) (n : Int), mx_ex d 154 105 [some (2, x)] [] S h n = mx_ex d 154 106 [some (2, x)] [(2, x)] S h n) ∧
  (∀ (d : Nat) (l0 : Option mx_V) (v0 : mx_V) (S h : mx_H) (n : Int), mx_ex d 154 106 [l0] [v0] S h n = mx_ex d 154 107 [l0] [(0, 4), v0] S h n) ∧
  (∀ (d : Nat) (x : Int) (l0 : Option mx_V) (v1 : mx_V) (S h : mx_H) (n : Int), mx_ex d 154 107 [l0] [(0, x), v1] S h n = mx_gd (0 ≤ x ∧ x ≤ 300) d 154 109 [l0] [(2, n), v1] (mx_t S n 20 x) (mx_z h n) (n + 1)) ∧
  (∀ (d : Nat) (v a : Int) (l0 : Option mx_V) (S h : mx_H) (n : Int), mx_ex d 154 109 [l0] [(2, v), (2, a)] S h n = mx_gd (13 ≤ S a (-2) ∧ S a (-2) ≤ 13) d 154 112 [l0] [] (mx_u S a 19 v) h n) ∧
  (∀ (d : Nat) (x : Int) (S h : mx_H) (n : Int), mx_ex d 154 112 [some (2, x)] [] S h n = mx_ex d 154 113 [some (2, x)] [(2, x)] S h n) ∧
  (∀ (d : Nat) (l0 : Option mx_V) (v0 : mx_V) (S h : mx_H) (n : Int), mx_ex d 154 113 [l0] [v0] S h n = mx_ex d 154 114 [l0] [(0, 4), v0] S h n) ∧
  (∀ (d : Nat) (x : Int) (l0 : Option mx_V) (v1 : mx_V) (S h : mx_H) (n : Int), mx_ex d 154 114 [l0] [(0, x), v1] S h n = mx_gd (0 ≤ x ∧ x ≤ 300) d 154 116 [l0] [(2, n), v1] (mx_t S n 20 x) (mx_z h n) (n + 1)) :=
  ⟨by intros; exact rfl,
   by intros; exact eq_ld rfl rfl,
   by intros; exact eq_oini rfl (Nat.le_of_ble_eq_true rfl),
   by intros; exact eq_ld rfl rfl,
   by intros; exact eq_push rfl,
   by intros; exact eq_newa rfl,
   by intros; exact eq_pr rfl,
   by intros; exact eq_ld rfl rfl,
   by intros; exact eq_push rfl,
   by intros; exact eq_newa rfl,
   by intros; exact eq_pr rfl,
   by intros; exact eq_ld rfl rfl,
   by intros; exact eq_push rfl,
   by intros; exact eq_newa rfl,
   by intros; exact eq_pr rfl,
   by intros; exact eq_ld rfl rfl,
   by intros; exact eq_push rfl,
   by intros; exact eq_newa rfl,
   by intros; exact eq_pr rfl,
   by intros; exact eq_ld rfl rfl,
   by intros; exact eq_push rfl,
   by intros; exact eq_newa rfl,
   by intros; exact eq_pr rfl,
   by intros; exact eq_ld rfl rfl,
   by intros; exact eq_push rfl,
   by intros; exact eq_newa rfl,
   by intros; exact eq_pr rfl,
   by intros; exact eq_ld rfl rfl,
   by intros; exact eq_push rfl,
   by intros; exact eq_newa rfl,
   by intros; exact eq_pr rfl,
   by intros; exact eq_ld rfl rfl,
   by intros; exact eq_push rfl,
   by intros; exact eq_newa rfl,
   by intros; exact eq_pr rfl,
   by intros; exact eq_ld rfl rfl,
   by intros; exact eq_push rfl,
   by intros; exact eq_newa rfl,
   by intros; exact eq_dup rfl (by decide),
   by intros; exact eq_push rfl,
   by intros; exact eq_push rfl,
   by intros; exact eq_iast rfl,
   by intros; exact eq_dup rfl (by decide),
   by intros; exact eq_push rfl,
   by intros; exact eq_push rfl,
   by intros; exact eq_iast rfl,
   by intros; exact eq_dup rfl (by decide),
   by intros; exact eq_push rfl,
   by intros; exact eq_push rfl,
   by intros; exact eq_iast rfl,
   by intros; exact eq_dup rfl (by decide),
   by intros; exact eq_push rfl,
   by intros; exact eq_push rfl,
   by intros; exact eq_iast rfl,
   by intros; exact eq_pr rfl,
   by intros; exact eq_ld rfl rfl,
   by intros; exact eq_push rfl,
   by intros; exact eq_newa rfl,
   by intros; exact eq_pr rfl,
   by intros; exact eq_ld rfl rfl,
   by intros; exact eq_push rfl,
   by intros; exact eq_newa rfl,
   by intros; exact eq_pr rfl,
   by intros; exact eq_ld rfl rfl,
   by intros; exact eq_push rfl,
   by intros; exact eq_newa rfl,
   by intros; exact eq_pr rfl,
   by intros; exact eq_ld rfl rfl,
   by intros; exact eq_push rfl,
   by intros; exact eq_newa rfl⟩
theorem rw_X12_init_1 :
  (∀ (d : Nat) (v a : Int) (l0 : Option mx_V) (S h : mx_H) (n : Int), mx_ex d 154 116 [l0] [(2, v), (2, a)] S h n = mx_gd (13 ≤ S a (-2) ∧ S a (-2) ≤ 13) d 154 119 [l0] [] (mx_u S a 20 v) h n) ∧
  (∀ (d : Nat) (x : Int) (S h : mx_H) (n : Int), mx_ex d 154 119 [some (2, x)] [] S h n = mx_ex d 154 120 [some (2, x)] [(2, x)] S h n) ∧
  (∀ (d : Nat) (l0 : Option mx_V) (v0 : mx_V) (S h : mx_H) (n : Int), mx_ex d 154 120 [l0] [v0] S h n = mx_ex d 154 122 [l0] [(0, 30), v0] S h n) ∧
  (∀ (d : Nat) (x : Int) (l0 : Option mx_V) (v1 : mx_V) (S h : mx_H) (n : Int), mx_ex d 154 122 [l0] [(0, x), v1] S h n = mx_gd (0 ≤ x ∧ x ≤ 300) d 154 124 [l0] [(2, n), v1] (mx_t S n 20 x) (mx_z h n) (n + 1)) ∧
  (∀ (d : Nat) (v a : Int) (l0 : Option mx_V) (S h : mx_H) (n : Int), mx_ex d 154 124 [l0] [(2, v), (2, a)] S h n = mx_gd (13 ≤ S a (-2) ∧ S a (-2) ≤ 13) d 154 127 [l0] [] (mx_u S a 21 v) h n) ∧
  (∀ (d : Nat) (x : Int) (S h : mx_H) (n : Int), mx_ex d 154 127 [some (2, x)] [] S h n = mx_ex d 154 128 [some (2, x)] [(2, x)] S h n) ∧
  (∀ (d : Nat) (a : Int) (l0 : Option mx_V) (S h : mx_H) (n : Int), mx_ex d 154 128 [l0] [(2, a)] S h n = mx_gd (13 ≤ S a (-2) ∧ S a (-2) ≤ 13) d 154 131 [l0] [(2, S a 0)] S h n) ∧
  (∀ (d : Nat) (l0 : Option mx_V) (v0 : mx_V) (S h : mx_H) (n : Int), mx_ex d 154 131 [l0] [v0] S h n = mx_ex d 154 132 [l0] [(0, 2), v0] S h n) ∧
  (∀ (d : Nat) (l0 : Option mx_V) (v0 v1 : mx_V) (S h : mx_H) (n : Int), mx_ex d 154 132 [l0] [v0, v1] S h n = mx_ex d 154 133 [l0] [(0, 1), v0, v1] S h n) ∧
  (∀ (d : Nat) (v i a : Int) (l0 : Option mx_V) (S h : mx_H) (n : Int), mx_ex d 154 133 [l0] [(0, v), (0, i), (2, a)] S h n = mx_gd (S a (-2) = 20 ∧ 0 ≤ i ∧ i < S a (-1)) d 154 134 [l0] [] S (mx_u h a i v) n) ∧
  (∀ (d : Nat) (x : Int) (S h : mx_H) (n : Int), mx_ex d 154 134 [some (2, x)] [] S h n = mx_ex d 154 135 [some (2, x)] [(2, x)] S h n) ∧
  (∀ (d : Nat) (a : Int) (l0 : Option mx_V) (S h : mx_H) (n : Int), mx_ex (d + 1) 154 135 [l0] [(2, a)] S h n = mx_cl (S a (-2) = 13) d 156 [(2, a)] 154 138 [l0] [] S h n) ∧
  (∀ (d : Nat) (l0 : Option mx_V) (S h : mx_H) (n : Int), mx_ex d 154 138 [l0] [] S h n = some (none, S, h, n)) :=
  ⟨by intros; exact eq_pr rfl,
   by intros; exact eq_ld rfl rfl,
   by intros; exact eq_push rfl,
   by intros; exact eq_newa rfl,
   by intros; exact eq_pr rfl,
   by intros; exact eq_ld rfl rfl,
   by intros; exact eq_gr rfl,
   by intros; exact eq_push rfl,
   by intros; exact eq_push rfl,
   by intros; exact eq_iast rfl,
   by intros; exact eq_ld rfl rfl,
   by intros; exact eq_cv rfl (Nat.le_of_ble_eq_true rfl) rfl rfl rfl (Nat.le_of_ble_eq_true rfl),
   by intros; exact eq_retv rfl⟩
theorem rh_X12_carry_2 : ∀ (d : Nat) (x : Int) (l0 l1 : Option mx_V) (S h : mx_H) (n : Int), mx_ex d 155 2 [l0, l1, some (0, x)] [] S h n = mx_ex d 155 3 [l0, l1, some (0, x)] [(0, x)] S h n := by intros; exact eq_ld rfl rfl
theorem rw_X12_carry :
  (∀ (d : Nat) (a0 a1 : Int) (S h : mx_H) (n : Int), mx_M d 155 [(2, a0), (2, a1)] S h n = mx_ex d 155 0 [some (2, a0), some (2, a1), none] [] S h n) ∧
  (∀ (d : Nat) (l0 l1 l2 : Option mx_V) (S h : mx_H) (n : Int), mx_ex d 155 0 [l0, l1, l2] [] S h n = mx_ex d 155 1 [l0, l1, l2] [(0, 0)] S h n) ∧
  (∀ (d : Nat) (x : Int) (l0 l1 l2 : Option mx_V) (S h : mx_H) (n : Int), mx_ex d 155 1 [l0, l1, l2] [(0, x)] S h n = mx_ex d 155 2 [l0, mx_nl l1, some (0, x)] [] S h n) ∧
  (∀ (d : Nat) (l0 l1 l2 : Option mx_V) (v0 : mx_V) (S h : mx_H) (n : Int), mx_ex d 155 3 [l0, l1, l2] [v0] S h n = mx_ex d 155 5 [l0, l1, l2] [(0, 93), v0] S h n) ∧
  (∀ (d : Nat) (b a : Int) (l0 l1 l2 : Option mx_V) (S h : mx_H) (n : Int), mx_ex d 155 5 [l0, l1, l2] [(0, b), (0, a)] S h n = mx_br (a < b) d 155 8 20 [l0, l1, l2] [] S h n) ∧
  (∀ (d : Nat) (x : Int) (l0 l2 : Option mx_V) (S h : mx_H) (n : Int), mx_ex d 155 8 [l0, some (2, x), l2] [] S h n = mx_ex d 155 9 [l0, some (2, x), l2] [(2, x)] S h n) ∧
  (∀ (d : Nat) (x : Int) (l0 l1 : Option mx_V) (v0 : mx_V) (S h : mx_H) (n : Int), mx_ex d 155 9 [l0, l1, some (0, x)] [v0] S h n = mx_ex d 155 10 [l0, l1, some (0, x)] [(0, x), v0] S h n) ∧
  (∀ (d : Nat) (x : Int) (l1 l2 : Option mx_V) (v0 v1 : mx_V) (S h : mx_H) (n : Int), mx_ex d 155 10 [some (2, x), l1, l2] [v0, v1] S h n = mx_ex d 155 11 [some (2, x), l1, l2] [(2, x), v0, v1] S h n) ∧
  (∀ (d : Nat) (x : Int) (l0 l1 : Option mx_V) (v0 v1 v2 : mx_V) (S h : mx_H) (n : Int), mx_ex d 155 11 [l0, l1, some (0, x)] [v0, v1, v2] S h n = mx_ex d 155 12 [l0, l1, some (0, x)] [(0, x), v0, v1, v2] S h n) ∧
  (∀ (d : Nat) (i a : Int) (l0 l1 l2 : Option mx_V) (v2 v3 : mx_V) (S h : mx_H) (n : Int), mx_ex d 155 12 [l0, l1, l2] [(0, i), (2, a), v2, v3] S h n = mx_gd ((S a (-2) = 20 ∨ S a (-2) = 24) ∧ 0 ≤ i ∧ i < S a (-1)) d 155 13 [l0, l1, l2] [(0, h a i), v2, v3] S h n) ∧
  (∀ (d : Nat) (v i a : Int) (l0 l1 l2 : Option mx_V) (S h : mx_H) (n : Int), mx_ex d 155 13 [l0, l1, l2] [(0, v), (0, i), (2, a)] S h n = mx_gd (S a (-2) = 20 ∧ 0 ≤ i ∧ i < S a (-1)) d 155 14 [l0, l1, l2] [] S (mx_u h a i v) n) ∧
  (∀ (d : Nat) (x : Int) (l0 l1 : Option mx_V) (S h : mx_H) (n : Int), mx_ex d 155 14 [l0, l1, some (0, x)] [] S h n = mx_ex d 155 17 [l0, mx_nl l1, some (0, mx_w (x + 1))] [] S h n) ∧
  (∀ (d : Nat) (l0 l1 l2 : Option mx_V) (S h : mx_H) (n : Int), mx_ex d 155 17 [l0, l1, l2] [] S h n = mx_ex d 155 2 [l0, l1, l2] [] S h n) ∧
  (∀ (d : Nat) (l0 l1 l2 : Option mx_V) (S h : mx_H) (n : Int), mx_ex d 155 20 [l0, l1, l2] [] S h n = some (none, S, h, n)) :=
  ⟨by intros; exact rfl,
   by intros; exact eq_push rfl,
   by intros; exact eq_st rfl (by decide) (Nat.le_of_ble_eq_true rfl) rfl,
   by intros; exact eq_push rfl,
   by intros; exact eq_ic3 rfl,
   by intros; exact eq_ld rfl rfl,
   by intros; exact eq_ld rfl rfl,
   by intros; exact eq_ld rfl rfl,
   by intros; exact eq_ld rfl rfl,
   by intros; exact eq_iald rfl,
   by intros; exact eq_iast rfl,
   by intros; exact eq_inc rfl rfl rfl,
   by intros; exact eq_go rfl,
   by intros; exact eq_retv rfl⟩
theorem rh_X12_clears_16 : ∀ (d : Nat) (x : Int) (l0 : Option mx_V) (S h : mx_H) (n : Int), mx_ex d 156 16 [l0, some (0, x)] [] S h n = mx_ex d 156 17 [l0, some (0, x)] [(0, x)] S h n := by intros; exact eq_ld rfl rfl
theorem rw_X12_clears :
  (∀ (d : Nat) (a0 : Int) (S h : mx_H) (n : Int), mx_M d 156 [(2, a0)] S h n = mx_ex d 156 0 [some (2, a0), none] [] S h n) ∧
  (∀ (d : Nat) (x : Int) (l1 : Option mx_V) (S h : mx_H) (n : Int), mx_ex d 156 0 [some (2, x), l1] [] S h n = mx_ex d 156 1 [some (2, x), l1] [(2, x)] S h n) ∧
  (∀ (d : Nat) (a : Int) (l0 l1 : Option mx_V) (S h : mx_H) (n : Int), mx_ex d 156 1 [l0, l1] [(2, a)] S h n = mx_gd (13 ≤ S a (-2) ∧ S a (-2) ≤ 13) d 156 4 [l0, l1] [(2, S a 0)] S h n) ∧
  (∀ (d : Nat) (l0 l1 : Option mx_V) (v0 : mx_V) (S h : mx_H) (n : Int), mx_ex d 156 4 [l0, l1] [v0] S h n = mx_ex d 156 5 [l0, l1] [(0, 0), v0] S h n) ∧
  (∀ (d : Nat) (l0 l1 : Option mx_V) (v0 v1 : mx_V) (S h : mx_H) (n : Int), mx_ex d 156 5 [l0, l1] [v0, v1] S h n = mx_ex d 156 6 [l0, l1] [(0, 0), v0, v1] S h n) ∧
  (∀ (d : Nat) (v i a : Int) (l0 l1 : Option mx_V) (S h : mx_H) (n : Int), mx_ex d 156 6 [l0, l1] [(0, v), (0, i), (2, a)] S h n = mx_gd (S a (-2) = 20 ∧ 0 ≤ i ∧ i < S a (-1)) d 156 7 [l0, l1] [] S (mx_u h a i v) n) ∧
  (∀ (d : Nat) (x : Int) (l1 : Option mx_V) (S h : mx_H) (n : Int), mx_ex d 156 7 [some (2, x), l1] [] S h n = mx_ex d 156 8 [some (2, x), l1] [(2, x)] S h n) ∧
  (∀ (d : Nat) (a : Int) (l0 l1 : Option mx_V) (S h : mx_H) (n : Int), mx_ex d 156 8 [l0, l1] [(2, a)] S h n = mx_gd (13 ≤ S a (-2) ∧ S a (-2) ≤ 13) d 156 11 [l0, l1] [(2, S a 0)] S h n) ∧
  (∀ (d : Nat) (l0 l1 : Option mx_V) (v0 : mx_V) (S h : mx_H) (n : Int), mx_ex d 156 11 [l0, l1] [v0] S h n = mx_ex d 156 12 [l0, l1] [(0, 1), v0] S h n) ∧
  (∀ (d : Nat) (l0 l1 : Option mx_V) (v0 v1 : mx_V) (S h : mx_H) (n : Int), mx_ex d 156 12 [l0, l1] [v0, v1] S h n = mx_ex d 156 13 [l0, l1] [(0, 0), v0, v1] S h n) ∧
  (∀ (d : Nat) (v i a : Int) (l0 l1 : Option mx_V) (S h : mx_H) (n : Int), mx_ex d 156 13 [l0, l1] [(0, v), (0, i), (2, a)] S h n = mx_gd (S a (-2) = 20 ∧ 0 ≤ i ∧ i < S a (-1)) d 156 14 [l0, l1] [] S (mx_u h a i v) n) ∧
  (∀ (d : Nat) (l0 l1 : Option mx_V) (S h : mx_H) (n : Int), mx_ex d 156 14 [l0, l1] [] S h n = mx_ex d 156 15 [l0, l1] [(0, 0)] S h n) ∧
  (∀ (d : Nat) (x : Int) (l0 l1 : Option mx_V) (S h : mx_H) (n : Int), mx_ex d 156 15 [l0, l1] [(0, x)] S h n = mx_ex d 156 16 [mx_nl l0, some (0, x)] [] S h n) ∧
  (∀ (d : Nat) (l0 l1 : Option mx_V) (v0 : mx_V) (S h : mx_H) (n : Int), mx_ex d 156 17 [l0, l1] [v0] S h n = mx_ex d 156 18 [l0, l1] [(0, 3), v0] S h n) ∧
  (∀ (d : Nat) (b a : Int) (l0 l1 : Option mx_V) (S h : mx_H) (n : Int), mx_ex d 156 18 [l0, l1] [(0, b), (0, a)] S h n = mx_br (a < b) d 156 21 52 [l0, l1] [] S h n) ∧
  (∀ (d : Nat) (x : Int) (l1 : Option mx_V) (S h : mx_H) (n : Int), mx_ex d 156 21 [some (2, x), l1] [] S h n = mx_ex d 156 22 [some (2, x), l1] [(2, x)] S h n) ∧
  (∀ (d : Nat) (a : Int) (l0 l1 : Option mx_V) (S h : mx_H) (n : Int), mx_ex d 156 22 [l0, l1] [(2, a)] S h n = mx_gd (13 ≤ S a (-2) ∧ S a (-2) ≤ 13) d 156 25 [l0, l1] [(2, S a 0)] S h n) ∧
  (∀ (d : Nat) (l0 l1 : Option mx_V) (v0 : mx_V) (S h : mx_H) (n : Int), mx_ex d 156 25 [l0, l1] [v0] S h n = mx_ex d 156 26 [l0, l1] [(0, 3), v0] S h n) ∧
  (∀ (d : Nat) (l0 l1 : Option mx_V) (v0 v1 : mx_V) (S h : mx_H) (n : Int), mx_ex d 156 26 [l0, l1] [v0, v1] S h n = mx_ex d 156 27 [l0, l1] [(0, 2), v0, v1] S h n) ∧
  (∀ (d : Nat) (x : Int) (l0 : Option mx_V) (v0 v1 v2 : mx_V) (S h : mx_H) (n : Int), mx_ex d 156 27 [l0, some (0, x)] [v0, v1, v2] S h n = mx_ex d 156 28 [l0, some (0, x)] [(0, x), v0, v1, v2] S h n) ∧
  (∀ (d : Nat) (b a : Int) (l0 l1 : Option mx_V) (v2 v3 : mx_V) (S h : mx_H) (n : Int), mx_ex d 156 28 [l0, l1] [(0, b), (0, a), v2, v3] S h n = mx_ex d 156 29 [l0, l1] [(0, mx_w (a * b)), v2, v3] S h n) ∧
  (∀ (d : Nat) (b a : Int) (l0 l1 : Option mx_V) (v2 : mx_V) (S h : mx_H) (n : Int), mx_ex d 156 29 [l0, l1] [(0, b), (0, a), v2] S h n = mx_ex d 156 30 [l0, l1] [(0, mx_w (a + b)), v2] S h n) ∧
  (∀ (d : Nat) (l0 l1 : Option mx_V) (v0 v1 : mx_V) (S h : mx_H) (n : Int), mx_ex d 156 30 [l0, l1] [v0, v1] S h n = mx_ex d 156 31 [l0, l1] [(0, 2), v0, v1] S h n) ∧
  (∀ (d : Nat) (v i a : Int) (l0 l1 : Option mx_V) (S h : mx_H) (n : Int), mx_ex d 156 31 [l0, l1] [(0, v), (0, i), (2, a)] S h n = mx_gd (S a (-2) = 20 ∧ 0 ≤ i ∧ i < S a (-1)) d 156 32 [l0, l1] [] S (mx_u h a i v) n) ∧
  (∀ (d : Nat) (x : Int) (l1 : Option mx_V) (S h : mx_H) (n : Int), mx_ex d 156 32 [some (2, x), l1] [] S h n = mx_ex d 156 33 [some (2, x), l1] [(2, x)] S h n) ∧
  (∀ (d : Nat) (a : Int) (l0 l1 : Option mx_V) (S h : mx_H) (n : Int), mx_ex d 156 33 [l0, l1] [(2, a)] S h n = mx_gd (13 ≤ S a (-2) ∧ S a (-2) ≤ 13) d 156 36 [l0, l1] [(2, S a 0)] S h n) ∧
  (∀ (d : Nat) (l0 l1 : Option mx_V) (v0 : mx_V) (S h : mx_H) (n : Int), mx_ex d 156 36 [l0, l1] [v0] S h n = mx_ex d 156 37 [l0, l1] [(0, 3), v0] S h n) ∧
  (∀ (d : Nat) (l0 l1 : Option mx_V) (v0 v1 : mx_V) (S h : mx_H) (n : Int), mx_ex d 156 37 [l0, l1] [v0, v1] S h n = mx_ex d 156 38 [l0, l1] [(0, 2), v0, v1] S h n) ∧
  (∀ (d : Nat) (x : Int) (l0 : Option mx_V) (v0 v1 v2 : mx_V) (S h : mx_H) (n : Int), mx_ex d 156 38 [l0, some (0, x)] [v0, v1, v2] S h n = mx_ex d 156 39 [l0, some (0, x)] [(0, x), v0, v1, v2] S h n) ∧
  (∀ (d : Nat) (b a : Int) (l0 l1 : Option mx_V) (v2 v3 : mx_V) (S h : mx_H) (n : Int), mx_ex d 156 39 [l0, l1] [(0, b), (0, a), v2, v3] S h n = mx_ex d 156 40 [l0, l1] [(0, mx_w (a * b)), v2, v3] S h n) ∧
  (∀ (d : Nat) (b a : Int) (l0 l1 : Option mx_V) (v2 : mx_V) (S h : mx_H) (n : Int), mx_ex d 156 40 [l0, l1] [(0, b), (0, a), v2] S h n = mx_ex d 156 41 [l0, l1] [(0, mx_w (a + b)), v2] S h n) ∧
  (∀ (d : Nat) (l0 l1 : Option mx_V) (v0 v1 : mx_V) (S h : mx_H) (n : Int), mx_ex d 156 41 [l0, l1] [v0, v1] S h n = mx_ex d 156 42 [l0, l1] [(0, 1), v0, v1] S h n) ∧
  (∀ (d : Nat) (b a : Int) (l0 l1 : Option mx_V) (v2 : mx_V) (S h : mx_H) (n : Int), mx_ex d 156 42 [l0, l1] [(0, b), (0, a), v2] S h n = mx_ex d 156 43 [l0, l1] [(0, mx_w (a + b)), v2] S h n) ∧
  (∀ (d : Nat) (l0 l1 : Option mx_V) (v0 v1 : mx_V) (S h : mx_H) (n : Int), mx_ex d 156 43 [l0, l1] [v0, v1] S h n = mx_ex d 156 45 [l0, l1] [(0, 16), v0, v1] S h n) ∧
  (∀ (d : Nat) (v i a : Int) (l0 l1 : Option mx_V) (S h : mx_H) (n : Int), mx_ex d 156 45 [l0, l1] [(0, v), (0, i), (2, a)] S h n = mx_gd (S a (-2) = 20 ∧ 0 ≤ i ∧ i < S a (-1)) d 156 46 [l0, l1] [] S (mx_u h a i v) n) ∧
  (∀ (d : Nat) (x : Int) (l0 : Option mx_V) (S h : mx_H) (n : Int), mx_ex d 156 46 [l0, some (0, x)] [] S h n = mx_ex d 156 49 [mx_nl l0, some (0, mx_w (x + 1))] [] S h n) ∧
  (∀ (d : Nat) (l0 l1 : Option mx_V) (S h : mx_H) (n : Int), mx_ex d 156 49 [l0, l1] [] S h n = mx_ex d 156 16 [l0, l1] [] S h n) ∧
  (∀ (d : Nat) (l0 l1 : Option mx_V) (S h : mx_H) (n : Int), mx_ex d 156 52 [l0, l1] [] S h n = some (none, S, h, n)) :=
  ⟨by intros; exact rfl,
   by intros; exact eq_ld rfl rfl,
   by intros; exact eq_gr rfl,
   by intros; exact eq_push rfl,
   by intros; exact eq_push rfl,
   by intros; exact eq_iast rfl,
   by intros; exact eq_ld rfl rfl,
   by intros; exact eq_gr rfl,
   by intros; exact eq_push rfl,
   by intros; exact eq_push rfl,
   by intros; exact eq_iast rfl,
   by intros; exact eq_push rfl,
   by intros; exact eq_st rfl (by decide) (Nat.le_of_ble_eq_true rfl) rfl,
   by intros; exact eq_push rfl,
   by intros; exact eq_ic3 rfl,
   by intros; exact eq_ld rfl rfl,
   by intros; exact eq_gr rfl,
   by intros; exact eq_push rfl,
   by intros; exact eq_push rfl,
   by intros; exact eq_ld rfl rfl,
   by intros; exact eq_i2 (o := mx_mul) rfl,
   by intros; exact eq_i2 (o := mx_add) rfl,
   by intros; exact eq_push rfl,
   by intros; exact eq_iast rfl,
   by intros; exact eq_ld rfl rfl,
   by intros; exact eq_gr rfl,
   by intros; exact eq_push rfl,
   by intros; exact eq_push rfl,
   by intros; exact eq_ld rfl rfl,
   by intros; exact eq_i2 (o := mx_mul) rfl,
   by intros; exact eq_i2 (o := mx_add) rfl,
   by intros; exact eq_push rfl,
   by intros; exact eq_i2 (o := mx_add) rfl,
   by intros; exact eq_push rfl,
   by intros; exact eq_iast rfl,
   by intros; exact eq_inc rfl rfl rfl,
   by intros; exact eq_go rfl,
   by intros; exact eq_retv rfl⟩
theorem rw_X12_in :
  (∀ (d : Nat) (a0 a1 a2 : Int) (S h : mx_H) (n : Int), mx_M d 157 [(0, a0), (0, a1), (0, a2)] S h n = mx_ex d 157 0 [some (0, a0), some (0, a1), some (0, a2)] [] S h n) ∧
  (∀ (d : Nat) (x : Int) (l1 l2 : Option mx_V) (S h : mx_H) (n : Int), mx_ex d 157 0 [some (0, x), l1, l2] [] S h n = mx_ex d 157 1 [some (0, x), l1, l2] [(0, x)] S h n) ∧
  (∀ (d : Nat) (x : Int) (l0 l2 : Option mx_V) (v0 : mx_V) (S h : mx_H) (n : Int), mx_ex d 157 1 [l0, some (0, x), l2] [v0] S h n = mx_ex d 157 2 [l0, some (0, x), l2] [(0, x), v0] S h n) ∧
  (∀ (d : Nat) (b a : Int) (l0 l1 l2 : Option mx_V) (S h : mx_H) (n : Int), mx_ex d 157 2 [l0, l1, l2] [(0, b), (0, a)] S h n = mx_br (a < b) d 157 14 5 [l0, l1, l2] [] S h n) ∧
  (∀ (d : Nat) (x : Int) (l1 l2 : Option mx_V) (S h : mx_H) (n : Int), mx_ex d 157 5 [some (0, x), l1, l2] [] S h n = mx_ex d 157 6 [some (0, x), l1, l2] [(0, x)] S h n) ∧
  (∀ (d : Nat) (x : Int) (l0 l1 : Option mx_V) (v0 : mx_V) (S h : mx_H) (n : Int), mx_ex d 157 6 [l0, l1, some (0, x)] [v0] S h n = mx_ex d 157 7 [l0, l1, some (0, x)] [(0, x), v0] S h n) ∧
  (∀ (d : Nat) (b a : Int) (l0 l1 l2 : Option mx_V) (S h : mx_H) (n : Int), mx_ex d 157 7 [l0, l1, l2] [(0, b), (0, a)] S h n = mx_br (b < a) d 157 14 10 [l0, l1, l2] [] S h n) ∧
  (∀ (d : Nat) (l0 l1 l2 : Option mx_V) (S h : mx_H) (n : Int), mx_ex d 157 10 [l0, l1, l2] [] S h n = mx_ex d 157 11 [l0, l1, l2] [(0, 1)] S h n) ∧
  (∀ (d : Nat) (l0 l1 l2 : Option mx_V) (v0 : mx_V) (S h : mx_H) (n : Int), mx_ex d 157 11 [l0, l1, l2] [v0] S h n = mx_ex d 157 15 [l0, l1, l2] [v0] S h n) ∧
  (∀ (d : Nat) (l0 l1 l2 : Option mx_V) (S h : mx_H) (n : Int), mx_ex d 157 14 [l0, l1, l2] [] S h n = mx_ex d 157 15 [l0, l1, l2] [(0, 0)] S h n) ∧
  (∀ (d : Nat) (x : Int) (l0 l1 l2 : Option mx_V) (S h : mx_H) (n : Int), mx_ex d 157 15 [l0, l1, l2] [(0, x)] S h n = mx_re (0 ≤ x ∧ x ≤ 1) (some (0, x)) S h n) :=
  ⟨by intros; exact rfl,
   by intros; exact eq_ld rfl rfl,
   by intros; exact eq_ld rfl rfl,
   by intros; exact eq_ic2 rfl,
   by intros; exact eq_ld rfl rfl,
   by intros; exact eq_ld rfl rfl,
   by intros; exact eq_ic4 rfl,
   by intros; exact eq_push rfl,
   by intros; exact eq_go rfl,
   by intros; exact eq_push rfl,
   by intros; exact eq_rr rfl⟩
theorem rw_X12_isNote :
  (∀ (d : Nat) (a0 a1 : Int) (S h : mx_H) (n : Int), mx_M d 158 [(2, a0), (0, a1)] S h n = mx_ex d 158 0 [some (2, a0), some (0, a1)] [] S h n) ∧
  (∀ (d : Nat) (x : Int) (l0 : Option mx_V) (S h : mx_H) (n : Int), mx_ex d 158 0 [l0, some (0, x)] [] S h n = mx_ex d 158 1 [l0, some (0, x)] [(0, x)] S h n) ∧
  (∀ (d : Nat) (l0 l1 : Option mx_V) (v0 : mx_V) (S h : mx_H) (n : Int), mx_ex d 158 1 [l0, l1] [v0] S h n = mx_ex d 158 2 [l0, l1] [(0, 0), v0] S h n) ∧
  (∀ (d : Nat) (x : Int) (l1 : Option mx_V) (v0 v1 : mx_V) (S h : mx_H) (n : Int), mx_ex d 158 2 [some (2, x), l1] [v0, v1] S h n = mx_ex d 158 3 [some (2, x), l1] [(2, x), v0, v1] S h n) ∧
  (∀ (d : Nat) (a : Int) (l0 l1 : Option mx_V) (v1 v2 : mx_V) (S h : mx_H) (n : Int), mx_ex d 158 3 [l0, l1] [(2, a), v1, v2] S h n = mx_gd (13 ≤ S a (-2) ∧ S a (-2) ≤ 13) d 158 6 [l0, l1] [(2, S a 0), v1, v2] S h n) ∧
  (∀ (d : Nat) (l0 l1 : Option mx_V) (v0 v1 v2 : mx_V) (S h : mx_H) (n : Int), mx_ex d 158 6 [l0, l1] [v0, v1, v2] S h n = mx_ex d 158 7 [l0, l1] [(0, 0), v0, v1, v2] S h n) ∧
  (∀ (d : Nat) (i a : Int) (l0 l1 : Option mx_V) (v2 v3 : mx_V) (S h : mx_H) (n : Int), mx_ex d 158 7 [l0, l1] [(0, i), (2, a), v2, v3] S h n = mx_gd ((S a (-2) = 20 ∨ S a (-2) = 24) ∧ 0 ≤ i ∧ i < S a (-1)) d 158 8 [l0, l1] [(0, h a i), v2, v3] S h n) ∧
  (∀ (d : Nat) (l0 l1 : Option mx_V) (v0 v1 v2 : mx_V) (S h : mx_H) (n : Int), mx_ex d 158 8 [l0, l1] [v0, v1, v2] S h n = mx_ex d 158 9 [l0, l1] [(0, 1), v0, v1, v2] S h n) ∧
  (∀ (d : Nat) (b a : Int) (l0 l1 : Option mx_V) (v2 v3 : mx_V) (S h : mx_H) (n : Int), mx_ex d 158 9 [l0, l1] [(0, b), (0, a), v2, v3] S h n = mx_ex d 158 10 [l0, l1] [(0, mx_w (a - b)), v2, v3] S h n) ∧
  (∀ (d : Nat) (x0 x1 x2 : Int) (l0 l1 : Option mx_V) (S h : mx_H) (n : Int), mx_ex (d + 1) 158 10 [l0, l1] [(0, x0), (0, x1), (0, x2)] S h n = mx_rt (mx_M d 157 [(0, x2), (0, x1), (0, x0)] S h n) (d + 1) 158 13 [l0, l1] []) ∧
  (∀ (d : Nat) (x : Int) (l0 l1 : Option mx_V) (S h : mx_H) (n : Int), mx_ex d 158 13 [l0, l1] [(0, x)] S h n = mx_re (0 ≤ x ∧ x ≤ 1) (some (0, x)) S h n) :=
  ⟨by intros; exact rfl,
   by intros; exact eq_ld rfl rfl,
   by intros; exact eq_push rfl,
   by intros; exact eq_ld rfl rfl,
   by intros; exact eq_gr rfl,
   by intros; exact eq_push rfl,
   by intros; exact eq_iald rfl,
   by intros; exact eq_push rfl,
   by intros; exact eq_i2 (o := mx_sub) rfl,
   by intros; exact eq_cs rfl (Nat.le_of_ble_eq_true rfl) rfl rfl rfl (Nat.le_of_ble_eq_true rfl),
   by intros; exact eq_rr rfl⟩
theorem rw_X12_isEvening :
  (∀ (d : Nat) (a0 : Int) (S h : mx_H) (n : Int), mx_M d 159 [(0, a0)] S h n = mx_ex d 159 0 [some (0, a0)] [] S h n) ∧
  (∀ (d : Nat) (x : Int) (S h : mx_H) (n : Int), mx_ex d 159 0 [some (0, x)] [] S h n = mx_ex d 159 1 [some (0, x)] [(0, x)] S h n) ∧
  (∀ (d : Nat) (l0 : Option mx_V) (v0 : mx_V) (S h : mx_H) (n : Int), mx_ex d 159 1 [l0] [v0] S h n = mx_ex d 159 2 [l0] [(0, 0), v0] S h n) ∧
  (∀ (d : Nat) (l0 : Option mx_V) (v0 v1 : mx_V) (S h : mx_H) (n : Int), mx_ex d 159 2 [l0] [v0, v1] S h n = mx_ex d 159 3 [l0] [(0, 2), v0, v1] S h n) ∧
  (∀ (d : Nat) (x0 x1 x2 : Int) (l0 : Option mx_V) (S h : mx_H) (n : Int), mx_ex (d + 1) 159 3 [l0] [(0, x0), (0, x1), (0, x2)] S h n = mx_rt (mx_M d 157 [(0, x2), (0, x1), (0, x0)] S h n) (d + 1) 159 6 [l0] []) ∧
  (∀ (d : Nat) (x : Int) (l0 : Option mx_V) (S h : mx_H) (n : Int), mx_ex d 159 6 [l0] [(0, x)] S h n = mx_re (0 ≤ x ∧ x ≤ 1) (some (0, x)) S h n) :=
  ⟨by intros; exact rfl,
   by intros; exact eq_ld rfl rfl,
   by intros; exact eq_push rfl,
   by intros; exact eq_push rfl,
   by intros; exact eq_cs rfl (Nat.le_of_ble_eq_true rfl) rfl rfl rfl (Nat.le_of_ble_eq_true rfl),
   by intros; exact eq_rr rfl⟩
theorem rw_X12_isBase :
  (∀ (d : Nat) (a0 : Int) (S h : mx_H) (n : Int), mx_M d 160 [(0, a0)] S h n = mx_ex d 160 0 [some (0, a0)] [] S h n) ∧
  (∀ (d : Nat) (x : Int) (S h : mx_H) (n : Int), mx_ex d 160 0 [some (0, x)] [] S h n = mx_ex d 160 1 [some (0, x)] [(0, x)] S h n) ∧
  (∀ (d : Nat) (l0 : Option mx_V) (v0 : mx_V) (S h : mx_H) (n : Int), mx_ex d 160 1 [l0] [v0] S h n = mx_ex d 160 2 [l0] [(0, 2), v0] S h n) ∧
  (∀ (d : Nat) (l0 : Option mx_V) (v0 v1 : mx_V) (S h : mx_H) (n : Int), mx_ex d 160 2 [l0] [v0, v1] S h n = mx_ex d 160 4 [l0] [(0, 16), v0, v1] S h n) ∧
  (∀ (d : Nat) (x0 x1 x2 : Int) (l0 : Option mx_V) (S h : mx_H) (n : Int), mx_ex (d + 1) 160 4 [l0] [(0, x0), (0, x1), (0, x2)] S h n = mx_rt (mx_M d 157 [(0, x2), (0, x1), (0, x0)] S h n) (d + 1) 160 7 [l0] []) ∧
  (∀ (d : Nat) (x : Int) (l0 : Option mx_V) (S h : mx_H) (n : Int), mx_ex d 160 7 [l0] [(0, x)] S h n = mx_re (0 ≤ x ∧ x ≤ 1) (some (0, x)) S h n) :=
  ⟨by intros; exact rfl,
   by intros; exact eq_ld rfl rfl,
   by intros; exact eq_push rfl,
   by intros; exact eq_push rfl,
   by intros; exact eq_cs rfl (Nat.le_of_ble_eq_true rfl) rfl rfl rfl (Nat.le_of_ble_eq_true rfl),
   by intros; exact eq_rr rfl⟩
theorem rw_X12_its :
  (∀ (d : Nat) (a0 a1 a2 : Int) (S h : mx_H) (n : Int), mx_M d 161 [(2, a0), (0, a1), (0, a2)] S h n = mx_ex d 161 0 [some (2, a0), some (0, a1), some (0, a2)] [] S h n) ∧
  (∀ (d : Nat) (x : Int) (l1 l2 : Option mx_V) (S h : mx_H) (n : Int), mx_ex d 161 0 [some (2, x), l1, l2] [] S h n = mx_ex d 161 1 [some (2, x), l1, l2] [(2, x)] S h n) ∧
  (∀ (d : Nat) (a : Int) (l0 l1 l2 : Option mx_V) (S h : mx_H) (n : Int), mx_ex d 161 1 [l0, l1, l2] [(2, a)] S h n = mx_gd (13 ≤ S a (-2) ∧ S a (-2) ≤ 13) d 161 4 [l0, l1, l2] [(2, S a 0)] S h n) ∧
  (∀ (d : Nat) (l0 l1 l2 : Option mx_V) (v0 : mx_V) (S h : mx_H) (n : Int), mx_ex d 161 4 [l0, l1, l2] [v0] S h n = mx_ex d 161 6 [l0, l1, l2] [(0, 9), v0] S h n) ∧
  (∀ (d : Nat) (l0 l1 l2 : Option mx_V) (v0 v1 : mx_V) (S h : mx_H) (n : Int), mx_ex d 161 6 [l0, l1, l2] [v0, v1] S h n = mx_ex d 161 8 [l0, l1, l2] [(0, 10), v0, v1] S h n) ∧
  (∀ (d : Nat) (x : Int) (l0 l2 : Option mx_V) (v0 v1 v2 : mx_V) (S h : mx_H) (n : Int), mx_ex d 161 8 [l0, some (0, x), l2] [v0, v1, v2] S h n = mx_ex d 161 9 [l0, some (0, x), l2] [(0, x), v0, v1, v2] S h n) ∧
  (∀ (d : Nat) (b a : Int) (l0 l1 l2 : Option mx_V) (v2 v3 : mx_V) (S h : mx_H) (n : Int), mx_ex d 161 9 [l0, l1, l2] [(0, b), (0, a), v2, v3] S h n = mx_ex d 161 10 [l0, l1, l2] [(0, mx_w (a * b)), v2, v3] S h n) ∧
  (∀ (d : Nat) (b a : Int) (l0 l1 l2 : Option mx_V) (v2 : mx_V) (S h : mx_H) (n : Int), mx_ex d 161 10 [l0, l1, l2] [(0, b), (0, a), v2] S h n = mx_ex d 161 11 [l0, l1, l2] [(0, mx_w (a + b)), v2] S h n) ∧
  (∀ (d : Nat) (x : Int) (l0 l1 : Option mx_V) (v0 v1 : mx_V) (S h : mx_H) (n : Int), mx_ex d 161 11 [l0, l1, some (0, x)] [v0, v1] S h n = mx_ex d 161 12 [l0, l1, some (0, x)] [(0, x), v0, v1] S h n) ∧
  (∀ (d : Nat) (b a : Int) (l0 l1 l2 : Option mx_V) (v2 : mx_V) (S h : mx_H) (n : Int), mx_ex d 161 12 [l0, l1, l2] [(0, b), (0, a), v2] S h n = mx_ex d 161 13 [l0, l1, l2] [(0, mx_w (a + b)), v2] S h n) ∧
  (∀ (d : Nat) (i a : Int) (l0 l1 l2 : Option mx_V) (S h : mx_H) (n : Int), mx_ex d 161 13 [l0, l1, l2] [(0, i), (2, a)] S h n = mx_gd ((S a (-2) = 20 ∨ S a (-2) = 24) ∧ 0 ≤ i ∧ i < S a (-1)) d 161 14 [l0, l1, l2] [(0, h a i)] S h n) ∧
  (∀ (d : Nat) (x : Int) (l0 l1 l2 : Option mx_V) (S h : mx_H) (n : Int), mx_ex d 161 14 [l0, l1, l2] [(0, x)] S h n = some (some (0, x), S, h, n)) :=
  ⟨by intros; exact rfl,
   by intros; exact eq_ld rfl rfl,
   by intros; exact eq_gr rfl,
   by intros; exact eq_push rfl,
   by intros; exact eq_push rfl,
   by intros; exact eq_ld rfl rfl,
   by intros; exact eq_i2 (o := mx_mul) rfl,
   by intros; exact eq_i2 (o := mx_add) rfl,
   by intros; exact eq_ld rfl rfl,
   by intros; exact eq_i2 (o := mx_add) rfl,
   by intros; exact eq_iald rfl,
   by intros; exact eq_ret rfl⟩
theorem rw_X12_of :
  (∀ (d : Nat) (a0 a1 a2 : Int) (S h : mx_H) (n : Int), mx_M d 162 [(2, a0), (0, a1), (0, a2)] S h n = mx_ex d 162 0 [some (2, a0), some (0, a1), some (0, a2)] [] S h n) ∧
  (∀ (d : Nat) (x : Int) (l1 l2 : Option mx_V) (S h : mx_H) (n : Int), mx_ex d 162 0 [some (2, x), l1, l2] [] S h n = mx_ex d 162 1 [some (2, x), l1, l2] [(2, x)] S h n) ∧
  (∀ (d : Nat) (a : Int) (l0 l1 l2 : Option mx_V) (S h : mx_H) (n : Int), mx_ex d 162 1 [l0, l1, l2] [(2, a)] S h n = mx_gd (13 ≤ S a (-2) ∧ S a (-2) ≤ 13) d 162 4 [l0, l1, l2] [(2, S a 0)] S h n) ∧
  (∀ (d : Nat) (l0 l1 l2 : Option mx_V) (v0 : mx_V) (S h : mx_H) (n : Int), mx_ex d 162 4 [l0, l1, l2] [v0] S h n = mx_ex d 162 6 [l0, l1, l2] [(0, 69), v0] S h n) ∧
  (∀ (d : Nat) (l0 l1 l2 : Option mx_V) (v0 v1 : mx_V) (S h : mx_H) (n : Int), mx_ex d 162 6 [l0, l1, l2] [v0, v1] S h n = mx_ex d 162 7 [l0, l1, l2] [(0, 4), v0, v1] S h n) ∧
  (∀ (d : Nat) (x : Int) (l0 l2 : Option mx_V) (v0 v1 v2 : mx_V) (S h : mx_H) (n : Int), mx_ex d 162 7 [l0, some (0, x), l2] [v0, v1, v2] S h n = mx_ex d 162 8 [l0, some (0, x), l2] [(0, x), v0, v1, v2] S h n) ∧
  (∀ (d : Nat) (b a : Int) (l0 l1 l2 : Option mx_V) (v2 v3 : mx_V) (S h : mx_H) (n : Int), mx_ex d 162 8 [l0, l1, l2] [(0, b), (0, a), v2, v3] S h n = mx_ex d 162 9 [l0, l1, l2] [(0, mx_w (a * b)), v2, v3] S h n) ∧
  (∀ (d : Nat) (b a : Int) (l0 l1 l2 : Option mx_V) (v2 : mx_V) (S h : mx_H) (n : Int), mx_ex d 162 9 [l0, l1, l2] [(0, b), (0, a), v2] S h n = mx_ex d 162 10 [l0, l1, l2] [(0, mx_w (a + b)), v2] S h n) ∧
  (∀ (d : Nat) (x : Int) (l0 l1 : Option mx_V) (v0 v1 : mx_V) (S h : mx_H) (n : Int), mx_ex d 162 10 [l0, l1, some (0, x)] [v0, v1] S h n = mx_ex d 162 11 [l0, l1, some (0, x)] [(0, x), v0, v1] S h n) ∧
  (∀ (d : Nat) (b a : Int) (l0 l1 l2 : Option mx_V) (v2 : mx_V) (S h : mx_H) (n : Int), mx_ex d 162 11 [l0, l1, l2] [(0, b), (0, a), v2] S h n = mx_ex d 162 12 [l0, l1, l2] [(0, mx_w (a + b)), v2] S h n) ∧
  (∀ (d : Nat) (i a : Int) (l0 l1 l2 : Option mx_V) (S h : mx_H) (n : Int), mx_ex d 162 12 [l0, l1, l2] [(0, i), (2, a)] S h n = mx_gd ((S a (-2) = 20 ∨ S a (-2) = 24) ∧ 0 ≤ i ∧ i < S a (-1)) d 162 13 [l0, l1, l2] [(0, h a i)] S h n) ∧
  (∀ (d : Nat) (x : Int) (l0 l1 l2 : Option mx_V) (S h : mx_H) (n : Int), mx_ex d 162 13 [l0, l1, l2] [(0, x)] S h n = some (some (0, x), S, h, n)) :=
  ⟨by intros; exact rfl,
   by intros; exact eq_ld rfl rfl,
   by intros; exact eq_gr rfl,
   by intros; exact eq_push rfl,
   by intros; exact eq_push rfl,
   by intros; exact eq_ld rfl rfl,
   by intros; exact eq_i2 (o := mx_mul) rfl,
   by intros; exact eq_i2 (o := mx_add) rfl,
   by intros; exact eq_ld rfl rfl,
   by intros; exact eq_i2 (o := mx_add) rfl,
   by intros; exact eq_iald rfl,
   by intros; exact eq_ret rfl⟩
theorem rh_X12_feed_30 : ∀ (d : Nat) (x : Int) (l0 l1 l2 l3 : Option mx_V) (S h : mx_H) (n : Int), mx_ex d 163 30 [l0, l1, l2, l3, some (0, x)] [] S h n = mx_ex d 163 32 [l0, l1, l2, l3, some (0, x)] [(0, x)] S h n := by intros; exact eq_ld rfl rfl
theorem rw_X12_feed :
  (∀ (d : Nat) (a0 a1 a2 : Int) (S h : mx_H) (n : Int), mx_M d 163 [(2, a0), (1, a1), (0, a2)] S h n = mx_ex d 163 0 [some (2, a0), some (1, a1), none, some (0, a2), none] [] S h n) ∧
  (∀ (d : Nat) (x : Int) (l0 l1 l2 l4 : Option mx_V) (S h : mx_H) (n : Int), mx_ex d 163 0 [l0, l1, l2, some (0, x), l4] [] S h n = mx_ex d 163 1 [l0, l1, l2, some (0, x), l4] [(0, x)] S h n) ∧
  (∀ (d : Nat) (l0 l1 l2 l3 l4 : Option mx_V) (v0 : mx_V) (S h : mx_H) (n : Int), mx_ex d 163 1 [l0, l1, l2, l3, l4] [v0] S h n = mx_ex d 163 2 [l0, l1, l2, l3, l4] [(0, 1), v0] S h n) ∧
  (∀ (d : Nat) (l0 l1 l2 l3 l4 : Option mx_V) (v0 v1 : mx_V) (S h : mx_H) (n : Int), mx_ex d 163 2 [l0, l1, l2, l3, l4] [v0, v1] S h n = mx_ex d 163 4 [l0, l1, l2, l3, l4] [(0, 8), v0, v1] S h n) ∧
  (∀ (d : Nat) (x0 x1 x2 : Int) (l0 l1 l2 l3 l4 : Option mx_V) (S h : mx_H) (n : Int), mx_ex (d + 1) 163 4 [l0, l1, l2, l3, l4] [(0, x0), (0, x1), (0, x2)] S h n = mx_rt (mx_M d 157 [(0, x2), (0, x1), (0, x0)] S h n) (d + 1) 163 7 [l0, l1, l2, l3, l4] []) ∧
  (∀ (d : Nat) (a : Int) (l0 l1 l2 l3 l4 : Option mx_V) (S h : mx_H) (n : Int), mx_ex d 163 7 [l0, l1, l2, l3, l4] [(0, a)] S h n = mx_br (a = 0) d 163 10 12 [l0, l1, l2, l3, l4] [] S h n) ∧
  (∀ (d : Nat) (l0 l1 l2 l3 l4 : Option mx_V) (S h : mx_H) (n : Int), mx_ex d 163 10 [l0, l1, l2, l3, l4] [] S h n = mx_ex d 163 11 [l0, l1, l2, l3, l4] [(0, (-1))] S h n) ∧
  (∀ (d : Nat) (x : Int) (l0 l1 l2 l3 l4 : Option mx_V) (S h : mx_H) (n : Int), mx_ex d 163 11 [l0, l1, l2, l3, l4] [(0, x)] S h n = some (some (0, x), S, h, n)) ∧
  (∀ (d : Nat) (x : Int) (l1 l2 l3 l4 : Option mx_V) (S h : mx_H) (n : Int), mx_ex d 163 12 [some (2, x), l1, l2, l3, l4] [] S h n = mx_ex d 163 13 [some (2, x), l1, l2, l3, l4] [(2, x)] S h n) ∧
  (∀ (d : Nat) (a : Int) (l0 l1 l2 l3 l4 : Option mx_V) (S h : mx_H) (n : Int), mx_ex d 163 13 [l0, l1, l2, l3, l4] [(2, a)] S h n = mx_gd (13 ≤ S a (-2) ∧ S a (-2) ≤ 13) d 163 16 [l0, l1, l2, l3, l4] [(0, h a 5)] S h n) ∧
  (∀ (d : Nat) (x : Int) (l0 l1 l2 l4 : Option mx_V) (v0 : mx_V) (S h : mx_H) (n : Int), mx_ex d 163 16 [l0, l1, l2, some (0, x), l4] [v0] S h n = mx_ex d 163 17 [l0, l1, l2, some (0, x), l4] [(0, x), v0] S h n) ∧
  (∀ (d : Nat) (b a : Int) (l0 l1 l2 l3 l4 : Option mx_V) (S h : mx_H) (n : Int), mx_ex d 163 17 [l0, l1, l2, l3, l4] [(0, b), (0, a)] S h n = mx_ex d 163 18 [l0, l1, l2, l3, l4] [(0, mx_w (a + b))] S h n) ∧
  (∀ (d : Nat) (l0 l1 l2 l3 l4 : Option mx_V) (v0 : mx_V) (S h : mx_H) (n : Int), mx_ex d 163 18 [l0, l1, l2, l3, l4] [v0] S h n = mx_ex d 163 21 [l0, l1, l2, l3, l4] [(0, 200), v0] S h n) ∧
  (∀ (d : Nat) (b a : Int) (l0 l1 l2 l3 l4 : Option mx_V) (S h : mx_H) (n : Int), mx_ex d 163 21 [l0, l1, l2, l3, l4] [(0, b), (0, a)] S h n = mx_br (b < a) d 163 24 27 [l0, l1, l2, l3, l4] [] S h n) ∧
  (∀ (d : Nat) (l0 l1 l2 l3 l4 : Option mx_V) (S h : mx_H) (n : Int), mx_ex d 163 24 [l0, l1, l2, l3, l4] [] S h n = mx_ex d 163 26 [l0, l1, l2, l3, l4] [(0, (-2))] S h n) ∧
  (∀ (d : Nat) (x : Int) (l0 l1 l2 l3 l4 : Option mx_V) (S h : mx_H) (n : Int), mx_ex d 163 26 [l0, l1, l2, l3, l4] [(0, x)] S h n = some (some (0, x), S, h, n)) ∧
  (∀ (d : Nat) (l0 l1 l2 l3 l4 : Option mx_V) (S h : mx_H) (n : Int), mx_ex d 163 27 [l0, l1, l2, l3, l4] [] S h n = mx_ex d 163 28 [l0, l1, l2, l3, l4] [(0, 0)] S h n) ∧
  (∀ (d : Nat) (x : Int) (l0 l1 l2 l3 l4 : Option mx_V) (S h : mx_H) (n : Int), mx_ex d 163 28 [l0, l1, l2, l3, l4] [(0, x)] S h n = mx_ex d 163 30 [l0, l1, l2, mx_nl l3, some (0, x)] [] S h n) ∧
  (∀ (d : Nat) (x : Int) (l0 l1 l2 l4 : Option mx_V) (v0 : mx_V) (S h : mx_H) (n : Int), mx_ex d 163 32 [l0, l1, l2, some (0, x), l4] [v0] S h n = mx_ex d 163 33 [l0, l1, l2, some (0, x), l4] [(0, x), v0] S h n) ∧
  (∀ (d : Nat) (b a : Int) (l0 l1 l2 l3 l4 : Option mx_V) (S h : mx_H) (n : Int), mx_ex d 163 33 [l0, l1, l2, l3, l4] [(0, b), (0, a)] S h n = mx_br (a < b) d 163 36 73 [l0, l1, l2, l3, l4] [] S h n) ∧
  (∀ (d : Nat) (x : Int) (l1 l2 l3 l4 : Option mx_V) (S h : mx_H) (n : Int), mx_ex d 163 36 [some (2, x), l1, l2, l3, l4] [] S h n = mx_ex d 163 37 [some (2, x), l1, l2, l3, l4] [(2, x)] S h n) ∧
  (∀ (d : Nat) (a : Int) (l0 l1 l2 l3 l4 : Option mx_V) (S h : mx_H) (n : Int), mx_ex d 163 37 [l0, l1, l2, l3, l4] [(2, a)] S h n = mx_gd (13 ≤ S a (-2) ∧ S a (-2) ≤ 13) d 163 40 [l0, l1, l2, l3, l4] [(2, S a 4)] S h n) ∧
  (∀ (d : Nat) (x : Int) (l1 l2 l3 l4 : Option mx_V) (v0 : mx_V) (S h : mx_H) (n : Int), mx_ex d 163 40 [some (2, x), l1, l2, l3, l4] [v0] S h n = mx_ex d 163 41 [some (2, x), l1, l2, l3, l4] [(2, x), v0] S h n) ∧
  (∀ (d : Nat) (a : Int) (l0 l1 l2 l3 l4 : Option mx_V) (v1 : mx_V) (S h : mx_H) (n : Int), mx_ex d 163 41 [l0, l1, l2, l3, l4] [(2, a), v1] S h n = mx_gd (13 ≤ S a (-2) ∧ S a (-2) ≤ 13) d 163 44 [l0, l1, l2, l3, l4] [(0, h a 5), v1] S h n) ∧
  (∀ (d : Nat) (x : Int) (l0 l2 l3 l4 : Option mx_V) (v0 v1 : mx_V) (S h : mx_H) (n : Int), mx_ex d 163 44 [l0, some (1, x), l2, l3, l4] [v0, v1] S h n = mx_ex d 163 45 [l0, some (1, x), l2, l3, l4] [(1, x), v0, v1] S h n) ∧
  (∀ (d : Nat) (l0 l1 l2 l3 l4 : Option mx_V) (v0 v1 v2 : mx_V) (S h : mx_H) (n : Int), mx_ex d 163 45 [l0, l1, l2, l3, l4] [v0, v1, v2] S h n = mx_ex d 163 47 [l0, l1, l2, l3, l4] [(0, 8), v0, v1, v2] S h n) ∧
  (∀ (d : Nat) (x : Int) (l0 l1 l2 l3 : Option mx_V) (v0 v1 v2 v3 : mx_V) (S h : mx_H) (n : Int), mx_ex d 163 47 [l0, l1, l2, l3, some (0, x)] [v0, v1, v2, v3] S h n = mx_ex d 163 49 [l0, l1, l2, l3, some (0, x)] [(0, x), v0, v1, v2, v3] S h n) ∧
  (∀ (d : Nat) (b a : Int) (l0 l1 l2 l3 l4 : Option mx_V) (v2 v3 v4 : mx_V) (S h : mx_H) (n : Int), mx_ex d 163 49 [l0, l1, l2, l3, l4] [(0, b), (0, a), v2, v3, v4] S h n = mx_ex d 163 50 [l0, l1, l2, l3, l4] [(0, mx_w (a * b)), v2, v3, v4] S h n) ∧
  (∀ (d : Nat) (b a : Int) (l0 l1 l2 l3 l4 : Option mx_V) (v2 v3 : mx_V) (S h : mx_H) (n : Int), mx_ex d 163 50 [l0, l1, l2, l3, l4] [(0, b), (1, a), v2, v3] S h n = mx_ex d 163 51 [l0, l1, l2, l3, l4] [(1, ml_shr a b), v2, v3] S h n) ∧
  (∀ (d : Nat) (l0 l1 l2 l3 l4 : Option mx_V) (v0 v1 v2 : mx_V) (S h : mx_H) (n : Int), mx_ex d 163 51 [l0, l1, l2, l3, l4] [v0, v1, v2] S h n = mx_ex d 163 54 [l0, l1, l2, l3, l4] [(1, 255), v0, v1, v2] S h n) ∧
  (∀ (d : Nat) (b a : Int) (l0 l1 l2 l3 l4 : Option mx_V) (v2 v3 : mx_V) (S h : mx_H) (n : Int), mx_ex d 163 54 [l0, l1, l2, l3, l4] [(1, b), (1, a), v2, v3] S h n = mx_ex d 163 55 [l0, l1, l2, l3, l4] [(1, ml_and a b), v2, v3] S h n) ∧
  (∀ (d : Nat) (a : Int) (l0 l1 l2 l3 l4 : Option mx_V) (v1 v2 : mx_V) (S h : mx_H) (n : Int), mx_ex d 163 55 [l0, l1, l2, l3, l4] [(1, a), v1, v2] S h n = mx_ex d 163 56 [l0, l1, l2, l3, l4] [(0, mx_w a), v1, v2] S h n) ∧
  (∀ (d : Nat) (v i a : Int) (l0 l1 l2 l3 l4 : Option mx_V) (S h : mx_H) (n : Int), mx_ex d 163 56 [l0, l1, l2, l3, l4] [(0, v), (0, i), (2, a)] S h n = mx_gd (S a (-2) = 20 ∧ 0 ≤ i ∧ i < S a (-1)) d 163 57 [l0, l1, l2, l3, l4] [] S (mx_u h a i v) n) ∧
  (∀ (d : Nat) (x : Int) (l1 l2 l3 l4 : Option mx_V) (S h : mx_H) (n : Int), mx_ex d 163 57 [some (2, x), l1, l2, l3, l4] [] S h n = mx_ex d 163 58 [some (2, x), l1, l2, l3, l4] [(2, x)] S h n) ∧
  (∀ (d : Nat) (a : Int) (l0 l1 l2 l3 l4 : Option mx_V) (S h : mx_H) (n : Int), mx_ex d 163 58 [l0, l1, l2, l3, l4] [(2, a)] S h n = mx_ex d 163 59 [l0, l1, l2, l3, l4] [(2, a), (2, a)] S h n) ∧
  (∀ (d : Nat) (a : Int) (l0 l1 l2 l3 l4 : Option mx_V) (v1 : mx_V) (S h : mx_H) (n : Int), mx_ex d 163 59 [l0, l1, l2, l3, l4] [(2, a), v1] S h n = mx_gd (13 ≤ S a (-2) ∧ S a (-2) ≤ 13) d 163 62 [l0, l1, l2, l3, l4] [(0, h a 5), v1] S h n) ∧
  (∀ (d : Nat) (l0 l1 l2 l3 l4 : Option mx_V) (v0 v1 : mx_V) (S h : mx_H) (n : Int), mx_ex d 163 62 [l0, l1, l2, l3, l4] [v0, v1] S h n = mx_ex d 163 63 [l0, l1, l2, l3, l4] [(0, 1), v0, v1] S h n) ∧
  (∀ (d : Nat) (b a : Int) (l0 l1 l2 l3 l4 : Option mx_V) (v2 : mx_V) (S h : mx_H) (n : Int), mx_ex d 163 63 [l0, l1, l2, l3, l4] [(0, b), (0, a), v2] S h n = mx_ex d 163 64 [l0, l1, l2, l3, l4] [(0, mx_w (a + b)), v2] S h n) ∧
  (∀ (d : Nat) (v a : Int) (l0 l1 l2 l3 l4 : Option mx_V) (S h : mx_H) (n : Int), mx_ex d 163 64 [l0, l1, l2, l3, l4] [(0, v), (2, a)] S h n = mx_gd (13 ≤ S a (-2) ∧ S a (-2) ≤ 13) d 163 67 [l0, l1, l2, l3, l4] [] S (mx_u h a 5 v) n) ∧
  (∀ (d : Nat) (x : Int) (l0 l1 l2 l3 : Option mx_V) (S h : mx_H) (n : Int), mx_ex d 163 67 [l0, l1, l2, l3, some (0, x)] [] S h n = mx_ex d 163 70 [l0, l1, l2, mx_nl l3, some (0, mx_w (x + 1))] [] S h n) ∧
  (∀ (d : Nat) (l0 l1 l2 l3 l4 : Option mx_V) (S h : mx_H) (n : Int), mx_ex d 163 70 [l0, l1, l2, l3, l4] [] S h n = mx_ex d 163 30 [l0, l1, l2, l3, l4] [] S h n) ∧
  (∀ (d : Nat) (x : Int) (l1 l2 l3 l4 : Option mx_V) (S h : mx_H) (n : Int), mx_ex d 163 73 [some (2, x), l1, l2, l3, l4] [] S h n = mx_ex d 163 74 [some (2, x), l1, l2, l3, l4] [(2, x)] S h n) ∧
  (∀ (d : Nat) (a : Int) (l0 l1 l2 l3 l4 : Option mx_V) (S h : mx_H) (n : Int), mx_ex d 163 74 [l0, l1, l2, l3, l4] [(2, a)] S h n = mx_gd (13 ≤ S a (-2) ∧ S a (-2) ≤ 13) d 163 77 [l0, l1, l2, l3, l4] [(0, h a 5)] S h n) ∧
  (∀ (d : Nat) (x : Int) (l0 l1 l2 l3 l4 : Option mx_V) (S h : mx_H) (n : Int), mx_ex d 163 77 [l0, l1, l2, l3, l4] [(0, x)] S h n = some (some (0, x), S, h, n)) :=
  ⟨by intros; exact rfl,
   by intros; exact eq_ld rfl rfl,
   by intros; exact eq_push rfl,
   by intros; exact eq_push rfl,
   by intros; exact eq_cs rfl (Nat.le_of_ble_eq_true rfl) rfl rfl rfl (Nat.le_of_ble_eq_true rfl),
   by intros; exact eq_if1 rfl,
   by intros; exact eq_push rfl,
   by intros; exact eq_ret rfl,
   by intros; exact eq_ld rfl rfl,
   by intros; exact eq_gi rfl,
   by intros; exact eq_ld rfl rfl,
   by intros; exact eq_i2 (o := mx_add) rfl,
   by intros; exact eq_push rfl,
   by intros; exact eq_ic5 rfl,
   by intros; exact eq_push rfl,
   by intros; exact eq_ret rfl,
   by intros; exact eq_push rfl,
   by intros; exact eq_st rfl (by decide) (Nat.le_of_ble_eq_true rfl) rfl,
   by intros; exact eq_ld rfl rfl,
   by intros; exact eq_ic3 rfl,
   by intros; exact eq_ld rfl rfl,
   by intros; exact eq_gr rfl,
   by intros; exact eq_ld rfl rfl,
   by intros; exact eq_gi rfl,
   by intros; exact eq_ld rfl rfl,
   by intros; exact eq_push rfl,
   by intros; exact eq_ld rfl rfl,
   by intros; exact eq_i2 (o := mx_mul) rfl,
   by intros; exact eq_ls (o := ml_shr) rfl,
   by intros; exact eq_push rfl,
   by intros; exact eq_l2 (o := ml_and) rfl,
   by intros; exact eq_l2i rfl,
   by intros; exact eq_iast rfl,
   by intros; exact eq_ld rfl rfl,
   by intros; exact eq_dup rfl (by decide),
   by intros; exact eq_gi rfl,
   by intros; exact eq_push rfl,
   by intros; exact eq_i2 (o := mx_add) rfl,
   by intros; exact eq_pi rfl,
   by intros; exact eq_inc rfl rfl rfl,
   by intros; exact eq_go rfl,
   by intros; exact eq_ld rfl rfl,
   by intros; exact eq_gi rfl,
   by intros; exact eq_ret rfl⟩
theorem rw_X12_byteAt :
  (∀ (d : Nat) (a0 a1 : Int) (S h : mx_H) (n : Int), mx_M d 164 [(2, a0), (0, a1)] S h n = mx_ex d 164 0 [some (2, a0), some (0, a1)] [] S h n) ∧
  (∀ (d : Nat) (x : Int) (l0 : Option mx_V) (S h : mx_H) (n : Int), mx_ex d 164 0 [l0, some (0, x)] [] S h n = mx_ex d 164 1 [l0, some (0, x)] [(0, x)] S h n) ∧
  (∀ (d : Nat) (x : Int) (l1 : Option mx_V) (v0 : mx_V) (S h : mx_H) (n : Int), mx_ex d 164 1 [some (2, x), l1] [v0] S h n = mx_ex d 164 2 [some (2, x), l1] [(2, x), v0] S h n) ∧
  (∀ (d : Nat) (a : Int) (l0 l1 : Option mx_V) (v1 : mx_V) (S h : mx_H) (n : Int), mx_ex d 164 2 [l0, l1] [(2, a), v1] S h n = mx_gd (13 ≤ S a (-2) ∧ S a (-2) ≤ 13) d 164 5 [l0, l1] [(0, h a 5), v1] S h n) ∧
  (∀ (d : Nat) (b a : Int) (l0 l1 : Option mx_V) (S h : mx_H) (n : Int), mx_ex d 164 5 [l0, l1] [(0, b), (0, a)] S h n = mx_br (a < b) d 164 8 17 [l0, l1] [] S h n) ∧
  (∀ (d : Nat) (x : Int) (l1 : Option mx_V) (S h : mx_H) (n : Int), mx_ex d 164 8 [some (2, x), l1] [] S h n = mx_ex d 164 9 [some (2, x), l1] [(2, x)] S h n) ∧
  (∀ (d : Nat) (a : Int) (l0 l1 : Option mx_V) (S h : mx_H) (n : Int), mx_ex d 164 9 [l0, l1] [(2, a)] S h n = mx_gd (13 ≤ S a (-2) ∧ S a (-2) ≤ 13) d 164 12 [l0, l1] [(2, S a 4)] S h n) ∧
  (∀ (d : Nat) (x : Int) (l0 : Option mx_V) (v0 : mx_V) (S h : mx_H) (n : Int), mx_ex d 164 12 [l0, some (0, x)] [v0] S h n = mx_ex d 164 13 [l0, some (0, x)] [(0, x), v0] S h n) ∧
  (∀ (d : Nat) (i a : Int) (l0 l1 : Option mx_V) (S h : mx_H) (n : Int), mx_ex d 164 13 [l0, l1] [(0, i), (2, a)] S h n = mx_gd ((S a (-2) = 20 ∨ S a (-2) = 24) ∧ 0 ≤ i ∧ i < S a (-1)) d 164 14 [l0, l1] [(0, h a i)] S h n) ∧
  (∀ (d : Nat) (l0 l1 : Option mx_V) (v0 : mx_V) (S h : mx_H) (n : Int), mx_ex d 164 14 [l0, l1] [v0] S h n = mx_ex d 164 18 [l0, l1] [v0] S h n) ∧
  (∀ (d : Nat) (l0 l1 : Option mx_V) (S h : mx_H) (n : Int), mx_ex d 164 17 [l0, l1] [] S h n = mx_ex d 164 18 [l0, l1] [(0, (-1))] S h n) ∧
  (∀ (d : Nat) (x : Int) (l0 l1 : Option mx_V) (S h : mx_H) (n : Int), mx_ex d 164 18 [l0, l1] [(0, x)] S h n = some (some (0, x), S, h, n)) :=
  ⟨by intros; exact rfl,
   by intros; exact eq_ld rfl rfl,
   by intros; exact eq_ld rfl rfl,
   by intros; exact eq_gi rfl,
   by intros; exact eq_ic3 rfl,
   by intros; exact eq_ld rfl rfl,
   by intros; exact eq_gr rfl,
   by intros; exact eq_ld rfl rfl,
   by intros; exact eq_iald rfl,
   by intros; exact eq_go rfl,
   by intros; exact eq_push rfl,
   by intros; exact eq_ret rfl⟩
theorem rh_X12_next_0 : ∀ (d : Nat) (x : Int) (l1 : Option mx_V) (S h : mx_H) (n : Int), mx_ex d 165 0 [some (2, x), l1] [] S h n = mx_ex d 165 1 [some (2, x), l1] [(2, x)] S h n := by intros; exact eq_ld rfl rfl
theorem rh_X12_next_71 : ∀ (d : Nat) (x : Int) (l1 : Option mx_V) (S h : mx_H) (n : Int), mx_ex d 165 71 [some (2, x), l1] [] S h n = mx_ex d 165 72 [some (2, x), l1] [(2, x)] S h n := by intros; exact eq_ld rfl rfl
theorem rh_X12_next_123 : ∀ (d : Nat) (x : Int) (l1 : Option mx_V) (S h : mx_H) (n : Int), mx_ex d 165 123 [some (2, x), l1] [] S h n = mx_ex d 165 124 [some (2, x), l1] [(2, x)] S h n := by intros; exact eq_ld rfl rfl
theorem rw_X12_next :
  (∀ (d : Nat) (a0 : Int) (S h : mx_H) (n : Int), mx_M d 165 [(2, a0)] S h n = mx_ex d 165 0 [some (2, a0), none] [] S h n) ∧
  (∀ (d : Nat) (x : Int) (l1 : Option mx_V) (v0 : mx_V) (S h : mx_H) (n : Int), mx_ex d 165 1 [some (2, x), l1] [v0] S h n = mx_ex d 165 2 [some (2, x), l1] [(2, x), v0] S h n) ∧
  (∀ (d : Nat) (a : Int) (l0 l1 : Option mx_V) (v1 : mx_V) (S h : mx_H) (n : Int), mx_ex d 165 2 [l0, l1] [(2, a), v1] S h n = mx_gd (13 ≤ S a (-2) ∧ S a (-2) ≤ 13) d 165 5 [l0, l1] [(0, h a 6), v1] S h n) ∧
  (∀ (d : Nat) (x0 a : Int) (l0 l1 : Option mx_V) (S h : mx_H) (n : Int), mx_ex (d + 1) 165 5 [l0, l1] [(0, x0), (2, a)] S h n = mx_cl (S a (-2) = 13) d 164 [(2, a), (0, x0)] 165 8 [l0, l1] [] S h n) ∧
  (∀ (d : Nat) (l0 l1 : Option mx_V) (v0 : mx_V) (S h : mx_H) (n : Int), mx_ex d 165 8 [l0, l1] [v0] S h n = mx_ex d 165 10 [l0, l1] [(0, 32), v0] S h n) ∧
  (∀ (d : Nat) (b a : Int) (l0 l1 : Option mx_V) (S h : mx_H) (n : Int), mx_ex d 165 10 [l0, l1] [(0, b), (0, a)] S h n = mx_br (a = b) d 165 13 26 [l0, l1] [] S h n) ∧
  (∀ (d : Nat) (x : Int) (l1 : Option mx_V) (S h : mx_H) (n : Int), mx_ex d 165 13 [some (2, x), l1] [] S h n = mx_ex d 165 14 [some (2, x), l1] [(2, x)] S h n) ∧
  (∀ (d : Nat) (a : Int) (l0 l1 : Option mx_V) (S h : mx_H) (n : Int), mx_ex d 165 14 [l0, l1] [(2, a)] S h n = mx_ex d 165 15 [l0, l1] [(2, a), (2, a)] S h n) ∧
  (∀ (d : Nat) (a : Int) (l0 l1 : Option mx_V) (v1 : mx_V) (S h : mx_H) (n : Int), mx_ex d 165 15 [l0, l1] [(2, a), v1] S h n = mx_gd (13 ≤ S a (-2) ∧ S a (-2) ≤ 13) d 165 18 [l0, l1] [(0, h a 6), v1] S h n) ∧
  (∀ (d : Nat) (l0 l1 : Option mx_V) (v0 v1 : mx_V) (S h : mx_H) (n : Int), mx_ex d 165 18 [l0, l1] [v0, v1] S h n = mx_ex d 165 19 [l0, l1] [(0, 1), v0, v1] S h n) ∧
  (∀ (d : Nat) (b a : Int) (l0 l1 : Option mx_V) (v2 : mx_V) (S h : mx_H) (n : Int), mx_ex d 165 19 [l0, l1] [(0, b), (0, a), v2] S h n = mx_ex d 165 20 [l0, l1] [(0, mx_w (a + b)), v2] S h n) ∧
  (∀ (d : Nat) (v a : Int) (l0 l1 : Option mx_V) (S h : mx_H) (n : Int), mx_ex d 165 20 [l0, l1] [(0, v), (2, a)] S h n = mx_gd (13 ≤ S a (-2) ∧ S a (-2) ≤ 13) d 165 23 [l0, l1] [] S (mx_u h a 6 v) n) ∧
  (∀ (d : Nat) (l0 l1 : Option mx_V) (S h : mx_H) (n : Int), mx_ex d 165 23 [l0, l1] [] S h n = mx_ex d 165 0 [l0, l1] [] S h n) ∧
  (∀ (d : Nat) (x : Int) (l1 : Option mx_V) (S h : mx_H) (n : Int), mx_ex d 165 26 [some (2, x), l1] [] S h n = mx_ex d 165 27 [some (2, x), l1] [(2, x)] S h n) ∧
  (∀ (d : Nat) (x : Int) (l1 : Option mx_V) (v0 : mx_V) (S h : mx_H) (n : Int), mx_ex d 165 27 [some (2, x), l1] [v0] S h n = mx_ex d 165 28 [some (2, x), l1] [(2, x), v0] S h n) ∧
  (∀ (d : Nat) (a : Int) (l0 l1 : Option mx_V) (v1 : mx_V) (S h : mx_H) (n : Int), mx_ex d 165 28 [l0, l1] [(2, a), v1] S h n = mx_gd (13 ≤ S a (-2) ∧ S a (-2) ≤ 13) d 165 31 [l0, l1] [(0, h a 6), v1] S h n) ∧
  (∀ (d : Nat) (v a : Int) (l0 l1 : Option mx_V) (S h : mx_H) (n : Int), mx_ex d 165 31 [l0, l1] [(0, v), (2, a)] S h n = mx_gd (13 ≤ S a (-2) ∧ S a (-2) ≤ 13) d 165 34 [l0, l1] [] S (mx_u h a 7 v) n) ∧
  (∀ (d : Nat) (x : Int) (l1 : Option mx_V) (S h : mx_H) (n : Int), mx_ex d 165 34 [some (2, x), l1] [] S h n = mx_ex d 165 35 [some (2, x), l1] [(2, x)] S h n) ∧
  (∀ (d : Nat) (x : Int) (l1 : Option mx_V) (v0 : mx_V) (S h : mx_H) (n : Int), mx_ex d 165 35 [some (2, x), l1] [v0] S h n = mx_ex d 165 36 [some (2, x), l1] [(2, x), v0] S h n) ∧
  (∀ (d : Nat) (a : Int) (l0 l1 : Option mx_V) (v1 : mx_V) (S h : mx_H) (n : Int), mx_ex d 165 36 [l0, l1] [(2, a), v1] S h n = mx_gd (13 ≤ S a (-2) ∧ S a (-2) ≤ 13) d 165 39 [l0, l1] [(0, h a 6), v1] S h n) ∧
  (∀ (d : Nat) (x0 a : Int) (l0 l1 : Option mx_V) (S h : mx_H) (n : Int), mx_ex (d + 1) 165 39 [l0, l1] [(0, x0), (2, a)] S h n = mx_cl (S a (-2) = 13) d 164 [(2, a), (0, x0)] 165 42 [l0, l1] [] S h n) ∧
  (∀ (d : Nat) (x : Int) (l0 l1 : Option mx_V) (S h : mx_H) (n : Int), mx_ex d 165 42 [l0, l1] [(0, x)] S h n = mx_ex d 165 43 [mx_nl l0, some (0, x)] [] S h n) ∧
  (∀ (d : Nat) (x : Int) (l0 : Option mx_V) (S h : mx_H) (n : Int), mx_ex d 165 43 [l0, some (0, x)] [] S h n = mx_ex d 165 44 [l0, some (0, x)] [(0, x)] S h n) ∧
  (∀ (d : Nat) (a : Int) (l0 l1 : Option mx_V) (S h : mx_H) (n : Int), mx_ex d 165 44 [l0, l1] [(0, a)] S h n = mx_br (a < 0) d 165 47 55 [l0, l1] [] S h n) ∧
  (∀ (d : Nat) (x : Int) (l1 : Option mx_V) (S h : mx_H) (n : Int), mx_ex d 165 47 [some (2, x), l1] [] S h n = mx_ex d 165 48 [some (2, x), l1] [(2, x)] S h n) ∧
  (∀ (d : Nat) (l0 l1 : Option mx_V) (v0 : mx_V) (S h : mx_H) (n : Int), mx_ex d 165 48 [l0, l1] [v0] S h n = mx_ex d 165 49 [l0, l1] [(0, 0), v0] S h n) ∧
  (∀ (d : Nat) (v a : Int) (l0 l1 : Option mx_V) (S h : mx_H) (n : Int), mx_ex d 165 49 [l0, l1] [(0, v), (2, a)] S h n = mx_gd (13 ≤ S a (-2) ∧ S a (-2) ≤ 13) d 165 52 [l0, l1] [] S (mx_u h a 8 v) n) ∧
  (∀ (d : Nat) (l0 l1 : Option mx_V) (S h : mx_H) (n : Int), mx_ex d 165 52 [l0, l1] [] S h n = mx_ex d 165 213 [l0, l1] [] S h n) ∧
  (∀ (d : Nat) (x : Int) (l0 : Option mx_V) (S h : mx_H) (n : Int), mx_ex d 165 55 [l0, some (0, x)] [] S h n = mx_ex d 165 56 [l0, some (0, x)] [(0, x)] S h n) ∧
  (∀ (d : Nat) (l0 l1 : Option mx_V) (v0 : mx_V) (S h : mx_H) (n : Int), mx_ex d 165 56 [l0, l1] [v0] S h n = mx_ex d 165 58 [l0, l1] [(0, 97), v0] S h n) ∧
  (∀ (d : Nat) (l0 l1 : Option mx_V) (v0 v1 : mx_V) (S h : mx_H) (n : Int), mx_ex d 165 58 [l0, l1] [v0, v1] S h n = mx_ex d 165 60 [l0, l1] [(0, 122), v0, v1] S h n) ∧
  (∀ (d : Nat) (x0 x1 x2 : Int) (l0 l1 : Option mx_V) (S h : mx_H) (n : Int), mx_ex (d + 1) 165 60 [l0, l1] [(0, x0), (0, x1), (0, x2)] S h n = mx_rt (mx_M d 157 [(0, x2), (0, x1), (0, x0)] S h n) (d + 1) 165 63 [l0, l1] []) ∧
  (∀ (d : Nat) (a : Int) (l0 l1 : Option mx_V) (S h : mx_H) (n : Int), mx_ex d 165 63 [l0, l1] [(0, a)] S h n = mx_br (a = 0) d 165 102 66 [l0, l1] [] S h n) ∧
  (∀ (d : Nat) (x : Int) (l1 : Option mx_V) (S h : mx_H) (n : Int), mx_ex d 165 66 [some (2, x), l1] [] S h n = mx_ex d 165 67 [some (2, x), l1] [(2, x)] S h n) ∧
  (∀ (d : Nat) (l0 l1 : Option mx_V) (v0 : mx_V) (S h : mx_H) (n : Int), mx_ex d 165 67 [l0, l1] [v0] S h n = mx_ex d 165 68 [l0, l1] [(0, 1), v0] S h n) ∧
  (∀ (d : Nat) (v a : Int) (l0 l1 : Option mx_V) (S h : mx_H) (n : Int), mx_ex d 165 68 [l0, l1] [(0, v), (2, a)] S h n = mx_gd (13 ≤ S a (-2) ∧ S a (-2) ≤ 13) d 165 71 [l0, l1] [] S (mx_u h a 8 v) n) ∧
  (∀ (d : Nat) (x : Int) (l1 : Option mx_V) (v0 : mx_V) (S h : mx_H) (n : Int), mx_ex d 165 72 [some (2, x), l1] [v0] S h n = mx_ex d 165 73 [some (2, x), l1] [(2, x), v0] S h n) ∧
  (∀ (d : Nat) (a : Int) (l0 l1 : Option mx_V) (v1 : mx_V) (S h : mx_H) (n : Int), mx_ex d 165 73 [l0, l1] [(2, a), v1] S h n = mx_gd (13 ≤ S a (-2) ∧ S a (-2) ≤ 13) d 165 76 [l0, l1] [(0, h a 6), v1] S h n) ∧
  (∀ (d : Nat) (x0 a : Int) (l0 l1 : Option mx_V) (S h : mx_H) (n : Int), mx_ex (d + 1) 165 76 [l0, l1] [(0, x0), (2, a)] S h n = mx_cl (S a (-2) = 13) d 164 [(2, a), (0, x0)] 165 79 [l0, l1] [] S h n) ∧
  (∀ (d : Nat) (l0 l1 : Option mx_V) (v0 : mx_V) (S h : mx_H) (n : Int), mx_ex d 165 79 [l0, l1] [v0] S h n = mx_ex d 165 81 [l0, l1] [(0, 97), v0] S h n) ∧
  (∀ (d : Nat) (l0 l1 : Option mx_V) (v0 v1 : mx_V) (S h : mx_H) (n : Int), mx_ex d 165 81 [l0, l1] [v0, v1] S h n = mx_ex d 165 83 [l0, l1] [(0, 122), v0, v1] S h n) ∧
  (∀ (d : Nat) (x0 x1 x2 : Int) (l0 l1 : Option mx_V) (S h : mx_H) (n : Int), mx_ex (d + 1) 165 83 [l0, l1] [(0, x0), (0, x1), (0, x2)] S h n = mx_rt (mx_M d 157 [(0, x2), (0, x1), (0, x0)] S h n) (d + 1) 165 86 [l0, l1] []) ∧
  (∀ (d : Nat) (a : Int) (l0 l1 : Option mx_V) (S h : mx_H) (n : Int), mx_ex d 165 86 [l0, l1] [(0, a)] S h n = mx_br (a = 0) d 165 213 89 [l0, l1] [] S h n) ∧
  (∀ (d : Nat) (x : Int) (l1 : Option mx_V) (S h : mx_H) (n : Int), mx_ex d 165 89 [some (2, x), l1] [] S h n = mx_ex d 165 90 [some (2, x), l1] [(2, x)] S h n) ∧
  (∀ (d : Nat) (a : Int) (l0 l1 : Option mx_V) (S h : mx_H) (n : Int), mx_ex d 165 90 [l0, l1] [(2, a)] S h n = mx_ex d 165 91 [l0, l1] [(2, a), (2, a)] S h n) ∧
  (∀ (d : Nat) (a : Int) (l0 l1 : Option mx_V) (v1 : mx_V) (S h : mx_H) (n : Int), mx_ex d 165 91 [l0, l1] [(2, a), v1] S h n = mx_gd (13 ≤ S a (-2) ∧ S a (-2) ≤ 13) d 165 94 [l0, l1] [(0, h a 6), v1] S h n) ∧
  (∀ (d : Nat) (l0 l1 : Option mx_V) (v0 v1 : mx_V) (S h : mx_H) (n : Int), mx_ex d 165 94 [l0, l1] [v0, v1] S h n = mx_ex d 165 95 [l0, l1] [(0, 1), v0, v1] S h n) ∧
  (∀ (d : Nat) (b a : Int) (l0 l1 : Option mx_V) (v2 : mx_V) (S h : mx_H) (n : Int), mx_ex d 165 95 [l0, l1] [(0, b), (0, a), v2] S h n = mx_ex d 165 96 [l0, l1] [(0, mx_w (a + b)), v2] S h n) ∧
  (∀ (d : Nat) (v a : Int) (l0 l1 : Option mx_V) (S h : mx_H) (n : Int), mx_ex d 165 96 [l0, l1] [(0, v), (2, a)] S h n = mx_gd (13 ≤ S a (-2) ∧ S a (-2) ≤ 13) d 165 99 [l0, l1] [] S (mx_u h a 6 v) n) ∧
  (∀ (d : Nat) (l0 l1 : Option mx_V) (S h : mx_H) (n : Int), mx_ex d 165 99 [l0, l1] [] S h n = mx_ex d 165 71 [l0, l1] [] S h n) ∧
  (∀ (d : Nat) (x : Int) (l0 : Option mx_V) (S h : mx_H) (n : Int), mx_ex d 165 102 [l0, some (0, x)] [] S h n = mx_ex d 165 103 [l0, some (0, x)] [(0, x)] S h n) ∧
  (∀ (d : Nat) (l0 l1 : Option mx_V) (v0 : mx_V) (S h : mx_H) (n : Int), mx_ex d 165 103 [l0, l1] [v0] S h n = mx_ex d 165 105 [l0, l1] [(0, 48), v0] S h n) ∧
  (∀ (d : Nat) (l0 l1 : Option mx_V) (v0 v1 : mx_V) (S h : mx_H) (n : Int), mx_ex d 165 105 [l0, l1] [v0, v1] S h n = mx_ex d 165 107 [l0, l1] [(0, 57), v0, v1] S h n) ∧
  (∀ (d : Nat) (x0 x1 x2 : Int) (l0 l1 : Option mx_V) (S h : mx_H) (n : Int), mx_ex (d + 1) 165 107 [l0, l1] [(0, x0), (0, x1), (0, x2)] S h n = mx_rt (mx_M d 157 [(0, x2), (0, x1), (0, x0)] S h n) (d + 1) 165 110 [l0, l1] []) ∧
  (∀ (d : Nat) (a : Int) (l0 l1 : Option mx_V) (S h : mx_H) (n : Int), mx_ex d 165 110 [l0, l1] [(0, a)] S h n = mx_br (a = 0) d 165 196 113 [l0, l1] [] S h n) ∧
  (∀ (d : Nat) (x : Int) (l1 : Option mx_V) (S h : mx_H) (n : Int), mx_ex d 165 113 [some (2, x), l1] [] S h n = mx_ex d 165 114 [some (2, x), l1] [(2, x)] S h n) ∧
  (∀ (d : Nat) (l0 l1 : Option mx_V) (v0 : mx_V) (S h : mx_H) (n : Int), mx_ex d 165 114 [l0, l1] [v0] S h n = mx_ex d 165 115 [l0, l1] [(0, 2), v0] S h n) ∧
  (∀ (d : Nat) (v a : Int) (l0 l1 : Option mx_V) (S h : mx_H) (n : Int), mx_ex d 165 115 [l0, l1] [(0, v), (2, a)] S h n = mx_gd (13 ≤ S a (-2) ∧ S a (-2) ≤ 13) d 165 118 [l0, l1] [] S (mx_u h a 8 v) n) ∧
  (∀ (d : Nat) (x : Int) (l1 : Option mx_V) (S h : mx_H) (n : Int), mx_ex d 165 118 [some (2, x), l1] [] S h n = mx_ex d 165 119 [some (2, x), l1] [(2, x)] S h n) ∧
  (∀ (d : Nat) (l0 l1 : Option mx_V) (v0 : mx_V) (S h : mx_H) (n : Int), mx_ex d 165 119 [l0, l1] [v0] S h n = mx_ex d 165 120 [l0, l1] [(0, 0), v0] S h n) ∧
  (∀ (d : Nat) (v a : Int) (l0 l1 : Option mx_V) (S h : mx_H) (n : Int), mx_ex d 165 120 [l0, l1] [(0, v), (2, a)] S h n = mx_gd (13 ≤ S a (-2) ∧ S a (-2) ≤ 13) d 165 123 [l0, l1] [] S (mx_u h a 9 v) n) ∧
  (∀ (d : Nat) (x : Int) (l1 : Option mx_V) (v0 : mx_V) (S h : mx_H) (n : Int), mx_ex d 165 124 [some (2, x), l1] [v0] S h n = mx_ex d 165 125 [some (2, x), l1] [(2, x), v0] S h n) ∧
  (∀ (d : Nat) (a : Int) (l0 l1 : Option mx_V) (v1 : mx_V) (S h : mx_H) (n : Int), mx_ex d 165 125 [l0, l1] [(2, a), v1] S h n = mx_gd (13 ≤ S a (-2) ∧ S a (-2) ≤ 13) d 165 128 [l0, l1] [(0, h a 6), v1] S h n) ∧
  (∀ (d : Nat) (x0 a : Int) (l0 l1 : Option mx_V) (S h : mx_H) (n : Int), mx_ex (d + 1) 165 128 [l0, l1] [(0, x0), (2, a)] S h n = mx_cl (S a (-2) = 13) d 164 [(2, a), (0, x0)] 165 131 [l0, l1] [] S h n) ∧
  (∀ (d : Nat) (l0 l1 : Option mx_V) (v0 : mx_V) (S h : mx_H) (n : Int), mx_ex d 165 131 [l0, l1] [v0] S h n = mx_ex d 165 133 [l0, l1] [(0, 48), v0] S h n) ∧
  (∀ (d : Nat) (l0 l1 : Option mx_V) (v0 v1 : mx_V) (S h : mx_H) (n : Int), mx_ex d 165 133 [l0, l1] [v0, v1] S h n = mx_ex d 165 135 [l0, l1] [(0, 57), v0, v1] S h n) ∧
  (∀ (d : Nat) (x0 x1 x2 : Int) (l0 l1 : Option mx_V) (S h : mx_H) (n : Int), mx_ex (d + 1) 165 135 [l0, l1] [(0, x0), (0, x1), (0, x2)] S h n = mx_rt (mx_M d 157 [(0, x2), (0, x1), (0, x0)] S h n) (d + 1) 165 138 [l0, l1] []) ∧
  (∀ (d : Nat) (a : Int) (l0 l1 : Option mx_V) (S h : mx_H) (n : Int), mx_ex d 165 138 [l0, l1] [(0, a)] S h n = mx_br (a = 0) d 165 213 141 [l0, l1] [] S h n) ∧
  (∀ (d : Nat) (x : Int) (l1 : Option mx_V) (S h : mx_H) (n : Int), mx_ex d 165 141 [some (2, x), l1] [] S h n = mx_ex d 165 142 [some (2, x), l1] [(2, x)] S h n) ∧
  (∀ (d : Nat) (x : Int) (l1 : Option mx_V) (v0 : mx_V) (S h : mx_H) (n : Int), mx_ex d 165 142 [some (2, x), l1] [v0] S h n = mx_ex d 165 143 [some (2, x), l1] [(2, x), v0] S h n) :=
  ⟨by intros; exact rfl,
   by intros; exact eq_ld rfl rfl,
   by intros; exact eq_gi rfl,
   by intros; exact eq_cv rfl (Nat.le_of_ble_eq_true rfl) rfl rfl rfl (Nat.le_of_ble_eq_true rfl),
   by intros; exact eq_push rfl,
   by intros; exact eq_ic1 rfl,
   by intros; exact eq_ld rfl rfl,
   by intros; exact eq_dup rfl (by decide),
   by intros; exact eq_gi rfl,
   by intros; exact eq_push rfl,
   by intros; exact eq_i2 (o := mx_add) rfl,
   by intros; exact eq_pi rfl,
   by intros; exact eq_go rfl,
   by intros; exact eq_ld rfl rfl,
   by intros; exact eq_ld rfl rfl,
   by intros; exact eq_gi rfl,
   by intros; exact eq_pi rfl,
   by intros; exact eq_ld rfl rfl,
   by intros; exact eq_ld rfl rfl,
   by intros; exact eq_gi rfl,
   by intros; exact eq_cv rfl (Nat.le_of_ble_eq_true rfl) rfl rfl rfl (Nat.le_of_ble_eq_true rfl),
   by intros; exact eq_st rfl (by decide) (Nat.le_of_ble_eq_true rfl) rfl,
   by intros; exact eq_ld rfl rfl,
   by intros; exact eq_if3 rfl,
   by intros; exact eq_ld rfl rfl,
   by intros; exact eq_push rfl,
   by intros; exact eq_pi rfl,
   by intros; exact eq_go rfl,
   by intros; exact eq_ld rfl rfl,
   by intros; exact eq_push rfl,
   by intros; exact eq_push rfl,
   by intros; exact eq_cs rfl (Nat.le_of_ble_eq_true rfl) rfl rfl rfl (Nat.le_of_ble_eq_true rfl),
   by intros; exact eq_if0 rfl,
   by intros; exact eq_ld rfl rfl,
   by intros; exact eq_push rfl,
   by intros; exact eq_pi rfl,
   by intros; exact eq_ld rfl rfl,
   by intros; exact eq_gi rfl,
   by intros; exact eq_cv rfl (Nat.le_of_ble_eq_true rfl) rfl rfl rfl (Nat.le_of_ble_eq_true rfl),
   by intros; exact eq_push rfl,
   by intros; exact eq_push rfl,
   by intros; exact eq_cs rfl (Nat.le_of_ble_eq_true rfl) rfl rfl rfl (Nat.le_of_ble_eq_true rfl),
   by intros; exact eq_if0 rfl,
   by intros; exact eq_ld rfl rfl,
   by intros; exact eq_dup rfl (by decide),
   by intros; exact eq_gi rfl,
   by intros; exact eq_push rfl,
   by intros; exact eq_i2 (o := mx_add) rfl,
   by intros; exact eq_pi rfl,
   by intros; exact eq_go rfl,
   by intros; exact eq_ld rfl rfl,
   by intros; exact eq_push rfl,
   by intros; exact eq_push rfl,
   by intros; exact eq_cs rfl (Nat.le_of_ble_eq_true rfl) rfl rfl rfl (Nat.le_of_ble_eq_true rfl),
   by intros; exact eq_if0 rfl,
   by intros; exact eq_ld rfl rfl,
   by intros; exact eq_push rfl,
   by intros; exact eq_pi rfl,
   by intros; exact eq_ld rfl rfl,
   by intros; exact eq_push rfl,
   by intros; exact eq_pi rfl,
   by intros; exact eq_ld rfl rfl,
   by intros; exact eq_gi rfl,
   by intros; exact eq_cv rfl (Nat.le_of_ble_eq_true rfl) rfl rfl rfl (Nat.le_of_ble_eq_true rfl),
   by intros; exact eq_push rfl,
   by intros; exact eq_push rfl,
   by intros; exact eq_cs rfl (Nat.le_of_ble_eq_true rfl) rfl rfl rfl (Nat.le_of_ble_eq_true rfl),
   by intros; exact eq_if0 rfl,
   by intros; exact eq_ld rfl rfl,
   by intros; exact eq_ld rfl rfl⟩
theorem rw_X12_next_1 :
  (∀ (d : Nat) (a : Int) (l0 l1 : Option mx_V) (v1 : mx_V) (S h : mx_H) (n : Int), mx_ex d 165 143 [l0, l1] [(2, a), v1] S h n = mx_gd (13 ≤ S a (-2) ∧ S a (-2) ≤ 13) d 165 146 [l0, l1] [(0, h a 6), v1] S h n) ∧
  (∀ (d : Nat) (x : Int) (l1 : Option mx_V) (v0 v1 : mx_V) (S h : mx_H) (n : Int), mx_ex d 165 146 [some (2, x), l1] [v0, v1] S h n = mx_ex d 165 147 [some (2, x), l1] [(2, x), v0, v1] S h n) ∧
  (∀ (d : Nat) (a : Int) (l0 l1 : Option mx_V) (v1 v2 : mx_V) (S h : mx_H) (n : Int), mx_ex d 165 147 [l0, l1] [(2, a), v1, v2] S h n = mx_gd (13 ≤ S a (-2) ∧ S a (-2) ≤ 13) d 165 150 [l0, l1] [(0, h a 7), v1, v2] S h n) ∧
  (∀ (d : Nat) (b a : Int) (l0 l1 : Option mx_V) (v2 : mx_V) (S h : mx_H) (n : Int), mx_ex d 165 150 [l0, l1] [(0, b), (0, a), v2] S h n = mx_ex d 165 151 [l0, l1] [(0, mx_w (a - b)), v2] S h n) ∧
  (∀ (d : Nat) (l0 l1 : Option mx_V) (v0 v1 : mx_V) (S h : mx_H) (n : Int), mx_ex d 165 151 [l0, l1] [v0, v1] S h n = mx_ex d 165 152 [l0, l1] [(0, 1), v0, v1] S h n) ∧
  (∀ (d : Nat) (b a : Int) (l0 l1 : Option mx_V) (v2 : mx_V) (S h : mx_H) (n : Int), mx_ex d 165 152 [l0, l1] [(0, b), (0, a), v2] S h n = mx_br (b < a) d 165 155 161 [l0, l1] [v2] S h n) ∧
  (∀ (d : Nat) (l0 l1 : Option mx_V) (v0 : mx_V) (S h : mx_H) (n : Int), mx_ex d 165 155 [l0, l1] [v0] S h n = mx_ex d 165 158 [l0, l1] [(0, 999), v0] S h n) ∧
  (∀ (d : Nat) (l0 l1 : Option mx_V) (v0 v1 : mx_V) (S h : mx_H) (n : Int), mx_ex d 165 158 [l0, l1] [v0, v1] S h n = mx_ex d 165 180 [l0, l1] [v0, v1] S h n) ∧
  (∀ (d : Nat) (l0 l1 : Option mx_V) (v0 : mx_V) (S h : mx_H) (n : Int), mx_ex d 165 161 [l0, l1] [v0] S h n = mx_ex d 165 163 [l0, l1] [(0, 10), v0] S h n) ∧
  (∀ (d : Nat) (x : Int) (l1 : Option mx_V) (v0 v1 : mx_V) (S h : mx_H) (n : Int), mx_ex d 165 163 [some (2, x), l1] [v0, v1] S h n = mx_ex d 165 164 [some (2, x), l1] [(2, x), v0, v1] S h n) ∧
  (∀ (d : Nat) (a : Int) (l0 l1 : Option mx_V) (v1 v2 : mx_V) (S h : mx_H) (n : Int), mx_ex d 165 164 [l0, l1] [(2, a), v1, v2] S h n = mx_gd (13 ≤ S a (-2) ∧ S a (-2) ≤ 13) d 165 167 [l0, l1] [(0, h a 9), v1, v2] S h n) ∧
  (∀ (d : Nat) (b a : Int) (l0 l1 : Option mx_V) (v2 : mx_V) (S h : mx_H) (n : Int), mx_ex d 165 167 [l0, l1] [(0, b), (0, a), v2] S h n = mx_ex d 165 168 [l0, l1] [(0, mx_w (a * b)), v2] S h n) ∧
  (∀ (d : Nat) (x : Int) (l1 : Option mx_V) (v0 v1 : mx_V) (S h : mx_H) (n : Int), mx_ex d 165 168 [some (2, x), l1] [v0, v1] S h n = mx_ex d 165 169 [some (2, x), l1] [(2, x), v0, v1] S h n) ∧
  (∀ (d : Nat) (x : Int) (l1 : Option mx_V) (v0 v1 v2 : mx_V) (S h : mx_H) (n : Int), mx_ex d 165 169 [some (2, x), l1] [v0, v1, v2] S h n = mx_ex d 165 170 [some (2, x), l1] [(2, x), v0, v1, v2] S h n) ∧
  (∀ (d : Nat) (a : Int) (l0 l1 : Option mx_V) (v1 v2 v3 : mx_V) (S h : mx_H) (n : Int), mx_ex d 165 170 [l0, l1] [(2, a), v1, v2, v3] S h n = mx_gd (13 ≤ S a (-2) ∧ S a (-2) ≤ 13) d 165 173 [l0, l1] [(0, h a 6), v1, v2, v3] S h n) ∧
  (∀ (d : Nat) (x0 a : Int) (l0 l1 : Option mx_V) (v2 v3 : mx_V) (S h : mx_H) (n : Int), mx_ex (d + 1) 165 173 [l0, l1] [(0, x0), (2, a), v2, v3] S h n = mx_cl (S a (-2) = 13) d 164 [(2, a), (0, x0)] 165 176 [l0, l1] [v2, v3] S h n) ∧
  (∀ (d : Nat) (b a : Int) (l0 l1 : Option mx_V) (v2 : mx_V) (S h : mx_H) (n : Int), mx_ex d 165 176 [l0, l1] [(0, b), (0, a), v2] S h n = mx_ex d 165 177 [l0, l1] [(0, mx_w (a + b)), v2] S h n) ∧
  (∀ (d : Nat) (l0 l1 : Option mx_V) (v0 v1 : mx_V) (S h : mx_H) (n : Int), mx_ex d 165 177 [l0, l1] [v0, v1] S h n = mx_ex d 165 179 [l0, l1] [(0, 48), v0, v1] S h n) ∧
  (∀ (d : Nat) (b a : Int) (l0 l1 : Option mx_V) (v2 : mx_V) (S h : mx_H) (n : Int), mx_ex d 165 179 [l0, l1] [(0, b), (0, a), v2] S h n = mx_ex d 165 180 [l0, l1] [(0, mx_w (a - b)), v2] S h n) ∧
  (∀ (d : Nat) (v a : Int) (l0 l1 : Option mx_V) (S h : mx_H) (n : Int), mx_ex d 165 180 [l0, l1] [(0, v), (2, a)] S h n = mx_gd (13 ≤ S a (-2) ∧ S a (-2) ≤ 13) d 165 183 [l0, l1] [] S (mx_u h a 9 v) n) ∧
  (∀ (d : Nat) (x : Int) (l1 : Option mx_V) (S h : mx_H) (n : Int), mx_ex d 165 183 [some (2, x), l1] [] S h n = mx_ex d 165 184 [some (2, x), l1] [(2, x)] S h n) ∧
  (∀ (d : Nat) (a : Int) (l0 l1 : Option mx_V) (S h : mx_H) (n : Int), mx_ex d 165 184 [l0, l1] [(2, a)] S h n = mx_ex d 165 185 [l0, l1] [(2, a), (2, a)] S h n) ∧
  (∀ (d : Nat) (a : Int) (l0 l1 : Option mx_V) (v1 : mx_V) (S h : mx_H) (n : Int), mx_ex d 165 185 [l0, l1] [(2, a), v1] S h n = mx_gd (13 ≤ S a (-2) ∧ S a (-2) ≤ 13) d 165 188 [l0, l1] [(0, h a 6), v1] S h n) ∧
  (∀ (d : Nat) (l0 l1 : Option mx_V) (v0 v1 : mx_V) (S h : mx_H) (n : Int), mx_ex d 165 188 [l0, l1] [v0, v1] S h n = mx_ex d 165 189 [l0, l1] [(0, 1), v0, v1] S h n) ∧
  (∀ (d : Nat) (b a : Int) (l0 l1 : Option mx_V) (v2 : mx_V) (S h : mx_H) (n : Int), mx_ex d 165 189 [l0, l1] [(0, b), (0, a), v2] S h n = mx_ex d 165 190 [l0, l1] [(0, mx_w (a + b)), v2] S h n) ∧
  (∀ (d : Nat) (v a : Int) (l0 l1 : Option mx_V) (S h : mx_H) (n : Int), mx_ex d 165 190 [l0, l1] [(0, v), (2, a)] S h n = mx_gd (13 ≤ S a (-2) ∧ S a (-2) ≤ 13) d 165 193 [l0, l1] [] S (mx_u h a 6 v) n) ∧
  (∀ (d : Nat) (l0 l1 : Option mx_V) (S h : mx_H) (n : Int), mx_ex d 165 193 [l0, l1] [] S h n = mx_ex d 165 123 [l0, l1] [] S h n) ∧
  (∀ (d : Nat) (x : Int) (l1 : Option mx_V) (S h : mx_H) (n : Int), mx_ex d 165 196 [some (2, x), l1] [] S h n = mx_ex d 165 197 [some (2, x), l1] [(2, x)] S h n) ∧
  (∀ (d : Nat) (l0 l1 : Option mx_V) (v0 : mx_V) (S h : mx_H) (n : Int), mx_ex d 165 197 [l0, l1] [v0] S h n = mx_ex d 165 198 [l0, l1] [(0, 3), v0] S h n) ∧
  (∀ (d : Nat) (x : Int) (l0 : Option mx_V) (v0 v1 : mx_V) (S h : mx_H) (n : Int), mx_ex d 165 198 [l0, some (0, x)] [v0, v1] S h n = mx_ex d 165 199 [l0, some (0, x)] [(0, x), v0, v1] S h n) ∧
  (∀ (d : Nat) (b a : Int) (l0 l1 : Option mx_V) (v2 : mx_V) (S h : mx_H) (n : Int), mx_ex d 165 199 [l0, l1] [(0, b), (0, a), v2] S h n = mx_ex d 165 200 [l0, l1] [(0, mx_w (a + b)), v2] S h n) ∧
  (∀ (d : Nat) (v a : Int) (l0 l1 : Option mx_V) (S h : mx_H) (n : Int), mx_ex d 165 200 [l0, l1] [(0, v), (2, a)] S h n = mx_gd (13 ≤ S a (-2) ∧ S a (-2) ≤ 13) d 165 203 [l0, l1] [] S (mx_u h a 8 v) n) ∧
  (∀ (d : Nat) (x : Int) (l1 : Option mx_V) (S h : mx_H) (n : Int), mx_ex d 165 203 [some (2, x), l1] [] S h n = mx_ex d 165 204 [some (2, x), l1] [(2, x)] S h n) ∧
  (∀ (d : Nat) (a : Int) (l0 l1 : Option mx_V) (S h : mx_H) (n : Int), mx_ex d 165 204 [l0, l1] [(2, a)] S h n = mx_ex d 165 205 [l0, l1] [(2, a), (2, a)] S h n) ∧
  (∀ (d : Nat) (a : Int) (l0 l1 : Option mx_V) (v1 : mx_V) (S h : mx_H) (n : Int), mx_ex d 165 205 [l0, l1] [(2, a), v1] S h n = mx_gd (13 ≤ S a (-2) ∧ S a (-2) ≤ 13) d 165 208 [l0, l1] [(0, h a 6), v1] S h n) ∧
  (∀ (d : Nat) (l0 l1 : Option mx_V) (v0 v1 : mx_V) (S h : mx_H) (n : Int), mx_ex d 165 208 [l0, l1] [v0, v1] S h n = mx_ex d 165 209 [l0, l1] [(0, 1), v0, v1] S h n) ∧
  (∀ (d : Nat) (b a : Int) (l0 l1 : Option mx_V) (v2 : mx_V) (S h : mx_H) (n : Int), mx_ex d 165 209 [l0, l1] [(0, b), (0, a), v2] S h n = mx_ex d 165 210 [l0, l1] [(0, mx_w (a + b)), v2] S h n) ∧
  (∀ (d : Nat) (v a : Int) (l0 l1 : Option mx_V) (S h : mx_H) (n : Int), mx_ex d 165 210 [l0, l1] [(0, v), (2, a)] S h n = mx_gd (13 ≤ S a (-2) ∧ S a (-2) ≤ 13) d 165 213 [l0, l1] [] S (mx_u h a 6 v) n) ∧
  (∀ (d : Nat) (l0 l1 : Option mx_V) (S h : mx_H) (n : Int), mx_ex d 165 213 [l0, l1] [] S h n = some (none, S, h, n)) :=
  ⟨by intros; exact eq_gi rfl,
   by intros; exact eq_ld rfl rfl,
   by intros; exact eq_gi rfl,
   by intros; exact eq_i2 (o := mx_sub) rfl,
   by intros; exact eq_push rfl,
   by intros; exact eq_ic5 rfl,
   by intros; exact eq_push rfl,
   by intros; exact eq_go rfl,
   by intros; exact eq_push rfl,
   by intros; exact eq_ld rfl rfl,
   by intros; exact eq_gi rfl,
   by intros; exact eq_i2 (o := mx_mul) rfl,
   by intros; exact eq_ld rfl rfl,
   by intros; exact eq_ld rfl rfl,
   by intros; exact eq_gi rfl,
   by intros; exact eq_cv rfl (Nat.le_of_ble_eq_true rfl) rfl rfl rfl (Nat.le_of_ble_eq_true rfl),
   by intros; exact eq_i2 (o := mx_add) rfl,
   by intros; exact eq_push rfl,
   by intros; exact eq_i2 (o := mx_sub) rfl,
   by intros; exact eq_pi rfl,
   by intros; exact eq_ld rfl rfl,
   by intros; exact eq_dup rfl (by decide),
   by intros; exact eq_gi rfl,
   by intros; exact eq_push rfl,
   by intros; exact eq_i2 (o := mx_add) rfl,
   by intros; exact eq_pi rfl,
   by intros; exact eq_go rfl,
   by intros; exact eq_ld rfl rfl,
   by intros; exact eq_push rfl,
   by intros; exact eq_ld rfl rfl,
   by intros; exact eq_i2 (o := mx_add) rfl,
   by intros; exact eq_pi rfl,
   by intros; exact eq_ld rfl rfl,
   by intros; exact eq_dup rfl (by decide),
   by intros; exact eq_gi rfl,
   by intros; exact eq_push rfl,
   by intros; exact eq_i2 (o := mx_add) rfl,
   by intros; exact eq_pi rfl,
   by intros; exact eq_retv rfl⟩
theorem rh_X12_isName_32 : ∀ (d : Nat) (x : Int) (l0 l1 l2 : Option mx_V) (S h : mx_H) (n : Int), mx_ex d 166 32 [l0, l1, l2, some (0, x)] [] S h n = mx_ex d 166 33 [l0, l1, l2, some (0, x)] [(0, x)] S h n := by intros; exact eq_ld rfl rfl
theorem rw_X12_isName :
  (∀ (d : Nat) (a0 a1 : Int) (S h : mx_H) (n : Int), mx_M d 166 [(2, a0), (2, a1)] S h n = mx_ex d 166 0 [some (2, a0), some (2, a1), none, none] [] S h n) ∧
  (∀ (d : Nat) (x : Int) (l1 l2 l3 : Option mx_V) (S h : mx_H) (n : Int), mx_ex d 166 0 [some (2, x), l1, l2, l3] [] S h n = mx_ex d 166 1 [some (2, x), l1, l2, l3] [(2, x)] S h n) ∧
  (∀ (d : Nat) (a : Int) (l0 l1 l2 l3 : Option mx_V) (S h : mx_H) (n : Int), mx_ex d 166 1 [l0, l1, l2, l3] [(2, a)] S h n = mx_gd (13 ≤ S a (-2) ∧ S a (-2) ≤ 13) d 166 4 [l0, l1, l2, l3] [(0, h a 8)] S h n) ∧
  (∀ (d : Nat) (l0 l1 l2 l3 : Option mx_V) (v0 : mx_V) (S h : mx_H) (n : Int), mx_ex d 166 4 [l0, l1, l2, l3] [v0] S h n = mx_ex d 166 5 [l0, l1, l2, l3] [(0, 1), v0] S h n) ∧
  (∀ (d : Nat) (b a : Int) (l0 l1 l2 l3 : Option mx_V) (S h : mx_H) (n : Int), mx_ex d 166 5 [l0, l1, l2, l3] [(0, b), (0, a)] S h n = mx_br (a = b) d 166 8 28 [l0, l1, l2, l3] [] S h n) ∧
  (∀ (d : Nat) (x : Int) (l1 l2 l3 : Option mx_V) (S h : mx_H) (n : Int), mx_ex d 166 8 [some (2, x), l1, l2, l3] [] S h n = mx_ex d 166 9 [some (2, x), l1, l2, l3] [(2, x)] S h n) ∧
  (∀ (d : Nat) (a : Int) (l0 l1 l2 l3 : Option mx_V) (S h : mx_H) (n : Int), mx_ex d 166 9 [l0, l1, l2, l3] [(2, a)] S h n = mx_gd (13 ≤ S a (-2) ∧ S a (-2) ≤ 13) d 166 12 [l0, l1, l2, l3] [(0, h a 6)] S h n) ∧
  (∀ (d : Nat) (x : Int) (l1 l2 l3 : Option mx_V) (v0 : mx_V) (S h : mx_H) (n : Int), mx_ex d 166 12 [some (2, x), l1, l2, l3] [v0] S h n = mx_ex d 166 13 [some (2, x), l1, l2, l3] [(2, x), v0] S h n) ∧
  (∀ (d : Nat) (a : Int) (l0 l1 l2 l3 : Option mx_V) (v1 : mx_V) (S h : mx_H) (n : Int), mx_ex d 166 13 [l0, l1, l2, l3] [(2, a), v1] S h n = mx_gd (13 ≤ S a (-2) ∧ S a (-2) ≤ 13) d 166 16 [l0, l1, l2, l3] [(0, h a 7), v1] S h n) ∧
  (∀ (d : Nat) (b a : Int) (l0 l1 l2 l3 : Option mx_V) (S h : mx_H) (n : Int), mx_ex d 166 16 [l0, l1, l2, l3] [(0, b), (0, a)] S h n = mx_ex d 166 17 [l0, l1, l2, l3] [(0, mx_w (a - b))] S h n) ∧
  (∀ (d : Nat) (x : Int) (l0 l2 l3 : Option mx_V) (v0 : mx_V) (S h : mx_H) (n : Int), mx_ex d 166 17 [l0, some (2, x), l2, l3] [v0] S h n = mx_ex d 166 18 [l0, some (2, x), l2, l3] [(2, x), v0] S h n) ∧
  (∀ (d : Nat) (a : Int) (l0 l1 l2 l3 : Option mx_V) (v1 : mx_V) (S h : mx_H) (n : Int), mx_ex (d + 1) 166 18 [l0, l1, l2, l3] [(2, a), v1] S h n = mx_cl (S a (-2) = 30) d 249 [(2, a)] 166 21 [l0, l1, l2, l3] [v1] S h n) ∧
  (∀ (d : Nat) (b a : Int) (l0 l1 l2 l3 : Option mx_V) (S h : mx_H) (n : Int), mx_ex d 166 21 [l0, l1, l2, l3] [(0, b), (0, a)] S h n = mx_br (a = b) d 166 24 28 [l0, l1, l2, l3] [] S h n) ∧
  (∀ (d : Nat) (l0 l1 l2 l3 : Option mx_V) (S h : mx_H) (n : Int), mx_ex d 166 24 [l0, l1, l2, l3] [] S h n = mx_ex d 166 25 [l0, l1, l2, l3] [(0, 1)] S h n) ∧
  (∀ (d : Nat) (l0 l1 l2 l3 : Option mx_V) (v0 : mx_V) (S h : mx_H) (n : Int), mx_ex d 166 25 [l0, l1, l2, l3] [v0] S h n = mx_ex d 166 29 [l0, l1, l2, l3] [v0] S h n) ∧
  (∀ (d : Nat) (l0 l1 l2 l3 : Option mx_V) (S h : mx_H) (n : Int), mx_ex d 166 28 [l0, l1, l2, l3] [] S h n = mx_ex d 166 29 [l0, l1, l2, l3] [(0, 0)] S h n) ∧
  (∀ (d : Nat) (x : Int) (l0 l1 l2 l3 : Option mx_V) (S h : mx_H) (n : Int), mx_ex d 166 29 [l0, l1, l2, l3] [(0, x)] S h n = mx_ex d 166 30 [l0, mx_nl l1, some (0, x), l3] [] S h n) ∧
  (∀ (d : Nat) (l0 l1 l2 l3 : Option mx_V) (S h : mx_H) (n : Int), mx_ex d 166 30 [l0, l1, l2, l3] [] S h n = mx_ex d 166 31 [l0, l1, l2, l3] [(0, 0)] S h n) ∧
  (∀ (d : Nat) (x : Int) (l0 l1 l2 l3 : Option mx_V) (S h : mx_H) (n : Int), mx_ex d 166 31 [l0, l1, l2, l3] [(0, x)] S h n = mx_ex d 166 32 [l0, l1, mx_nl l2, some (0, x)] [] S h n) ∧
  (∀ (d : Nat) (x : Int) (l0 l2 l3 : Option mx_V) (v0 : mx_V) (S h : mx_H) (n : Int), mx_ex d 166 33 [l0, some (2, x), l2, l3] [v0] S h n = mx_ex d 166 34 [l0, some (2, x), l2, l3] [(2, x), v0] S h n) ∧
  (∀ (d : Nat) (a : Int) (l0 l1 l2 l3 : Option mx_V) (v1 : mx_V) (S h : mx_H) (n : Int), mx_ex (d + 1) 166 34 [l0, l1, l2, l3] [(2, a), v1] S h n = mx_cl (S a (-2) = 30) d 249 [(2, a)] 166 37 [l0, l1, l2, l3] [v1] S h n) ∧
  (∀ (d : Nat) (b a : Int) (l0 l1 l2 l3 : Option mx_V) (S h : mx_H) (n : Int), mx_ex d 166 37 [l0, l1, l2, l3] [(0, b), (0, a)] S h n = mx_br (a < b) d 166 40 75 [l0, l1, l2, l3] [] S h n) ∧
  (∀ (d : Nat) (x : Int) (l0 l1 l3 : Option mx_V) (S h : mx_H) (n : Int), mx_ex d 166 40 [l0, l1, some (0, x), l3] [] S h n = mx_ex d 166 41 [l0, l1, some (0, x), l3] [(0, x)] S h n) ∧
  (∀ (d : Nat) (a : Int) (l0 l1 l2 l3 : Option mx_V) (S h : mx_H) (n : Int), mx_ex d 166 41 [l0, l1, l2, l3] [(0, a)] S h n = mx_br (a = 0) d 166 75 44 [l0, l1, l2, l3] [] S h n) ∧
  (∀ (d : Nat) (x : Int) (l1 l2 l3 : Option mx_V) (S h : mx_H) (n : Int), mx_ex d 166 44 [some (2, x), l1, l2, l3] [] S h n = mx_ex d 166 45 [some (2, x), l1, l2, l3] [(2, x)] S h n) ∧
  (∀ (d : Nat) (a : Int) (l0 l1 l2 l3 : Option mx_V) (S h : mx_H) (n : Int), mx_ex d 166 45 [l0, l1, l2, l3] [(2, a)] S h n = mx_gd (13 ≤ S a (-2) ∧ S a (-2) ≤ 13) d 166 48 [l0, l1, l2, l3] [(2, S a 4)] S h n) ∧
  (∀ (d : Nat) (x : Int) (l1 l2 l3 : Option mx_V) (v0 : mx_V) (S h : mx_H) (n : Int), mx_ex d 166 48 [some (2, x), l1, l2, l3] [v0] S h n = mx_ex d 166 49 [some (2, x), l1, l2, l3] [(2, x), v0] S h n) ∧
  (∀ (d : Nat) (a : Int) (l0 l1 l2 l3 : Option mx_V) (v1 : mx_V) (S h : mx_H) (n : Int), mx_ex d 166 49 [l0, l1, l2, l3] [(2, a), v1] S h n = mx_gd (13 ≤ S a (-2) ∧ S a (-2) ≤ 13) d 166 52 [l0, l1, l2, l3] [(0, h a 7), v1] S h n) ∧
  (∀ (d : Nat) (x : Int) (l0 l1 l2 : Option mx_V) (v0 v1 : mx_V) (S h : mx_H) (n : Int), mx_ex d 166 52 [l0, l1, l2, some (0, x)] [v0, v1] S h n = mx_ex d 166 53 [l0, l1, l2, some (0, x)] [(0, x), v0, v1] S h n) ∧
  (∀ (d : Nat) (b a : Int) (l0 l1 l2 l3 : Option mx_V) (v2 : mx_V) (S h : mx_H) (n : Int), mx_ex d 166 53 [l0, l1, l2, l3] [(0, b), (0, a), v2] S h n = mx_ex d 166 54 [l0, l1, l2, l3] [(0, mx_w (a + b)), v2] S h n) ∧
  (∀ (d : Nat) (i a : Int) (l0 l1 l2 l3 : Option mx_V) (S h : mx_H) (n : Int), mx_ex d 166 54 [l0, l1, l2, l3] [(0, i), (2, a)] S h n = mx_gd ((S a (-2) = 20 ∨ S a (-2) = 24) ∧ 0 ≤ i ∧ i < S a (-1)) d 166 55 [l0, l1, l2, l3] [(0, h a i)] S h n) ∧
  (∀ (d : Nat) (x : Int) (l0 l2 l3 : Option mx_V) (v0 : mx_V) (S h : mx_H) (n : Int), mx_ex d 166 55 [l0, some (2, x), l2, l3] [v0] S h n = mx_ex d 166 56 [l0, some (2, x), l2, l3] [(2, x), v0] S h n) ∧
  (∀ (d : Nat) (x : Int) (l0 l1 l2 : Option mx_V) (v0 v1 : mx_V) (S h : mx_H) (n : Int), mx_ex d 166 56 [l0, l1, l2, some (0, x)] [v0, v1] S h n = mx_ex d 166 57 [l0, l1, l2, some (0, x)] [(0, x), v0, v1] S h n) ∧
  (∀ (d : Nat) (x0 a : Int) (l0 l1 l2 l3 : Option mx_V) (v2 : mx_V) (S h : mx_H) (n : Int), mx_ex (d + 1) 166 57 [l0, l1, l2, l3] [(0, x0), (2, a), v2] S h n = mx_cl (S a (-2) = 30) d 250 [(2, a), (0, x0)] 166 60 [l0, l1, l2, l3] [v2] S h n) ∧
  (∀ (d : Nat) (b a : Int) (l0 l1 l2 l3 : Option mx_V) (S h : mx_H) (n : Int), mx_ex d 166 60 [l0, l1, l2, l3] [(0, b), (0, a)] S h n = mx_br (a = b) d 166 63 67 [l0, l1, l2, l3] [] S h n) ∧
  (∀ (d : Nat) (l0 l1 l2 l3 : Option mx_V) (S h : mx_H) (n : Int), mx_ex d 166 63 [l0, l1, l2, l3] [] S h n = mx_ex d 166 64 [l0, l1, l2, l3] [(0, 1)] S h n) ∧
  (∀ (d : Nat) (l0 l1 l2 l3 : Option mx_V) (v0 : mx_V) (S h : mx_H) (n : Int), mx_ex d 166 64 [l0, l1, l2, l3] [v0] S h n = mx_ex d 166 68 [l0, l1, l2, l3] [v0] S h n) ∧
  (∀ (d : Nat) (l0 l1 l2 l3 : Option mx_V) (S h : mx_H) (n : Int), mx_ex d 166 67 [l0, l1, l2, l3] [] S h n = mx_ex d 166 68 [l0, l1, l2, l3] [(0, 0)] S h n) ∧
  (∀ (d : Nat) (x : Int) (l0 l1 l2 l3 : Option mx_V) (S h : mx_H) (n : Int), mx_ex d 166 68 [l0, l1, l2, l3] [(0, x)] S h n = mx_ex d 166 69 [l0, mx_nl l1, some (0, x), l3] [] S h n) ∧
  (∀ (d : Nat) (x : Int) (l0 l1 l2 : Option mx_V) (S h : mx_H) (n : Int), mx_ex d 166 69 [l0, l1, l2, some (0, x)] [] S h n = mx_ex d 166 72 [l0, l1, mx_nl l2, some (0, mx_w (x + 1))] [] S h n) ∧
  (∀ (d : Nat) (l0 l1 l2 l3 : Option mx_V) (S h : mx_H) (n : Int), mx_ex d 166 72 [l0, l1, l2, l3] [] S h n = mx_ex d 166 32 [l0, l1, l2, l3] [] S h n) ∧
  (∀ (d : Nat) (x : Int) (l0 l1 l3 : Option mx_V) (S h : mx_H) (n : Int), mx_ex d 166 75 [l0, l1, some (0, x), l3] [] S h n = mx_ex d 166 76 [l0, l1, some (0, x), l3] [(0, x)] S h n) ∧
  (∀ (d : Nat) (x : Int) (l0 l1 l2 l3 : Option mx_V) (S h : mx_H) (n : Int), mx_ex d 166 76 [l0, l1, l2, l3] [(0, x)] S h n = mx_re (0 ≤ x ∧ x ≤ 1) (some (0, x)) S h n) :=
  ⟨by intros; exact rfl,
   by intros; exact eq_ld rfl rfl,
   by intros; exact eq_gi rfl,
   by intros; exact eq_push rfl,
   by intros; exact eq_ic1 rfl,
   by intros; exact eq_ld rfl rfl,
   by intros; exact eq_gi rfl,
   by intros; exact eq_ld rfl rfl,
   by intros; exact eq_gi rfl,
   by intros; exact eq_i2 (o := mx_sub) rfl,
   by intros; exact eq_ld rfl rfl,
   by intros; exact eq_cv rfl (Nat.le_of_ble_eq_true rfl) rfl rfl rfl (Nat.le_of_ble_eq_true rfl),
   by intros; exact eq_ic1 rfl,
   by intros; exact eq_push rfl,
   by intros; exact eq_go rfl,
   by intros; exact eq_push rfl,
   by intros; exact eq_st rfl (by decide) (Nat.le_of_ble_eq_true rfl) rfl,
   by intros; exact eq_push rfl,
   by intros; exact eq_st rfl (by decide) (Nat.le_of_ble_eq_true rfl) rfl,
   by intros; exact eq_ld rfl rfl,
   by intros; exact eq_cv rfl (Nat.le_of_ble_eq_true rfl) rfl rfl rfl (Nat.le_of_ble_eq_true rfl),
   by intros; exact eq_ic3 rfl,
   by intros; exact eq_ld rfl rfl,
   by intros; exact eq_if0 rfl,
   by intros; exact eq_ld rfl rfl,
   by intros; exact eq_gr rfl,
   by intros; exact eq_ld rfl rfl,
   by intros; exact eq_gi rfl,
   by intros; exact eq_ld rfl rfl,
   by intros; exact eq_i2 (o := mx_add) rfl,
   by intros; exact eq_iald rfl,
   by intros; exact eq_ld rfl rfl,
   by intros; exact eq_ld rfl rfl,
   by intros; exact eq_cv rfl (Nat.le_of_ble_eq_true rfl) rfl rfl rfl (Nat.le_of_ble_eq_true rfl),
   by intros; exact eq_ic1 rfl,
   by intros; exact eq_push rfl,
   by intros; exact eq_go rfl,
   by intros; exact eq_push rfl,
   by intros; exact eq_st rfl (by decide) (Nat.le_of_ble_eq_true rfl) rfl,
   by intros; exact eq_inc rfl rfl rfl,
   by intros; exact eq_go rfl,
   by intros; exact eq_ld rfl rfl,
   by intros; exact eq_rr rfl⟩
theorem rw_X12_takesByte :
  (∀ (d : Nat) (a0 a1 : Int) (S h : mx_H) (n : Int), mx_M d 167 [(2, a0), (0, a1)] S h n = mx_ex d 167 0 [some (2, a0), some (0, a1)] [] S h n) ∧
  (∀ (d : Nat) (x : Int) (l1 : Option mx_V) (S h : mx_H) (n : Int), mx_ex d 167 0 [some (2, x), l1] [] S h n = mx_ex d 167 1 [some (2, x), l1] [(2, x)] S h n) ∧
  (∀ (d : Nat) (a : Int) (l0 l1 : Option mx_V) (S h : mx_H) (n : Int), mx_ex d 167 1 [l0, l1] [(2, a)] S h n = mx_gd (13 ≤ S a (-2) ∧ S a (-2) ≤ 13) d 167 4 [l0, l1] [(0, h a 8)] S h n) ∧
  (∀ (d : Nat) (l0 l1 : Option mx_V) (v0 : mx_V) (S h : mx_H) (n : Int), mx_ex d 167 4 [l0, l1] [v0] S h n = mx_ex d 167 5 [l0, l1] [(0, 3), v0] S h n) ∧
  (∀ (d : Nat) (x : Int) (l0 : Option mx_V) (v0 v1 : mx_V) (S h : mx_H) (n : Int), mx_ex d 167 5 [l0, some (0, x)] [v0, v1] S h n = mx_ex d 167 6 [l0, some (0, x)] [(0, x), v0, v1] S h n) ∧
  (∀ (d : Nat) (b a : Int) (l0 l1 : Option mx_V) (v2 : mx_V) (S h : mx_H) (n : Int), mx_ex d 167 6 [l0, l1] [(0, b), (0, a), v2] S h n = mx_ex d 167 7 [l0, l1] [(0, mx_w (a + b)), v2] S h n) ∧
  (∀ (d : Nat) (b a : Int) (l0 l1 : Option mx_V) (S h : mx_H) (n : Int), mx_ex d 167 7 [l0, l1] [(0, b), (0, a)] S h n = mx_br (a = b) d 167 12 10 [l0, l1] [] S h n) ∧
  (∀ (d : Nat) (l0 l1 : Option mx_V) (S h : mx_H) (n : Int), mx_ex d 167 10 [l0, l1] [] S h n = mx_ex d 167 11 [l0, l1] [(0, 0)] S h n) ∧
  (∀ (d : Nat) (x : Int) (l0 l1 : Option mx_V) (S h : mx_H) (n : Int), mx_ex d 167 11 [l0, l1] [(0, x)] S h n = mx_re (0 ≤ x ∧ x ≤ 1) (some (0, x)) S h n) ∧
  (∀ (d : Nat) (x : Int) (l1 : Option mx_V) (S h : mx_H) (n : Int), mx_ex d 167 12 [some (2, x), l1] [] S h n = mx_ex d 167 13 [some (2, x), l1] [(2, x)] S h n) ∧
  (∀ (d : Nat) (a : Int) (l0 l1 : Option mx_V) (S h : mx_H) (n : Int), mx_ex (d + 1) 167 13 [l0, l1] [(2, a)] S h n = mx_cl (S a (-2) = 13) d 165 [(2, a)] 167 16 [l0, l1] [] S h n) ∧
  (∀ (d : Nat) (l0 l1 : Option mx_V) (S h : mx_H) (n : Int), mx_ex d 167 16 [l0, l1] [] S h n = mx_ex d 167 17 [l0, l1] [(0, 1)] S h n) ∧
  (∀ (d : Nat) (x : Int) (l0 l1 : Option mx_V) (S h : mx_H) (n : Int), mx_ex d 167 17 [l0, l1] [(0, x)] S h n = mx_re (0 ≤ x ∧ x ≤ 1) (some (0, x)) S h n) :=
  ⟨by intros; exact rfl,
   by intros; exact eq_ld rfl rfl,
   by intros; exact eq_gi rfl,
   by intros; exact eq_push rfl,
   by intros; exact eq_ld rfl rfl,
   by intros; exact eq_i2 (o := mx_add) rfl,
   by intros; exact eq_ic0 rfl,
   by intros; exact eq_push rfl,
   by intros; exact eq_rr rfl,
   by intros; exact eq_ld rfl rfl,
   by intros; exact eq_cv rfl (Nat.le_of_ble_eq_true rfl) rfl rfl rfl (Nat.le_of_ble_eq_true rfl),
   by intros; exact eq_push rfl,
   by intros; exact eq_rr rfl⟩
theorem rw_X12_takesNumber :
  (∀ (d : Nat) (a0 a1 a2 : Int) (S h : mx_H) (n : Int), mx_M d 168 [(2, a0), (0, a1), (0, a2)] S h n = mx_ex d 168 0 [some (2, a0), some (0, a1), some (0, a2)] [] S h n) ∧
  (∀ (d : Nat) (x : Int) (l1 l2 : Option mx_V) (S h : mx_H) (n : Int), mx_ex d 168 0 [some (2, x), l1, l2] [] S h n = mx_ex d 168 1 [some (2, x), l1, l2] [(2, x)] S h n) ∧
  (∀ (d : Nat) (a : Int) (l0 l1 l2 : Option mx_V) (S h : mx_H) (n : Int), mx_ex d 168 1 [l0, l1, l2] [(2, a)] S h n = mx_gd (13 ≤ S a (-2) ∧ S a (-2) ≤ 13) d 168 4 [l0, l1, l2] [(0, h a 8)] S h n) ∧
  (∀ (d : Nat) (l0 l1 l2 : Option mx_V) (v0 : mx_V) (S h : mx_H) (n : Int), mx_ex d 168 4 [l0, l1, l2] [v0] S h n = mx_ex d 168 5 [l0, l1, l2] [(0, 2), v0] S h n) ∧
  (∀ (d : Nat) (b a : Int) (l0 l1 l2 : Option mx_V) (S h : mx_H) (n : Int), mx_ex d 168 5 [l0, l1, l2] [(0, b), (0, a)] S h n = mx_br (a = b) d 168 8 20 [l0, l1, l2] [] S h n) ∧
  (∀ (d : Nat) (x : Int) (l1 l2 : Option mx_V) (S h : mx_H) (n : Int), mx_ex d 168 8 [some (2, x), l1, l2] [] S h n = mx_ex d 168 9 [some (2, x), l1, l2] [(2, x)] S h n) ∧
  (∀ (d : Nat) (a : Int) (l0 l1 l2 : Option mx_V) (S h : mx_H) (n : Int), mx_ex d 168 9 [l0, l1, l2] [(2, a)] S h n = mx_gd (13 ≤ S a (-2) ∧ S a (-2) ≤ 13) d 168 12 [l0, l1, l2] [(0, h a 9)] S h n) ∧
  (∀ (d : Nat) (x : Int) (l0 l2 : Option mx_V) (v0 : mx_V) (S h : mx_H) (n : Int), mx_ex d 168 12 [l0, some (0, x), l2] [v0] S h n = mx_ex d 168 13 [l0, some (0, x), l2] [(0, x), v0] S h n) ∧
  (∀ (d : Nat) (x : Int) (l0 l1 : Option mx_V) (v0 v1 : mx_V) (S h : mx_H) (n : Int), mx_ex d 168 13 [l0, l1, some (0, x)] [v0, v1] S h n = mx_ex d 168 14 [l0, l1, some (0, x)] [(0, x), v0, v1] S h n) ∧
  (∀ (d : Nat) (x0 x1 x2 : Int) (l0 l1 l2 : Option mx_V) (S h : mx_H) (n : Int), mx_ex (d + 1) 168 14 [l0, l1, l2] [(0, x0), (0, x1), (0, x2)] S h n = mx_rt (mx_M d 157 [(0, x2), (0, x1), (0, x0)] S h n) (d + 1) 168 17 [l0, l1, l2] []) ∧
  (∀ (d : Nat) (a : Int) (l0 l1 l2 : Option mx_V) (S h : mx_H) (n : Int), mx_ex d 168 17 [l0, l1, l2] [(0, a)] S h n = mx_br (a = 0) d 168 20 22 [l0, l1, l2] [] S h n) ∧
  (∀ (d : Nat) (l0 l1 l2 : Option mx_V) (S h : mx_H) (n : Int), mx_ex d 168 20 [l0, l1, l2] [] S h n = mx_ex d 168 21 [l0, l1, l2] [(0, 0)] S h n) ∧
  (∀ (d : Nat) (x : Int) (l0 l1 l2 : Option mx_V) (S h : mx_H) (n : Int), mx_ex d 168 21 [l0, l1, l2] [(0, x)] S h n = mx_re (0 ≤ x ∧ x ≤ 1) (some (0, x)) S h n) ∧
  (∀ (d : Nat) (x : Int) (l1 l2 : Option mx_V) (S h : mx_H) (n : Int), mx_ex d 168 22 [some (2, x), l1, l2] [] S h n = mx_ex d 168 23 [some (2, x), l1, l2] [(2, x)] S h n) ∧
  (∀ (d : Nat) (x : Int) (l1 l2 : Option mx_V) (v0 : mx_V) (S h : mx_H) (n : Int), mx_ex d 168 23 [some (2, x), l1, l2] [v0] S h n = mx_ex d 168 24 [some (2, x), l1, l2] [(2, x), v0] S h n) ∧
  (∀ (d : Nat) (a : Int) (l0 l1 l2 : Option mx_V) (v1 : mx_V) (S h : mx_H) (n : Int), mx_ex d 168 24 [l0, l1, l2] [(2, a), v1] S h n = mx_gd (13 ≤ S a (-2) ∧ S a (-2) ≤ 13) d 168 27 [l0, l1, l2] [(0, h a 9), v1] S h n) ∧
  (∀ (d : Nat) (v a : Int) (l0 l1 l2 : Option mx_V) (S h : mx_H) (n : Int), mx_ex d 168 27 [l0, l1, l2] [(0, v), (2, a)] S h n = mx_gd (13 ≤ S a (-2) ∧ S a (-2) ≤ 13) d 168 30 [l0, l1, l2] [] S (mx_u h a 10 v) n) ∧
  (∀ (d : Nat) (x : Int) (l1 l2 : Option mx_V) (S h : mx_H) (n : Int), mx_ex d 168 30 [some (2, x), l1, l2] [] S h n = mx_ex d 168 31 [some (2, x), l1, l2] [(2, x)] S h n) ∧
  (∀ (d : Nat) (a : Int) (l0 l1 l2 : Option mx_V) (S h : mx_H) (n : Int), mx_ex (d + 1) 168 31 [l0, l1, l2] [(2, a)] S h n = mx_cl (S a (-2) = 13) d 165 [(2, a)] 168 34 [l0, l1, l2] [] S h n) ∧
  (∀ (d : Nat) (l0 l1 l2 : Option mx_V) (S h : mx_H) (n : Int), mx_ex d 168 34 [l0, l1, l2] [] S h n = mx_ex d 168 35 [l0, l1, l2] [(0, 1)] S h n) ∧
  (∀ (d : Nat) (x : Int) (l0 l1 l2 : Option mx_V) (S h : mx_H) (n : Int), mx_ex d 168 35 [l0, l1, l2] [(0, x)] S h n = mx_re (0 ≤ x ∧ x ≤ 1) (some (0, x)) S h n) :=
  ⟨by intros; exact rfl,
   by intros; exact eq_ld rfl rfl,
   by intros; exact eq_gi rfl,
   by intros; exact eq_push rfl,
   by intros; exact eq_ic1 rfl,
   by intros; exact eq_ld rfl rfl,
   by intros; exact eq_gi rfl,
   by intros; exact eq_ld rfl rfl,
   by intros; exact eq_ld rfl rfl,
   by intros; exact eq_cs rfl (Nat.le_of_ble_eq_true rfl) rfl rfl rfl (Nat.le_of_ble_eq_true rfl),
   by intros; exact eq_if1 rfl,
   by intros; exact eq_push rfl,
   by intros; exact eq_rr rfl,
   by intros; exact eq_ld rfl rfl,
   by intros; exact eq_ld rfl rfl,
   by intros; exact eq_gi rfl,
   by intros; exact eq_pi rfl,
   by intros; exact eq_ld rfl rfl,
   by intros; exact eq_cv rfl (Nat.le_of_ble_eq_true rfl) rfl rfl rfl (Nat.le_of_ble_eq_true rfl),
   by intros; exact eq_push rfl,
   by intros; exact eq_rr rfl⟩
theorem rw_X12_kindNamed :
  (∀ (d : Nat) (a0 : Int) (S h : mx_H) (n : Int), mx_M d 169 [(2, a0)] S h n = mx_ex d 169 0 [some (2, a0)] [] S h n) ∧
  (∀ (d : Nat) (x : Int) (S h : mx_H) (n : Int), mx_ex d 169 0 [some (2, x)] [] S h n = mx_ex d 169 1 [some (2, x)] [(2, x)] S h n) ∧
  (∀ (d : Nat) (l0 : Option mx_V) (v0 : mx_V) (S h : mx_H) (n : Int), mx_ex d 169 1 [l0] [v0] S h n = mx_ex d 169 3 [l0] [(2, (-22)), v0] S h n) ∧
  (∀ (d : Nat) (x0 a : Int) (l0 : Option mx_V) (S h : mx_H) (n : Int), mx_ex (d + 1) 169 3 [l0] [(2, x0), (2, a)] S h n = mx_cl (S a (-2) = 13) d 166 [(2, a), (2, x0)] 169 6 [l0] [] S h n) ∧
  (∀ (d : Nat) (a : Int) (l0 : Option mx_V) (S h : mx_H) (n : Int), mx_ex d 169 6 [l0] [(0, a)] S h n = mx_br (a = 0) d 169 13 9 [l0] [] S h n) ∧
  (∀ (d : Nat) (l0 : Option mx_V) (S h : mx_H) (n : Int), mx_ex d 169 9 [l0] [] S h n = mx_ex d 169 10 [l0] [(0, 0)] S h n) ∧
  (∀ (d : Nat) (l0 : Option mx_V) (v0 : mx_V) (S h : mx_H) (n : Int), mx_ex d 169 10 [l0] [v0] S h n = mx_ex d 169 79 [l0] [v0] S h n) ∧
  (∀ (d : Nat) (x : Int) (S h : mx_H) (n : Int), mx_ex d 169 13 [some (2, x)] [] S h n = mx_ex d 169 14 [some (2, x)] [(2, x)] S h n) ∧
  (∀ (d : Nat) (l0 : Option mx_V) (v0 : mx_V) (S h : mx_H) (n : Int), mx_ex d 169 14 [l0] [v0] S h n = mx_ex d 169 16 [l0] [(2, (-23)), v0] S h n) ∧
  (∀ (d : Nat) (x0 a : Int) (l0 : Option mx_V) (S h : mx_H) (n : Int), mx_ex (d + 1) 169 16 [l0] [(2, x0), (2, a)] S h n = mx_cl (S a (-2) = 13) d 166 [(2, a), (2, x0)] 169 19 [l0] [] S h n) ∧
  (∀ (d : Nat) (a : Int) (l0 : Option mx_V) (S h : mx_H) (n : Int), mx_ex d 169 19 [l0] [(0, a)] S h n = mx_br (a = 0) d 169 26 22 [l0] [] S h n) ∧
  (∀ (d : Nat) (l0 : Option mx_V) (S h : mx_H) (n : Int), mx_ex d 169 22 [l0] [] S h n = mx_ex d 169 23 [l0] [(0, 1)] S h n) ∧
  (∀ (d : Nat) (l0 : Option mx_V) (v0 : mx_V) (S h : mx_H) (n : Int), mx_ex d 169 23 [l0] [v0] S h n = mx_ex d 169 79 [l0] [v0] S h n) ∧
  (∀ (d : Nat) (x : Int) (S h : mx_H) (n : Int), mx_ex d 169 26 [some (2, x)] [] S h n = mx_ex d 169 27 [some (2, x)] [(2, x)] S h n) ∧
  (∀ (d : Nat) (l0 : Option mx_V) (v0 : mx_V) (S h : mx_H) (n : Int), mx_ex d 169 27 [l0] [v0] S h n = mx_ex d 169 29 [l0] [(2, (-24)), v0] S h n) ∧
  (∀ (d : Nat) (x0 a : Int) (l0 : Option mx_V) (S h : mx_H) (n : Int), mx_ex (d + 1) 169 29 [l0] [(2, x0), (2, a)] S h n = mx_cl (S a (-2) = 13) d 166 [(2, a), (2, x0)] 169 32 [l0] [] S h n) ∧
  (∀ (d : Nat) (a : Int) (l0 : Option mx_V) (S h : mx_H) (n : Int), mx_ex d 169 32 [l0] [(0, a)] S h n = mx_br (a = 0) d 169 39 35 [l0] [] S h n) ∧
  (∀ (d : Nat) (l0 : Option mx_V) (S h : mx_H) (n : Int), mx_ex d 169 35 [l0] [] S h n = mx_ex d 169 36 [l0] [(0, 2)] S h n) ∧
  (∀ (d : Nat) (l0 : Option mx_V) (v0 : mx_V) (S h : mx_H) (n : Int), mx_ex d 169 36 [l0] [v0] S h n = mx_ex d 169 79 [l0] [v0] S h n) ∧
  (∀ (d : Nat) (x : Int) (S h : mx_H) (n : Int), mx_ex d 169 39 [some (2, x)] [] S h n = mx_ex d 169 40 [some (2, x)] [(2, x)] S h n) ∧
  (∀ (d : Nat) (l0 : Option mx_V) (v0 : mx_V) (S h : mx_H) (n : Int), mx_ex d 169 40 [l0] [v0] S h n = mx_ex d 169 42 [l0] [(2, (-25)), v0] S h n) ∧
  (∀ (d : Nat) (x0 a : Int) (l0 : Option mx_V) (S h : mx_H) (n : Int), mx_ex (d + 1) 169 42 [l0] [(2, x0), (2, a)] S h n = mx_cl (S a (-2) = 13) d 166 [(2, a), (2, x0)] 169 45 [l0] [] S h n) ∧
  (∀ (d : Nat) (a : Int) (l0 : Option mx_V) (S h : mx_H) (n : Int), mx_ex d 169 45 [l0] [(0, a)] S h n = mx_br (a = 0) d 169 52 48 [l0] [] S h n) ∧
  (∀ (d : Nat) (l0 : Option mx_V) (S h : mx_H) (n : Int), mx_ex d 169 48 [l0] [] S h n = mx_ex d 169 49 [l0] [(0, 3)] S h n) ∧
  (∀ (d : Nat) (l0 : Option mx_V) (v0 : mx_V) (S h : mx_H) (n : Int), mx_ex d 169 49 [l0] [v0] S h n = mx_ex d 169 79 [l0] [v0] S h n) ∧
  (∀ (d : Nat) (x : Int) (S h : mx_H) (n : Int), mx_ex d 169 52 [some (2, x)] [] S h n = mx_ex d 169 53 [some (2, x)] [(2, x)] S h n) ∧
  (∀ (d : Nat) (l0 : Option mx_V) (v0 : mx_V) (S h : mx_H) (n : Int), mx_ex d 169 53 [l0] [v0] S h n = mx_ex d 169 55 [l0] [(2, (-26)), v0] S h n) ∧
  (∀ (d : Nat) (x0 a : Int) (l0 : Option mx_V) (S h : mx_H) (n : Int), mx_ex (d + 1) 169 55 [l0] [(2, x0), (2, a)] S h n = mx_cl (S a (-2) = 13) d 166 [(2, a), (2, x0)] 169 58 [l0] [] S h n) ∧
  (∀ (d : Nat) (a : Int) (l0 : Option mx_V) (S h : mx_H) (n : Int), mx_ex d 169 58 [l0] [(0, a)] S h n = mx_br (a = 0) d 169 65 61 [l0] [] S h n) ∧
  (∀ (d : Nat) (l0 : Option mx_V) (S h : mx_H) (n : Int), mx_ex d 169 61 [l0] [] S h n = mx_ex d 169 62 [l0] [(0, 4)] S h n) ∧
  (∀ (d : Nat) (l0 : Option mx_V) (v0 : mx_V) (S h : mx_H) (n : Int), mx_ex d 169 62 [l0] [v0] S h n = mx_ex d 169 79 [l0] [v0] S h n) ∧
  (∀ (d : Nat) (x : Int) (S h : mx_H) (n : Int), mx_ex d 169 65 [some (2, x)] [] S h n = mx_ex d 169 66 [some (2, x)] [(2, x)] S h n) ∧
  (∀ (d : Nat) (l0 : Option mx_V) (v0 : mx_V) (S h : mx_H) (n : Int), mx_ex d 169 66 [l0] [v0] S h n = mx_ex d 169 68 [l0] [(2, (-27)), v0] S h n) ∧
  (∀ (d : Nat) (x0 a : Int) (l0 : Option mx_V) (S h : mx_H) (n : Int), mx_ex (d + 1) 169 68 [l0] [(2, x0), (2, a)] S h n = mx_cl (S a (-2) = 13) d 166 [(2, a), (2, x0)] 169 71 [l0] [] S h n) ∧
  (∀ (d : Nat) (a : Int) (l0 : Option mx_V) (S h : mx_H) (n : Int), mx_ex d 169 71 [l0] [(0, a)] S h n = mx_br (a = 0) d 169 78 74 [l0] [] S h n) ∧
  (∀ (d : Nat) (l0 : Option mx_V) (S h : mx_H) (n : Int), mx_ex d 169 74 [l0] [] S h n = mx_ex d 169 75 [l0] [(0, 5)] S h n) ∧
  (∀ (d : Nat) (l0 : Option mx_V) (v0 : mx_V) (S h : mx_H) (n : Int), mx_ex d 169 75 [l0] [v0] S h n = mx_ex d 169 79 [l0] [v0] S h n) ∧
  (∀ (d : Nat) (l0 : Option mx_V) (S h : mx_H) (n : Int), mx_ex d 169 78 [l0] [] S h n = mx_ex d 169 79 [l0] [(0, (-1))] S h n) ∧
  (∀ (d : Nat) (x : Int) (l0 : Option mx_V) (S h : mx_H) (n : Int), mx_ex d 169 79 [l0] [(0, x)] S h n = some (some (0, x), S, h, n)) :=
  ⟨by intros; exact rfl,
   by intros; exact eq_ld rfl rfl,
   by intros; exact eq_push rfl,
   by intros; exact eq_cv rfl (Nat.le_of_ble_eq_true rfl) rfl rfl rfl (Nat.le_of_ble_eq_true rfl),
   by intros; exact eq_if0 rfl,
   by intros; exact eq_push rfl,
   by intros; exact eq_go rfl,
   by intros; exact eq_ld rfl rfl,
   by intros; exact eq_push rfl,
   by intros; exact eq_cv rfl (Nat.le_of_ble_eq_true rfl) rfl rfl rfl (Nat.le_of_ble_eq_true rfl),
   by intros; exact eq_if0 rfl,
   by intros; exact eq_push rfl,
   by intros; exact eq_go rfl,
   by intros; exact eq_ld rfl rfl,
   by intros; exact eq_push rfl,
   by intros; exact eq_cv rfl (Nat.le_of_ble_eq_true rfl) rfl rfl rfl (Nat.le_of_ble_eq_true rfl),
   by intros; exact eq_if0 rfl,
   by intros; exact eq_push rfl,
   by intros; exact eq_go rfl,
   by intros; exact eq_ld rfl rfl,
   by intros; exact eq_push rfl,
   by intros; exact eq_cv rfl (Nat.le_of_ble_eq_true rfl) rfl rfl rfl (Nat.le_of_ble_eq_true rfl),
   by intros; exact eq_if0 rfl,
   by intros; exact eq_push rfl,
   by intros; exact eq_go rfl,
   by intros; exact eq_ld rfl rfl,
   by intros; exact eq_push rfl,
   by intros; exact eq_cv rfl (Nat.le_of_ble_eq_true rfl) rfl rfl rfl (Nat.le_of_ble_eq_true rfl),
   by intros; exact eq_if0 rfl,
   by intros; exact eq_push rfl,
   by intros; exact eq_go rfl,
   by intros; exact eq_ld rfl rfl,
   by intros; exact eq_push rfl,
   by intros; exact eq_cv rfl (Nat.le_of_ble_eq_true rfl) rfl rfl rfl (Nat.le_of_ble_eq_true rfl),
   by intros; exact eq_if0 rfl,
   by intros; exact eq_push rfl,
   by intros; exact eq_go rfl,
   by intros; exact eq_push rfl,
   by intros; exact eq_ret rfl⟩
theorem rh_X12_takesNote_124 : ∀ (d : Nat) (x : Int) (l0 l1 l2 l3 : Option mx_V) (S h : mx_H) (n : Int), mx_ex d 170 124 [l0, l1, l2, l3, some (0, x)] [] S h n = mx_ex d 170 126 [l0, l1, l2, l3, some (0, x)] [(0, x)] S h n := by intros; exact eq_ld rfl rfl
theorem rw_X12_takesNote :
  (∀ (d : Nat) (a0 a1 : Int) (S h : mx_H) (n : Int), mx_M d 170 [(2, a0), (0, a1)] S h n = mx_ex d 170 0 [some (2, a0), some (0, a1), none, none, none] [] S h n) ∧
  (∀ (d : Nat) (x : Int) (l1 l2 l3 l4 : Option mx_V) (S h : mx_H) (n : Int), mx_ex d 170 0 [some (2, x), l1, l2, l3, l4] [] S h n = mx_ex d 170 1 [some (2, x), l1, l2, l3, l4] [(2, x)] S h n) ∧
  (∀ (d : Nat) (a : Int) (l0 l1 l2 l3 l4 : Option mx_V) (S h : mx_H) (n : Int), mx_ex d 170 1 [l0, l1, l2, l3, l4] [(2, a)] S h n = mx_gd (13 ≤ S a (-2) ∧ S a (-2) ≤ 13) d 170 4 [l0, l1, l2, l3, l4] [(2, S a 0)] S h n) ∧
  (∀ (d : Nat) (l0 l1 l2 l3 l4 : Option mx_V) (v0 : mx_V) (S h : mx_H) (n : Int), mx_ex d 170 4 [l0, l1, l2, l3, l4] [v0] S h n = mx_ex d 170 5 [l0, l1, l2, l3, l4] [(0, 0), v0] S h n) ∧
  (∀ (d : Nat) (i a : Int) (l0 l1 l2 l3 l4 : Option mx_V) (S h : mx_H) (n : Int), mx_ex d 170 5 [l0, l1, l2, l3, l4] [(0, i), (2, a)] S h n = mx_gd ((S a (-2) = 20 ∨ S a (-2) = 24) ∧ 0 ≤ i ∧ i < S a (-1)) d 170 6 [l0, l1, l2, l3, l4] [(0, h a i)] S h n) ∧
  (∀ (d : Nat) (l0 l1 l2 l3 l4 : Option mx_V) (v0 : mx_V) (S h : mx_H) (n : Int), mx_ex d 170 6 [l0, l1, l2, l3, l4] [v0] S h n = mx_ex d 170 8 [l0, l1, l2, l3, l4] [(0, 6), v0] S h n) ∧
  (∀ (d : Nat) (b a : Int) (l0 l1 l2 l3 l4 : Option mx_V) (S h : mx_H) (n : Int), mx_ex d 170 8 [l0, l1, l2, l3, l4] [(0, b), (0, a)] S h n = mx_br (a = b) d 170 11 13 [l0, l1, l2, l3, l4] [] S h n) ∧
  (∀ (d : Nat) (l0 l1 l2 l3 l4 : Option mx_V) (S h : mx_H) (n : Int), mx_ex d 170 11 [l0, l1, l2, l3, l4] [] S h n = mx_ex d 170 12 [l0, l1, l2, l3, l4] [(0, 0)] S h n) ∧
  (∀ (d : Nat) (x : Int) (l0 l1 l2 l3 l4 : Option mx_V) (S h : mx_H) (n : Int), mx_ex d 170 12 [l0, l1, l2, l3, l4] [(0, x)] S h n = mx_re (0 ≤ x ∧ x ≤ 1) (some (0, x)) S h n) ∧
  (∀ (d : Nat) (x : Int) (l1 l2 l3 l4 : Option mx_V) (S h : mx_H) (n : Int), mx_ex d 170 13 [some (2, x), l1, l2, l3, l4] [] S h n = mx_ex d 170 14 [some (2, x), l1, l2, l3, l4] [(2, x)] S h n) ∧
  (∀ (d : Nat) (a : Int) (l0 l1 l2 l3 l4 : Option mx_V) (S h : mx_H) (n : Int), mx_ex (d + 1) 170 14 [l0, l1, l2, l3, l4] [(2, a)] S h n = mx_cl (S a (-2) = 13) d 165 [(2, a)] 170 17 [l0, l1, l2, l3, l4] [] S h n) ∧
  (∀ (d : Nat) (l0 l1 l2 l3 l4 : Option mx_V) (S h : mx_H) (n : Int), mx_ex d 170 17 [l0, l1, l2, l3, l4] [] S h n = mx_ex d 170 19 [l0, l1, l2, l3, l4] [(0, 9)] S h n) ∧
  (∀ (d : Nat) (l0 l1 l2 l3 l4 : Option mx_V) (v0 : mx_V) (S h : mx_H) (n : Int), mx_ex d 170 19 [l0, l1, l2, l3, l4] [v0] S h n = mx_ex d 170 21 [l0, l1, l2, l3, l4] [(0, 10), v0] S h n) ∧
  (∀ (d : Nat) (x : Int) (l1 l2 l3 l4 : Option mx_V) (v0 v1 : mx_V) (S h : mx_H) (n : Int), mx_ex d 170 21 [some (2, x), l1, l2, l3, l4] [v0, v1] S h n = mx_ex d 170 22 [some (2, x), l1, l2, l3, l4] [(2, x), v0, v1] S h n) ∧
  (∀ (d : Nat) (a : Int) (l0 l1 l2 l3 l4 : Option mx_V) (v1 v2 : mx_V) (S h : mx_H) (n : Int), mx_ex d 170 22 [l0, l1, l2, l3, l4] [(2, a), v1, v2] S h n = mx_gd (13 ≤ S a (-2) ∧ S a (-2) ≤ 13) d 170 25 [l0, l1, l2, l3, l4] [(2, S a 0), v1, v2] S h n) ∧
  (∀ (d : Nat) (l0 l1 l2 l3 l4 : Option mx_V) (v0 v1 v2 : mx_V) (S h : mx_H) (n : Int), mx_ex d 170 25 [l0, l1, l2, l3, l4] [v0, v1, v2] S h n = mx_ex d 170 26 [l0, l1, l2, l3, l4] [(0, 0), v0, v1, v2] S h n) ∧
  (∀ (d : Nat) (i a : Int) (l0 l1 l2 l3 l4 : Option mx_V) (v2 v3 : mx_V) (S h : mx_H) (n : Int), mx_ex d 170 26 [l0, l1, l2, l3, l4] [(0, i), (2, a), v2, v3] S h n = mx_gd ((S a (-2) = 20 ∨ S a (-2) = 24) ∧ 0 ≤ i ∧ i < S a (-1)) d 170 27 [l0, l1, l2, l3, l4] [(0, h a i), v2, v3] S h n) ∧
  (∀ (d : Nat) (b a : Int) (l0 l1 l2 l3 l4 : Option mx_V) (v2 : mx_V) (S h : mx_H) (n : Int), mx_ex d 170 27 [l0, l1, l2, l3, l4] [(0, b), (0, a), v2] S h n = mx_ex d 170 28 [l0, l1, l2, l3, l4] [(0, mx_w (a * b)), v2] S h n) ∧
  (∀ (d : Nat) (b a : Int) (l0 l1 l2 l3 l4 : Option mx_V) (S h : mx_H) (n : Int), mx_ex d 170 28 [l0, l1, l2, l3, l4] [(0, b), (0, a)] S h n = mx_ex d 170 29 [l0, l1, l2, l3, l4] [(0, mx_w (a + b))] S h n) ∧
  (∀ (d : Nat) (x : Int) (l0 l1 l2 l3 l4 : Option mx_V) (S h : mx_H) (n : Int), mx_ex d 170 29 [l0, l1, l2, l3, l4] [(0, x)] S h n = mx_ex d 170 30 [l0, mx_nl l1, some (0, x), l3, l4] [] S h n) ∧
  (∀ (d : Nat) (x : Int) (l1 l2 l3 l4 : Option mx_V) (S h : mx_H) (n : Int), mx_ex d 170 30 [some (2, x), l1, l2, l3, l4] [] S h n = mx_ex d 170 31 [some (2, x), l1, l2, l3, l4] [(2, x)] S h n) ∧
  (∀ (d : Nat) (l0 l1 l2 l3 l4 : Option mx_V) (v0 : mx_V) (S h : mx_H) (n : Int), mx_ex d 170 31 [l0, l1, l2, l3, l4] [v0] S h n = mx_ex d 170 32 [l0, l1, l2, l3, l4] [(0, 0), v0] S h n) ∧
  (∀ (d : Nat) (l0 l1 l2 l3 l4 : Option mx_V) (v0 v1 : mx_V) (S h : mx_H) (n : Int), mx_ex d 170 32 [l0, l1, l2, l3, l4] [v0, v1] S h n = mx_ex d 170 33 [l0, l1, l2, l3, l4] [(0, 2), v0, v1] S h n) ∧
  (∀ (d : Nat) (x0 x1 a : Int) (l0 l1 l2 l3 l4 : Option mx_V) (S h : mx_H) (n : Int), mx_ex (d + 1) 170 33 [l0, l1, l2, l3, l4] [(0, x0), (0, x1), (2, a)] S h n = mx_cl (S a (-2) = 13) d 168 [(2, a), (0, x1), (0, x0)] 170 36 [l0, l1, l2, l3, l4] [] S h n) ∧
  (∀ (d : Nat) (a : Int) (l0 l1 l2 l3 l4 : Option mx_V) (S h : mx_H) (n : Int), mx_ex d 170 36 [l0, l1, l2, l3, l4] [(0, a)] S h n = mx_br (a = 0) d 170 39 41 [l0, l1, l2, l3, l4] [] S h n) ∧
  (∀ (d : Nat) (l0 l1 l2 l3 l4 : Option mx_V) (S h : mx_H) (n : Int), mx_ex d 170 39 [l0, l1, l2, l3, l4] [] S h n = mx_ex d 170 40 [l0, l1, l2, l3, l4] [(0, 0)] S h n) ∧
  (∀ (d : Nat) (x : Int) (l0 l1 l2 l3 l4 : Option mx_V) (S h : mx_H) (n : Int), mx_ex d 170 40 [l0, l1, l2, l3, l4] [(0, x)] S h n = mx_re (0 ≤ x ∧ x ≤ 1) (some (0, x)) S h n) ∧
  (∀ (d : Nat) (x : Int) (l1 l2 l3 l4 : Option mx_V) (S h : mx_H) (n : Int), mx_ex d 170 41 [some (2, x), l1, l2, l3, l4] [] S h n = mx_ex d 170 42 [some (2, x), l1, l2, l3, l4] [(2, x)] S h n) ∧
  (∀ (d : Nat) (a : Int) (l0 l1 l2 l3 l4 : Option mx_V) (S h : mx_H) (n : Int), mx_ex d 170 42 [l0, l1, l2, l3, l4] [(2, a)] S h n = mx_gd (13 ≤ S a (-2) ∧ S a (-2) ≤ 13) d 170 45 [l0, l1, l2, l3, l4] [(2, S a 0)] S h n) ∧
  (∀ (d : Nat) (x : Int) (l0 l1 l3 l4 : Option mx_V) (v0 : mx_V) (S h : mx_H) (n : Int), mx_ex d 170 45 [l0, l1, some (0, x), l3, l4] [v0] S h n = mx_ex d 170 46 [l0, l1, some (0, x), l3, l4] [(0, x), v0] S h n) ∧
  (∀ (d : Nat) (l0 l1 l2 l3 l4 : Option mx_V) (v0 v1 : mx_V) (S h : mx_H) (n : Int), mx_ex d 170 46 [l0, l1, l2, l3, l4] [v0, v1] S h n = mx_ex d 170 47 [l0, l1, l2, l3, l4] [(0, 0), v0, v1] S h n) ∧
  (∀ (d : Nat) (b a : Int) (l0 l1 l2 l3 l4 : Option mx_V) (v2 : mx_V) (S h : mx_H) (n : Int), mx_ex d 170 47 [l0, l1, l2, l3, l4] [(0, b), (0, a), v2] S h n = mx_ex d 170 48 [l0, l1, l2, l3, l4] [(0, mx_w (a + b)), v2] S h n) ∧
  (∀ (d : Nat) (x : Int) (l0 l2 l3 l4 : Option mx_V) (v0 v1 : mx_V) (S h : mx_H) (n : Int), mx_ex d 170 48 [l0, some (0, x), l2, l3, l4] [v0, v1] S h n = mx_ex d 170 49 [l0, some (0, x), l2, l3, l4] [(0, x), v0, v1] S h n) ∧
  (∀ (d : Nat) (v i a : Int) (l0 l1 l2 l3 l4 : Option mx_V) (S h : mx_H) (n : Int), mx_ex d 170 49 [l0, l1, l2, l3, l4] [(0, v), (0, i), (2, a)] S h n = mx_gd (S a (-2) = 20 ∧ 0 ≤ i ∧ i < S a (-1)) d 170 50 [l0, l1, l2, l3, l4] [] S (mx_u h a i v) n) ∧
  (∀ (d : Nat) (x : Int) (l1 l2 l3 l4 : Option mx_V) (S h : mx_H) (n : Int), mx_ex d 170 50 [some (2, x), l1, l2, l3, l4] [] S h n = mx_ex d 170 51 [some (2, x), l1, l2, l3, l4] [(2, x)] S h n) ∧
  (∀ (d : Nat) (a : Int) (l0 l1 l2 l3 l4 : Option mx_V) (S h : mx_H) (n : Int), mx_ex d 170 51 [l0, l1, l2, l3, l4] [(2, a)] S h n = mx_gd (13 ≤ S a (-2) ∧ S a (-2) ≤ 13) d 170 54 [l0, l1, l2, l3, l4] [(2, S a 0)] S h n) ∧
  (∀ (d : Nat) (x : Int) (l0 l1 l3 l4 : Option mx_V) (v0 : mx_V) (S h : mx_H) (n : Int), mx_ex d 170 54 [l0, l1, some (0, x), l3, l4] [v0] S h n = mx_ex d 170 55 [l0, l1, some (0, x), l3, l4] [(0, x), v0] S h n) ∧
  (∀ (d : Nat) (l0 l1 l2 l3 l4 : Option mx_V) (v0 v1 : mx_V) (S h : mx_H) (n : Int), mx_ex d 170 55 [l0, l1, l2, l3, l4] [v0, v1] S h n = mx_ex d 170 56 [l0, l1, l2, l3, l4] [(0, 1), v0, v1] S h n) ∧
  (∀ (d : Nat) (b a : Int) (l0 l1 l2 l3 l4 : Option mx_V) (v2 : mx_V) (S h : mx_H) (n : Int), mx_ex d 170 56 [l0, l1, l2, l3, l4] [(0, b), (0, a), v2] S h n = mx_ex d 170 57 [l0, l1, l2, l3, l4] [(0, mx_w (a + b)), v2] S h n) ∧
  (∀ (d : Nat) (x : Int) (l1 l2 l3 l4 : Option mx_V) (v0 v1 : mx_V) (S h : mx_H) (n : Int), mx_ex d 170 57 [some (2, x), l1, l2, l3, l4] [v0, v1] S h n = mx_ex d 170 58 [some (2, x), l1, l2, l3, l4] [(2, x), v0, v1] S h n) ∧
  (∀ (d : Nat) (a : Int) (l0 l1 l2 l3 l4 : Option mx_V) (v1 v2 : mx_V) (S h : mx_H) (n : Int), mx_ex d 170 58 [l0, l1, l2, l3, l4] [(2, a), v1, v2] S h n = mx_gd (13 ≤ S a (-2) ∧ S a (-2) ≤ 13) d 170 61 [l0, l1, l2, l3, l4] [(0, h a 10), v1, v2] S h n) ∧
  (∀ (d : Nat) (v i a : Int) (l0 l1 l2 l3 l4 : Option mx_V) (S h : mx_H) (n : Int), mx_ex d 170 61 [l0, l1, l2, l3, l4] [(0, v), (0, i), (2, a)] S h n = mx_gd (S a (-2) = 20 ∧ 0 ≤ i ∧ i < S a (-1)) d 170 62 [l0, l1, l2, l3, l4] [] S (mx_u h a i v) n) ∧
  (∀ (d : Nat) (x : Int) (l1 l2 l3 l4 : Option mx_V) (S h : mx_H) (n : Int), mx_ex d 170 62 [some (2, x), l1, l2, l3, l4] [] S h n = mx_ex d 170 63 [some (2, x), l1, l2, l3, l4] [(2, x)] S h n) ∧
  (∀ (d : Nat) (a : Int) (l0 l1 l2 l3 l4 : Option mx_V) (S h : mx_H) (n : Int), mx_ex d 170 63 [l0, l1, l2, l3, l4] [(2, a)] S h n = mx_gd (13 ≤ S a (-2) ∧ S a (-2) ≤ 13) d 170 66 [l0, l1, l2, l3, l4] [(2, S a 0)] S h n) ∧
  (∀ (d : Nat) (x : Int) (l0 l1 l3 l4 : Option mx_V) (v0 : mx_V) (S h : mx_H) (n : Int), mx_ex d 170 66 [l0, l1, some (0, x), l3, l4] [v0] S h n = mx_ex d 170 67 [l0, l1, some (0, x), l3, l4] [(0, x), v0] S h n) ∧
  (∀ (d : Nat) (l0 l1 l2 l3 l4 : Option mx_V) (v0 v1 : mx_V) (S h : mx_H) (n : Int), mx_ex d 170 67 [l0, l1, l2, l3, l4] [v0, v1] S h n = mx_ex d 170 68 [l0, l1, l2, l3, l4] [(0, 2), v0, v1] S h n) ∧
  (∀ (d : Nat) (b a : Int) (l0 l1 l2 l3 l4 : Option mx_V) (v2 : mx_V) (S h : mx_H) (n : Int), mx_ex d 170 68 [l0, l1, l2, l3, l4] [(0, b), (0, a), v2] S h n = mx_ex d 170 69 [l0, l1, l2, l3, l4] [(0, mx_w (a + b)), v2] S h n) ∧
  (∀ (d : Nat) (l0 l1 l2 l3 l4 : Option mx_V) (v0 v1 : mx_V) (S h : mx_H) (n : Int), mx_ex d 170 69 [l0, l1, l2, l3, l4] [v0, v1] S h n = mx_ex d 170 70 [l0, l1, l2, l3, l4] [(0, 0), v0, v1] S h n) ∧
  (∀ (d : Nat) (v i a : Int) (l0 l1 l2 l3 l4 : Option mx_V) (S h : mx_H) (n : Int), mx_ex d 170 70 [l0, l1, l2, l3, l4] [(0, v), (0, i), (2, a)] S h n = mx_gd (S a (-2) = 20 ∧ 0 ≤ i ∧ i < S a (-1)) d 170 71 [l0, l1, l2, l3, l4] [] S (mx_u h a i v) n) ∧
  (∀ (d : Nat) (x : Int) (l1 l2 l3 l4 : Option mx_V) (S h : mx_H) (n : Int), mx_ex d 170 71 [some (2, x), l1, l2, l3, l4] [] S h n = mx_ex d 170 72 [some (2, x), l1, l2, l3, l4] [(2, x)] S h n) ∧
  (∀ (d : Nat) (l0 l1 l2 l3 l4 : Option mx_V) (v0 : mx_V) (S h : mx_H) (n : Int), mx_ex d 170 72 [l0, l1, l2, l3, l4] [v0] S h n = mx_ex d 170 74 [l0, l1, l2, l3, l4] [(2, (-28)), v0] S h n) ∧
  (∀ (d : Nat) (x0 a : Int) (l0 l1 l2 l3 l4 : Option mx_V) (S h : mx_H) (n : Int), mx_ex (d + 1) 170 74 [l0, l1, l2, l3, l4] [(2, x0), (2, a)] S h n = mx_cl (S a (-2) = 13) d 166 [(2, a), (2, x0)] 170 77 [l0, l1, l2, l3, l4] [] S h n) ∧
  (∀ (d : Nat) (a : Int) (l0 l1 l2 l3 l4 : Option mx_V) (S h : mx_H) (n : Int), mx_ex d 170 77 [l0, l1, l2, l3, l4] [(0, a)] S h n = mx_br (a = 0) d 170 108 80 [l0, l1, l2, l3, l4] [] S h n) ∧
  (∀ (d : Nat) (x : Int) (l1 l2 l3 l4 : Option mx_V) (S h : mx_H) (n : Int), mx_ex d 170 80 [some (2, x), l1, l2, l3, l4] [] S h n = mx_ex d 170 81 [some (2, x), l1, l2, l3, l4] [(2, x)] S h n) ∧
  (∀ (d : Nat) (a : Int) (l0 l1 l2 l3 l4 : Option mx_V) (S h : mx_H) (n : Int), mx_ex (d + 1) 170 81 [l0, l1, l2, l3, l4] [(2, a)] S h n = mx_cl (S a (-2) = 13) d 165 [(2, a)] 170 84 [l0, l1, l2, l3, l4] [] S h n) ∧
  (∀ (d : Nat) (x : Int) (l1 l2 l3 l4 : Option mx_V) (S h : mx_H) (n : Int), mx_ex d 170 84 [some (2, x), l1, l2, l3, l4] [] S h n = mx_ex d 170 85 [some (2, x), l1, l2, l3, l4] [(2, x)] S h n) ∧
  (∀ (d : Nat) (l0 l1 l2 l3 l4 : Option mx_V) (v0 : mx_V) (S h : mx_H) (n : Int), mx_ex d 170 85 [l0, l1, l2, l3, l4] [v0] S h n = mx_ex d 170 86 [l0, l1, l2, l3, l4] [(0, 0), v0] S h n) ∧
  (∀ (d : Nat) (l0 l1 l2 l3 l4 : Option mx_V) (v0 v1 : mx_V) (S h : mx_H) (n : Int), mx_ex d 170 86 [l0, l1, l2, l3, l4] [v0, v1] S h n = mx_ex d 170 88 [l0, l1, l2, l3, l4] [(0, 6), v0, v1] S h n) ∧
  (∀ (d : Nat) (x0 x1 a : Int) (l0 l1 l2 l3 l4 : Option mx_V) (S h : mx_H) (n : Int), mx_ex (d + 1) 170 88 [l0, l1, l2, l3, l4] [(0, x0), (0, x1), (2, a)] S h n = mx_cl (S a (-2) = 13) d 168 [(2, a), (0, x1), (0, x0)] 170 91 [l0, l1, l2, l3, l4] [] S h n) ∧
  (∀ (d : Nat) (a : Int) (l0 l1 l2 l3 l4 : Option mx_V) (S h : mx_H) (n : Int), mx_ex d 170 91 [l0, l1, l2, l3, l4] [(0, a)] S h n = mx_br (a = 0) d 170 94 96 [l0, l1, l2, l3, l4] [] S h n) ∧
  (∀ (d : Nat) (l0 l1 l2 l3 l4 : Option mx_V) (S h : mx_H) (n : Int), mx_ex d 170 94 [l0, l1, l2, l3, l4] [] S h n = mx_ex d 170 95 [l0, l1, l2, l3, l4] [(0, 0)] S h n) ∧
  (∀ (d : Nat) (x : Int) (l0 l1 l2 l3 l4 : Option mx_V) (S h : mx_H) (n : Int), mx_ex d 170 95 [l0, l1, l2, l3, l4] [(0, x)] S h n = mx_re (0 ≤ x ∧ x ≤ 1) (some (0, x)) S h n) ∧
  (∀ (d : Nat) (x : Int) (l1 l2 l3 l4 : Option mx_V) (S h : mx_H) (n : Int), mx_ex d 170 96 [some (2, x), l1, l2, l3, l4] [] S h n = mx_ex d 170 97 [some (2, x), l1, l2, l3, l4] [(2, x)] S h n) ∧
  (∀ (d : Nat) (a : Int) (l0 l1 l2 l3 l4 : Option mx_V) (S h : mx_H) (n : Int), mx_ex d 170 97 [l0, l1, l2, l3, l4] [(2, a)] S h n = mx_gd (13 ≤ S a (-2) ∧ S a (-2) ≤ 13) d 170 100 [l0, l1, l2, l3, l4] [(2, S a 0)] S h n) ∧
  (∀ (d : Nat) (x : Int) (l0 l1 l3 l4 : Option mx_V) (v0 : mx_V) (S h : mx_H) (n : Int), mx_ex d 170 100 [l0, l1, some (0, x), l3, l4] [v0] S h n = mx_ex d 170 101 [l0, l1, some (0, x), l3, l4] [(0, x), v0] S h n) ∧
  (∀ (d : Nat) (l0 l1 l2 l3 l4 : Option mx_V) (v0 v1 : mx_V) (S h : mx_H) (n : Int), mx_ex d 170 101 [l0, l1, l2, l3, l4] [v0, v1] S h n = mx_ex d 170 102 [l0, l1, l2, l3, l4] [(0, 2), v0, v1] S h n) ∧
  (∀ (d : Nat) (b a : Int) (l0 l1 l2 l3 l4 : Option mx_V) (v2 : mx_V) (S h : mx_H) (n : Int), mx_ex d 170 102 [l0, l1, l2, l3, l4] [(0, b), (0, a), v2] S h n = mx_ex d 170 103 [l0, l1, l2, l3, l4] [(0, mx_w (a + b)), v2] S h n) ∧
  (∀ (d : Nat) (x : Int) (l1 l2 l3 l4 : Option mx_V) (v0 v1 : mx_V) (S h : mx_H) (n : Int), mx_ex d 170 103 [some (2, x), l1, l2, l3, l4] [v0, v1] S h n = mx_ex d 170 104 [some (2, x), l1, l2, l3, l4] [(2, x), v0, v1] S h n) ∧
  (∀ (d : Nat) (a : Int) (l0 l1 l2 l3 l4 : Option mx_V) (v1 v2 : mx_V) (S h : mx_H) (n : Int), mx_ex d 170 104 [l0, l1, l2, l3, l4] [(2, a), v1, v2] S h n = mx_gd (13 ≤ S a (-2) ∧ S a (-2) ≤ 13) d 170 107 [l0, l1, l2, l3, l4] [(0, h a 10), v1, v2] S h n) ∧
  (∀ (d : Nat) (v i a : Int) (l0 l1 l2 l3 l4 : Option mx_V) (S h : mx_H) (n : Int), mx_ex d 170 107 [l0, l1, l2, l3, l4] [(0, v), (0, i), (2, a)] S h n = mx_gd (S a (-2) = 20 ∧ 0 ≤ i ∧ i < S a (-1)) d 170 108 [l0, l1, l2, l3, l4] [] S (mx_u h a i v) n) :=
  ⟨by intros; exact rfl,
   by intros; exact eq_ld rfl rfl,
   by intros; exact eq_gr rfl,
   by intros; exact eq_push rfl,
   by intros; exact eq_iald rfl,
   by intros; exact eq_push rfl,
   by intros; exact eq_ic1 rfl,
   by intros; exact eq_push rfl,
   by intros; exact eq_rr rfl,
   by intros; exact eq_ld rfl rfl,
   by intros; exact eq_cv rfl (Nat.le_of_ble_eq_true rfl) rfl rfl rfl (Nat.le_of_ble_eq_true rfl),
   by intros; exact eq_push rfl,
   by intros; exact eq_push rfl,
   by intros; exact eq_ld rfl rfl,
   by intros; exact eq_gr rfl,
   by intros; exact eq_push rfl,
   by intros; exact eq_iald rfl,
   by intros; exact eq_i2 (o := mx_mul) rfl,
   by intros; exact eq_i2 (o := mx_add) rfl,
   by intros; exact eq_st rfl (by decide) (Nat.le_of_ble_eq_true rfl) rfl,
   by intros; exact eq_ld rfl rfl,
   by intros; exact eq_push rfl,
   by intros; exact eq_push rfl,
   by intros; exact eq_cv rfl (Nat.le_of_ble_eq_true rfl) rfl rfl rfl (Nat.le_of_ble_eq_true rfl),
   by intros; exact eq_if1 rfl,
   by intros; exact eq_push rfl,
   by intros; exact eq_rr rfl,
   by intros; exact eq_ld rfl rfl,
   by intros; exact eq_gr rfl,
   by intros; exact eq_ld rfl rfl,
   by intros; exact eq_push rfl,
   by intros; exact eq_i2 (o := mx_add) rfl,
   by intros; exact eq_ld rfl rfl,
   by intros; exact eq_iast rfl,
   by intros; exact eq_ld rfl rfl,
   by intros; exact eq_gr rfl,
   by intros; exact eq_ld rfl rfl,
   by intros; exact eq_push rfl,
   by intros; exact eq_i2 (o := mx_add) rfl,
   by intros; exact eq_ld rfl rfl,
   by intros; exact eq_gi rfl,
   by intros; exact eq_iast rfl,
   by intros; exact eq_ld rfl rfl,
   by intros; exact eq_gr rfl,
   by intros; exact eq_ld rfl rfl,
   by intros; exact eq_push rfl,
   by intros; exact eq_i2 (o := mx_add) rfl,
   by intros; exact eq_push rfl,
   by intros; exact eq_iast rfl,
   by intros; exact eq_ld rfl rfl,
   by intros; exact eq_push rfl,
   by intros; exact eq_cv rfl (Nat.le_of_ble_eq_true rfl) rfl rfl rfl (Nat.le_of_ble_eq_true rfl),
   by intros; exact eq_if0 rfl,
   by intros; exact eq_ld rfl rfl,
   by intros; exact eq_cv rfl (Nat.le_of_ble_eq_true rfl) rfl rfl rfl (Nat.le_of_ble_eq_true rfl),
   by intros; exact eq_ld rfl rfl,
   by intros; exact eq_push rfl,
   by intros; exact eq_push rfl,
   by intros; exact eq_cv rfl (Nat.le_of_ble_eq_true rfl) rfl rfl rfl (Nat.le_of_ble_eq_true rfl),
   by intros; exact eq_if1 rfl,
   by intros; exact eq_push rfl,
   by intros; exact eq_rr rfl,
   by intros; exact eq_ld rfl rfl,
   by intros; exact eq_gr rfl,
   by intros; exact eq_ld rfl rfl,
   by intros; exact eq_push rfl,
   by intros; exact eq_i2 (o := mx_add) rfl,
   by intros; exact eq_ld rfl rfl,
   by intros; exact eq_gi rfl,
   by intros; exact eq_iast rfl⟩
theorem rw_X12_takesNote_1 :
  (∀ (d : Nat) (x : Int) (l1 l2 l3 l4 : Option mx_V) (S h : mx_H) (n : Int), mx_ex d 170 108 [some (2, x), l1, l2, l3, l4] [] S h n = mx_ex d 170 109 [some (2, x), l1, l2, l3, l4] [(2, x)] S h n) ∧
  (∀ (d : Nat) (l0 l1 l2 l3 l4 : Option mx_V) (v0 : mx_V) (S h : mx_H) (n : Int), mx_ex d 170 109 [l0, l1, l2, l3, l4] [v0] S h n = mx_ex d 170 111 [l0, l1, l2, l3, l4] [(0, 58), v0] S h n) ∧
  (∀ (d : Nat) (x0 a : Int) (l0 l1 l2 l3 l4 : Option mx_V) (S h : mx_H) (n : Int), mx_ex (d + 1) 170 111 [l0, l1, l2, l3, l4] [(0, x0), (2, a)] S h n = mx_cl (S a (-2) = 13) d 167 [(2, a), (0, x0)] 170 114 [l0, l1, l2, l3, l4] [] S h n) ∧
  (∀ (d : Nat) (a : Int) (l0 l1 l2 l3 l4 : Option mx_V) (S h : mx_H) (n : Int), mx_ex d 170 114 [l0, l1, l2, l3, l4] [(0, a)] S h n = mx_br (a = 0) d 170 117 119 [l0, l1, l2, l3, l4] [] S h n) ∧
  (∀ (d : Nat) (l0 l1 l2 l3 l4 : Option mx_V) (S h : mx_H) (n : Int), mx_ex d 170 117 [l0, l1, l2, l3, l4] [] S h n = mx_ex d 170 118 [l0, l1, l2, l3, l4] [(0, 0)] S h n) ∧
  (∀ (d : Nat) (x : Int) (l0 l1 l2 l3 l4 : Option mx_V) (S h : mx_H) (n : Int), mx_ex d 170 118 [l0, l1, l2, l3, l4] [(0, x)] S h n = mx_re (0 ≤ x ∧ x ≤ 1) (some (0, x)) S h n) ∧
  (∀ (d : Nat) (l0 l1 l2 l3 l4 : Option mx_V) (S h : mx_H) (n : Int), mx_ex d 170 119 [l0, l1, l2, l3, l4] [] S h n = mx_ex d 170 120 [l0, l1, l2, l3, l4] [(0, 0)] S h n) ∧
  (∀ (d : Nat) (x : Int) (l0 l1 l2 l3 l4 : Option mx_V) (S h : mx_H) (n : Int), mx_ex d 170 120 [l0, l1, l2, l3, l4] [(0, x)] S h n = mx_ex d 170 121 [l0, l1, mx_nl l2, some (0, x), l4] [] S h n) ∧
  (∀ (d : Nat) (l0 l1 l2 l3 l4 : Option mx_V) (S h : mx_H) (n : Int), mx_ex d 170 121 [l0, l1, l2, l3, l4] [] S h n = mx_ex d 170 122 [l0, l1, l2, l3, l4] [(0, 1)] S h n) ∧
  (∀ (d : Nat) (x : Int) (l0 l1 l2 l3 l4 : Option mx_V) (S h : mx_H) (n : Int), mx_ex d 170 122 [l0, l1, l2, l3, l4] [(0, x)] S h n = mx_ex d 170 124 [l0, l1, l2, mx_nl l3, some (0, x)] [] S h n) ∧
  (∀ (d : Nat) (a : Int) (l0 l1 l2 l3 l4 : Option mx_V) (S h : mx_H) (n : Int), mx_ex d 170 126 [l0, l1, l2, l3, l4] [(0, a)] S h n = mx_br (a = 0) d 170 175 129 [l0, l1, l2, l3, l4] [] S h n) ∧
  (∀ (d : Nat) (x : Int) (l0 l1 l2 l4 : Option mx_V) (S h : mx_H) (n : Int), mx_ex d 170 129 [l0, l1, l2, some (0, x), l4] [] S h n = mx_ex d 170 130 [l0, l1, l2, some (0, x), l4] [(0, x)] S h n) ∧
  (∀ (d : Nat) (l0 l1 l2 l3 l4 : Option mx_V) (v0 : mx_V) (S h : mx_H) (n : Int), mx_ex d 170 130 [l0, l1, l2, l3, l4] [v0] S h n = mx_ex d 170 132 [l0, l1, l2, l3, l4] [(0, 6), v0] S h n) ∧
  (∀ (d : Nat) (b a : Int) (l0 l1 l2 l3 l4 : Option mx_V) (S h : mx_H) (n : Int), mx_ex d 170 132 [l0, l1, l2, l3, l4] [(0, b), (0, a)] S h n = mx_br (a = b) d 170 145 135 [l0, l1, l2, l3, l4] [] S h n) ∧
  (∀ (d : Nat) (x : Int) (l1 l2 l3 l4 : Option mx_V) (S h : mx_H) (n : Int), mx_ex d 170 135 [some (2, x), l1, l2, l3, l4] [] S h n = mx_ex d 170 136 [some (2, x), l1, l2, l3, l4] [(2, x)] S h n) ∧
  (∀ (d : Nat) (l0 l1 l2 l3 l4 : Option mx_V) (v0 : mx_V) (S h : mx_H) (n : Int), mx_ex d 170 136 [l0, l1, l2, l3, l4] [v0] S h n = mx_ex d 170 137 [l0, l1, l2, l3, l4] [(0, 0), v0] S h n) ∧
  (∀ (d : Nat) (l0 l1 l2 l3 l4 : Option mx_V) (v0 v1 : mx_V) (S h : mx_H) (n : Int), mx_ex d 170 137 [l0, l1, l2, l3, l4] [v0, v1] S h n = mx_ex d 170 139 [l0, l1, l2, l3, l4] [(0, 15), v0, v1] S h n) ∧
  (∀ (d : Nat) (x0 x1 a : Int) (l0 l1 l2 l3 l4 : Option mx_V) (S h : mx_H) (n : Int), mx_ex (d + 1) 170 139 [l0, l1, l2, l3, l4] [(0, x0), (0, x1), (2, a)] S h n = mx_cl (S a (-2) = 13) d 168 [(2, a), (0, x1), (0, x0)] 170 142 [l0, l1, l2, l3, l4] [] S h n) ∧
  (∀ (d : Nat) (a : Int) (l0 l1 l2 l3 l4 : Option mx_V) (S h : mx_H) (n : Int), mx_ex d 170 142 [l0, l1, l2, l3, l4] [(0, a)] S h n = mx_br (a = 0) d 170 145 147 [l0, l1, l2, l3, l4] [] S h n) ∧
  (∀ (d : Nat) (l0 l1 l2 l3 l4 : Option mx_V) (S h : mx_H) (n : Int), mx_ex d 170 145 [l0, l1, l2, l3, l4] [] S h n = mx_ex d 170 146 [l0, l1, l2, l3, l4] [(0, 0)] S h n) ∧
  (∀ (d : Nat) (x : Int) (l0 l1 l2 l3 l4 : Option mx_V) (S h : mx_H) (n : Int), mx_ex d 170 146 [l0, l1, l2, l3, l4] [(0, x)] S h n = mx_re (0 ≤ x ∧ x ≤ 1) (some (0, x)) S h n) ∧
  (∀ (d : Nat) (x : Int) (l1 l2 l3 l4 : Option mx_V) (S h : mx_H) (n : Int), mx_ex d 170 147 [some (2, x), l1, l2, l3, l4] [] S h n = mx_ex d 170 148 [some (2, x), l1, l2, l3, l4] [(2, x)] S h n) ∧
  (∀ (d : Nat) (a : Int) (l0 l1 l2 l3 l4 : Option mx_V) (S h : mx_H) (n : Int), mx_ex d 170 148 [l0, l1, l2, l3, l4] [(2, a)] S h n = mx_gd (13 ≤ S a (-2) ∧ S a (-2) ≤ 13) d 170 151 [l0, l1, l2, l3, l4] [(2, S a 0)] S h n) ∧
  (∀ (d : Nat) (x : Int) (l0 l1 l3 l4 : Option mx_V) (v0 : mx_V) (S h : mx_H) (n : Int), mx_ex d 170 151 [l0, l1, some (0, x), l3, l4] [v0] S h n = mx_ex d 170 152 [l0, l1, some (0, x), l3, l4] [(0, x), v0] S h n) ∧
  (∀ (d : Nat) (l0 l1 l2 l3 l4 : Option mx_V) (v0 v1 : mx_V) (S h : mx_H) (n : Int), mx_ex d 170 152 [l0, l1, l2, l3, l4] [v0, v1] S h n = mx_ex d 170 153 [l0, l1, l2, l3, l4] [(0, 4), v0, v1] S h n) ∧
  (∀ (d : Nat) (b a : Int) (l0 l1 l2 l3 l4 : Option mx_V) (v2 : mx_V) (S h : mx_H) (n : Int), mx_ex d 170 153 [l0, l1, l2, l3, l4] [(0, b), (0, a), v2] S h n = mx_ex d 170 154 [l0, l1, l2, l3, l4] [(0, mx_w (a + b)), v2] S h n) ∧
  (∀ (d : Nat) (x : Int) (l0 l1 l2 l4 : Option mx_V) (v0 v1 : mx_V) (S h : mx_H) (n : Int), mx_ex d 170 154 [l0, l1, l2, some (0, x), l4] [v0, v1] S h n = mx_ex d 170 155 [l0, l1, l2, some (0, x), l4] [(0, x), v0, v1] S h n) ∧
  (∀ (d : Nat) (b a : Int) (l0 l1 l2 l3 l4 : Option mx_V) (v2 : mx_V) (S h : mx_H) (n : Int), mx_ex d 170 155 [l0, l1, l2, l3, l4] [(0, b), (0, a), v2] S h n = mx_ex d 170 156 [l0, l1, l2, l3, l4] [(0, mx_w (a + b)), v2] S h n) ∧
  (∀ (d : Nat) (x : Int) (l1 l2 l3 l4 : Option mx_V) (v0 v1 : mx_V) (S h : mx_H) (n : Int), mx_ex d 170 156 [some (2, x), l1, l2, l3, l4] [v0, v1] S h n = mx_ex d 170 157 [some (2, x), l1, l2, l3, l4] [(2, x), v0, v1] S h n) ∧
  (∀ (d : Nat) (a : Int) (l0 l1 l2 l3 l4 : Option mx_V) (v1 v2 : mx_V) (S h : mx_H) (n : Int), mx_ex d 170 157 [l0, l1, l2, l3, l4] [(2, a), v1, v2] S h n = mx_gd (13 ≤ S a (-2) ∧ S a (-2) ≤ 13) d 170 160 [l0, l1, l2, l3, l4] [(0, h a 10), v1, v2] S h n) ∧
  (∀ (d : Nat) (v i a : Int) (l0 l1 l2 l3 l4 : Option mx_V) (S h : mx_H) (n : Int), mx_ex d 170 160 [l0, l1, l2, l3, l4] [(0, v), (0, i), (2, a)] S h n = mx_gd (S a (-2) = 20 ∧ 0 ≤ i ∧ i < S a (-1)) d 170 161 [l0, l1, l2, l3, l4] [] S (mx_u h a i v) n) ∧
  (∀ (d : Nat) (x : Int) (l0 l1 l2 l4 : Option mx_V) (S h : mx_H) (n : Int), mx_ex d 170 161 [l0, l1, l2, some (0, x), l4] [] S h n = mx_ex d 170 164 [l0, l1, mx_nl l2, some (0, mx_w (x + 1)), l4] [] S h n) ∧
  (∀ (d : Nat) (x : Int) (l1 l2 l3 l4 : Option mx_V) (S h : mx_H) (n : Int), mx_ex d 170 164 [some (2, x), l1, l2, l3, l4] [] S h n = mx_ex d 170 165 [some (2, x), l1, l2, l3, l4] [(2, x)] S h n) ∧
  (∀ (d : Nat) (l0 l1 l2 l3 l4 : Option mx_V) (v0 : mx_V) (S h : mx_H) (n : Int), mx_ex d 170 165 [l0, l1, l2, l3, l4] [v0] S h n = mx_ex d 170 167 [l0, l1, l2, l3, l4] [(0, 44), v0] S h n) ∧
  (∀ (d : Nat) (x0 a : Int) (l0 l1 l2 l3 l4 : Option mx_V) (S h : mx_H) (n : Int), mx_ex (d + 1) 170 167 [l0, l1, l2, l3, l4] [(0, x0), (2, a)] S h n = mx_cl (S a (-2) = 13) d 167 [(2, a), (0, x0)] 170 170 [l0, l1, l2, l3, l4] [] S h n) ∧
  (∀ (d : Nat) (x : Int) (l0 l1 l2 l3 l4 : Option mx_V) (S h : mx_H) (n : Int), mx_ex d 170 170 [l0, l1, l2, l3, l4] [(0, x)] S h n = mx_ex d 170 172 [l0, l1, l2, mx_nl l3, some (0, x)] [] S h n) ∧
  (∀ (d : Nat) (l0 l1 l2 l3 l4 : Option mx_V) (S h : mx_H) (n : Int), mx_ex d 170 172 [l0, l1, l2, l3, l4] [] S h n = mx_ex d 170 124 [l0, l1, l2, l3, l4] [] S h n) ∧
  (∀ (d : Nat) (x : Int) (l1 l2 l3 l4 : Option mx_V) (S h : mx_H) (n : Int), mx_ex d 170 175 [some (2, x), l1, l2, l3, l4] [] S h n = mx_ex d 170 176 [some (2, x), l1, l2, l3, l4] [(2, x)] S h n) ∧
  (∀ (d : Nat) (a : Int) (l0 l1 l2 l3 l4 : Option mx_V) (S h : mx_H) (n : Int), mx_ex d 170 176 [l0, l1, l2, l3, l4] [(2, a)] S h n = mx_gd (13 ≤ S a (-2) ∧ S a (-2) ≤ 13) d 170 179 [l0, l1, l2, l3, l4] [(2, S a 0)] S h n) ∧
  (∀ (d : Nat) (x : Int) (l0 l1 l3 l4 : Option mx_V) (v0 : mx_V) (S h : mx_H) (n : Int), mx_ex d 170 179 [l0, l1, some (0, x), l3, l4] [v0] S h n = mx_ex d 170 180 [l0, l1, some (0, x), l3, l4] [(0, x), v0] S h n) ∧
  (∀ (d : Nat) (l0 l1 l2 l3 l4 : Option mx_V) (v0 v1 : mx_V) (S h : mx_H) (n : Int), mx_ex d 170 180 [l0, l1, l2, l3, l4] [v0, v1] S h n = mx_ex d 170 181 [l0, l1, l2, l3, l4] [(0, 3), v0, v1] S h n) ∧
  (∀ (d : Nat) (b a : Int) (l0 l1 l2 l3 l4 : Option mx_V) (v2 : mx_V) (S h : mx_H) (n : Int), mx_ex d 170 181 [l0, l1, l2, l3, l4] [(0, b), (0, a), v2] S h n = mx_ex d 170 182 [l0, l1, l2, l3, l4] [(0, mx_w (a + b)), v2] S h n) ∧
  (∀ (d : Nat) (x : Int) (l0 l1 l2 l4 : Option mx_V) (v0 v1 : mx_V) (S h : mx_H) (n : Int), mx_ex d 170 182 [l0, l1, l2, some (0, x), l4] [v0, v1] S h n = mx_ex d 170 183 [l0, l1, l2, some (0, x), l4] [(0, x), v0, v1] S h n) ∧
  (∀ (d : Nat) (v i a : Int) (l0 l1 l2 l3 l4 : Option mx_V) (S h : mx_H) (n : Int), mx_ex d 170 183 [l0, l1, l2, l3, l4] [(0, v), (0, i), (2, a)] S h n = mx_gd (S a (-2) = 20 ∧ 0 ≤ i ∧ i < S a (-1)) d 170 184 [l0, l1, l2, l3, l4] [] S (mx_u h a i v) n) ∧
  (∀ (d : Nat) (x : Int) (l1 l2 l3 l4 : Option mx_V) (S h : mx_H) (n : Int), mx_ex d 170 184 [some (2, x), l1, l2, l3, l4] [] S h n = mx_ex d 170 185 [some (2, x), l1, l2, l3, l4] [(2, x)] S h n) ∧
  (∀ (d : Nat) (a : Int) (l0 l1 l2 l3 l4 : Option mx_V) (S h : mx_H) (n : Int), mx_ex d 170 185 [l0, l1, l2, l3, l4] [(2, a)] S h n = mx_gd (13 ≤ S a (-2) ∧ S a (-2) ≤ 13) d 170 188 [l0, l1, l2, l3, l4] [(2, S a 0)] S h n) ∧
  (∀ (d : Nat) (l0 l1 l2 l3 l4 : Option mx_V) (v0 : mx_V) (S h : mx_H) (n : Int), mx_ex d 170 188 [l0, l1, l2, l3, l4] [v0] S h n = mx_ex d 170 189 [l0, l1, l2, l3, l4] [(0, 0), v0] S h n) ∧
  (∀ (d : Nat) (a b : Int) (l0 l1 l2 l3 l4 : Option mx_V) (S h : mx_H) (n : Int), mx_ex d 170 189 [l0, l1, l2, l3, l4] [(0, a), (2, b)] S h n = mx_ex d 170 190 [l0, l1, l2, l3, l4] [(0, a), (2, b), (0, a), (2, b)] S h n) ∧
  (∀ (d : Nat) (i a : Int) (l0 l1 l2 l3 l4 : Option mx_V) (v2 v3 : mx_V) (S h : mx_H) (n : Int), mx_ex d 170 190 [l0, l1, l2, l3, l4] [(0, i), (2, a), v2, v3] S h n = mx_gd ((S a (-2) = 20 ∨ S a (-2) = 24) ∧ 0 ≤ i ∧ i < S a (-1)) d 170 191 [l0, l1, l2, l3, l4] [(0, h a i), v2, v3] S h n) ∧
  (∀ (d : Nat) (l0 l1 l2 l3 l4 : Option mx_V) (v0 v1 v2 : mx_V) (S h : mx_H) (n : Int), mx_ex d 170 191 [l0, l1, l2, l3, l4] [v0, v1, v2] S h n = mx_ex d 170 192 [l0, l1, l2, l3, l4] [(0, 1), v0, v1, v2] S h n) ∧
  (∀ (d : Nat) (b a : Int) (l0 l1 l2 l3 l4 : Option mx_V) (v2 v3 : mx_V) (S h : mx_H) (n : Int), mx_ex d 170 192 [l0, l1, l2, l3, l4] [(0, b), (0, a), v2, v3] S h n = mx_ex d 170 193 [l0, l1, l2, l3, l4] [(0, mx_w (a + b)), v2, v3] S h n) ∧
  (∀ (d : Nat) (v i a : Int) (l0 l1 l2 l3 l4 : Option mx_V) (S h : mx_H) (n : Int), mx_ex d 170 193 [l0, l1, l2, l3, l4] [(0, v), (0, i), (2, a)] S h n = mx_gd (S a (-2) = 20 ∧ 0 ≤ i ∧ i < S a (-1)) d 170 194 [l0, l1, l2, l3, l4] [] S (mx_u h a i v) n) ∧
  (∀ (d : Nat) (x : Int) (l1 l2 l3 l4 : Option mx_V) (S h : mx_H) (n : Int), mx_ex d 170 194 [some (2, x), l1, l2, l3, l4] [] S h n = mx_ex d 170 195 [some (2, x), l1, l2, l3, l4] [(2, x)] S h n) ∧
  (∀ (d : Nat) (l0 l1 l2 l3 l4 : Option mx_V) (v0 : mx_V) (S h : mx_H) (n : Int), mx_ex d 170 195 [l0, l1, l2, l3, l4] [v0] S h n = mx_ex d 170 197 [l0, l1, l2, l3, l4] [(0, 59), v0] S h n) ∧
  (∀ (d : Nat) (x0 a : Int) (l0 l1 l2 l3 l4 : Option mx_V) (S h : mx_H) (n : Int), mx_ex (d + 1) 170 197 [l0, l1, l2, l3, l4] [(0, x0), (2, a)] S h n = mx_cl (S a (-2) = 13) d 167 [(2, a), (0, x0)] 170 200 [l0, l1, l2, l3, l4] [] S h n) ∧
  (∀ (d : Nat) (x : Int) (l0 l1 l2 l3 l4 : Option mx_V) (S h : mx_H) (n : Int), mx_ex d 170 200 [l0, l1, l2, l3, l4] [(0, x)] S h n = mx_re (0 ≤ x ∧ x ≤ 1) (some (0, x)) S h n) :=
  ⟨by intros; exact eq_ld rfl rfl,
   by intros; exact eq_push rfl,
   by intros; exact eq_cv rfl (Nat.le_of_ble_eq_true rfl) rfl rfl rfl (Nat.le_of_ble_eq_true rfl),
   by intros; exact eq_if1 rfl,
   by intros; exact eq_push rfl,
   by intros; exact eq_rr rfl,
   by intros; exact eq_push rfl,
   by intros; exact eq_st rfl (by decide) (Nat.le_of_ble_eq_true rfl) rfl,
   by intros; exact eq_push rfl,
   by intros; exact eq_st rfl (by decide) (Nat.le_of_ble_eq_true rfl) rfl,
   by intros; exact eq_if0 rfl,
   by intros; exact eq_ld rfl rfl,
   by intros; exact eq_push rfl,
   by intros; exact eq_ic0 rfl,
   by intros; exact eq_ld rfl rfl,
   by intros; exact eq_push rfl,
   by intros; exact eq_push rfl,
   by intros; exact eq_cv rfl (Nat.le_of_ble_eq_true rfl) rfl rfl rfl (Nat.le_of_ble_eq_true rfl),
   by intros; exact eq_if1 rfl,
   by intros; exact eq_push rfl,
   by intros; exact eq_rr rfl,
   by intros; exact eq_ld rfl rfl,
   by intros; exact eq_gr rfl,
   by intros; exact eq_ld rfl rfl,
   by intros; exact eq_push rfl,
   by intros; exact eq_i2 (o := mx_add) rfl,
   by intros; exact eq_ld rfl rfl,
   by intros; exact eq_i2 (o := mx_add) rfl,
   by intros; exact eq_ld rfl rfl,
   by intros; exact eq_gi rfl,
   by intros; exact eq_iast rfl,
   by intros; exact eq_inc rfl rfl rfl,
   by intros; exact eq_ld rfl rfl,
   by intros; exact eq_push rfl,
   by intros; exact eq_cv rfl (Nat.le_of_ble_eq_true rfl) rfl rfl rfl (Nat.le_of_ble_eq_true rfl),
   by intros; exact eq_st rfl (by decide) (Nat.le_of_ble_eq_true rfl) rfl,
   by intros; exact eq_go rfl,
   by intros; exact eq_ld rfl rfl,
   by intros; exact eq_gr rfl,
   by intros; exact eq_ld rfl rfl,
   by intros; exact eq_push rfl,
   by intros; exact eq_i2 (o := mx_add) rfl,
   by intros; exact eq_ld rfl rfl,
   by intros; exact eq_iast rfl,
   by intros; exact eq_ld rfl rfl,
   by intros; exact eq_gr rfl,
   by intros; exact eq_push rfl,
   by intros; exact eq_dup2 rfl (by decide) (by decide),
   by intros; exact eq_iald rfl,
   by intros; exact eq_push rfl,
   by intros; exact eq_i2 (o := mx_add) rfl,
   by intros; exact eq_iast rfl,
   by intros; exact eq_ld rfl rfl,
   by intros; exact eq_push rfl,
   by intros; exact eq_cv rfl (Nat.le_of_ble_eq_true rfl) rfl rfl rfl (Nat.le_of_ble_eq_true rfl),
   by intros; exact eq_rr rfl⟩
theorem rw_X12_takesEvening :
  (∀ (d : Nat) (a0 : Int) (S h : mx_H) (n : Int), mx_M d 171 [(2, a0)] S h n = mx_ex d 171 0 [some (2, a0), none, none] [] S h n) ∧
  (∀ (d : Nat) (x : Int) (l1 l2 : Option mx_V) (S h : mx_H) (n : Int), mx_ex d 171 0 [some (2, x), l1, l2] [] S h n = mx_ex d 171 1 [some (2, x), l1, l2] [(2, x)] S h n) ∧
  (∀ (d : Nat) (a : Int) (l0 l1 l2 : Option mx_V) (S h : mx_H) (n : Int), mx_ex (d + 1) 171 1 [l0, l1, l2] [(2, a)] S h n = mx_cl (S a (-2) = 13) d 165 [(2, a)] 171 4 [l0, l1, l2] [] S h n) ∧
  (∀ (d : Nat) (x : Int) (l1 l2 : Option mx_V) (S h : mx_H) (n : Int), mx_ex d 171 4 [some (2, x), l1, l2] [] S h n = mx_ex d 171 5 [some (2, x), l1, l2] [(2, x)] S h n) ∧
  (∀ (d : Nat) (l0 l1 l2 : Option mx_V) (v0 : mx_V) (S h : mx_H) (n : Int), mx_ex d 171 5 [l0, l1, l2] [v0] S h n = mx_ex d 171 6 [l0, l1, l2] [(0, 0), v0] S h n) ∧
  (∀ (d : Nat) (l0 l1 l2 : Option mx_V) (v0 v1 : mx_V) (S h : mx_H) (n : Int), mx_ex d 171 6 [l0, l1, l2] [v0, v1] S h n = mx_ex d 171 7 [l0, l1, l2] [(0, 2), v0, v1] S h n) ∧
  (∀ (d : Nat) (x0 x1 a : Int) (l0 l1 l2 : Option mx_V) (S h : mx_H) (n : Int), mx_ex (d + 1) 171 7 [l0, l1, l2] [(0, x0), (0, x1), (2, a)] S h n = mx_cl (S a (-2) = 13) d 168 [(2, a), (0, x1), (0, x0)] 171 10 [l0, l1, l2] [] S h n) ∧
  (∀ (d : Nat) (a : Int) (l0 l1 l2 : Option mx_V) (S h : mx_H) (n : Int), mx_ex d 171 10 [l0, l1, l2] [(0, a)] S h n = mx_br (a = 0) d 171 13 15 [l0, l1, l2] [] S h n) ∧
  (∀ (d : Nat) (l0 l1 l2 : Option mx_V) (S h : mx_H) (n : Int), mx_ex d 171 13 [l0, l1, l2] [] S h n = mx_ex d 171 14 [l0, l1, l2] [(0, 0)] S h n) ∧
  (∀ (d : Nat) (x : Int) (l0 l1 l2 : Option mx_V) (S h : mx_H) (n : Int), mx_ex d 171 14 [l0, l1, l2] [(0, x)] S h n = mx_re (0 ≤ x ∧ x ≤ 1) (some (0, x)) S h n) ∧
  (∀ (d : Nat) (x : Int) (l1 l2 : Option mx_V) (S h : mx_H) (n : Int), mx_ex d 171 15 [some (2, x), l1, l2] [] S h n = mx_ex d 171 16 [some (2, x), l1, l2] [(2, x)] S h n) ∧
  (∀ (d : Nat) (a : Int) (l0 l1 l2 : Option mx_V) (S h : mx_H) (n : Int), mx_ex d 171 16 [l0, l1, l2] [(2, a)] S h n = mx_gd (13 ≤ S a (-2) ∧ S a (-2) ≤ 13) d 171 19 [l0, l1, l2] [(0, h a 10)] S h n) ∧
  (∀ (d : Nat) (x : Int) (l0 l1 l2 : Option mx_V) (S h : mx_H) (n : Int), mx_ex d 171 19 [l0, l1, l2] [(0, x)] S h n = mx_ex d 171 20 [mx_nl l0, some (0, x), l2] [] S h n) ∧
  (∀ (d : Nat) (x : Int) (l1 l2 : Option mx_V) (S h : mx_H) (n : Int), mx_ex d 171 20 [some (2, x), l1, l2] [] S h n = mx_ex d 171 21 [some (2, x), l1, l2] [(2, x)] S h n) ∧
  (∀ (d : Nat) (l0 l1 l2 : Option mx_V) (v0 : mx_V) (S h : mx_H) (n : Int), mx_ex d 171 21 [l0, l1, l2] [v0] S h n = mx_ex d 171 22 [l0, l1, l2] [(0, 2), v0] S h n) ∧
  (∀ (d : Nat) (l0 l1 l2 : Option mx_V) (v0 v1 : mx_V) (S h : mx_H) (n : Int), mx_ex d 171 22 [l0, l1, l2] [v0, v1] S h n = mx_ex d 171 24 [l0, l1, l2] [(0, 16), v0, v1] S h n) ∧
  (∀ (d : Nat) (x0 x1 a : Int) (l0 l1 l2 : Option mx_V) (S h : mx_H) (n : Int), mx_ex (d + 1) 171 24 [l0, l1, l2] [(0, x0), (0, x1), (2, a)] S h n = mx_cl (S a (-2) = 13) d 168 [(2, a), (0, x1), (0, x0)] 171 27 [l0, l1, l2] [] S h n) ∧
  (∀ (d : Nat) (a : Int) (l0 l1 l2 : Option mx_V) (S h : mx_H) (n : Int), mx_ex d 171 27 [l0, l1, l2] [(0, a)] S h n = mx_br (a = 0) d 171 30 32 [l0, l1, l2] [] S h n) ∧
  (∀ (d : Nat) (l0 l1 l2 : Option mx_V) (S h : mx_H) (n : Int), mx_ex d 171 30 [l0, l1, l2] [] S h n = mx_ex d 171 31 [l0, l1, l2] [(0, 0)] S h n) ∧
  (∀ (d : Nat) (x : Int) (l0 l1 l2 : Option mx_V) (S h : mx_H) (n : Int), mx_ex d 171 31 [l0, l1, l2] [(0, x)] S h n = mx_re (0 ≤ x ∧ x ≤ 1) (some (0, x)) S h n) ∧
  (∀ (d : Nat) (x : Int) (l1 l2 : Option mx_V) (S h : mx_H) (n : Int), mx_ex d 171 32 [some (2, x), l1, l2] [] S h n = mx_ex d 171 33 [some (2, x), l1, l2] [(2, x)] S h n) ∧
  (∀ (d : Nat) (a : Int) (l0 l1 l2 : Option mx_V) (S h : mx_H) (n : Int), mx_ex d 171 33 [l0, l1, l2] [(2, a)] S h n = mx_gd (13 ≤ S a (-2) ∧ S a (-2) ≤ 13) d 171 36 [l0, l1, l2] [(0, h a 10)] S h n) ∧
  (∀ (d : Nat) (x : Int) (l0 l1 l2 : Option mx_V) (S h : mx_H) (n : Int), mx_ex d 171 36 [l0, l1, l2] [(0, x)] S h n = mx_ex d 171 37 [l0, mx_nl l1, some (0, x)] [] S h n) ∧
  (∀ (d : Nat) (x : Int) (l1 l2 : Option mx_V) (S h : mx_H) (n : Int), mx_ex d 171 37 [some (2, x), l1, l2] [] S h n = mx_ex d 171 38 [some (2, x), l1, l2] [(2, x)] S h n) ∧
  (∀ (d : Nat) (x : Int) (l0 l1 : Option mx_V) (v0 : mx_V) (S h : mx_H) (n : Int), mx_ex d 171 38 [l0, l1, some (0, x)] [v0] S h n = mx_ex d 171 39 [l0, l1, some (0, x)] [(0, x), v0] S h n) ∧
  (∀ (d : Nat) (l0 l1 l2 : Option mx_V) (v0 v1 : mx_V) (S h : mx_H) (n : Int), mx_ex d 171 39 [l0, l1, l2] [v0, v1] S h n = mx_ex d 171 41 [l0, l1, l2] [(0, 16), v0, v1] S h n) ∧
  (∀ (d : Nat) (x0 x1 a : Int) (l0 l1 l2 : Option mx_V) (S h : mx_H) (n : Int), mx_ex (d + 1) 171 41 [l0, l1, l2] [(0, x0), (0, x1), (2, a)] S h n = mx_cl (S a (-2) = 13) d 168 [(2, a), (0, x1), (0, x0)] 171 44 [l0, l1, l2] [] S h n) ∧
  (∀ (d : Nat) (a : Int) (l0 l1 l2 : Option mx_V) (S h : mx_H) (n : Int), mx_ex d 171 44 [l0, l1, l2] [(0, a)] S h n = mx_br (a = 0) d 171 47 49 [l0, l1, l2] [] S h n) ∧
  (∀ (d : Nat) (l0 l1 l2 : Option mx_V) (S h : mx_H) (n : Int), mx_ex d 171 47 [l0, l1, l2] [] S h n = mx_ex d 171 48 [l0, l1, l2] [(0, 0)] S h n) ∧
  (∀ (d : Nat) (x : Int) (l0 l1 l2 : Option mx_V) (S h : mx_H) (n : Int), mx_ex d 171 48 [l0, l1, l2] [(0, x)] S h n = mx_re (0 ≤ x ∧ x ≤ 1) (some (0, x)) S h n) ∧
  (∀ (d : Nat) (x : Int) (l1 l2 : Option mx_V) (S h : mx_H) (n : Int), mx_ex d 171 49 [some (2, x), l1, l2] [] S h n = mx_ex d 171 50 [some (2, x), l1, l2] [(2, x)] S h n) ∧
  (∀ (d : Nat) (a : Int) (l0 l1 l2 : Option mx_V) (S h : mx_H) (n : Int), mx_ex d 171 50 [l0, l1, l2] [(2, a)] S h n = mx_gd (13 ≤ S a (-2) ∧ S a (-2) ≤ 13) d 171 53 [l0, l1, l2] [(2, S a 0)] S h n) ∧
  (∀ (d : Nat) (l0 l1 l2 : Option mx_V) (v0 : mx_V) (S h : mx_H) (n : Int), mx_ex d 171 53 [l0, l1, l2] [v0] S h n = mx_ex d 171 54 [l0, l1, l2] [(0, 3), v0] S h n) ∧
  (∀ (d : Nat) (l0 l1 l2 : Option mx_V) (v0 v1 : mx_V) (S h : mx_H) (n : Int), mx_ex d 171 54 [l0, l1, l2] [v0, v1] S h n = mx_ex d 171 55 [l0, l1, l2] [(0, 2), v0, v1] S h n) ∧
  (∀ (d : Nat) (x : Int) (l0 l2 : Option mx_V) (v0 v1 v2 : mx_V) (S h : mx_H) (n : Int), mx_ex d 171 55 [l0, some (0, x), l2] [v0, v1, v2] S h n = mx_ex d 171 56 [l0, some (0, x), l2] [(0, x), v0, v1, v2] S h n) ∧
  (∀ (d : Nat) (b a : Int) (l0 l1 l2 : Option mx_V) (v2 v3 : mx_V) (S h : mx_H) (n : Int), mx_ex d 171 56 [l0, l1, l2] [(0, b), (0, a), v2, v3] S h n = mx_ex d 171 57 [l0, l1, l2] [(0, mx_w (a * b)), v2, v3] S h n) ∧
  (∀ (d : Nat) (b a : Int) (l0 l1 l2 : Option mx_V) (v2 : mx_V) (S h : mx_H) (n : Int), mx_ex d 171 57 [l0, l1, l2] [(0, b), (0, a), v2] S h n = mx_ex d 171 58 [l0, l1, l2] [(0, mx_w (a + b)), v2] S h n) ∧
  (∀ (d : Nat) (x : Int) (l0 l1 : Option mx_V) (v0 v1 : mx_V) (S h : mx_H) (n : Int), mx_ex d 171 58 [l0, l1, some (0, x)] [v0, v1] S h n = mx_ex d 171 59 [l0, l1, some (0, x)] [(0, x), v0, v1] S h n) ∧
  (∀ (d : Nat) (v i a : Int) (l0 l1 l2 : Option mx_V) (S h : mx_H) (n : Int), mx_ex d 171 59 [l0, l1, l2] [(0, v), (0, i), (2, a)] S h n = mx_gd (S a (-2) = 20 ∧ 0 ≤ i ∧ i < S a (-1)) d 171 60 [l0, l1, l2] [] S (mx_u h a i v) n) ∧
  (∀ (d : Nat) (x : Int) (l1 l2 : Option mx_V) (S h : mx_H) (n : Int), mx_ex d 171 60 [some (2, x), l1, l2] [] S h n = mx_ex d 171 61 [some (2, x), l1, l2] [(2, x)] S h n) ∧
  (∀ (d : Nat) (a : Int) (l0 l1 l2 : Option mx_V) (S h : mx_H) (n : Int), mx_ex d 171 61 [l0, l1, l2] [(2, a)] S h n = mx_gd (13 ≤ S a (-2) ∧ S a (-2) ≤ 13) d 171 64 [l0, l1, l2] [(2, S a 0)] S h n) ∧
  (∀ (d : Nat) (l0 l1 l2 : Option mx_V) (v0 : mx_V) (S h : mx_H) (n : Int), mx_ex d 171 64 [l0, l1, l2] [v0] S h n = mx_ex d 171 65 [l0, l1, l2] [(0, 3), v0] S h n) ∧
  (∀ (d : Nat) (l0 l1 l2 : Option mx_V) (v0 v1 : mx_V) (S h : mx_H) (n : Int), mx_ex d 171 65 [l0, l1, l2] [v0, v1] S h n = mx_ex d 171 66 [l0, l1, l2] [(0, 2), v0, v1] S h n) ∧
  (∀ (d : Nat) (x : Int) (l0 l2 : Option mx_V) (v0 v1 v2 : mx_V) (S h : mx_H) (n : Int), mx_ex d 171 66 [l0, some (0, x), l2] [v0, v1, v2] S h n = mx_ex d 171 67 [l0, some (0, x), l2] [(0, x), v0, v1, v2] S h n) ∧
  (∀ (d : Nat) (b a : Int) (l0 l1 l2 : Option mx_V) (v2 v3 : mx_V) (S h : mx_H) (n : Int), mx_ex d 171 67 [l0, l1, l2] [(0, b), (0, a), v2, v3] S h n = mx_ex d 171 68 [l0, l1, l2] [(0, mx_w (a * b)), v2, v3] S h n) ∧
  (∀ (d : Nat) (b a : Int) (l0 l1 l2 : Option mx_V) (v2 : mx_V) (S h : mx_H) (n : Int), mx_ex d 171 68 [l0, l1, l2] [(0, b), (0, a), v2] S h n = mx_ex d 171 69 [l0, l1, l2] [(0, mx_w (a + b)), v2] S h n) ∧
  (∀ (d : Nat) (l0 l1 l2 : Option mx_V) (v0 v1 : mx_V) (S h : mx_H) (n : Int), mx_ex d 171 69 [l0, l1, l2] [v0, v1] S h n = mx_ex d 171 70 [l0, l1, l2] [(0, 1), v0, v1] S h n) ∧
  (∀ (d : Nat) (b a : Int) (l0 l1 l2 : Option mx_V) (v2 : mx_V) (S h : mx_H) (n : Int), mx_ex d 171 70 [l0, l1, l2] [(0, b), (0, a), v2] S h n = mx_ex d 171 71 [l0, l1, l2] [(0, mx_w (a + b)), v2] S h n) ∧
  (∀ (d : Nat) (x : Int) (l1 l2 : Option mx_V) (v0 v1 : mx_V) (S h : mx_H) (n : Int), mx_ex d 171 71 [some (2, x), l1, l2] [v0, v1] S h n = mx_ex d 171 72 [some (2, x), l1, l2] [(2, x), v0, v1] S h n) ∧
  (∀ (d : Nat) (a : Int) (l0 l1 l2 : Option mx_V) (v1 v2 : mx_V) (S h : mx_H) (n : Int), mx_ex d 171 72 [l0, l1, l2] [(2, a), v1, v2] S h n = mx_gd (13 ≤ S a (-2) ∧ S a (-2) ≤ 13) d 171 75 [l0, l1, l2] [(0, h a 10), v1, v2] S h n) ∧
  (∀ (d : Nat) (v i a : Int) (l0 l1 l2 : Option mx_V) (S h : mx_H) (n : Int), mx_ex d 171 75 [l0, l1, l2] [(0, v), (0, i), (2, a)] S h n = mx_gd (S a (-2) = 20 ∧ 0 ≤ i ∧ i < S a (-1)) d 171 76 [l0, l1, l2] [] S (mx_u h a i v) n) ∧
  (∀ (d : Nat) (x : Int) (l1 l2 : Option mx_V) (S h : mx_H) (n : Int), mx_ex d 171 76 [some (2, x), l1, l2] [] S h n = mx_ex d 171 77 [some (2, x), l1, l2] [(2, x)] S h n) ∧
  (∀ (d : Nat) (l0 l1 l2 : Option mx_V) (v0 : mx_V) (S h : mx_H) (n : Int), mx_ex d 171 77 [l0, l1, l2] [v0] S h n = mx_ex d 171 79 [l0, l1, l2] [(0, 59), v0] S h n) ∧
  (∀ (d : Nat) (x0 a : Int) (l0 l1 l2 : Option mx_V) (S h : mx_H) (n : Int), mx_ex (d + 1) 171 79 [l0, l1, l2] [(0, x0), (2, a)] S h n = mx_cl (S a (-2) = 13) d 167 [(2, a), (0, x0)] 171 82 [l0, l1, l2] [] S h n) ∧
  (∀ (d : Nat) (x : Int) (l0 l1 l2 : Option mx_V) (S h : mx_H) (n : Int), mx_ex d 171 82 [l0, l1, l2] [(0, x)] S h n = mx_re (0 ≤ x ∧ x ≤ 1) (some (0, x)) S h n) :=
  ⟨by intros; exact rfl,
   by intros; exact eq_ld rfl rfl,
   by intros; exact eq_cv rfl (Nat.le_of_ble_eq_true rfl) rfl rfl rfl (Nat.le_of_ble_eq_true rfl),
   by intros; exact eq_ld rfl rfl,
   by intros; exact eq_push rfl,
   by intros; exact eq_push rfl,
   by intros; exact eq_cv rfl (Nat.le_of_ble_eq_true rfl) rfl rfl rfl (Nat.le_of_ble_eq_true rfl),
   by intros; exact eq_if1 rfl,
   by intros; exact eq_push rfl,
   by intros; exact eq_rr rfl,
   by intros; exact eq_ld rfl rfl,
   by intros; exact eq_gi rfl,
   by intros; exact eq_st rfl (by decide) (Nat.le_of_ble_eq_true rfl) rfl,
   by intros; exact eq_ld rfl rfl,
   by intros; exact eq_push rfl,
   by intros; exact eq_push rfl,
   by intros; exact eq_cv rfl (Nat.le_of_ble_eq_true rfl) rfl rfl rfl (Nat.le_of_ble_eq_true rfl),
   by intros; exact eq_if1 rfl,
   by intros; exact eq_push rfl,
   by intros; exact eq_rr rfl,
   by intros; exact eq_ld rfl rfl,
   by intros; exact eq_gi rfl,
   by intros; exact eq_st rfl (by decide) (Nat.le_of_ble_eq_true rfl) rfl,
   by intros; exact eq_ld rfl rfl,
   by intros; exact eq_ld rfl rfl,
   by intros; exact eq_push rfl,
   by intros; exact eq_cv rfl (Nat.le_of_ble_eq_true rfl) rfl rfl rfl (Nat.le_of_ble_eq_true rfl),
   by intros; exact eq_if1 rfl,
   by intros; exact eq_push rfl,
   by intros; exact eq_rr rfl,
   by intros; exact eq_ld rfl rfl,
   by intros; exact eq_gr rfl,
   by intros; exact eq_push rfl,
   by intros; exact eq_push rfl,
   by intros; exact eq_ld rfl rfl,
   by intros; exact eq_i2 (o := mx_mul) rfl,
   by intros; exact eq_i2 (o := mx_add) rfl,
   by intros; exact eq_ld rfl rfl,
   by intros; exact eq_iast rfl,
   by intros; exact eq_ld rfl rfl,
   by intros; exact eq_gr rfl,
   by intros; exact eq_push rfl,
   by intros; exact eq_push rfl,
   by intros; exact eq_ld rfl rfl,
   by intros; exact eq_i2 (o := mx_mul) rfl,
   by intros; exact eq_i2 (o := mx_add) rfl,
   by intros; exact eq_push rfl,
   by intros; exact eq_i2 (o := mx_add) rfl,
   by intros; exact eq_ld rfl rfl,
   by intros; exact eq_gi rfl,
   by intros; exact eq_iast rfl,
   by intros; exact eq_ld rfl rfl,
   by intros; exact eq_push rfl,
   by intros; exact eq_cv rfl (Nat.le_of_ble_eq_true rfl) rfl rfl rfl (Nat.le_of_ble_eq_true rfl),
   by intros; exact eq_rr rfl⟩
theorem rw_X12_takesLine :
  (∀ (d : Nat) (a0 a1 : Int) (S h : mx_H) (n : Int), mx_M d 172 [(2, a0), (0, a1)] S h n = mx_ex d 172 0 [some (2, a0), some (0, a1), none, none] [] S h n) ∧
  (∀ (d : Nat) (x : Int) (l1 l2 l3 : Option mx_V) (S h : mx_H) (n : Int), mx_ex d 172 0 [some (2, x), l1, l2, l3] [] S h n = mx_ex d 172 1 [some (2, x), l1, l2, l3] [(2, x)] S h n) ∧
  (∀ (d : Nat) (a : Int) (l0 l1 l2 l3 : Option mx_V) (S h : mx_H) (n : Int), mx_ex d 172 1 [l0, l1, l2, l3] [(2, a)] S h n = mx_gd (13 ≤ S a (-2) ∧ S a (-2) ≤ 13) d 172 4 [l0, l1, l2, l3] [(2, S a 0)] S h n) ∧
  (∀ (d : Nat) (l0 l1 l2 l3 : Option mx_V) (v0 : mx_V) (S h : mx_H) (n : Int), mx_ex d 172 4 [l0, l1, l2, l3] [v0] S h n = mx_ex d 172 5 [l0, l1, l2, l3] [(0, 1), v0] S h n) ∧
  (∀ (d : Nat) (i a : Int) (l0 l1 l2 l3 : Option mx_V) (S h : mx_H) (n : Int), mx_ex d 172 5 [l0, l1, l2, l3] [(0, i), (2, a)] S h n = mx_gd ((S a (-2) = 20 ∨ S a (-2) = 24) ∧ 0 ≤ i ∧ i < S a (-1)) d 172 6 [l0, l1, l2, l3] [(0, h a i)] S h n) ∧
  (∀ (d : Nat) (l0 l1 l2 l3 : Option mx_V) (v0 : mx_V) (S h : mx_H) (n : Int), mx_ex d 172 6 [l0, l1, l2, l3] [v0] S h n = mx_ex d 172 8 [l0, l1, l2, l3] [(0, 6), v0] S h n) ∧
  (∀ (d : Nat) (b a : Int) (l0 l1 l2 l3 : Option mx_V) (S h : mx_H) (n : Int), mx_ex d 172 8 [l0, l1, l2, l3] [(0, b), (0, a)] S h n = mx_br (a = b) d 172 11 13 [l0, l1, l2, l3] [] S h n) ∧
  (∀ (d : Nat) (l0 l1 l2 l3 : Option mx_V) (S h : mx_H) (n : Int), mx_ex d 172 11 [l0, l1, l2, l3] [] S h n = mx_ex d 172 12 [l0, l1, l2, l3] [(0, 0)] S h n) ∧
  (∀ (d : Nat) (x : Int) (l0 l1 l2 l3 : Option mx_V) (S h : mx_H) (n : Int), mx_ex d 172 12 [l0, l1, l2, l3] [(0, x)] S h n = mx_re (0 ≤ x ∧ x ≤ 1) (some (0, x)) S h n) ∧
  (∀ (d : Nat) (x : Int) (l1 l2 l3 : Option mx_V) (S h : mx_H) (n : Int), mx_ex d 172 13 [some (2, x), l1, l2, l3] [] S h n = mx_ex d 172 14 [some (2, x), l1, l2, l3] [(2, x)] S h n) ∧
  (∀ (d : Nat) (a : Int) (l0 l1 l2 l3 : Option mx_V) (S h : mx_H) (n : Int), mx_ex (d + 1) 172 14 [l0, l1, l2, l3] [(2, a)] S h n = mx_cl (S a (-2) = 13) d 165 [(2, a)] 172 17 [l0, l1, l2, l3] [] S h n) ∧
  (∀ (d : Nat) (x : Int) (l1 l2 l3 : Option mx_V) (S h : mx_H) (n : Int), mx_ex d 172 17 [some (2, x), l1, l2, l3] [] S h n = mx_ex d 172 18 [some (2, x), l1, l2, l3] [(2, x)] S h n) ∧
  (∀ (d : Nat) (a : Int) (l0 l1 l2 l3 : Option mx_V) (S h : mx_H) (n : Int), mx_ex d 172 18 [l0, l1, l2, l3] [(2, a)] S h n = mx_gd (13 ≤ S a (-2) ∧ S a (-2) ≤ 13) d 172 21 [l0, l1, l2, l3] [(2, S a 0)] S h n) ∧
  (∀ (d : Nat) (l0 l1 l2 l3 : Option mx_V) (v0 : mx_V) (S h : mx_H) (n : Int), mx_ex d 172 21 [l0, l1, l2, l3] [v0] S h n = mx_ex d 172 22 [l0, l1, l2, l3] [(0, 0), v0] S h n) ∧
  (∀ (d : Nat) (i a : Int) (l0 l1 l2 l3 : Option mx_V) (S h : mx_H) (n : Int), mx_ex d 172 22 [l0, l1, l2, l3] [(0, i), (2, a)] S h n = mx_gd ((S a (-2) = 20 ∨ S a (-2) = 24) ∧ 0 ≤ i ∧ i < S a (-1)) d 172 23 [l0, l1, l2, l3] [(0, h a i)] S h n) ∧
  (∀ (d : Nat) (l0 l1 l2 l3 : Option mx_V) (v0 : mx_V) (S h : mx_H) (n : Int), mx_ex d 172 23 [l0, l1, l2, l3] [v0] S h n = mx_ex d 172 24 [l0, l1, l2, l3] [(0, 1), v0] S h n) ∧
  (∀ (d : Nat) (b a : Int) (l0 l1 l2 l3 : Option mx_V) (S h : mx_H) (n : Int), mx_ex d 172 24 [l0, l1, l2, l3] [(0, b), (0, a)] S h n = mx_ex d 172 25 [l0, l1, l2, l3] [(0, mx_w (a - b))] S h n) ∧
  (∀ (d : Nat) (x : Int) (l0 l1 l2 l3 : Option mx_V) (S h : mx_H) (n : Int), mx_ex d 172 25 [l0, l1, l2, l3] [(0, x)] S h n = mx_ex d 172 26 [l0, mx_nl l1, some (0, x), l3] [] S h n) ∧
  (∀ (d : Nat) (l0 l1 l2 l3 : Option mx_V) (S h : mx_H) (n : Int), mx_ex d 172 26 [l0, l1, l2, l3] [] S h n = mx_ex d 172 28 [l0, l1, l2, l3] [(0, 69)] S h n) ∧
  (∀ (d : Nat) (l0 l1 l2 l3 : Option mx_V) (v0 : mx_V) (S h : mx_H) (n : Int), mx_ex d 172 28 [l0, l1, l2, l3] [v0] S h n = mx_ex d 172 29 [l0, l1, l2, l3] [(0, 4), v0] S h n) ∧
  (∀ (d : Nat) (x : Int) (l1 l2 l3 : Option mx_V) (v0 v1 : mx_V) (S h : mx_H) (n : Int), mx_ex d 172 29 [some (2, x), l1, l2, l3] [v0, v1] S h n = mx_ex d 172 30 [some (2, x), l1, l2, l3] [(2, x), v0, v1] S h n) ∧
  (∀ (d : Nat) (a : Int) (l0 l1 l2 l3 : Option mx_V) (v1 v2 : mx_V) (S h : mx_H) (n : Int), mx_ex d 172 30 [l0, l1, l2, l3] [(2, a), v1, v2] S h n = mx_gd (13 ≤ S a (-2) ∧ S a (-2) ≤ 13) d 172 33 [l0, l1, l2, l3] [(2, S a 0), v1, v2] S h n) ∧
  (∀ (d : Nat) (l0 l1 l2 l3 : Option mx_V) (v0 v1 v2 : mx_V) (S h : mx_H) (n : Int), mx_ex d 172 33 [l0, l1, l2, l3] [v0, v1, v2] S h n = mx_ex d 172 34 [l0, l1, l2, l3] [(0, 1), v0, v1, v2] S h n) ∧
  (∀ (d : Nat) (i a : Int) (l0 l1 l2 l3 : Option mx_V) (v2 v3 : mx_V) (S h : mx_H) (n : Int), mx_ex d 172 34 [l0, l1, l2, l3] [(0, i), (2, a), v2, v3] S h n = mx_gd ((S a (-2) = 20 ∨ S a (-2) = 24) ∧ 0 ≤ i ∧ i < S a (-1)) d 172 35 [l0, l1, l2, l3] [(0, h a i), v2, v3] S h n) ∧
  (∀ (d : Nat) (b a : Int) (l0 l1 l2 l3 : Option mx_V) (v2 : mx_V) (S h : mx_H) (n : Int), mx_ex d 172 35 [l0, l1, l2, l3] [(0, b), (0, a), v2] S h n = mx_ex d 172 36 [l0, l1, l2, l3] [(0, mx_w (a * b)), v2] S h n) ∧
  (∀ (d : Nat) (b a : Int) (l0 l1 l2 l3 : Option mx_V) (S h : mx_H) (n : Int), mx_ex d 172 36 [l0, l1, l2, l3] [(0, b), (0, a)] S h n = mx_ex d 172 37 [l0, l1, l2, l3] [(0, mx_w (a + b))] S h n) ∧
  (∀ (d : Nat) (x : Int) (l0 l1 l2 l3 : Option mx_V) (S h : mx_H) (n : Int), mx_ex d 172 37 [l0, l1, l2, l3] [(0, x)] S h n = mx_ex d 172 38 [l0, l1, mx_nl l2, some (0, x)] [] S h n) ∧
  (∀ (d : Nat) (x : Int) (l1 l2 l3 : Option mx_V) (S h : mx_H) (n : Int), mx_ex d 172 38 [some (2, x), l1, l2, l3] [] S h n = mx_ex d 172 39 [some (2, x), l1, l2, l3] [(2, x)] S h n) ∧
  (∀ (d : Nat) (l0 l1 l2 l3 : Option mx_V) (v0 : mx_V) (S h : mx_H) (n : Int), mx_ex d 172 39 [l0, l1, l2, l3] [v0] S h n = mx_ex d 172 40 [l0, l1, l2, l3] [(0, 0), v0] S h n) ∧
  (∀ (d : Nat) (x : Int) (l0 l1 l3 : Option mx_V) (v0 v1 : mx_V) (S h : mx_H) (n : Int), mx_ex d 172 40 [l0, l1, some (0, x), l3] [v0, v1] S h n = mx_ex d 172 41 [l0, l1, some (0, x), l3] [(0, x), v0, v1] S h n) ∧
  (∀ (d : Nat) (x0 x1 a : Int) (l0 l1 l2 l3 : Option mx_V) (S h : mx_H) (n : Int), mx_ex (d + 1) 172 41 [l0, l1, l2, l3] [(0, x0), (0, x1), (2, a)] S h n = mx_cl (S a (-2) = 13) d 168 [(2, a), (0, x1), (0, x0)] 172 44 [l0, l1, l2, l3] [] S h n) ∧
  (∀ (d : Nat) (a : Int) (l0 l1 l2 l3 : Option mx_V) (S h : mx_H) (n : Int), mx_ex d 172 44 [l0, l1, l2, l3] [(0, a)] S h n = mx_br (a = 0) d 172 47 49 [l0, l1, l2, l3] [] S h n) ∧
  (∀ (d : Nat) (l0 l1 l2 l3 : Option mx_V) (S h : mx_H) (n : Int), mx_ex d 172 47 [l0, l1, l2, l3] [] S h n = mx_ex d 172 48 [l0, l1, l2, l3] [(0, 0)] S h n) ∧
  (∀ (d : Nat) (x : Int) (l0 l1 l2 l3 : Option mx_V) (S h : mx_H) (n : Int), mx_ex d 172 48 [l0, l1, l2, l3] [(0, x)] S h n = mx_re (0 ≤ x ∧ x ≤ 1) (some (0, x)) S h n) ∧
  (∀ (d : Nat) (x : Int) (l1 l2 l3 : Option mx_V) (S h : mx_H) (n : Int), mx_ex d 172 49 [some (2, x), l1, l2, l3] [] S h n = mx_ex d 172 50 [some (2, x), l1, l2, l3] [(2, x)] S h n) ∧
  (∀ (d : Nat) (a : Int) (l0 l1 l2 l3 : Option mx_V) (S h : mx_H) (n : Int), mx_ex d 172 50 [l0, l1, l2, l3] [(2, a)] S h n = mx_gd (13 ≤ S a (-2) ∧ S a (-2) ≤ 13) d 172 53 [l0, l1, l2, l3] [(2, S a 0)] S h n) ∧
  (∀ (d : Nat) (x : Int) (l0 l1 l2 : Option mx_V) (v0 : mx_V) (S h : mx_H) (n : Int), mx_ex d 172 53 [l0, l1, l2, some (0, x)] [v0] S h n = mx_ex d 172 54 [l0, l1, l2, some (0, x)] [(0, x), v0] S h n) ∧
  (∀ (d : Nat) (x : Int) (l0 l2 l3 : Option mx_V) (v0 v1 : mx_V) (S h : mx_H) (n : Int), mx_ex d 172 54 [l0, some (0, x), l2, l3] [v0, v1] S h n = mx_ex d 172 55 [l0, some (0, x), l2, l3] [(0, x), v0, v1] S h n) ∧
  (∀ (d : Nat) (v i a : Int) (l0 l1 l2 l3 : Option mx_V) (S h : mx_H) (n : Int), mx_ex d 172 55 [l0, l1, l2, l3] [(0, v), (0, i), (2, a)] S h n = mx_gd (S a (-2) = 20 ∧ 0 ≤ i ∧ i < S a (-1)) d 172 56 [l0, l1, l2, l3] [] S (mx_u h a i v) n) ∧
  (∀ (d : Nat) (x : Int) (l1 l2 l3 : Option mx_V) (S h : mx_H) (n : Int), mx_ex d 172 56 [some (2, x), l1, l2, l3] [] S h n = mx_ex d 172 57 [some (2, x), l1, l2, l3] [(2, x)] S h n) ∧
  (∀ (d : Nat) (a : Int) (l0 l1 l2 l3 : Option mx_V) (S h : mx_H) (n : Int), mx_ex d 172 57 [l0, l1, l2, l3] [(2, a)] S h n = mx_gd (13 ≤ S a (-2) ∧ S a (-2) ≤ 13) d 172 60 [l0, l1, l2, l3] [(2, S a 0)] S h n) ∧
  (∀ (d : Nat) (x : Int) (l0 l1 l2 : Option mx_V) (v0 : mx_V) (S h : mx_H) (n : Int), mx_ex d 172 60 [l0, l1, l2, some (0, x)] [v0] S h n = mx_ex d 172 61 [l0, l1, l2, some (0, x)] [(0, x), v0] S h n) ∧
  (∀ (d : Nat) (l0 l1 l2 l3 : Option mx_V) (v0 v1 : mx_V) (S h : mx_H) (n : Int), mx_ex d 172 61 [l0, l1, l2, l3] [v0, v1] S h n = mx_ex d 172 62 [l0, l1, l2, l3] [(0, 1), v0, v1] S h n) ∧
  (∀ (d : Nat) (b a : Int) (l0 l1 l2 l3 : Option mx_V) (v2 : mx_V) (S h : mx_H) (n : Int), mx_ex d 172 62 [l0, l1, l2, l3] [(0, b), (0, a), v2] S h n = mx_ex d 172 63 [l0, l1, l2, l3] [(0, mx_w (a + b)), v2] S h n) ∧
  (∀ (d : Nat) (x : Int) (l1 l2 l3 : Option mx_V) (v0 v1 : mx_V) (S h : mx_H) (n : Int), mx_ex d 172 63 [some (2, x), l1, l2, l3] [v0, v1] S h n = mx_ex d 172 64 [some (2, x), l1, l2, l3] [(2, x), v0, v1] S h n) ∧
  (∀ (d : Nat) (a : Int) (l0 l1 l2 l3 : Option mx_V) (v1 v2 : mx_V) (S h : mx_H) (n : Int), mx_ex d 172 64 [l0, l1, l2, l3] [(2, a), v1, v2] S h n = mx_gd (13 ≤ S a (-2) ∧ S a (-2) ≤ 13) d 172 67 [l0, l1, l2, l3] [(0, h a 10), v1, v2] S h n) ∧
  (∀ (d : Nat) (v i a : Int) (l0 l1 l2 l3 : Option mx_V) (S h : mx_H) (n : Int), mx_ex d 172 67 [l0, l1, l2, l3] [(0, v), (0, i), (2, a)] S h n = mx_gd (S a (-2) = 20 ∧ 0 ≤ i ∧ i < S a (-1)) d 172 68 [l0, l1, l2, l3] [] S (mx_u h a i v) n) ∧
  (∀ (d : Nat) (x : Int) (l1 l2 l3 : Option mx_V) (S h : mx_H) (n : Int), mx_ex d 172 68 [some (2, x), l1, l2, l3] [] S h n = mx_ex d 172 69 [some (2, x), l1, l2, l3] [(2, x)] S h n) ∧
  (∀ (d : Nat) (a : Int) (l0 l1 l2 l3 : Option mx_V) (S h : mx_H) (n : Int), mx_ex d 172 69 [l0, l1, l2, l3] [(2, a)] S h n = mx_gd (13 ≤ S a (-2) ∧ S a (-2) ≤ 13) d 172 72 [l0, l1, l2, l3] [(2, S a 0)] S h n) ∧
  (∀ (d : Nat) (x : Int) (l0 l1 l2 : Option mx_V) (v0 : mx_V) (S h : mx_H) (n : Int), mx_ex d 172 72 [l0, l1, l2, some (0, x)] [v0] S h n = mx_ex d 172 73 [l0, l1, l2, some (0, x)] [(0, x), v0] S h n) ∧
  (∀ (d : Nat) (l0 l1 l2 l3 : Option mx_V) (v0 v1 : mx_V) (S h : mx_H) (n : Int), mx_ex d 172 73 [l0, l1, l2, l3] [v0, v1] S h n = mx_ex d 172 74 [l0, l1, l2, l3] [(0, 2), v0, v1] S h n) ∧
  (∀ (d : Nat) (b a : Int) (l0 l1 l2 l3 : Option mx_V) (v2 : mx_V) (S h : mx_H) (n : Int), mx_ex d 172 74 [l0, l1, l2, l3] [(0, b), (0, a), v2] S h n = mx_ex d 172 75 [l0, l1, l2, l3] [(0, mx_w (a + b)), v2] S h n) ∧
  (∀ (d : Nat) (l0 l1 l2 l3 : Option mx_V) (v0 v1 : mx_V) (S h : mx_H) (n : Int), mx_ex d 172 75 [l0, l1, l2, l3] [v0, v1] S h n = mx_ex d 172 76 [l0, l1, l2, l3] [(0, 0), v0, v1] S h n) ∧
  (∀ (d : Nat) (v i a : Int) (l0 l1 l2 l3 : Option mx_V) (S h : mx_H) (n : Int), mx_ex d 172 76 [l0, l1, l2, l3] [(0, v), (0, i), (2, a)] S h n = mx_gd (S a (-2) = 20 ∧ 0 ≤ i ∧ i < S a (-1)) d 172 77 [l0, l1, l2, l3] [] S (mx_u h a i v) n) ∧
  (∀ (d : Nat) (x : Int) (l1 l2 l3 : Option mx_V) (S h : mx_H) (n : Int), mx_ex d 172 77 [some (2, x), l1, l2, l3] [] S h n = mx_ex d 172 78 [some (2, x), l1, l2, l3] [(2, x)] S h n) ∧
  (∀ (d : Nat) (a : Int) (l0 l1 l2 l3 : Option mx_V) (S h : mx_H) (n : Int), mx_ex d 172 78 [l0, l1, l2, l3] [(2, a)] S h n = mx_gd (13 ≤ S a (-2) ∧ S a (-2) ≤ 13) d 172 81 [l0, l1, l2, l3] [(2, S a 0)] S h n) ∧
  (∀ (d : Nat) (x : Int) (l0 l1 l2 : Option mx_V) (v0 : mx_V) (S h : mx_H) (n : Int), mx_ex d 172 81 [l0, l1, l2, some (0, x)] [v0] S h n = mx_ex d 172 82 [l0, l1, l2, some (0, x)] [(0, x), v0] S h n) ∧
  (∀ (d : Nat) (l0 l1 l2 l3 : Option mx_V) (v0 v1 : mx_V) (S h : mx_H) (n : Int), mx_ex d 172 82 [l0, l1, l2, l3] [v0, v1] S h n = mx_ex d 172 83 [l0, l1, l2, l3] [(0, 3), v0, v1] S h n) ∧
  (∀ (d : Nat) (b a : Int) (l0 l1 l2 l3 : Option mx_V) (v2 : mx_V) (S h : mx_H) (n : Int), mx_ex d 172 83 [l0, l1, l2, l3] [(0, b), (0, a), v2] S h n = mx_ex d 172 84 [l0, l1, l2, l3] [(0, mx_w (a + b)), v2] S h n) ∧
  (∀ (d : Nat) (l0 l1 l2 l3 : Option mx_V) (v0 v1 : mx_V) (S h : mx_H) (n : Int), mx_ex d 172 84 [l0, l1, l2, l3] [v0, v1] S h n = mx_ex d 172 85 [l0, l1, l2, l3] [(0, 0), v0, v1] S h n) ∧
  (∀ (d : Nat) (v i a : Int) (l0 l1 l2 l3 : Option mx_V) (S h : mx_H) (n : Int), mx_ex d 172 85 [l0, l1, l2, l3] [(0, v), (0, i), (2, a)] S h n = mx_gd (S a (-2) = 20 ∧ 0 ≤ i ∧ i < S a (-1)) d 172 86 [l0, l1, l2, l3] [] S (mx_u h a i v) n) ∧
  (∀ (d : Nat) (x : Int) (l0 l2 l3 : Option mx_V) (S h : mx_H) (n : Int), mx_ex d 172 86 [l0, some (0, x), l2, l3] [] S h n = mx_ex d 172 87 [l0, some (0, x), l2, l3] [(0, x)] S h n) ∧
  (∀ (d : Nat) (l0 l1 l2 l3 : Option mx_V) (v0 : mx_V) (S h : mx_H) (n : Int), mx_ex d 172 87 [l0, l1, l2, l3] [v0] S h n = mx_ex d 172 88 [l0, l1, l2, l3] [(0, 3), v0] S h n) ∧
  (∀ (d : Nat) (b a : Int) (l0 l1 l2 l3 : Option mx_V) (S h : mx_H) (n : Int), mx_ex d 172 88 [l0, l1, l2, l3] [(0, b), (0, a)] S h n = mx_br (a = b) d 172 114 91 [l0, l1, l2, l3] [] S h n) ∧
  (∀ (d : Nat) (x : Int) (l1 l2 l3 : Option mx_V) (S h : mx_H) (n : Int), mx_ex d 172 91 [some (2, x), l1, l2, l3] [] S h n = mx_ex d 172 92 [some (2, x), l1, l2, l3] [(2, x)] S h n) ∧
  (∀ (d : Nat) (l0 l1 l2 l3 : Option mx_V) (v0 : mx_V) (S h : mx_H) (n : Int), mx_ex d 172 92 [l0, l1, l2, l3] [v0] S h n = mx_ex d 172 93 [l0, l1, l2, l3] [(0, 0), v0] S h n) ∧
  (∀ (d : Nat) (x : Int) (l0 l1 l3 : Option mx_V) (v0 v1 : mx_V) (S h : mx_H) (n : Int), mx_ex d 172 93 [l0, l1, some (0, x), l3] [v0, v1] S h n = mx_ex d 172 94 [l0, l1, some (0, x), l3] [(0, x), v0, v1] S h n) ∧
  (∀ (d : Nat) (x0 x1 a : Int) (l0 l1 l2 l3 : Option mx_V) (S h : mx_H) (n : Int), mx_ex (d + 1) 172 94 [l0, l1, l2, l3] [(0, x0), (0, x1), (2, a)] S h n = mx_cl (S a (-2) = 13) d 168 [(2, a), (0, x1), (0, x0)] 172 97 [l0, l1, l2, l3] [] S h n) ∧
  (∀ (d : Nat) (a : Int) (l0 l1 l2 l3 : Option mx_V) (S h : mx_H) (n : Int), mx_ex d 172 97 [l0, l1, l2, l3] [(0, a)] S h n = mx_br (a = 0) d 172 100 102 [l0, l1, l2, l3] [] S h n) ∧
  (∀ (d : Nat) (l0 l1 l2 l3 : Option mx_V) (S h : mx_H) (n : Int), mx_ex d 172 100 [l0, l1, l2, l3] [] S h n = mx_ex d 172 101 [l0, l1, l2, l3] [(0, 0)] S h n) :=
  ⟨by intros; exact rfl,
   by intros; exact eq_ld rfl rfl,
   by intros; exact eq_gr rfl,
   by intros; exact eq_push rfl,
   by intros; exact eq_iald rfl,
   by intros; exact eq_push rfl,
   by intros; exact eq_ic1 rfl,
   by intros; exact eq_push rfl,
   by intros; exact eq_rr rfl,
   by intros; exact eq_ld rfl rfl,
   by intros; exact eq_cv rfl (Nat.le_of_ble_eq_true rfl) rfl rfl rfl (Nat.le_of_ble_eq_true rfl),
   by intros; exact eq_ld rfl rfl,
   by intros; exact eq_gr rfl,
   by intros; exact eq_push rfl,
   by intros; exact eq_iald rfl,
   by intros; exact eq_push rfl,
   by intros; exact eq_i2 (o := mx_sub) rfl,
   by intros; exact eq_st rfl (by decide) (Nat.le_of_ble_eq_true rfl) rfl,
   by intros; exact eq_push rfl,
   by intros; exact eq_push rfl,
   by intros; exact eq_ld rfl rfl,
   by intros; exact eq_gr rfl,
   by intros; exact eq_push rfl,
   by intros; exact eq_iald rfl,
   by intros; exact eq_i2 (o := mx_mul) rfl,
   by intros; exact eq_i2 (o := mx_add) rfl,
   by intros; exact eq_st rfl (by decide) (Nat.le_of_ble_eq_true rfl) rfl,
   by intros; exact eq_ld rfl rfl,
   by intros; exact eq_push rfl,
   by intros; exact eq_ld rfl rfl,
   by intros; exact eq_cv rfl (Nat.le_of_ble_eq_true rfl) rfl rfl rfl (Nat.le_of_ble_eq_true rfl),
   by intros; exact eq_if1 rfl,
   by intros; exact eq_push rfl,
   by intros; exact eq_rr rfl,
   by intros; exact eq_ld rfl rfl,
   by intros; exact eq_gr rfl,
   by intros; exact eq_ld rfl rfl,
   by intros; exact eq_ld rfl rfl,
   by intros; exact eq_iast rfl,
   by intros; exact eq_ld rfl rfl,
   by intros; exact eq_gr rfl,
   by intros; exact eq_ld rfl rfl,
   by intros; exact eq_push rfl,
   by intros; exact eq_i2 (o := mx_add) rfl,
   by intros; exact eq_ld rfl rfl,
   by intros; exact eq_gi rfl,
   by intros; exact eq_iast rfl,
   by intros; exact eq_ld rfl rfl,
   by intros; exact eq_gr rfl,
   by intros; exact eq_ld rfl rfl,
   by intros; exact eq_push rfl,
   by intros; exact eq_i2 (o := mx_add) rfl,
   by intros; exact eq_push rfl,
   by intros; exact eq_iast rfl,
   by intros; exact eq_ld rfl rfl,
   by intros; exact eq_gr rfl,
   by intros; exact eq_ld rfl rfl,
   by intros; exact eq_push rfl,
   by intros; exact eq_i2 (o := mx_add) rfl,
   by intros; exact eq_push rfl,
   by intros; exact eq_iast rfl,
   by intros; exact eq_ld rfl rfl,
   by intros; exact eq_push rfl,
   by intros; exact eq_ic0 rfl,
   by intros; exact eq_ld rfl rfl,
   by intros; exact eq_push rfl,
   by intros; exact eq_ld rfl rfl,
   by intros; exact eq_cv rfl (Nat.le_of_ble_eq_true rfl) rfl rfl rfl (Nat.le_of_ble_eq_true rfl),
   by intros; exact eq_if1 rfl,
   by intros; exact eq_push rfl⟩
theorem rw_X12_takesLine_1 :
  (∀ (d : Nat) (x : Int) (l0 l1 l2 l3 : Option mx_V) (S h : mx_H) (n : Int), mx_ex d 172 101 [l0, l1, l2, l3] [(0, x)] S h n = mx_re (0 ≤ x ∧ x ≤ 1) (some (0, x)) S h n) ∧
  (∀ (d : Nat) (x : Int) (l1 l2 l3 : Option mx_V) (S h : mx_H) (n : Int), mx_ex d 172 102 [some (2, x), l1, l2, l3] [] S h n = mx_ex d 172 103 [some (2, x), l1, l2, l3] [(2, x)] S h n) ∧
  (∀ (d : Nat) (a : Int) (l0 l1 l2 l3 : Option mx_V) (S h : mx_H) (n : Int), mx_ex d 172 103 [l0, l1, l2, l3] [(2, a)] S h n = mx_gd (13 ≤ S a (-2) ∧ S a (-2) ≤ 13) d 172 106 [l0, l1, l2, l3] [(2, S a 0)] S h n) ∧
  (∀ (d : Nat) (x : Int) (l0 l1 l2 : Option mx_V) (v0 : mx_V) (S h : mx_H) (n : Int), mx_ex d 172 106 [l0, l1, l2, some (0, x)] [v0] S h n = mx_ex d 172 107 [l0, l1, l2, some (0, x)] [(0, x), v0] S h n) ∧
  (∀ (d : Nat) (l0 l1 l2 l3 : Option mx_V) (v0 v1 : mx_V) (S h : mx_H) (n : Int), mx_ex d 172 107 [l0, l1, l2, l3] [v0, v1] S h n = mx_ex d 172 108 [l0, l1, l2, l3] [(0, 2), v0, v1] S h n) ∧
  (∀ (d : Nat) (b a : Int) (l0 l1 l2 l3 : Option mx_V) (v2 : mx_V) (S h : mx_H) (n : Int), mx_ex d 172 108 [l0, l1, l2, l3] [(0, b), (0, a), v2] S h n = mx_ex d 172 109 [l0, l1, l2, l3] [(0, mx_w (a + b)), v2] S h n) ∧
  (∀ (d : Nat) (x : Int) (l1 l2 l3 : Option mx_V) (v0 v1 : mx_V) (S h : mx_H) (n : Int), mx_ex d 172 109 [some (2, x), l1, l2, l3] [v0, v1] S h n = mx_ex d 172 110 [some (2, x), l1, l2, l3] [(2, x), v0, v1] S h n) ∧
  (∀ (d : Nat) (a : Int) (l0 l1 l2 l3 : Option mx_V) (v1 v2 : mx_V) (S h : mx_H) (n : Int), mx_ex d 172 110 [l0, l1, l2, l3] [(2, a), v1, v2] S h n = mx_gd (13 ≤ S a (-2) ∧ S a (-2) ≤ 13) d 172 113 [l0, l1, l2, l3] [(0, h a 10), v1, v2] S h n) ∧
  (∀ (d : Nat) (v i a : Int) (l0 l1 l2 l3 : Option mx_V) (S h : mx_H) (n : Int), mx_ex d 172 113 [l0, l1, l2, l3] [(0, v), (0, i), (2, a)] S h n = mx_gd (S a (-2) = 20 ∧ 0 ≤ i ∧ i < S a (-1)) d 172 114 [l0, l1, l2, l3] [] S (mx_u h a i v) n) ∧
  (∀ (d : Nat) (x : Int) (l0 l2 l3 : Option mx_V) (S h : mx_H) (n : Int), mx_ex d 172 114 [l0, some (0, x), l2, l3] [] S h n = mx_ex d 172 115 [l0, some (0, x), l2, l3] [(0, x)] S h n) ∧
  (∀ (d : Nat) (l0 l1 l2 l3 : Option mx_V) (v0 : mx_V) (S h : mx_H) (n : Int), mx_ex d 172 115 [l0, l1, l2, l3] [v0] S h n = mx_ex d 172 116 [l0, l1, l2, l3] [(0, 2), v0] S h n) ∧
  (∀ (d : Nat) (b a : Int) (l0 l1 l2 l3 : Option mx_V) (S h : mx_H) (n : Int), mx_ex d 172 116 [l0, l1, l2, l3] [(0, b), (0, a)] S h n = mx_br (a = b) d 172 124 119 [l0, l1, l2, l3] [] S h n) ∧
  (∀ (d : Nat) (x : Int) (l0 l2 l3 : Option mx_V) (S h : mx_H) (n : Int), mx_ex d 172 119 [l0, some (0, x), l2, l3] [] S h n = mx_ex d 172 120 [l0, some (0, x), l2, l3] [(0, x)] S h n) ∧
  (∀ (d : Nat) (l0 l1 l2 l3 : Option mx_V) (v0 : mx_V) (S h : mx_H) (n : Int), mx_ex d 172 120 [l0, l1, l2, l3] [v0] S h n = mx_ex d 172 121 [l0, l1, l2, l3] [(0, 3), v0] S h n) ∧
  (∀ (d : Nat) (b a : Int) (l0 l1 l2 l3 : Option mx_V) (S h : mx_H) (n : Int), mx_ex d 172 121 [l0, l1, l2, l3] [(0, b), (0, a)] S h n = mx_br (a = b) d 172 124 166 [l0, l1, l2, l3] [] S h n) ∧
  (∀ (d : Nat) (x : Int) (l1 l2 l3 : Option mx_V) (S h : mx_H) (n : Int), mx_ex d 172 124 [some (2, x), l1, l2, l3] [] S h n = mx_ex d 172 125 [some (2, x), l1, l2, l3] [(2, x)] S h n) ∧
  (∀ (d : Nat) (x : Int) (l0 l2 l3 : Option mx_V) (v0 : mx_V) (S h : mx_H) (n : Int), mx_ex d 172 125 [l0, some (0, x), l2, l3] [v0] S h n = mx_ex d 172 126 [l0, some (0, x), l2, l3] [(0, x), v0] S h n) ∧
  (∀ (d : Nat) (l0 l1 l2 l3 : Option mx_V) (v0 v1 : mx_V) (S h : mx_H) (n : Int), mx_ex d 172 126 [l0, l1, l2, l3] [v0, v1] S h n = mx_ex d 172 127 [l0, l1, l2, l3] [(0, 2), v0, v1] S h n) ∧
  (∀ (d : Nat) (b a : Int) (l0 l1 l2 l3 : Option mx_V) (v2 : mx_V) (S h : mx_H) (n : Int), mx_ex d 172 127 [l0, l1, l2, l3] [(0, b), (0, a), v2] S h n = mx_br (a = b) d 172 130 134 [l0, l1, l2, l3] [v2] S h n) ∧
  (∀ (d : Nat) (l0 l1 l2 l3 : Option mx_V) (v0 : mx_V) (S h : mx_H) (n : Int), mx_ex d 172 130 [l0, l1, l2, l3] [v0] S h n = mx_ex d 172 131 [l0, l1, l2, l3] [(0, 0), v0] S h n) ∧
  (∀ (d : Nat) (l0 l1 l2 l3 : Option mx_V) (v0 v1 : mx_V) (S h : mx_H) (n : Int), mx_ex d 172 131 [l0, l1, l2, l3] [v0, v1] S h n = mx_ex d 172 135 [l0, l1, l2, l3] [v0, v1] S h n) ∧
  (∀ (d : Nat) (l0 l1 l2 l3 : Option mx_V) (v0 : mx_V) (S h : mx_H) (n : Int), mx_ex d 172 134 [l0, l1, l2, l3] [v0] S h n = mx_ex d 172 135 [l0, l1, l2, l3] [(0, 1), v0] S h n) ∧
  (∀ (d : Nat) (x : Int) (l0 l2 l3 : Option mx_V) (v0 v1 : mx_V) (S h : mx_H) (n : Int), mx_ex d 172 135 [l0, some (0, x), l2, l3] [v0, v1] S h n = mx_ex d 172 136 [l0, some (0, x), l2, l3] [(0, x), v0, v1] S h n) ∧
  (∀ (d : Nat) (l0 l1 l2 l3 : Option mx_V) (v0 v1 v2 : mx_V) (S h : mx_H) (n : Int), mx_ex d 172 136 [l0, l1, l2, l3] [v0, v1, v2] S h n = mx_ex d 172 137 [l0, l1, l2, l3] [(0, 2), v0, v1, v2] S h n) ∧
  (∀ (d : Nat) (b a : Int) (l0 l1 l2 l3 : Option mx_V) (v2 v3 : mx_V) (S h : mx_H) (n : Int), mx_ex d 172 137 [l0, l1, l2, l3] [(0, b), (0, a), v2, v3] S h n = mx_br (a = b) d 172 140 144 [l0, l1, l2, l3] [v2, v3] S h n) ∧
  (∀ (d : Nat) (x : Int) (l0 l1 l3 : Option mx_V) (v0 v1 : mx_V) (S h : mx_H) (n : Int), mx_ex d 172 140 [l0, l1, some (0, x), l3] [v0, v1] S h n = mx_ex d 172 141 [l0, l1, some (0, x), l3] [(0, x), v0, v1] S h n) ∧
  (∀ (d : Nat) (l0 l1 l2 l3 : Option mx_V) (v0 v1 v2 : mx_V) (S h : mx_H) (n : Int), mx_ex d 172 141 [l0, l1, l2, l3] [v0, v1, v2] S h n = mx_ex d 172 146 [l0, l1, l2, l3] [v0, v1, v2] S h n) ∧
  (∀ (d : Nat) (l0 l1 l2 l3 : Option mx_V) (v0 v1 : mx_V) (S h : mx_H) (n : Int), mx_ex d 172 144 [l0, l1, l2, l3] [v0, v1] S h n = mx_ex d 172 146 [l0, l1, l2, l3] [(0, 99), v0, v1] S h n) ∧
  (∀ (d : Nat) (x0 x1 a : Int) (l0 l1 l2 l3 : Option mx_V) (S h : mx_H) (n : Int), mx_ex (d + 1) 172 146 [l0, l1, l2, l3] [(0, x0), (0, x1), (2, a)] S h n = mx_cl (S a (-2) = 13) d 168 [(2, a), (0, x1), (0, x0)] 172 149 [l0, l1, l2, l3] [] S h n) ∧
  (∀ (d : Nat) (a : Int) (l0 l1 l2 l3 : Option mx_V) (S h : mx_H) (n : Int), mx_ex d 172 149 [l0, l1, l2, l3] [(0, a)] S h n = mx_br (a = 0) d 172 152 154 [l0, l1, l2, l3] [] S h n) ∧
  (∀ (d : Nat) (l0 l1 l2 l3 : Option mx_V) (S h : mx_H) (n : Int), mx_ex d 172 152 [l0, l1, l2, l3] [] S h n = mx_ex d 172 153 [l0, l1, l2, l3] [(0, 0)] S h n) ∧
  (∀ (d : Nat) (x : Int) (l0 l1 l2 l3 : Option mx_V) (S h : mx_H) (n : Int), mx_ex d 172 153 [l0, l1, l2, l3] [(0, x)] S h n = mx_re (0 ≤ x ∧ x ≤ 1) (some (0, x)) S h n) ∧
  (∀ (d : Nat) (x : Int) (l1 l2 l3 : Option mx_V) (S h : mx_H) (n : Int), mx_ex d 172 154 [some (2, x), l1, l2, l3] [] S h n = mx_ex d 172 155 [some (2, x), l1, l2, l3] [(2, x)] S h n) ∧
  (∀ (d : Nat) (a : Int) (l0 l1 l2 l3 : Option mx_V) (S h : mx_H) (n : Int), mx_ex d 172 155 [l0, l1, l2, l3] [(2, a)] S h n = mx_gd (13 ≤ S a (-2) ∧ S a (-2) ≤ 13) d 172 158 [l0, l1, l2, l3] [(2, S a 0)] S h n) ∧
  (∀ (d : Nat) (x : Int) (l0 l1 l2 : Option mx_V) (v0 : mx_V) (S h : mx_H) (n : Int), mx_ex d 172 158 [l0, l1, l2, some (0, x)] [v0] S h n = mx_ex d 172 159 [l0, l1, l2, some (0, x)] [(0, x), v0] S h n) ∧
  (∀ (d : Nat) (l0 l1 l2 l3 : Option mx_V) (v0 v1 : mx_V) (S h : mx_H) (n : Int), mx_ex d 172 159 [l0, l1, l2, l3] [v0, v1] S h n = mx_ex d 172 160 [l0, l1, l2, l3] [(0, 3), v0, v1] S h n) ∧
  (∀ (d : Nat) (b a : Int) (l0 l1 l2 l3 : Option mx_V) (v2 : mx_V) (S h : mx_H) (n : Int), mx_ex d 172 160 [l0, l1, l2, l3] [(0, b), (0, a), v2] S h n = mx_ex d 172 161 [l0, l1, l2, l3] [(0, mx_w (a + b)), v2] S h n) ∧
  (∀ (d : Nat) (x : Int) (l1 l2 l3 : Option mx_V) (v0 v1 : mx_V) (S h : mx_H) (n : Int), mx_ex d 172 161 [some (2, x), l1, l2, l3] [v0, v1] S h n = mx_ex d 172 162 [some (2, x), l1, l2, l3] [(2, x), v0, v1] S h n) ∧
  (∀ (d : Nat) (a : Int) (l0 l1 l2 l3 : Option mx_V) (v1 v2 : mx_V) (S h : mx_H) (n : Int), mx_ex d 172 162 [l0, l1, l2, l3] [(2, a), v1, v2] S h n = mx_gd (13 ≤ S a (-2) ∧ S a (-2) ≤ 13) d 172 165 [l0, l1, l2, l3] [(0, h a 10), v1, v2] S h n) ∧
  (∀ (d : Nat) (v i a : Int) (l0 l1 l2 l3 : Option mx_V) (S h : mx_H) (n : Int), mx_ex d 172 165 [l0, l1, l2, l3] [(0, v), (0, i), (2, a)] S h n = mx_gd (S a (-2) = 20 ∧ 0 ≤ i ∧ i < S a (-1)) d 172 166 [l0, l1, l2, l3] [] S (mx_u h a i v) n) ∧
  (∀ (d : Nat) (x : Int) (l1 l2 l3 : Option mx_V) (S h : mx_H) (n : Int), mx_ex d 172 166 [some (2, x), l1, l2, l3] [] S h n = mx_ex d 172 167 [some (2, x), l1, l2, l3] [(2, x)] S h n) ∧
  (∀ (d : Nat) (a : Int) (l0 l1 l2 l3 : Option mx_V) (S h : mx_H) (n : Int), mx_ex d 172 167 [l0, l1, l2, l3] [(2, a)] S h n = mx_gd (13 ≤ S a (-2) ∧ S a (-2) ≤ 13) d 172 170 [l0, l1, l2, l3] [(2, S a 0)] S h n) ∧
  (∀ (d : Nat) (l0 l1 l2 l3 : Option mx_V) (v0 : mx_V) (S h : mx_H) (n : Int), mx_ex d 172 170 [l0, l1, l2, l3] [v0] S h n = mx_ex d 172 171 [l0, l1, l2, l3] [(0, 1), v0] S h n) ∧
  (∀ (d : Nat) (a b : Int) (l0 l1 l2 l3 : Option mx_V) (S h : mx_H) (n : Int), mx_ex d 172 171 [l0, l1, l2, l3] [(0, a), (2, b)] S h n = mx_ex d 172 172 [l0, l1, l2, l3] [(0, a), (2, b), (0, a), (2, b)] S h n) ∧
  (∀ (d : Nat) (i a : Int) (l0 l1 l2 l3 : Option mx_V) (v2 v3 : mx_V) (S h : mx_H) (n : Int), mx_ex d 172 172 [l0, l1, l2, l3] [(0, i), (2, a), v2, v3] S h n = mx_gd ((S a (-2) = 20 ∨ S a (-2) = 24) ∧ 0 ≤ i ∧ i < S a (-1)) d 172 173 [l0, l1, l2, l3] [(0, h a i), v2, v3] S h n) ∧
  (∀ (d : Nat) (l0 l1 l2 l3 : Option mx_V) (v0 v1 v2 : mx_V) (S h : mx_H) (n : Int), mx_ex d 172 173 [l0, l1, l2, l3] [v0, v1, v2] S h n = mx_ex d 172 174 [l0, l1, l2, l3] [(0, 1), v0, v1, v2] S h n) ∧
  (∀ (d : Nat) (b a : Int) (l0 l1 l2 l3 : Option mx_V) (v2 v3 : mx_V) (S h : mx_H) (n : Int), mx_ex d 172 174 [l0, l1, l2, l3] [(0, b), (0, a), v2, v3] S h n = mx_ex d 172 175 [l0, l1, l2, l3] [(0, mx_w (a + b)), v2, v3] S h n) ∧
  (∀ (d : Nat) (v i a : Int) (l0 l1 l2 l3 : Option mx_V) (S h : mx_H) (n : Int), mx_ex d 172 175 [l0, l1, l2, l3] [(0, v), (0, i), (2, a)] S h n = mx_gd (S a (-2) = 20 ∧ 0 ≤ i ∧ i < S a (-1)) d 172 176 [l0, l1, l2, l3] [] S (mx_u h a i v) n) ∧
  (∀ (d : Nat) (x : Int) (l1 l2 l3 : Option mx_V) (S h : mx_H) (n : Int), mx_ex d 172 176 [some (2, x), l1, l2, l3] [] S h n = mx_ex d 172 177 [some (2, x), l1, l2, l3] [(2, x)] S h n) ∧
  (∀ (d : Nat) (l0 l1 l2 l3 : Option mx_V) (v0 : mx_V) (S h : mx_H) (n : Int), mx_ex d 172 177 [l0, l1, l2, l3] [v0] S h n = mx_ex d 172 179 [l0, l1, l2, l3] [(0, 59), v0] S h n) ∧
  (∀ (d : Nat) (x0 a : Int) (l0 l1 l2 l3 : Option mx_V) (S h : mx_H) (n : Int), mx_ex (d + 1) 172 179 [l0, l1, l2, l3] [(0, x0), (2, a)] S h n = mx_cl (S a (-2) = 13) d 167 [(2, a), (0, x0)] 172 182 [l0, l1, l2, l3] [] S h n) ∧
  (∀ (d : Nat) (x : Int) (l0 l1 l2 l3 : Option mx_V) (S h : mx_H) (n : Int), mx_ex d 172 182 [l0, l1, l2, l3] [(0, x)] S h n = mx_re (0 ≤ x ∧ x ≤ 1) (some (0, x)) S h n) :=
  ⟨by intros; exact eq_rr rfl,
   by intros; exact eq_ld rfl rfl,
   by intros; exact eq_gr rfl,
   by intros; exact eq_ld rfl rfl,
   by intros; exact eq_push rfl,
   by intros; exact eq_i2 (o := mx_add) rfl,
   by intros; exact eq_ld rfl rfl,
   by intros; exact eq_gi rfl,
   by intros; exact eq_iast rfl,
   by intros; exact eq_ld rfl rfl,
   by intros; exact eq_push rfl,
   by intros; exact eq_ic0 rfl,
   by intros; exact eq_ld rfl rfl,
   by intros; exact eq_push rfl,
   by intros; exact eq_ic1 rfl,
   by intros; exact eq_ld rfl rfl,
   by intros; exact eq_ld rfl rfl,
   by intros; exact eq_push rfl,
   by intros; exact eq_ic1 rfl,
   by intros; exact eq_push rfl,
   by intros; exact eq_go rfl,
   by intros; exact eq_push rfl,
   by intros; exact eq_ld rfl rfl,
   by intros; exact eq_push rfl,
   by intros; exact eq_ic1 rfl,
   by intros; exact eq_ld rfl rfl,
   by intros; exact eq_go rfl,
   by intros; exact eq_push rfl,
   by intros; exact eq_cv rfl (Nat.le_of_ble_eq_true rfl) rfl rfl rfl (Nat.le_of_ble_eq_true rfl),
   by intros; exact eq_if1 rfl,
   by intros; exact eq_push rfl,
   by intros; exact eq_rr rfl,
   by intros; exact eq_ld rfl rfl,
   by intros; exact eq_gr rfl,
   by intros; exact eq_ld rfl rfl,
   by intros; exact eq_push rfl,
   by intros; exact eq_i2 (o := mx_add) rfl,
   by intros; exact eq_ld rfl rfl,
   by intros; exact eq_gi rfl,
   by intros; exact eq_iast rfl,
   by intros; exact eq_ld rfl rfl,
   by intros; exact eq_gr rfl,
   by intros; exact eq_push rfl,
   by intros; exact eq_dup2 rfl (by decide) (by decide),
   by intros; exact eq_iald rfl,
   by intros; exact eq_push rfl,
   by intros; exact eq_i2 (o := mx_add) rfl,
   by intros; exact eq_iast rfl,
   by intros; exact eq_ld rfl rfl,
   by intros; exact eq_push rfl,
   by intros; exact eq_cv rfl (Nat.le_of_ble_eq_true rfl) rfl rfl rfl (Nat.le_of_ble_eq_true rfl),
   by intros; exact eq_rr rfl⟩
theorem rh_X12_takesAll_9 : ∀ (d : Nat) (x : Int) (l1 l2 l3 : Option mx_V) (S h : mx_H) (n : Int), mx_ex d 173 9 [some (2, x), l1, l2, l3] [] S h n = mx_ex d 173 10 [some (2, x), l1, l2, l3] [(2, x)] S h n := by intros; exact eq_ld rfl rfl
theorem rw_X12_takesAll :
  (∀ (d : Nat) (a0 : Int) (S h : mx_H) (n : Int), mx_M d 173 [(2, a0)] S h n = mx_ex d 173 0 [some (2, a0), none, none, none] [] S h n) ∧
  (∀ (d : Nat) (x : Int) (l1 l2 l3 : Option mx_V) (S h : mx_H) (n : Int), mx_ex d 173 0 [some (2, x), l1, l2, l3] [] S h n = mx_ex d 173 1 [some (2, x), l1, l2, l3] [(2, x)] S h n) ∧
  (∀ (d : Nat) (l0 l1 l2 l3 : Option mx_V) (v0 : mx_V) (S h : mx_H) (n : Int), mx_ex d 173 1 [l0, l1, l2, l3] [v0] S h n = mx_ex d 173 2 [l0, l1, l2, l3] [(0, 0), v0] S h n) ∧
  (∀ (d : Nat) (v a : Int) (l0 l1 l2 l3 : Option mx_V) (S h : mx_H) (n : Int), mx_ex d 173 2 [l0, l1, l2, l3] [(0, v), (2, a)] S h n = mx_gd (13 ≤ S a (-2) ∧ S a (-2) ≤ 13) d 173 5 [l0, l1, l2, l3] [] S (mx_u h a 6 v) n) ∧
  (∀ (d : Nat) (x : Int) (l1 l2 l3 : Option mx_V) (S h : mx_H) (n : Int), mx_ex d 173 5 [some (2, x), l1, l2, l3] [] S h n = mx_ex d 173 6 [some (2, x), l1, l2, l3] [(2, x)] S h n) ∧
  (∀ (d : Nat) (a : Int) (l0 l1 l2 l3 : Option mx_V) (S h : mx_H) (n : Int), mx_ex (d + 1) 173 6 [l0, l1, l2, l3] [(2, a)] S h n = mx_cl (S a (-2) = 13) d 165 [(2, a)] 173 9 [l0, l1, l2, l3] [] S h n) ∧
  (∀ (d : Nat) (a : Int) (l0 l1 l2 l3 : Option mx_V) (S h : mx_H) (n : Int), mx_ex d 173 10 [l0, l1, l2, l3] [(2, a)] S h n = mx_gd (13 ≤ S a (-2) ∧ S a (-2) ≤ 13) d 173 13 [l0, l1, l2, l3] [(0, h a 8)] S h n) ∧
  (∀ (d : Nat) (l0 l1 l2 l3 : Option mx_V) (v0 : mx_V) (S h : mx_H) (n : Int), mx_ex d 173 13 [l0, l1, l2, l3] [v0] S h n = mx_ex d 173 14 [l0, l1, l2, l3] [(0, 1), v0] S h n) ∧
  (∀ (d : Nat) (b a : Int) (l0 l1 l2 l3 : Option mx_V) (S h : mx_H) (n : Int), mx_ex d 173 14 [l0, l1, l2, l3] [(0, b), (0, a)] S h n = mx_br (a = b) d 173 17 131 [l0, l1, l2, l3] [] S h n) ∧
  (∀ (d : Nat) (x : Int) (l1 l2 l3 : Option mx_V) (S h : mx_H) (n : Int), mx_ex d 173 17 [some (2, x), l1, l2, l3] [] S h n = mx_ex d 173 18 [some (2, x), l1, l2, l3] [(2, x)] S h n) ∧
  (∀ (d : Nat) (a : Int) (l0 l1 l2 l3 : Option mx_V) (S h : mx_H) (n : Int), mx_ex (d + 1) 173 18 [l0, l1, l2, l3] [(2, a)] S h n = mx_cl (S a (-2) = 13) d 169 [(2, a)] 173 21 [l0, l1, l2, l3] [] S h n) ∧
  (∀ (d : Nat) (x : Int) (l0 l1 l2 l3 : Option mx_V) (S h : mx_H) (n : Int), mx_ex d 173 21 [l0, l1, l2, l3] [(0, x)] S h n = mx_ex d 173 22 [mx_nl l0, some (0, x), l2, l3] [] S h n) ∧
  (∀ (d : Nat) (x : Int) (l1 l2 l3 : Option mx_V) (S h : mx_H) (n : Int), mx_ex d 173 22 [some (2, x), l1, l2, l3] [] S h n = mx_ex d 173 23 [some (2, x), l1, l2, l3] [(2, x)] S h n) ∧
  (∀ (d : Nat) (l0 l1 l2 l3 : Option mx_V) (v0 : mx_V) (S h : mx_H) (n : Int), mx_ex d 173 23 [l0, l1, l2, l3] [v0] S h n = mx_ex d 173 25 [l0, l1, l2, l3] [(2, (-29)), v0] S h n) ∧
  (∀ (d : Nat) (x0 a : Int) (l0 l1 l2 l3 : Option mx_V) (S h : mx_H) (n : Int), mx_ex (d + 1) 173 25 [l0, l1, l2, l3] [(2, x0), (2, a)] S h n = mx_cl (S a (-2) = 13) d 166 [(2, a), (2, x0)] 173 28 [l0, l1, l2, l3] [] S h n) ∧
  (∀ (d : Nat) (a : Int) (l0 l1 l2 l3 : Option mx_V) (S h : mx_H) (n : Int), mx_ex d 173 28 [l0, l1, l2, l3] [(0, a)] S h n = mx_br (a = 0) d 173 35 31 [l0, l1, l2, l3] [] S h n) ∧
  (∀ (d : Nat) (l0 l1 l2 l3 : Option mx_V) (S h : mx_H) (n : Int), mx_ex d 173 31 [l0, l1, l2, l3] [] S h n = mx_ex d 173 32 [l0, l1, l2, l3] [(0, 0)] S h n) ∧
  (∀ (d : Nat) (l0 l1 l2 l3 : Option mx_V) (v0 : mx_V) (S h : mx_H) (n : Int), mx_ex d 173 32 [l0, l1, l2, l3] [v0] S h n = mx_ex d 173 75 [l0, l1, l2, l3] [v0] S h n) ∧
  (∀ (d : Nat) (x : Int) (l1 l2 l3 : Option mx_V) (S h : mx_H) (n : Int), mx_ex d 173 35 [some (2, x), l1, l2, l3] [] S h n = mx_ex d 173 36 [some (2, x), l1, l2, l3] [(2, x)] S h n) ∧
  (∀ (d : Nat) (l0 l1 l2 l3 : Option mx_V) (v0 : mx_V) (S h : mx_H) (n : Int), mx_ex d 173 36 [l0, l1, l2, l3] [v0] S h n = mx_ex d 173 38 [l0, l1, l2, l3] [(2, (-30)), v0] S h n) ∧
  (∀ (d : Nat) (x0 a : Int) (l0 l1 l2 l3 : Option mx_V) (S h : mx_H) (n : Int), mx_ex (d + 1) 173 38 [l0, l1, l2, l3] [(2, x0), (2, a)] S h n = mx_cl (S a (-2) = 13) d 166 [(2, a), (2, x0)] 173 41 [l0, l1, l2, l3] [] S h n) ∧
  (∀ (d : Nat) (a : Int) (l0 l1 l2 l3 : Option mx_V) (S h : mx_H) (n : Int), mx_ex d 173 41 [l0, l1, l2, l3] [(0, a)] S h n = mx_br (a = 0) d 173 48 44 [l0, l1, l2, l3] [] S h n) ∧
  (∀ (d : Nat) (l0 l1 l2 l3 : Option mx_V) (S h : mx_H) (n : Int), mx_ex d 173 44 [l0, l1, l2, l3] [] S h n = mx_ex d 173 45 [l0, l1, l2, l3] [(0, 1)] S h n) ∧
  (∀ (d : Nat) (l0 l1 l2 l3 : Option mx_V) (v0 : mx_V) (S h : mx_H) (n : Int), mx_ex d 173 45 [l0, l1, l2, l3] [v0] S h n = mx_ex d 173 75 [l0, l1, l2, l3] [v0] S h n) ∧
  (∀ (d : Nat) (x : Int) (l1 l2 l3 : Option mx_V) (S h : mx_H) (n : Int), mx_ex d 173 48 [some (2, x), l1, l2, l3] [] S h n = mx_ex d 173 49 [some (2, x), l1, l2, l3] [(2, x)] S h n) ∧
  (∀ (d : Nat) (l0 l1 l2 l3 : Option mx_V) (v0 : mx_V) (S h : mx_H) (n : Int), mx_ex d 173 49 [l0, l1, l2, l3] [v0] S h n = mx_ex d 173 51 [l0, l1, l2, l3] [(2, (-31)), v0] S h n) ∧
  (∀ (d : Nat) (x0 a : Int) (l0 l1 l2 l3 : Option mx_V) (S h : mx_H) (n : Int), mx_ex (d + 1) 173 51 [l0, l1, l2, l3] [(2, x0), (2, a)] S h n = mx_cl (S a (-2) = 13) d 166 [(2, a), (2, x0)] 173 54 [l0, l1, l2, l3] [] S h n) ∧
  (∀ (d : Nat) (a : Int) (l0 l1 l2 l3 : Option mx_V) (S h : mx_H) (n : Int), mx_ex d 173 54 [l0, l1, l2, l3] [(0, a)] S h n = mx_br (a = 0) d 173 61 57 [l0, l1, l2, l3] [] S h n) ∧
  (∀ (d : Nat) (l0 l1 l2 l3 : Option mx_V) (S h : mx_H) (n : Int), mx_ex d 173 57 [l0, l1, l2, l3] [] S h n = mx_ex d 173 58 [l0, l1, l2, l3] [(0, 2)] S h n) ∧
  (∀ (d : Nat) (l0 l1 l2 l3 : Option mx_V) (v0 : mx_V) (S h : mx_H) (n : Int), mx_ex d 173 58 [l0, l1, l2, l3] [v0] S h n = mx_ex d 173 75 [l0, l1, l2, l3] [v0] S h n) ∧
  (∀ (d : Nat) (x : Int) (l1 l2 l3 : Option mx_V) (S h : mx_H) (n : Int), mx_ex d 173 61 [some (2, x), l1, l2, l3] [] S h n = mx_ex d 173 62 [some (2, x), l1, l2, l3] [(2, x)] S h n) ∧
  (∀ (d : Nat) (l0 l1 l2 l3 : Option mx_V) (v0 : mx_V) (S h : mx_H) (n : Int), mx_ex d 173 62 [l0, l1, l2, l3] [v0] S h n = mx_ex d 173 64 [l0, l1, l2, l3] [(2, (-32)), v0] S h n) ∧
  (∀ (d : Nat) (x0 a : Int) (l0 l1 l2 l3 : Option mx_V) (S h : mx_H) (n : Int), mx_ex (d + 1) 173 64 [l0, l1, l2, l3] [(2, x0), (2, a)] S h n = mx_cl (S a (-2) = 13) d 166 [(2, a), (2, x0)] 173 67 [l0, l1, l2, l3] [] S h n) ∧
  (∀ (d : Nat) (a : Int) (l0 l1 l2 l3 : Option mx_V) (S h : mx_H) (n : Int), mx_ex d 173 67 [l0, l1, l2, l3] [(0, a)] S h n = mx_br (a = 0) d 173 74 70 [l0, l1, l2, l3] [] S h n) ∧
  (∀ (d : Nat) (l0 l1 l2 l3 : Option mx_V) (S h : mx_H) (n : Int), mx_ex d 173 70 [l0, l1, l2, l3] [] S h n = mx_ex d 173 71 [l0, l1, l2, l3] [(0, 3)] S h n) ∧
  (∀ (d : Nat) (l0 l1 l2 l3 : Option mx_V) (v0 : mx_V) (S h : mx_H) (n : Int), mx_ex d 173 71 [l0, l1, l2, l3] [v0] S h n = mx_ex d 173 75 [l0, l1, l2, l3] [v0] S h n) ∧
  (∀ (d : Nat) (l0 l1 l2 l3 : Option mx_V) (S h : mx_H) (n : Int), mx_ex d 173 74 [l0, l1, l2, l3] [] S h n = mx_ex d 173 75 [l0, l1, l2, l3] [(0, (-1))] S h n) ∧
  (∀ (d : Nat) (x : Int) (l0 l1 l2 l3 : Option mx_V) (S h : mx_H) (n : Int), mx_ex d 173 75 [l0, l1, l2, l3] [(0, x)] S h n = mx_ex d 173 76 [l0, mx_nl l1, some (0, x), l3] [] S h n) ∧
  (∀ (d : Nat) (x : Int) (l0 l2 l3 : Option mx_V) (S h : mx_H) (n : Int), mx_ex d 173 76 [l0, some (0, x), l2, l3] [] S h n = mx_ex d 173 77 [l0, some (0, x), l2, l3] [(0, x)] S h n) ∧
  (∀ (d : Nat) (a : Int) (l0 l1 l2 l3 : Option mx_V) (S h : mx_H) (n : Int), mx_ex d 173 77 [l0, l1, l2, l3] [(0, a)] S h n = mx_br (a < 0) d 173 88 80 [l0, l1, l2, l3] [] S h n) ∧
  (∀ (d : Nat) (x : Int) (l1 l2 l3 : Option mx_V) (S h : mx_H) (n : Int), mx_ex d 173 80 [some (2, x), l1, l2, l3] [] S h n = mx_ex d 173 81 [some (2, x), l1, l2, l3] [(2, x)] S h n) ∧
  (∀ (d : Nat) (x : Int) (l0 l2 l3 : Option mx_V) (v0 : mx_V) (S h : mx_H) (n : Int), mx_ex d 173 81 [l0, some (0, x), l2, l3] [v0] S h n = mx_ex d 173 82 [l0, some (0, x), l2, l3] [(0, x), v0] S h n) ∧
  (∀ (d : Nat) (x0 a : Int) (l0 l1 l2 l3 : Option mx_V) (S h : mx_H) (n : Int), mx_ex (d + 1) 173 82 [l0, l1, l2, l3] [(0, x0), (2, a)] S h n = mx_cl (S a (-2) = 13) d 170 [(2, a), (0, x0)] 173 85 [l0, l1, l2, l3] [] S h n) ∧
  (∀ (d : Nat) (l0 l1 l2 l3 : Option mx_V) (v0 : mx_V) (S h : mx_H) (n : Int), mx_ex d 173 85 [l0, l1, l2, l3] [v0] S h n = mx_ex d 173 121 [l0, l1, l2, l3] [v0] S h n) ∧
  (∀ (d : Nat) (x : Int) (l0 l1 l3 : Option mx_V) (S h : mx_H) (n : Int), mx_ex d 173 88 [l0, l1, some (0, x), l3] [] S h n = mx_ex d 173 89 [l0, l1, some (0, x), l3] [(0, x)] S h n) ∧
  (∀ (d : Nat) (a : Int) (l0 l1 l2 l3 : Option mx_V) (S h : mx_H) (n : Int), mx_ex d 173 89 [l0, l1, l2, l3] [(0, a)] S h n = mx_br (a < 0) d 173 100 92 [l0, l1, l2, l3] [] S h n) ∧
  (∀ (d : Nat) (x : Int) (l1 l2 l3 : Option mx_V) (S h : mx_H) (n : Int), mx_ex d 173 92 [some (2, x), l1, l2, l3] [] S h n = mx_ex d 173 93 [some (2, x), l1, l2, l3] [(2, x)] S h n) ∧
  (∀ (d : Nat) (x : Int) (l0 l1 l3 : Option mx_V) (v0 : mx_V) (S h : mx_H) (n : Int), mx_ex d 173 93 [l0, l1, some (0, x), l3] [v0] S h n = mx_ex d 173 94 [l0, l1, some (0, x), l3] [(0, x), v0] S h n) ∧
  (∀ (d : Nat) (x0 a : Int) (l0 l1 l2 l3 : Option mx_V) (S h : mx_H) (n : Int), mx_ex (d + 1) 173 94 [l0, l1, l2, l3] [(0, x0), (2, a)] S h n = mx_cl (S a (-2) = 13) d 172 [(2, a), (0, x0)] 173 97 [l0, l1, l2, l3] [] S h n) ∧
  (∀ (d : Nat) (l0 l1 l2 l3 : Option mx_V) (v0 : mx_V) (S h : mx_H) (n : Int), mx_ex d 173 97 [l0, l1, l2, l3] [v0] S h n = mx_ex d 173 121 [l0, l1, l2, l3] [v0] S h n) ∧
  (∀ (d : Nat) (x : Int) (l1 l2 l3 : Option mx_V) (S h : mx_H) (n : Int), mx_ex d 173 100 [some (2, x), l1, l2, l3] [] S h n = mx_ex d 173 101 [some (2, x), l1, l2, l3] [(2, x)] S h n) ∧
  (∀ (d : Nat) (l0 l1 l2 l3 : Option mx_V) (v0 : mx_V) (S h : mx_H) (n : Int), mx_ex d 173 101 [l0, l1, l2, l3] [v0] S h n = mx_ex d 173 103 [l0, l1, l2, l3] [(2, (-33)), v0] S h n) ∧
  (∀ (d : Nat) (x0 a : Int) (l0 l1 l2 l3 : Option mx_V) (S h : mx_H) (n : Int), mx_ex (d + 1) 173 103 [l0, l1, l2, l3] [(2, x0), (2, a)] S h n = mx_cl (S a (-2) = 13) d 166 [(2, a), (2, x0)] 173 106 [l0, l1, l2, l3] [] S h n) ∧
  (∀ (d : Nat) (a : Int) (l0 l1 l2 l3 : Option mx_V) (S h : mx_H) (n : Int), mx_ex d 173 106 [l0, l1, l2, l3] [(0, a)] S h n = mx_br (a = 0) d 173 120 109 [l0, l1, l2, l3] [] S h n) ∧
  (∀ (d : Nat) (x : Int) (l1 l2 l3 : Option mx_V) (S h : mx_H) (n : Int), mx_ex d 173 109 [some (2, x), l1, l2, l3] [] S h n = mx_ex d 173 110 [some (2, x), l1, l2, l3] [(2, x)] S h n) ∧
  (∀ (d : Nat) (a : Int) (l0 l1 l2 l3 : Option mx_V) (S h : mx_H) (n : Int), mx_ex (d + 1) 173 110 [l0, l1, l2, l3] [(2, a)] S h n = mx_cl (S a (-2) = 13) d 171 [(2, a)] 173 113 [l0, l1, l2, l3] [] S h n) ∧
  (∀ (d : Nat) (a : Int) (l0 l1 l2 l3 : Option mx_V) (S h : mx_H) (n : Int), mx_ex d 173 113 [l0, l1, l2, l3] [(0, a)] S h n = mx_br (a = 0) d 173 120 116 [l0, l1, l2, l3] [] S h n) ∧
  (∀ (d : Nat) (l0 l1 l2 l3 : Option mx_V) (S h : mx_H) (n : Int), mx_ex d 173 116 [l0, l1, l2, l3] [] S h n = mx_ex d 173 117 [l0, l1, l2, l3] [(0, 1)] S h n) ∧
  (∀ (d : Nat) (l0 l1 l2 l3 : Option mx_V) (v0 : mx_V) (S h : mx_H) (n : Int), mx_ex d 173 117 [l0, l1, l2, l3] [v0] S h n = mx_ex d 173 121 [l0, l1, l2, l3] [v0] S h n) ∧
  (∀ (d : Nat) (l0 l1 l2 l3 : Option mx_V) (S h : mx_H) (n : Int), mx_ex d 173 120 [l0, l1, l2, l3] [] S h n = mx_ex d 173 121 [l0, l1, l2, l3] [(0, 0)] S h n) ∧
  (∀ (d : Nat) (x : Int) (l0 l1 l2 l3 : Option mx_V) (S h : mx_H) (n : Int), mx_ex d 173 121 [l0, l1, l2, l3] [(0, x)] S h n = mx_ex d 173 122 [l0, l1, mx_nl l2, some (0, x)] [] S h n) ∧
  (∀ (d : Nat) (x : Int) (l0 l1 l2 : Option mx_V) (S h : mx_H) (n : Int), mx_ex d 173 122 [l0, l1, l2, some (0, x)] [] S h n = mx_ex d 173 123 [l0, l1, l2, some (0, x)] [(0, x)] S h n) ∧
  (∀ (d : Nat) (a : Int) (l0 l1 l2 l3 : Option mx_V) (S h : mx_H) (n : Int), mx_ex d 173 123 [l0, l1, l2, l3] [(0, a)] S h n = mx_br (a = 0) d 173 126 128 [l0, l1, l2, l3] [] S h n) ∧
  (∀ (d : Nat) (l0 l1 l2 l3 : Option mx_V) (S h : mx_H) (n : Int), mx_ex d 173 126 [l0, l1, l2, l3] [] S h n = mx_ex d 173 127 [l0, l1, l2, l3] [(0, 0)] S h n) ∧
  (∀ (d : Nat) (x : Int) (l0 l1 l2 l3 : Option mx_V) (S h : mx_H) (n : Int), mx_ex d 173 127 [l0, l1, l2, l3] [(0, x)] S h n = mx_re (0 ≤ x ∧ x ≤ 1) (some (0, x)) S h n) ∧
  (∀ (d : Nat) (l0 l1 l2 l3 : Option mx_V) (S h : mx_H) (n : Int), mx_ex d 173 128 [l0, l1, l2, l3] [] S h n = mx_ex d 173 9 [l0, l1, l2, l3] [] S h n) ∧
  (∀ (d : Nat) (x : Int) (l1 l2 l3 : Option mx_V) (S h : mx_H) (n : Int), mx_ex d 173 131 [some (2, x), l1, l2, l3] [] S h n = mx_ex d 173 132 [some (2, x), l1, l2, l3] [(2, x)] S h n) ∧
  (∀ (d : Nat) (a : Int) (l0 l1 l2 l3 : Option mx_V) (S h : mx_H) (n : Int), mx_ex d 173 132 [l0, l1, l2, l3] [(2, a)] S h n = mx_gd (13 ≤ S a (-2) ∧ S a (-2) ≤ 13) d 173 135 [l0, l1, l2, l3] [(0, h a 8)] S h n) ∧
  (∀ (d : Nat) (a : Int) (l0 l1 l2 l3 : Option mx_V) (S h : mx_H) (n : Int), mx_ex d 173 135 [l0, l1, l2, l3] [(0, a)] S h n = mx_br (a = 0) d 173 138 142 [l0, l1, l2, l3] [] S h n) ∧
  (∀ (d : Nat) (l0 l1 l2 l3 : Option mx_V) (S h : mx_H) (n : Int), mx_ex d 173 138 [l0, l1, l2, l3] [] S h n = mx_ex d 173 139 [l0, l1, l2, l3] [(0, 1)] S h n) :=
  ⟨by intros; exact rfl,
   by intros; exact eq_ld rfl rfl,
   by intros; exact eq_push rfl,
   by intros; exact eq_pi rfl,
   by intros; exact eq_ld rfl rfl,
   by intros; exact eq_cv rfl (Nat.le_of_ble_eq_true rfl) rfl rfl rfl (Nat.le_of_ble_eq_true rfl),
   by intros; exact eq_gi rfl,
   by intros; exact eq_push rfl,
   by intros; exact eq_ic1 rfl,
   by intros; exact eq_ld rfl rfl,
   by intros; exact eq_cv rfl (Nat.le_of_ble_eq_true rfl) rfl rfl rfl (Nat.le_of_ble_eq_true rfl),
   by intros; exact eq_st rfl (by decide) (Nat.le_of_ble_eq_true rfl) rfl,
   by intros; exact eq_ld rfl rfl,
   by intros; exact eq_push rfl,
   by intros; exact eq_cv rfl (Nat.le_of_ble_eq_true rfl) rfl rfl rfl (Nat.le_of_ble_eq_true rfl),
   by intros; exact eq_if0 rfl,
   by intros; exact eq_push rfl,
   by intros; exact eq_go rfl,
   by intros; exact eq_ld rfl rfl,
   by intros; exact eq_push rfl,
   by intros; exact eq_cv rfl (Nat.le_of_ble_eq_true rfl) rfl rfl rfl (Nat.le_of_ble_eq_true rfl),
   by intros; exact eq_if0 rfl,
   by intros; exact eq_push rfl,
   by intros; exact eq_go rfl,
   by intros; exact eq_ld rfl rfl,
   by intros; exact eq_push rfl,
   by intros; exact eq_cv rfl (Nat.le_of_ble_eq_true rfl) rfl rfl rfl (Nat.le_of_ble_eq_true rfl),
   by intros; exact eq_if0 rfl,
   by intros; exact eq_push rfl,
   by intros; exact eq_go rfl,
   by intros; exact eq_ld rfl rfl,
   by intros; exact eq_push rfl,
   by intros; exact eq_cv rfl (Nat.le_of_ble_eq_true rfl) rfl rfl rfl (Nat.le_of_ble_eq_true rfl),
   by intros; exact eq_if0 rfl,
   by intros; exact eq_push rfl,
   by intros; exact eq_go rfl,
   by intros; exact eq_push rfl,
   by intros; exact eq_st rfl (by decide) (Nat.le_of_ble_eq_true rfl) rfl,
   by intros; exact eq_ld rfl rfl,
   by intros; exact eq_if2 rfl,
   by intros; exact eq_ld rfl rfl,
   by intros; exact eq_ld rfl rfl,
   by intros; exact eq_cv rfl (Nat.le_of_ble_eq_true rfl) rfl rfl rfl (Nat.le_of_ble_eq_true rfl),
   by intros; exact eq_go rfl,
   by intros; exact eq_ld rfl rfl,
   by intros; exact eq_if2 rfl,
   by intros; exact eq_ld rfl rfl,
   by intros; exact eq_ld rfl rfl,
   by intros; exact eq_cv rfl (Nat.le_of_ble_eq_true rfl) rfl rfl rfl (Nat.le_of_ble_eq_true rfl),
   by intros; exact eq_go rfl,
   by intros; exact eq_ld rfl rfl,
   by intros; exact eq_push rfl,
   by intros; exact eq_cv rfl (Nat.le_of_ble_eq_true rfl) rfl rfl rfl (Nat.le_of_ble_eq_true rfl),
   by intros; exact eq_if0 rfl,
   by intros; exact eq_ld rfl rfl,
   by intros; exact eq_cv rfl (Nat.le_of_ble_eq_true rfl) rfl rfl rfl (Nat.le_of_ble_eq_true rfl),
   by intros; exact eq_if0 rfl,
   by intros; exact eq_push rfl,
   by intros; exact eq_go rfl,
   by intros; exact eq_push rfl,
   by intros; exact eq_st rfl (by decide) (Nat.le_of_ble_eq_true rfl) rfl,
   by intros; exact eq_ld rfl rfl,
   by intros; exact eq_if1 rfl,
   by intros; exact eq_push rfl,
   by intros; exact eq_rr rfl,
   by intros; exact eq_go rfl,
   by intros; exact eq_ld rfl rfl,
   by intros; exact eq_gi rfl,
   by intros; exact eq_if1 rfl,
   by intros; exact eq_push rfl⟩
theorem rw_X12_takesAll_1 :
  (∀ (d : Nat) (l0 l1 l2 l3 : Option mx_V) (v0 : mx_V) (S h : mx_H) (n : Int), mx_ex d 173 139 [l0, l1, l2, l3] [v0] S h n = mx_ex d 173 143 [l0, l1, l2, l3] [v0] S h n) ∧
  (∀ (d : Nat) (l0 l1 l2 l3 : Option mx_V) (S h : mx_H) (n : Int), mx_ex d 173 142 [l0, l1, l2, l3] [] S h n = mx_ex d 173 143 [l0, l1, l2, l3] [(0, 0)] S h n) ∧
  (∀ (d : Nat) (x : Int) (l0 l1 l2 l3 : Option mx_V) (S h : mx_H) (n : Int), mx_ex d 173 143 [l0, l1, l2, l3] [(0, x)] S h n = mx_re (0 ≤ x ∧ x ≤ 1) (some (0, x)) S h n) :=
  ⟨by intros; exact eq_go rfl,
   by intros; exact eq_push rfl,
   by intros; exact eq_rr rfl⟩
theorem rw_X12_valley :
  (∀ (d : Nat) (a0 : Int) (S h : mx_H) (n : Int), mx_M d 174 [(2, a0)] S h n = mx_ex d 174 0 [some (2, a0), none] [] S h n) ∧
  (∀ (d : Nat) (x : Int) (l1 : Option mx_V) (S h : mx_H) (n : Int), mx_ex d 174 0 [some (2, x), l1] [] S h n = mx_ex d 174 1 [some (2, x), l1] [(2, x)] S h n) ∧
  (∀ (d : Nat) (a : Int) (l0 l1 : Option mx_V) (S h : mx_H) (n : Int), mx_ex d 174 1 [l0, l1] [(2, a)] S h n = mx_gd (13 ≤ S a (-2) ∧ S a (-2) ≤ 13) d 174 4 [l0, l1] [(2, S a 0)] S h n) ∧
  (∀ (d : Nat) (x : Int) (l1 : Option mx_V) (v0 : mx_V) (S h : mx_H) (n : Int), mx_ex d 174 4 [some (2, x), l1] [v0] S h n = mx_ex d 174 5 [some (2, x), l1] [(2, x), v0] S h n) ∧
  (∀ (d : Nat) (a : Int) (l0 l1 : Option mx_V) (v1 : mx_V) (S h : mx_H) (n : Int), mx_ex d 174 5 [l0, l1] [(2, a), v1] S h n = mx_gd (13 ≤ S a (-2) ∧ S a (-2) ≤ 13) d 174 8 [l0, l1] [(2, S a 2), v1] S h n) ∧
  (∀ (d : Nat) (x0 x1 : Int) (l0 l1 : Option mx_V) (S h : mx_H) (n : Int), mx_ex (d + 1) 174 8 [l0, l1] [(2, x0), (2, x1)] S h n = mx_rt (mx_M d 155 [(2, x1), (2, x0)] S h n) (d + 1) 174 11 [l0, l1] []) ∧
  (∀ (d : Nat) (x : Int) (l1 : Option mx_V) (S h : mx_H) (n : Int), mx_ex d 174 11 [some (2, x), l1] [] S h n = mx_ex d 174 12 [some (2, x), l1] [(2, x)] S h n) ∧
  (∀ (d : Nat) (a : Int) (l0 l1 : Option mx_V) (S h : mx_H) (n : Int), mx_ex (d + 1) 174 12 [l0, l1] [(2, a)] S h n = mx_cl (S a (-2) = 13) d 156 [(2, a)] 174 15 [l0, l1] [] S h n) ∧
  (∀ (d : Nat) (x : Int) (l1 : Option mx_V) (S h : mx_H) (n : Int), mx_ex d 174 15 [some (2, x), l1] [] S h n = mx_ex d 174 16 [some (2, x), l1] [(2, x)] S h n) ∧
  (∀ (d : Nat) (a : Int) (l0 l1 : Option mx_V) (S h : mx_H) (n : Int), mx_ex (d + 1) 174 16 [l0, l1] [(2, a)] S h n = mx_cl (S a (-2) = 13) d 173 [(2, a)] 174 19 [l0, l1] [] S h n) ∧
  (∀ (d : Nat) (x : Int) (l0 l1 : Option mx_V) (S h : mx_H) (n : Int), mx_ex d 174 19 [l0, l1] [(0, x)] S h n = mx_ex d 174 20 [mx_nl l0, some (0, x)] [] S h n) ∧
  (∀ (d : Nat) (x : Int) (l1 : Option mx_V) (S h : mx_H) (n : Int), mx_ex d 174 20 [some (2, x), l1] [] S h n = mx_ex d 174 21 [some (2, x), l1] [(2, x)] S h n) ∧
  (∀ (d : Nat) (l0 l1 : Option mx_V) (v0 : mx_V) (S h : mx_H) (n : Int), mx_ex d 174 21 [l0, l1] [v0] S h n = mx_ex d 174 22 [l0, l1] [(0, 0), v0] S h n) ∧
  (∀ (d : Nat) (v a : Int) (l0 l1 : Option mx_V) (S h : mx_H) (n : Int), mx_ex d 174 22 [l0, l1] [(0, v), (2, a)] S h n = mx_gd (13 ≤ S a (-2) ∧ S a (-2) ≤ 13) d 174 25 [l0, l1] [] S (mx_u h a 5 v) n) ∧
  (∀ (d : Nat) (x : Int) (l0 : Option mx_V) (S h : mx_H) (n : Int), mx_ex d 174 25 [l0, some (0, x)] [] S h n = mx_ex d 174 26 [l0, some (0, x)] [(0, x)] S h n) ∧
  (∀ (d : Nat) (a : Int) (l0 l1 : Option mx_V) (S h : mx_H) (n : Int), mx_ex d 174 26 [l0, l1] [(0, a)] S h n = mx_br (a = 0) d 174 29 48 [l0, l1] [] S h n) ∧
  (∀ (d : Nat) (x : Int) (l1 : Option mx_V) (S h : mx_H) (n : Int), mx_ex d 174 29 [some (2, x), l1] [] S h n = mx_ex d 174 30 [some (2, x), l1] [(2, x)] S h n) ∧
  (∀ (d : Nat) (a : Int) (l0 l1 : Option mx_V) (S h : mx_H) (n : Int), mx_ex d 174 30 [l0, l1] [(2, a)] S h n = mx_gd (13 ≤ S a (-2) ∧ S a (-2) ≤ 13) d 174 33 [l0, l1] [(2, S a 2)] S h n) ∧
  (∀ (d : Nat) (x : Int) (l1 : Option mx_V) (v0 : mx_V) (S h : mx_H) (n : Int), mx_ex d 174 33 [some (2, x), l1] [v0] S h n = mx_ex d 174 34 [some (2, x), l1] [(2, x), v0] S h n) ∧
  (∀ (d : Nat) (a : Int) (l0 l1 : Option mx_V) (v1 : mx_V) (S h : mx_H) (n : Int), mx_ex d 174 34 [l0, l1] [(2, a), v1] S h n = mx_gd (13 ≤ S a (-2) ∧ S a (-2) ≤ 13) d 174 37 [l0, l1] [(2, S a 0), v1] S h n) ∧
  (∀ (d : Nat) (x0 x1 : Int) (l0 l1 : Option mx_V) (S h : mx_H) (n : Int), mx_ex (d + 1) 174 37 [l0, l1] [(2, x0), (2, x1)] S h n = mx_rt (mx_M d 155 [(2, x1), (2, x0)] S h n) (d + 1) 174 40 [l0, l1] []) ∧
  (∀ (d : Nat) (l0 l1 : Option mx_V) (S h : mx_H) (n : Int), mx_ex d 174 40 [l0, l1] [] S h n = mx_ex d 174 42 [l0, l1] [(0, (-100))] S h n) ∧
  (∀ (d : Nat) (x : Int) (l1 : Option mx_V) (v0 : mx_V) (S h : mx_H) (n : Int), mx_ex d 174 42 [some (2, x), l1] [v0] S h n = mx_ex d 174 43 [some (2, x), l1] [(2, x), v0] S h n) ∧
  (∀ (d : Nat) (a : Int) (l0 l1 : Option mx_V) (v1 : mx_V) (S h : mx_H) (n : Int), mx_ex d 174 43 [l0, l1] [(2, a), v1] S h n = mx_gd (13 ≤ S a (-2) ∧ S a (-2) ≤ 13) d 174 46 [l0, l1] [(0, h a 7), v1] S h n) ∧
  (∀ (d : Nat) (b a : Int) (l0 l1 : Option mx_V) (S h : mx_H) (n : Int), mx_ex d 174 46 [l0, l1] [(0, b), (0, a)] S h n = mx_ex d 174 47 [l0, l1] [(0, mx_w (a - b))] S h n) ∧
  (∀ (d : Nat) (x : Int) (l0 l1 : Option mx_V) (S h : mx_H) (n : Int), mx_ex d 174 47 [l0, l1] [(0, x)] S h n = some (some (0, x), S, h, n)) ∧
  (∀ (d : Nat) (x : Int) (l1 : Option mx_V) (S h : mx_H) (n : Int), mx_ex d 174 48 [some (2, x), l1] [] S h n = mx_ex d 174 49 [some (2, x), l1] [(2, x)] S h n) ∧
  (∀ (d : Nat) (l0 l1 : Option mx_V) (v0 : mx_V) (S h : mx_H) (n : Int), mx_ex d 174 49 [l0, l1] [v0] S h n = mx_ex d 174 50 [l0, l1] [(0, 0), v0] S h n) ∧
  (∀ (d : Nat) (v a : Int) (l0 l1 : Option mx_V) (S h : mx_H) (n : Int), mx_ex d 174 50 [l0, l1] [(0, v), (2, a)] S h n = mx_gd (13 ≤ S a (-2) ∧ S a (-2) ≤ 13) d 174 53 [l0, l1] [] S (mx_u h a 15 v) n) ∧
  (∀ (d : Nat) (x : Int) (l1 : Option mx_V) (S h : mx_H) (n : Int), mx_ex d 174 53 [some (2, x), l1] [] S h n = mx_ex d 174 54 [some (2, x), l1] [(2, x)] S h n) ∧
  (∀ (d : Nat) (a : Int) (l0 l1 : Option mx_V) (S h : mx_H) (n : Int), mx_ex d 174 54 [l0, l1] [(2, a)] S h n = mx_gd (13 ≤ S a (-2) ∧ S a (-2) ≤ 13) d 174 57 [l0, l1] [(2, S a 0)] S h n) ∧
  (∀ (d : Nat) (l0 l1 : Option mx_V) (v0 : mx_V) (S h : mx_H) (n : Int), mx_ex d 174 57 [l0, l1] [v0] S h n = mx_ex d 174 58 [l0, l1] [(0, 0), v0] S h n) ∧
  (∀ (d : Nat) (i a : Int) (l0 l1 : Option mx_V) (S h : mx_H) (n : Int), mx_ex d 174 58 [l0, l1] [(0, i), (2, a)] S h n = mx_gd ((S a (-2) = 20 ∨ S a (-2) = 24) ∧ 0 ≤ i ∧ i < S a (-1)) d 174 59 [l0, l1] [(0, h a i)] S h n) ∧
  (∀ (d : Nat) (x : Int) (l0 l1 : Option mx_V) (S h : mx_H) (n : Int), mx_ex d 174 59 [l0, l1] [(0, x)] S h n = some (some (0, x), S, h, n)) :=
  ⟨by intros; exact rfl,
   by intros; exact eq_ld rfl rfl,
   by intros; exact eq_gr rfl,
   by intros; exact eq_ld rfl rfl,
   by intros; exact eq_gr rfl,
   by intros; exact eq_cs rfl (Nat.le_of_ble_eq_true rfl) rfl rfl rfl (Nat.le_of_ble_eq_true rfl),
   by intros; exact eq_ld rfl rfl,
   by intros; exact eq_cv rfl (Nat.le_of_ble_eq_true rfl) rfl rfl rfl (Nat.le_of_ble_eq_true rfl),
   by intros; exact eq_ld rfl rfl,
   by intros; exact eq_cv rfl (Nat.le_of_ble_eq_true rfl) rfl rfl rfl (Nat.le_of_ble_eq_true rfl),
   by intros; exact eq_st rfl (by decide) (Nat.le_of_ble_eq_true rfl) rfl,
   by intros; exact eq_ld rfl rfl,
   by intros; exact eq_push rfl,
   by intros; exact eq_pi rfl,
   by intros; exact eq_ld rfl rfl,
   by intros; exact eq_if1 rfl,
   by intros; exact eq_ld rfl rfl,
   by intros; exact eq_gr rfl,
   by intros; exact eq_ld rfl rfl,
   by intros; exact eq_gr rfl,
   by intros; exact eq_cs rfl (Nat.le_of_ble_eq_true rfl) rfl rfl rfl (Nat.le_of_ble_eq_true rfl),
   by intros; exact eq_push rfl,
   by intros; exact eq_ld rfl rfl,
   by intros; exact eq_gi rfl,
   by intros; exact eq_i2 (o := mx_sub) rfl,
   by intros; exact eq_ret rfl,
   by intros; exact eq_ld rfl rfl,
   by intros; exact eq_push rfl,
   by intros; exact eq_pi rfl,
   by intros; exact eq_ld rfl rfl,
   by intros; exact eq_gr rfl,
   by intros; exact eq_push rfl,
   by intros; exact eq_iald rfl,
   by intros; exact eq_ret rfl⟩
theorem rw_X12_evening :
  (∀ (d : Nat) (a0 a1 a2 a3 : Int) (S h : mx_H) (n : Int), mx_M d 175 [(2, a0), (0, a1), (0, a2), (0, a3)] S h n = mx_ex d 175 0 [some (2, a0), some (0, a1), some (0, a2), some (0, a3)] [] S h n) ∧
  (∀ (d : Nat) (x : Int) (l0 l2 l3 : Option mx_V) (S h : mx_H) (n : Int), mx_ex d 175 0 [l0, some (0, x), l2, l3] [] S h n = mx_ex d 175 1 [l0, some (0, x), l2, l3] [(0, x)] S h n) ∧
  (∀ (d : Nat) (x0 : Int) (l0 l1 l2 l3 : Option mx_V) (S h : mx_H) (n : Int), mx_ex (d + 1) 175 1 [l0, l1, l2, l3] [(0, x0)] S h n = mx_rt (mx_M d 159 [(0, x0)] S h n) (d + 1) 175 4 [l0, l1, l2, l3] []) ∧
  (∀ (d : Nat) (a : Int) (l0 l1 l2 l3 : Option mx_V) (S h : mx_H) (n : Int), mx_ex d 175 4 [l0, l1, l2, l3] [(0, a)] S h n = mx_br (a = 0) d 175 26 7 [l0, l1, l2, l3] [] S h n) ∧
  (∀ (d : Nat) (x : Int) (l0 l1 l3 : Option mx_V) (S h : mx_H) (n : Int), mx_ex d 175 7 [l0, l1, some (0, x), l3] [] S h n = mx_ex d 175 8 [l0, l1, some (0, x), l3] [(0, x)] S h n) ∧
  (∀ (d : Nat) (x0 : Int) (l0 l1 l2 l3 : Option mx_V) (S h : mx_H) (n : Int), mx_ex (d + 1) 175 8 [l0, l1, l2, l3] [(0, x0)] S h n = mx_rt (mx_M d 160 [(0, x0)] S h n) (d + 1) 175 11 [l0, l1, l2, l3] []) ∧
  (∀ (d : Nat) (a : Int) (l0 l1 l2 l3 : Option mx_V) (S h : mx_H) (n : Int), mx_ex d 175 11 [l0, l1, l2, l3] [(0, a)] S h n = mx_br (a = 0) d 175 26 14 [l0, l1, l2, l3] [] S h n) ∧
  (∀ (d : Nat) (x : Int) (l0 l1 l2 : Option mx_V) (S h : mx_H) (n : Int), mx_ex d 175 14 [l0, l1, l2, some (0, x)] [] S h n = mx_ex d 175 15 [l0, l1, l2, some (0, x)] [(0, x)] S h n) ∧
  (∀ (d : Nat) (x0 : Int) (l0 l1 l2 l3 : Option mx_V) (S h : mx_H) (n : Int), mx_ex (d + 1) 175 15 [l0, l1, l2, l3] [(0, x0)] S h n = mx_rt (mx_M d 160 [(0, x0)] S h n) (d + 1) 175 18 [l0, l1, l2, l3] []) ∧
  (∀ (d : Nat) (a : Int) (l0 l1 l2 l3 : Option mx_V) (S h : mx_H) (n : Int), mx_ex d 175 18 [l0, l1, l2, l3] [(0, a)] S h n = mx_br (a = 0) d 175 26 21 [l0, l1, l2, l3] [] S h n) ∧
  (∀ (d : Nat) (x : Int) (l0 l1 l2 : Option mx_V) (S h : mx_H) (n : Int), mx_ex d 175 21 [l0, l1, l2, some (0, x)] [] S h n = mx_ex d 175 22 [l0, l1, l2, some (0, x)] [(0, x)] S h n) ∧
  (∀ (d : Nat) (x : Int) (l0 l1 l3 : Option mx_V) (v0 : mx_V) (S h : mx_H) (n : Int), mx_ex d 175 22 [l0, l1, some (0, x), l3] [v0] S h n = mx_ex d 175 23 [l0, l1, some (0, x), l3] [(0, x), v0] S h n) ∧
  (∀ (d : Nat) (b a : Int) (l0 l1 l2 l3 : Option mx_V) (S h : mx_H) (n : Int), mx_ex d 175 23 [l0, l1, l2, l3] [(0, b), (0, a)] S h n = mx_br (a < b) d 175 26 28 [l0, l1, l2, l3] [] S h n) ∧
  (∀ (d : Nat) (l0 l1 l2 l3 : Option mx_V) (S h : mx_H) (n : Int), mx_ex d 175 26 [l0, l1, l2, l3] [] S h n = mx_ex d 175 27 [l0, l1, l2, l3] [(0, (-1))] S h n) ∧
  (∀ (d : Nat) (x : Int) (l0 l1 l2 l3 : Option mx_V) (S h : mx_H) (n : Int), mx_ex d 175 27 [l0, l1, l2, l3] [(0, x)] S h n = some (some (0, x), S, h, n)) ∧
  (∀ (d : Nat) (x : Int) (l1 l2 l3 : Option mx_V) (S h : mx_H) (n : Int), mx_ex d 175 28 [some (2, x), l1, l2, l3] [] S h n = mx_ex d 175 29 [some (2, x), l1, l2, l3] [(2, x)] S h n) ∧
  (∀ (d : Nat) (a : Int) (l0 l1 l2 l3 : Option mx_V) (S h : mx_H) (n : Int), mx_ex d 175 29 [l0, l1, l2, l3] [(2, a)] S h n = mx_gd (13 ≤ S a (-2) ∧ S a (-2) ≤ 13) d 175 32 [l0, l1, l2, l3] [(2, S a 0)] S h n) ∧
  (∀ (d : Nat) (l0 l1 l2 l3 : Option mx_V) (v0 : mx_V) (S h : mx_H) (n : Int), mx_ex d 175 32 [l0, l1, l2, l3] [v0] S h n = mx_ex d 175 33 [l0, l1, l2, l3] [(0, 3), v0] S h n) ∧
  (∀ (d : Nat) (l0 l1 l2 l3 : Option mx_V) (v0 v1 : mx_V) (S h : mx_H) (n : Int), mx_ex d 175 33 [l0, l1, l2, l3] [v0, v1] S h n = mx_ex d 175 34 [l0, l1, l2, l3] [(0, 2), v0, v1] S h n) ∧
  (∀ (d : Nat) (x : Int) (l0 l2 l3 : Option mx_V) (v0 v1 v2 : mx_V) (S h : mx_H) (n : Int), mx_ex d 175 34 [l0, some (0, x), l2, l3] [v0, v1, v2] S h n = mx_ex d 175 35 [l0, some (0, x), l2, l3] [(0, x), v0, v1, v2] S h n) ∧
  (∀ (d : Nat) (b a : Int) (l0 l1 l2 l3 : Option mx_V) (v2 v3 : mx_V) (S h : mx_H) (n : Int), mx_ex d 175 35 [l0, l1, l2, l3] [(0, b), (0, a), v2, v3] S h n = mx_ex d 175 36 [l0, l1, l2, l3] [(0, mx_w (a * b)), v2, v3] S h n) ∧
  (∀ (d : Nat) (b a : Int) (l0 l1 l2 l3 : Option mx_V) (v2 : mx_V) (S h : mx_H) (n : Int), mx_ex d 175 36 [l0, l1, l2, l3] [(0, b), (0, a), v2] S h n = mx_ex d 175 37 [l0, l1, l2, l3] [(0, mx_w (a + b)), v2] S h n) ∧
  (∀ (d : Nat) (x : Int) (l0 l1 l3 : Option mx_V) (v0 v1 : mx_V) (S h : mx_H) (n : Int), mx_ex d 175 37 [l0, l1, some (0, x), l3] [v0, v1] S h n = mx_ex d 175 38 [l0, l1, some (0, x), l3] [(0, x), v0, v1] S h n) ∧
  (∀ (d : Nat) (v i a : Int) (l0 l1 l2 l3 : Option mx_V) (S h : mx_H) (n : Int), mx_ex d 175 38 [l0, l1, l2, l3] [(0, v), (0, i), (2, a)] S h n = mx_gd (S a (-2) = 20 ∧ 0 ≤ i ∧ i < S a (-1)) d 175 39 [l0, l1, l2, l3] [] S (mx_u h a i v) n) ∧
  (∀ (d : Nat) (x : Int) (l1 l2 l3 : Option mx_V) (S h : mx_H) (n : Int), mx_ex d 175 39 [some (2, x), l1, l2, l3] [] S h n = mx_ex d 175 40 [some (2, x), l1, l2, l3] [(2, x)] S h n) ∧
  (∀ (d : Nat) (a : Int) (l0 l1 l2 l3 : Option mx_V) (S h : mx_H) (n : Int), mx_ex d 175 40 [l0, l1, l2, l3] [(2, a)] S h n = mx_gd (13 ≤ S a (-2) ∧ S a (-2) ≤ 13) d 175 43 [l0, l1, l2, l3] [(2, S a 0)] S h n) ∧
  (∀ (d : Nat) (l0 l1 l2 l3 : Option mx_V) (v0 : mx_V) (S h : mx_H) (n : Int), mx_ex d 175 43 [l0, l1, l2, l3] [v0] S h n = mx_ex d 175 44 [l0, l1, l2, l3] [(0, 3), v0] S h n) ∧
  (∀ (d : Nat) (l0 l1 l2 l3 : Option mx_V) (v0 v1 : mx_V) (S h : mx_H) (n : Int), mx_ex d 175 44 [l0, l1, l2, l3] [v0, v1] S h n = mx_ex d 175 45 [l0, l1, l2, l3] [(0, 2), v0, v1] S h n) ∧
  (∀ (d : Nat) (x : Int) (l0 l2 l3 : Option mx_V) (v0 v1 v2 : mx_V) (S h : mx_H) (n : Int), mx_ex d 175 45 [l0, some (0, x), l2, l3] [v0, v1, v2] S h n = mx_ex d 175 46 [l0, some (0, x), l2, l3] [(0, x), v0, v1, v2] S h n) ∧
  (∀ (d : Nat) (b a : Int) (l0 l1 l2 l3 : Option mx_V) (v2 v3 : mx_V) (S h : mx_H) (n : Int), mx_ex d 175 46 [l0, l1, l2, l3] [(0, b), (0, a), v2, v3] S h n = mx_ex d 175 47 [l0, l1, l2, l3] [(0, mx_w (a * b)), v2, v3] S h n) ∧
  (∀ (d : Nat) (b a : Int) (l0 l1 l2 l3 : Option mx_V) (v2 : mx_V) (S h : mx_H) (n : Int), mx_ex d 175 47 [l0, l1, l2, l3] [(0, b), (0, a), v2] S h n = mx_ex d 175 48 [l0, l1, l2, l3] [(0, mx_w (a + b)), v2] S h n) ∧
  (∀ (d : Nat) (l0 l1 l2 l3 : Option mx_V) (v0 v1 : mx_V) (S h : mx_H) (n : Int), mx_ex d 175 48 [l0, l1, l2, l3] [v0, v1] S h n = mx_ex d 175 49 [l0, l1, l2, l3] [(0, 1), v0, v1] S h n) ∧
  (∀ (d : Nat) (b a : Int) (l0 l1 l2 l3 : Option mx_V) (v2 : mx_V) (S h : mx_H) (n : Int), mx_ex d 175 49 [l0, l1, l2, l3] [(0, b), (0, a), v2] S h n = mx_ex d 175 50 [l0, l1, l2, l3] [(0, mx_w (a + b)), v2] S h n) ∧
  (∀ (d : Nat) (x : Int) (l0 l1 l2 : Option mx_V) (v0 v1 : mx_V) (S h : mx_H) (n : Int), mx_ex d 175 50 [l0, l1, l2, some (0, x)] [v0, v1] S h n = mx_ex d 175 51 [l0, l1, l2, some (0, x)] [(0, x), v0, v1] S h n) ∧
  (∀ (d : Nat) (v i a : Int) (l0 l1 l2 l3 : Option mx_V) (S h : mx_H) (n : Int), mx_ex d 175 51 [l0, l1, l2, l3] [(0, v), (0, i), (2, a)] S h n = mx_gd (S a (-2) = 20 ∧ 0 ≤ i ∧ i < S a (-1)) d 175 52 [l0, l1, l2, l3] [] S (mx_u h a i v) n) ∧
  (∀ (d : Nat) (l0 l1 l2 l3 : Option mx_V) (S h : mx_H) (n : Int), mx_ex d 175 52 [l0, l1, l2, l3] [] S h n = mx_ex d 175 53 [l0, l1, l2, l3] [(0, 1)] S h n) ∧
  (∀ (d : Nat) (x : Int) (l0 l1 l2 l3 : Option mx_V) (S h : mx_H) (n : Int), mx_ex d 175 53 [l0, l1, l2, l3] [(0, x)] S h n = some (some (0, x), S, h, n)) :=
  ⟨by intros; exact rfl,
   by intros; exact eq_ld rfl rfl,
   by intros; exact eq_cs rfl (Nat.le_of_ble_eq_true rfl) rfl rfl rfl (Nat.le_of_ble_eq_true rfl),
   by intros; exact eq_if0 rfl,
   by intros; exact eq_ld rfl rfl,
   by intros; exact eq_cs rfl (Nat.le_of_ble_eq_true rfl) rfl rfl rfl (Nat.le_of_ble_eq_true rfl),
   by intros; exact eq_if0 rfl,
   by intros; exact eq_ld rfl rfl,
   by intros; exact eq_cs rfl (Nat.le_of_ble_eq_true rfl) rfl rfl rfl (Nat.le_of_ble_eq_true rfl),
   by intros; exact eq_if0 rfl,
   by intros; exact eq_ld rfl rfl,
   by intros; exact eq_ld rfl rfl,
   by intros; exact eq_ic3 rfl,
   by intros; exact eq_push rfl,
   by intros; exact eq_ret rfl,
   by intros; exact eq_ld rfl rfl,
   by intros; exact eq_gr rfl,
   by intros; exact eq_push rfl,
   by intros; exact eq_push rfl,
   by intros; exact eq_ld rfl rfl,
   by intros; exact eq_i2 (o := mx_mul) rfl,
   by intros; exact eq_i2 (o := mx_add) rfl,
   by intros; exact eq_ld rfl rfl,
   by intros; exact eq_iast rfl,
   by intros; exact eq_ld rfl rfl,
   by intros; exact eq_gr rfl,
   by intros; exact eq_push rfl,
   by intros; exact eq_push rfl,
   by intros; exact eq_ld rfl rfl,
   by intros; exact eq_i2 (o := mx_mul) rfl,
   by intros; exact eq_i2 (o := mx_add) rfl,
   by intros; exact eq_push rfl,
   by intros; exact eq_i2 (o := mx_add) rfl,
   by intros; exact eq_ld rfl rfl,
   by intros; exact eq_iast rfl,
   by intros; exact eq_push rfl,
   by intros; exact eq_ret rfl⟩
theorem rh_X12_eveningOf_41 : ∀ (d : Nat) (x : Int) (l0 l1 l2 l3 : Option mx_V) (S h : mx_H) (n : Int), mx_ex d 176 41 [l0, l1, l2, l3, some (0, x)] [] S h n = mx_ex d 176 43 [l0, l1, l2, l3, some (0, x)] [(0, x)] S h n := by intros; exact eq_ld rfl rfl
theorem rw_X12_eveningOf :
  (∀ (d : Nat) (a0 a1 a2 : Int) (S h : mx_H) (n : Int), mx_M d 176 [(2, a0), (0, a1), (0, a2)] S h n = mx_ex d 176 0 [some (2, a0), some (0, a1), some (0, a2), none, none] [] S h n) ∧
  (∀ (d : Nat) (x : Int) (l0 l2 l3 l4 : Option mx_V) (S h : mx_H) (n : Int), mx_ex d 176 0 [l0, some (0, x), l2, l3, l4] [] S h n = mx_ex d 176 1 [l0, some (0, x), l2, l3, l4] [(0, x)] S h n) ∧
  (∀ (d : Nat) (x0 : Int) (l0 l1 l2 l3 l4 : Option mx_V) (S h : mx_H) (n : Int), mx_ex (d + 1) 176 1 [l0, l1, l2, l3, l4] [(0, x0)] S h n = mx_rt (mx_M d 159 [(0, x0)] S h n) (d + 1) 176 4 [l0, l1, l2, l3, l4] []) ∧
  (∀ (d : Nat) (a : Int) (l0 l1 l2 l3 l4 : Option mx_V) (S h : mx_H) (n : Int), mx_ex d 176 4 [l0, l1, l2, l3, l4] [(0, a)] S h n = mx_br (a = 0) d 176 16 7 [l0, l1, l2, l3, l4] [] S h n) ∧
  (∀ (d : Nat) (x : Int) (l0 l1 l3 l4 : Option mx_V) (S h : mx_H) (n : Int), mx_ex d 176 7 [l0, l1, some (0, x), l3, l4] [] S h n = mx_ex d 176 8 [l0, l1, some (0, x), l3, l4] [(0, x)] S h n) ∧
  (∀ (d : Nat) (l0 l1 l2 l3 l4 : Option mx_V) (v0 : mx_V) (S h : mx_H) (n : Int), mx_ex d 176 8 [l0, l1, l2, l3, l4] [v0] S h n = mx_ex d 176 9 [l0, l1, l2, l3, l4] [(0, 0), v0] S h n) ∧
  (∀ (d : Nat) (l0 l1 l2 l3 l4 : Option mx_V) (v0 v1 : mx_V) (S h : mx_H) (n : Int), mx_ex d 176 9 [l0, l1, l2, l3, l4] [v0, v1] S h n = mx_ex d 176 10 [l0, l1, l2, l3, l4] [(0, 2), v0, v1] S h n) ∧
  (∀ (d : Nat) (x0 x1 x2 : Int) (l0 l1 l2 l3 l4 : Option mx_V) (S h : mx_H) (n : Int), mx_ex (d + 1) 176 10 [l0, l1, l2, l3, l4] [(0, x0), (0, x1), (0, x2)] S h n = mx_rt (mx_M d 157 [(0, x2), (0, x1), (0, x0)] S h n) (d + 1) 176 13 [l0, l1, l2, l3, l4] []) ∧
  (∀ (d : Nat) (a : Int) (l0 l1 l2 l3 l4 : Option mx_V) (S h : mx_H) (n : Int), mx_ex d 176 13 [l0, l1, l2, l3, l4] [(0, a)] S h n = mx_br (a = 0) d 176 16 18 [l0, l1, l2, l3, l4] [] S h n) ∧
  (∀ (d : Nat) (l0 l1 l2 l3 l4 : Option mx_V) (S h : mx_H) (n : Int), mx_ex d 176 16 [l0, l1, l2, l3, l4] [] S h n = mx_ex d 176 17 [l0, l1, l2, l3, l4] [(0, (-1))] S h n) ∧
  (∀ (d : Nat) (x : Int) (l0 l1 l2 l3 l4 : Option mx_V) (S h : mx_H) (n : Int), mx_ex d 176 17 [l0, l1, l2, l3, l4] [(0, x)] S h n = some (some (0, x), S, h, n)) ∧
  (∀ (d : Nat) (x : Int) (l0 l1 l3 l4 : Option mx_V) (S h : mx_H) (n : Int), mx_ex d 176 18 [l0, l1, some (0, x), l3, l4] [] S h n = mx_ex d 176 19 [l0, l1, some (0, x), l3, l4] [(0, x)] S h n) ∧
  (∀ (d : Nat) (l0 l1 l2 l3 l4 : Option mx_V) (v0 : mx_V) (S h : mx_H) (n : Int), mx_ex d 176 19 [l0, l1, l2, l3, l4] [v0] S h n = mx_ex d 176 20 [l0, l1, l2, l3, l4] [(0, 2), v0] S h n) ∧
  (∀ (d : Nat) (b a : Int) (l0 l1 l2 l3 l4 : Option mx_V) (S h : mx_H) (n : Int), mx_ex d 176 20 [l0, l1, l2, l3, l4] [(0, b), (0, a)] S h n = mx_br (a < b) d 176 23 36 [l0, l1, l2, l3, l4] [] S h n) ∧
  (∀ (d : Nat) (x : Int) (l1 l2 l3 l4 : Option mx_V) (S h : mx_H) (n : Int), mx_ex d 176 23 [some (2, x), l1, l2, l3, l4] [] S h n = mx_ex d 176 24 [some (2, x), l1, l2, l3, l4] [(2, x)] S h n) ∧
  (∀ (d : Nat) (a : Int) (l0 l1 l2 l3 l4 : Option mx_V) (S h : mx_H) (n : Int), mx_ex d 176 24 [l0, l1, l2, l3, l4] [(2, a)] S h n = mx_gd (13 ≤ S a (-2) ∧ S a (-2) ≤ 13) d 176 27 [l0, l1, l2, l3, l4] [(2, S a 0)] S h n) ∧
  (∀ (d : Nat) (l0 l1 l2 l3 l4 : Option mx_V) (v0 : mx_V) (S h : mx_H) (n : Int), mx_ex d 176 27 [l0, l1, l2, l3, l4] [v0] S h n = mx_ex d 176 28 [l0, l1, l2, l3, l4] [(0, 3), v0] S h n) ∧
  (∀ (d : Nat) (l0 l1 l2 l3 l4 : Option mx_V) (v0 v1 : mx_V) (S h : mx_H) (n : Int), mx_ex d 176 28 [l0, l1, l2, l3, l4] [v0, v1] S h n = mx_ex d 176 29 [l0, l1, l2, l3, l4] [(0, 2), v0, v1] S h n) ∧
  (∀ (d : Nat) (x : Int) (l0 l2 l3 l4 : Option mx_V) (v0 v1 v2 : mx_V) (S h : mx_H) (n : Int), mx_ex d 176 29 [l0, some (0, x), l2, l3, l4] [v0, v1, v2] S h n = mx_ex d 176 30 [l0, some (0, x), l2, l3, l4] [(0, x), v0, v1, v2] S h n) ∧
  (∀ (d : Nat) (b a : Int) (l0 l1 l2 l3 l4 : Option mx_V) (v2 v3 : mx_V) (S h : mx_H) (n : Int), mx_ex d 176 30 [l0, l1, l2, l3, l4] [(0, b), (0, a), v2, v3] S h n = mx_ex d 176 31 [l0, l1, l2, l3, l4] [(0, mx_w (a * b)), v2, v3] S h n) ∧
  (∀ (d : Nat) (b a : Int) (l0 l1 l2 l3 l4 : Option mx_V) (v2 : mx_V) (S h : mx_H) (n : Int), mx_ex d 176 31 [l0, l1, l2, l3, l4] [(0, b), (0, a), v2] S h n = mx_ex d 176 32 [l0, l1, l2, l3, l4] [(0, mx_w (a + b)), v2] S h n) ∧
  (∀ (d : Nat) (x : Int) (l0 l1 l3 l4 : Option mx_V) (v0 v1 : mx_V) (S h : mx_H) (n : Int), mx_ex d 176 32 [l0, l1, some (0, x), l3, l4] [v0, v1] S h n = mx_ex d 176 33 [l0, l1, some (0, x), l3, l4] [(0, x), v0, v1] S h n) ∧
  (∀ (d : Nat) (b a : Int) (l0 l1 l2 l3 l4 : Option mx_V) (v2 : mx_V) (S h : mx_H) (n : Int), mx_ex d 176 33 [l0, l1, l2, l3, l4] [(0, b), (0, a), v2] S h n = mx_ex d 176 34 [l0, l1, l2, l3, l4] [(0, mx_w (a + b)), v2] S h n) ∧
  (∀ (d : Nat) (i a : Int) (l0 l1 l2 l3 l4 : Option mx_V) (S h : mx_H) (n : Int), mx_ex d 176 34 [l0, l1, l2, l3, l4] [(0, i), (2, a)] S h n = mx_gd ((S a (-2) = 20 ∨ S a (-2) = 24) ∧ 0 ≤ i ∧ i < S a (-1)) d 176 35 [l0, l1, l2, l3, l4] [(0, h a i)] S h n) ∧
  (∀ (d : Nat) (x : Int) (l0 l1 l2 l3 l4 : Option mx_V) (S h : mx_H) (n : Int), mx_ex d 176 35 [l0, l1, l2, l3, l4] [(0, x)] S h n = some (some (0, x), S, h, n)) ∧
  (∀ (d : Nat) (l0 l1 l2 l3 l4 : Option mx_V) (S h : mx_H) (n : Int), mx_ex d 176 36 [l0, l1, l2, l3, l4] [] S h n = mx_ex d 176 37 [l0, l1, l2, l3, l4] [(0, 0)] S h n) ∧
  (∀ (d : Nat) (x : Int) (l0 l1 l2 l3 l4 : Option mx_V) (S h : mx_H) (n : Int), mx_ex d 176 37 [l0, l1, l2, l3, l4] [(0, x)] S h n = mx_ex d 176 38 [l0, l1, mx_nl l2, some (0, x), l4] [] S h n) ∧
  (∀ (d : Nat) (l0 l1 l2 l3 l4 : Option mx_V) (S h : mx_H) (n : Int), mx_ex d 176 38 [l0, l1, l2, l3, l4] [] S h n = mx_ex d 176 39 [l0, l1, l2, l3, l4] [(0, 0)] S h n) ∧
  (∀ (d : Nat) (x : Int) (l0 l1 l2 l3 l4 : Option mx_V) (S h : mx_H) (n : Int), mx_ex d 176 39 [l0, l1, l2, l3, l4] [(0, x)] S h n = mx_ex d 176 41 [l0, l1, l2, mx_nl l3, some (0, x)] [] S h n) ∧
  (∀ (d : Nat) (x : Int) (l1 l2 l3 l4 : Option mx_V) (v0 : mx_V) (S h : mx_H) (n : Int), mx_ex d 176 43 [some (2, x), l1, l2, l3, l4] [v0] S h n = mx_ex d 176 44 [some (2, x), l1, l2, l3, l4] [(2, x), v0] S h n) ∧
  (∀ (d : Nat) (a : Int) (l0 l1 l2 l3 l4 : Option mx_V) (v1 : mx_V) (S h : mx_H) (n : Int), mx_ex d 176 44 [l0, l1, l2, l3, l4] [(2, a), v1] S h n = mx_gd (13 ≤ S a (-2) ∧ S a (-2) ≤ 13) d 176 47 [l0, l1, l2, l3, l4] [(2, S a 0), v1] S h n) ∧
  (∀ (d : Nat) (l0 l1 l2 l3 l4 : Option mx_V) (v0 v1 : mx_V) (S h : mx_H) (n : Int), mx_ex d 176 47 [l0, l1, l2, l3, l4] [v0, v1] S h n = mx_ex d 176 48 [l0, l1, l2, l3, l4] [(0, 0), v0, v1] S h n) ∧
  (∀ (d : Nat) (i a : Int) (l0 l1 l2 l3 l4 : Option mx_V) (v2 : mx_V) (S h : mx_H) (n : Int), mx_ex d 176 48 [l0, l1, l2, l3, l4] [(0, i), (2, a), v2] S h n = mx_gd ((S a (-2) = 20 ∨ S a (-2) = 24) ∧ 0 ≤ i ∧ i < S a (-1)) d 176 49 [l0, l1, l2, l3, l4] [(0, h a i), v2] S h n) ∧
  (∀ (d : Nat) (b a : Int) (l0 l1 l2 l3 l4 : Option mx_V) (S h : mx_H) (n : Int), mx_ex d 176 49 [l0, l1, l2, l3, l4] [(0, b), (0, a)] S h n = mx_br (a < b) d 176 52 80 [l0, l1, l2, l3, l4] [] S h n) ∧
  (∀ (d : Nat) (x : Int) (l0 l1 l2 l4 : Option mx_V) (S h : mx_H) (n : Int), mx_ex d 176 52 [l0, l1, l2, some (0, x), l4] [] S h n = mx_ex d 176 53 [l0, l1, l2, some (0, x), l4] [(0, x)] S h n) ∧
  (∀ (d : Nat) (x : Int) (l1 l2 l3 l4 : Option mx_V) (v0 : mx_V) (S h : mx_H) (n : Int), mx_ex d 176 53 [some (2, x), l1, l2, l3, l4] [v0] S h n = mx_ex d 176 54 [some (2, x), l1, l2, l3, l4] [(2, x), v0] S h n) ∧
  (∀ (d : Nat) (x : Int) (l0 l1 l2 l3 : Option mx_V) (v0 v1 : mx_V) (S h : mx_H) (n : Int), mx_ex d 176 54 [l0, l1, l2, l3, some (0, x)] [v0, v1] S h n = mx_ex d 176 56 [l0, l1, l2, l3, some (0, x)] [(0, x), v0, v1] S h n) ∧
  (∀ (d : Nat) (l0 l1 l2 l3 l4 : Option mx_V) (v0 v1 v2 : mx_V) (S h : mx_H) (n : Int), mx_ex d 176 56 [l0, l1, l2, l3, l4] [v0, v1, v2] S h n = mx_ex d 176 57 [l0, l1, l2, l3, l4] [(0, 1), v0, v1, v2] S h n) ∧
  (∀ (d : Nat) (x0 x1 a : Int) (l0 l1 l2 l3 l4 : Option mx_V) (v3 : mx_V) (S h : mx_H) (n : Int), mx_ex (d + 1) 176 57 [l0, l1, l2, l3, l4] [(0, x0), (0, x1), (2, a), v3] S h n = mx_cl (S a (-2) = 13) d 161 [(2, a), (0, x1), (0, x0)] 176 60 [l0, l1, l2, l3, l4] [v3] S h n) ∧
  (∀ (d : Nat) (x : Int) (l0 l2 l3 l4 : Option mx_V) (v0 v1 : mx_V) (S h : mx_H) (n : Int), mx_ex d 176 60 [l0, some (0, x), l2, l3, l4] [v0, v1] S h n = mx_ex d 176 61 [l0, some (0, x), l2, l3, l4] [(0, x), v0, v1] S h n) ∧
  (∀ (d : Nat) (b a : Int) (l0 l1 l2 l3 l4 : Option mx_V) (v2 : mx_V) (S h : mx_H) (n : Int), mx_ex d 176 61 [l0, l1, l2, l3, l4] [(0, b), (0, a), v2] S h n = mx_br (a = b) d 176 64 71 [l0, l1, l2, l3, l4] [v2] S h n) ∧
  (∀ (d : Nat) (l0 l1 l2 l3 l4 : Option mx_V) (v0 : mx_V) (S h : mx_H) (n : Int), mx_ex d 176 64 [l0, l1, l2, l3, l4] [v0] S h n = mx_ex d 176 65 [l0, l1, l2, l3, l4] [(0, 1), v0] S h n) ∧
  (∀ (d : Nat) (x : Int) (l0 l1 l2 l3 : Option mx_V) (v0 v1 : mx_V) (S h : mx_H) (n : Int), mx_ex d 176 65 [l0, l1, l2, l3, some (0, x)] [v0, v1] S h n = mx_ex d 176 67 [l0, l1, l2, l3, some (0, x)] [(0, x), v0, v1] S h n) ∧
  (∀ (d : Nat) (b a : Int) (l0 l1 l2 l3 l4 : Option mx_V) (v2 : mx_V) (S h : mx_H) (n : Int), mx_ex d 176 67 [l0, l1, l2, l3, l4] [(0, b), (0, a), v2] S h n = mx_ex d 176 68 [l0, l1, l2, l3, l4] [(0, mx_shl a b), v2] S h n) ∧
  (∀ (d : Nat) (l0 l1 l2 l3 l4 : Option mx_V) (v0 v1 : mx_V) (S h : mx_H) (n : Int), mx_ex d 176 68 [l0, l1, l2, l3, l4] [v0, v1] S h n = mx_ex d 176 72 [l0, l1, l2, l3, l4] [v0, v1] S h n) ∧
  (∀ (d : Nat) (l0 l1 l2 l3 l4 : Option mx_V) (v0 : mx_V) (S h : mx_H) (n : Int), mx_ex d 176 71 [l0, l1, l2, l3, l4] [v0] S h n = mx_ex d 176 72 [l0, l1, l2, l3, l4] [(0, 0), v0] S h n) ∧
  (∀ (d : Nat) (b a : Int) (l0 l1 l2 l3 l4 : Option mx_V) (S h : mx_H) (n : Int), mx_ex d 176 72 [l0, l1, l2, l3, l4] [(0, b), (0, a)] S h n = mx_ex d 176 73 [l0, l1, l2, l3, l4] [(0, mx_or a b)] S h n) ∧
  (∀ (d : Nat) (x : Int) (l0 l1 l2 l3 l4 : Option mx_V) (S h : mx_H) (n : Int), mx_ex d 176 73 [l0, l1, l2, l3, l4] [(0, x)] S h n = mx_ex d 176 74 [l0, l1, mx_nl l2, some (0, x), l4] [] S h n) ∧
  (∀ (d : Nat) (x : Int) (l0 l1 l2 l3 : Option mx_V) (S h : mx_H) (n : Int), mx_ex d 176 74 [l0, l1, l2, l3, some (0, x)] [] S h n = mx_ex d 176 77 [l0, l1, l2, mx_nl l3, some (0, mx_w (x + 1))] [] S h n) ∧
  (∀ (d : Nat) (l0 l1 l2 l3 l4 : Option mx_V) (S h : mx_H) (n : Int), mx_ex d 176 77 [l0, l1, l2, l3, l4] [] S h n = mx_ex d 176 41 [l0, l1, l2, l3, l4] [] S h n) ∧
  (∀ (d : Nat) (x : Int) (l0 l1 l2 l4 : Option mx_V) (S h : mx_H) (n : Int), mx_ex d 176 80 [l0, l1, l2, some (0, x), l4] [] S h n = mx_ex d 176 81 [l0, l1, l2, some (0, x), l4] [(0, x)] S h n) ∧
  (∀ (d : Nat) (x : Int) (l0 l1 l2 l3 l4 : Option mx_V) (S h : mx_H) (n : Int), mx_ex d 176 81 [l0, l1, l2, l3, l4] [(0, x)] S h n = some (some (0, x), S, h, n)) :=
  ⟨by intros; exact rfl,
   by intros; exact eq_ld rfl rfl,
   by intros; exact eq_cs rfl (Nat.le_of_ble_eq_true rfl) rfl rfl rfl (Nat.le_of_ble_eq_true rfl),
   by intros; exact eq_if0 rfl,
   by intros; exact eq_ld rfl rfl,
   by intros; exact eq_push rfl,
   by intros; exact eq_push rfl,
   by intros; exact eq_cs rfl (Nat.le_of_ble_eq_true rfl) rfl rfl rfl (Nat.le_of_ble_eq_true rfl),
   by intros; exact eq_if1 rfl,
   by intros; exact eq_push rfl,
   by intros; exact eq_ret rfl,
   by intros; exact eq_ld rfl rfl,
   by intros; exact eq_push rfl,
   by intros; exact eq_ic3 rfl,
   by intros; exact eq_ld rfl rfl,
   by intros; exact eq_gr rfl,
   by intros; exact eq_push rfl,
   by intros; exact eq_push rfl,
   by intros; exact eq_ld rfl rfl,
   by intros; exact eq_i2 (o := mx_mul) rfl,
   by intros; exact eq_i2 (o := mx_add) rfl,
   by intros; exact eq_ld rfl rfl,
   by intros; exact eq_i2 (o := mx_add) rfl,
   by intros; exact eq_iald rfl,
   by intros; exact eq_ret rfl,
   by intros; exact eq_push rfl,
   by intros; exact eq_st rfl (by decide) (Nat.le_of_ble_eq_true rfl) rfl,
   by intros; exact eq_push rfl,
   by intros; exact eq_st rfl (by decide) (Nat.le_of_ble_eq_true rfl) rfl,
   by intros; exact eq_ld rfl rfl,
   by intros; exact eq_gr rfl,
   by intros; exact eq_push rfl,
   by intros; exact eq_iald rfl,
   by intros; exact eq_ic3 rfl,
   by intros; exact eq_ld rfl rfl,
   by intros; exact eq_ld rfl rfl,
   by intros; exact eq_ld rfl rfl,
   by intros; exact eq_push rfl,
   by intros; exact eq_cv rfl (Nat.le_of_ble_eq_true rfl) rfl rfl rfl (Nat.le_of_ble_eq_true rfl),
   by intros; exact eq_ld rfl rfl,
   by intros; exact eq_ic1 rfl,
   by intros; exact eq_push rfl,
   by intros; exact eq_ld rfl rfl,
   by intros; exact eq_i2 (o := mx_shl) rfl,
   by intros; exact eq_go rfl,
   by intros; exact eq_push rfl,
   by intros; exact eq_i2 (o := mx_or) rfl,
   by intros; exact eq_st rfl (by decide) (Nat.le_of_ble_eq_true rfl) rfl,
   by intros; exact eq_inc rfl rfl rfl,
   by intros; exact eq_go rfl,
   by intros; exact eq_ld rfl rfl,
   by intros; exact eq_ret rfl⟩
theorem rh_X12_note_116 : ∀ (d : Nat) (x : Int) (l0 l1 l2 l3 l4 l5 l6 : Option mx_V) (S h : mx_H) (n : Int), mx_ex d 177 116 [l0, l1, l2, l3, l4, l5, l6, some (0, x)] [] S h n = mx_ex d 177 118 [l0, l1, l2, l3, l4, l5, l6, some (0, x)] [(0, x)] S h n := by intros; exact eq_ld rfl rfl
theorem rw_X12_note :
  (∀ (d : Nat) (a0 a1 a2 a3 a4 a5 : Int) (S h : mx_H) (n : Int), mx_M d 177 [(2, a0), (0, a1), (0, a2), (0, a3), (0, a4), (0, a5)] S h n = mx_ex d 177 0 [some (2, a0), some (0, a1), some (0, a2), some (0, a3), some (0, a4), some (0, a5), none, none] [] S h n) ∧
  (∀ (d : Nat) (x : Int) (l0 l2 l3 l4 l5 l6 l7 : Option mx_V) (S h : mx_H) (n : Int), mx_ex d 177 0 [l0, some (0, x), l2, l3, l4, l5, l6, l7] [] S h n = mx_ex d 177 1 [l0, some (0, x), l2, l3, l4, l5, l6, l7] [(0, x)] S h n) ∧
  (∀ (d : Nat) (l0 l1 l2 l3 l4 l5 l6 l7 : Option mx_V) (v0 : mx_V) (S h : mx_H) (n : Int), mx_ex d 177 1 [l0, l1, l2, l3, l4, l5, l6, l7] [v0] S h n = mx_ex d 177 2 [l0, l1, l2, l3, l4, l5, l6, l7] [(0, 0), v0] S h n) ∧
  (∀ (d : Nat) (l0 l1 l2 l3 l4 l5 l6 l7 : Option mx_V) (v0 v1 : mx_V) (S h : mx_H) (n : Int), mx_ex d 177 2 [l0, l1, l2, l3, l4, l5, l6, l7] [v0, v1] S h n = mx_ex d 177 3 [l0, l1, l2, l3, l4, l5, l6, l7] [(0, 5), v0, v1] S h n) ∧
  (∀ (d : Nat) (x0 x1 x2 : Int) (l0 l1 l2 l3 l4 l5 l6 l7 : Option mx_V) (S h : mx_H) (n : Int), mx_ex (d + 1) 177 3 [l0, l1, l2, l3, l4, l5, l6, l7] [(0, x0), (0, x1), (0, x2)] S h n = mx_rt (mx_M d 157 [(0, x2), (0, x1), (0, x0)] S h n) (d + 1) 177 6 [l0, l1, l2, l3, l4, l5, l6, l7] []) ∧
  (∀ (d : Nat) (a : Int) (l0 l1 l2 l3 l4 l5 l6 l7 : Option mx_V) (S h : mx_H) (n : Int), mx_ex d 177 6 [l0, l1, l2, l3, l4, l5, l6, l7] [(0, a)] S h n = mx_br (a = 0) d 177 42 9 [l0, l1, l2, l3, l4, l5, l6, l7] [] S h n) ∧
  (∀ (d : Nat) (x : Int) (l0 l1 l3 l4 l5 l6 l7 : Option mx_V) (S h : mx_H) (n : Int), mx_ex d 177 9 [l0, l1, some (0, x), l3, l4, l5, l6, l7] [] S h n = mx_ex d 177 10 [l0, l1, some (0, x), l3, l4, l5, l6, l7] [(0, x)] S h n) ∧
  (∀ (d : Nat) (x0 : Int) (l0 l1 l2 l3 l4 l5 l6 l7 : Option mx_V) (S h : mx_H) (n : Int), mx_ex (d + 1) 177 10 [l0, l1, l2, l3, l4, l5, l6, l7] [(0, x0)] S h n = mx_rt (mx_M d 159 [(0, x0)] S h n) (d + 1) 177 13 [l0, l1, l2, l3, l4, l5, l6, l7] []) ∧
  (∀ (d : Nat) (a : Int) (l0 l1 l2 l3 l4 l5 l6 l7 : Option mx_V) (S h : mx_H) (n : Int), mx_ex d 177 13 [l0, l1, l2, l3, l4, l5, l6, l7] [(0, a)] S h n = mx_br (a = 0) d 177 42 16 [l0, l1, l2, l3, l4, l5, l6, l7] [] S h n) ∧
  (∀ (d : Nat) (x : Int) (l0 l1 l2 l4 l5 l6 l7 : Option mx_V) (S h : mx_H) (n : Int), mx_ex d 177 16 [l0, l1, l2, some (0, x), l4, l5, l6, l7] [] S h n = mx_ex d 177 17 [l0, l1, l2, some (0, x), l4, l5, l6, l7] [(0, x)] S h n) ∧
  (∀ (d : Nat) (l0 l1 l2 l3 l4 l5 l6 l7 : Option mx_V) (v0 : mx_V) (S h : mx_H) (n : Int), mx_ex d 177 17 [l0, l1, l2, l3, l4, l5, l6, l7] [v0] S h n = mx_ex d 177 18 [l0, l1, l2, l3, l4, l5, l6, l7] [(0, 0), v0] S h n) ∧
  (∀ (d : Nat) (l0 l1 l2 l3 l4 l5 l6 l7 : Option mx_V) (v0 v1 : mx_V) (S h : mx_H) (n : Int), mx_ex d 177 18 [l0, l1, l2, l3, l4, l5, l6, l7] [v0, v1] S h n = mx_ex d 177 20 [l0, l1, l2, l3, l4, l5, l6, l7] [(0, 6), v0, v1] S h n) ∧
  (∀ (d : Nat) (x0 x1 x2 : Int) (l0 l1 l2 l3 l4 l5 l6 l7 : Option mx_V) (S h : mx_H) (n : Int), mx_ex (d + 1) 177 20 [l0, l1, l2, l3, l4, l5, l6, l7] [(0, x0), (0, x1), (0, x2)] S h n = mx_rt (mx_M d 157 [(0, x2), (0, x1), (0, x0)] S h n) (d + 1) 177 23 [l0, l1, l2, l3, l4, l5, l6, l7] []) ∧
  (∀ (d : Nat) (a : Int) (l0 l1 l2 l3 l4 l5 l6 l7 : Option mx_V) (S h : mx_H) (n : Int), mx_ex d 177 23 [l0, l1, l2, l3, l4, l5, l6, l7] [(0, a)] S h n = mx_br (a = 0) d 177 42 26 [l0, l1, l2, l3, l4, l5, l6, l7] [] S h n) ∧
  (∀ (d : Nat) (x : Int) (l0 l1 l2 l3 l5 l6 l7 : Option mx_V) (S h : mx_H) (n : Int), mx_ex d 177 26 [l0, l1, l2, l3, some (0, x), l5, l6, l7] [] S h n = mx_ex d 177 28 [l0, l1, l2, l3, some (0, x), l5, l6, l7] [(0, x)] S h n) ∧
  (∀ (d : Nat) (l0 l1 l2 l3 l4 l5 l6 l7 : Option mx_V) (v0 : mx_V) (S h : mx_H) (n : Int), mx_ex d 177 28 [l0, l1, l2, l3, l4, l5, l6, l7] [v0] S h n = mx_ex d 177 29 [l0, l1, l2, l3, l4, l5, l6, l7] [(0, 1), v0] S h n) ∧
  (∀ (d : Nat) (l0 l1 l2 l3 l4 l5 l6 l7 : Option mx_V) (v0 v1 : mx_V) (S h : mx_H) (n : Int), mx_ex d 177 29 [l0, l1, l2, l3, l4, l5, l6, l7] [v0, v1] S h n = mx_ex d 177 31 [l0, l1, l2, l3, l4, l5, l6, l7] [(0, 6), v0, v1] S h n) ∧
  (∀ (d : Nat) (x0 x1 x2 : Int) (l0 l1 l2 l3 l4 l5 l6 l7 : Option mx_V) (S h : mx_H) (n : Int), mx_ex (d + 1) 177 31 [l0, l1, l2, l3, l4, l5, l6, l7] [(0, x0), (0, x1), (0, x2)] S h n = mx_rt (mx_M d 157 [(0, x2), (0, x1), (0, x0)] S h n) (d + 1) 177 34 [l0, l1, l2, l3, l4, l5, l6, l7] []) ∧
  (∀ (d : Nat) (a : Int) (l0 l1 l2 l3 l4 l5 l6 l7 : Option mx_V) (S h : mx_H) (n : Int), mx_ex d 177 34 [l0, l1, l2, l3, l4, l5, l6, l7] [(0, a)] S h n = mx_br (a = 0) d 177 42 37 [l0, l1, l2, l3, l4, l5, l6, l7] [] S h n) ∧
  (∀ (d : Nat) (x : Int) (l0 l1 l2 l3 l4 l6 l7 : Option mx_V) (S h : mx_H) (n : Int), mx_ex d 177 37 [l0, l1, l2, l3, l4, some (0, x), l6, l7] [] S h n = mx_ex d 177 39 [l0, l1, l2, l3, l4, some (0, x), l6, l7] [(0, x)] S h n) ∧
  (∀ (d : Nat) (a : Int) (l0 l1 l2 l3 l4 l5 l6 l7 : Option mx_V) (S h : mx_H) (n : Int), mx_ex d 177 39 [l0, l1, l2, l3, l4, l5, l6, l7] [(0, a)] S h n = mx_br (a < 0) d 177 42 44 [l0, l1, l2, l3, l4, l5, l6, l7] [] S h n) ∧
  (∀ (d : Nat) (l0 l1 l2 l3 l4 l5 l6 l7 : Option mx_V) (S h : mx_H) (n : Int), mx_ex d 177 42 [l0, l1, l2, l3, l4, l5, l6, l7] [] S h n = mx_ex d 177 43 [l0, l1, l2, l3, l4, l5, l6, l7] [(0, (-1))] S h n) ∧
  (∀ (d : Nat) (x : Int) (l0 l1 l2 l3 l4 l5 l6 l7 : Option mx_V) (S h : mx_H) (n : Int), mx_ex d 177 43 [l0, l1, l2, l3, l4, l5, l6, l7] [(0, x)] S h n = some (some (0, x), S, h, n)) ∧
  (∀ (d : Nat) (x : Int) (l1 l2 l3 l4 l5 l6 l7 : Option mx_V) (S h : mx_H) (n : Int), mx_ex d 177 44 [some (2, x), l1, l2, l3, l4, l5, l6, l7] [] S h n = mx_ex d 177 45 [some (2, x), l1, l2, l3, l4, l5, l6, l7] [(2, x)] S h n) ∧
  (∀ (d : Nat) (a : Int) (l0 l1 l2 l3 l4 l5 l6 l7 : Option mx_V) (S h : mx_H) (n : Int), mx_ex d 177 45 [l0, l1, l2, l3, l4, l5, l6, l7] [(2, a)] S h n = mx_gd (13 ≤ S a (-2) ∧ S a (-2) ≤ 13) d 177 48 [l0, l1, l2, l3, l4, l5, l6, l7] [(2, S a 0)] S h n) ∧
  (∀ (d : Nat) (l0 l1 l2 l3 l4 l5 l6 l7 : Option mx_V) (v0 : mx_V) (S h : mx_H) (n : Int), mx_ex d 177 48 [l0, l1, l2, l3, l4, l5, l6, l7] [v0] S h n = mx_ex d 177 49 [l0, l1, l2, l3, l4, l5, l6, l7] [(0, 0), v0] S h n) ∧
  (∀ (d : Nat) (i a : Int) (l0 l1 l2 l3 l4 l5 l6 l7 : Option mx_V) (S h : mx_H) (n : Int), mx_ex d 177 49 [l0, l1, l2, l3, l4, l5, l6, l7] [(0, i), (2, a)] S h n = mx_gd ((S a (-2) = 20 ∨ S a (-2) = 24) ∧ 0 ≤ i ∧ i < S a (-1)) d 177 50 [l0, l1, l2, l3, l4, l5, l6, l7] [(0, h a i)] S h n) ∧
  (∀ (d : Nat) (l0 l1 l2 l3 l4 l5 l6 l7 : Option mx_V) (v0 : mx_V) (S h : mx_H) (n : Int), mx_ex d 177 50 [l0, l1, l2, l3, l4, l5, l6, l7] [v0] S h n = mx_ex d 177 52 [l0, l1, l2, l3, l4, l5, l6, l7] [(0, 6), v0] S h n) ∧
  (∀ (d : Nat) (b a : Int) (l0 l1 l2 l3 l4 l5 l6 l7 : Option mx_V) (S h : mx_H) (n : Int), mx_ex d 177 52 [l0, l1, l2, l3, l4, l5, l6, l7] [(0, b), (0, a)] S h n = mx_br (a = b) d 177 55 58 [l0, l1, l2, l3, l4, l5, l6, l7] [] S h n) ∧
  (∀ (d : Nat) (l0 l1 l2 l3 l4 l5 l6 l7 : Option mx_V) (S h : mx_H) (n : Int), mx_ex d 177 55 [l0, l1, l2, l3, l4, l5, l6, l7] [] S h n = mx_ex d 177 57 [l0, l1, l2, l3, l4, l5, l6, l7] [(0, (-2))] S h n) ∧
  (∀ (d : Nat) (x : Int) (l0 l1 l2 l3 l4 l5 l6 l7 : Option mx_V) (S h : mx_H) (n : Int), mx_ex d 177 57 [l0, l1, l2, l3, l4, l5, l6, l7] [(0, x)] S h n = some (some (0, x), S, h, n)) ∧
  (∀ (d : Nat) (l0 l1 l2 l3 l4 l5 l6 l7 : Option mx_V) (S h : mx_H) (n : Int), mx_ex d 177 58 [l0, l1, l2, l3, l4, l5, l6, l7] [] S h n = mx_ex d 177 60 [l0, l1, l2, l3, l4, l5, l6, l7] [(0, 9)] S h n) ∧
  (∀ (d : Nat) (l0 l1 l2 l3 l4 l5 l6 l7 : Option mx_V) (v0 : mx_V) (S h : mx_H) (n : Int), mx_ex d 177 60 [l0, l1, l2, l3, l4, l5, l6, l7] [v0] S h n = mx_ex d 177 62 [l0, l1, l2, l3, l4, l5, l6, l7] [(0, 10), v0] S h n) ∧
  (∀ (d : Nat) (x : Int) (l1 l2 l3 l4 l5 l6 l7 : Option mx_V) (v0 v1 : mx_V) (S h : mx_H) (n : Int), mx_ex d 177 62 [some (2, x), l1, l2, l3, l4, l5, l6, l7] [v0, v1] S h n = mx_ex d 177 63 [some (2, x), l1, l2, l3, l4, l5, l6, l7] [(2, x), v0, v1] S h n) ∧
  (∀ (d : Nat) (a : Int) (l0 l1 l2 l3 l4 l5 l6 l7 : Option mx_V) (v1 v2 : mx_V) (S h : mx_H) (n : Int), mx_ex d 177 63 [l0, l1, l2, l3, l4, l5, l6, l7] [(2, a), v1, v2] S h n = mx_gd (13 ≤ S a (-2) ∧ S a (-2) ≤ 13) d 177 66 [l0, l1, l2, l3, l4, l5, l6, l7] [(2, S a 0), v1, v2] S h n) ∧
  (∀ (d : Nat) (l0 l1 l2 l3 l4 l5 l6 l7 : Option mx_V) (v0 v1 v2 : mx_V) (S h : mx_H) (n : Int), mx_ex d 177 66 [l0, l1, l2, l3, l4, l5, l6, l7] [v0, v1, v2] S h n = mx_ex d 177 67 [l0, l1, l2, l3, l4, l5, l6, l7] [(0, 0), v0, v1, v2] S h n) ∧
  (∀ (d : Nat) (i a : Int) (l0 l1 l2 l3 l4 l5 l6 l7 : Option mx_V) (v2 v3 : mx_V) (S h : mx_H) (n : Int), mx_ex d 177 67 [l0, l1, l2, l3, l4, l5, l6, l7] [(0, i), (2, a), v2, v3] S h n = mx_gd ((S a (-2) = 20 ∨ S a (-2) = 24) ∧ 0 ≤ i ∧ i < S a (-1)) d 177 68 [l0, l1, l2, l3, l4, l5, l6, l7] [(0, h a i), v2, v3] S h n) ∧
  (∀ (d : Nat) (b a : Int) (l0 l1 l2 l3 l4 l5 l6 l7 : Option mx_V) (v2 : mx_V) (S h : mx_H) (n : Int), mx_ex d 177 68 [l0, l1, l2, l3, l4, l5, l6, l7] [(0, b), (0, a), v2] S h n = mx_ex d 177 69 [l0, l1, l2, l3, l4, l5, l6, l7] [(0, mx_w (a * b)), v2] S h n) ∧
  (∀ (d : Nat) (b a : Int) (l0 l1 l2 l3 l4 l5 l6 l7 : Option mx_V) (S h : mx_H) (n : Int), mx_ex d 177 69 [l0, l1, l2, l3, l4, l5, l6, l7] [(0, b), (0, a)] S h n = mx_ex d 177 70 [l0, l1, l2, l3, l4, l5, l6, l7] [(0, mx_w (a + b))] S h n) ∧
  (∀ (d : Nat) (x : Int) (l0 l1 l2 l3 l4 l5 l6 l7 : Option mx_V) (S h : mx_H) (n : Int), mx_ex d 177 70 [l0, l1, l2, l3, l4, l5, l6, l7] [(0, x)] S h n = mx_ex d 177 72 [l0, l1, l2, l3, l4, mx_nl l5, some (0, x), l7] [] S h n) ∧
  (∀ (d : Nat) (x : Int) (l1 l2 l3 l4 l5 l6 l7 : Option mx_V) (S h : mx_H) (n : Int), mx_ex d 177 72 [some (2, x), l1, l2, l3, l4, l5, l6, l7] [] S h n = mx_ex d 177 73 [some (2, x), l1, l2, l3, l4, l5, l6, l7] [(2, x)] S h n) ∧
  (∀ (d : Nat) (a : Int) (l0 l1 l2 l3 l4 l5 l6 l7 : Option mx_V) (S h : mx_H) (n : Int), mx_ex d 177 73 [l0, l1, l2, l3, l4, l5, l6, l7] [(2, a)] S h n = mx_gd (13 ≤ S a (-2) ∧ S a (-2) ≤ 13) d 177 76 [l0, l1, l2, l3, l4, l5, l6, l7] [(2, S a 0)] S h n) ∧
  (∀ (d : Nat) (x : Int) (l0 l1 l2 l3 l4 l5 l7 : Option mx_V) (v0 : mx_V) (S h : mx_H) (n : Int), mx_ex d 177 76 [l0, l1, l2, l3, l4, l5, some (0, x), l7] [v0] S h n = mx_ex d 177 78 [l0, l1, l2, l3, l4, l5, some (0, x), l7] [(0, x), v0] S h n) ∧
  (∀ (d : Nat) (l0 l1 l2 l3 l4 l5 l6 l7 : Option mx_V) (v0 v1 : mx_V) (S h : mx_H) (n : Int), mx_ex d 177 78 [l0, l1, l2, l3, l4, l5, l6, l7] [v0, v1] S h n = mx_ex d 177 79 [l0, l1, l2, l3, l4, l5, l6, l7] [(0, 0), v0, v1] S h n) ∧
  (∀ (d : Nat) (b a : Int) (l0 l1 l2 l3 l4 l5 l6 l7 : Option mx_V) (v2 : mx_V) (S h : mx_H) (n : Int), mx_ex d 177 79 [l0, l1, l2, l3, l4, l5, l6, l7] [(0, b), (0, a), v2] S h n = mx_ex d 177 80 [l0, l1, l2, l3, l4, l5, l6, l7] [(0, mx_w (a + b)), v2] S h n) ∧
  (∀ (d : Nat) (x : Int) (l0 l2 l3 l4 l5 l6 l7 : Option mx_V) (v0 v1 : mx_V) (S h : mx_H) (n : Int), mx_ex d 177 80 [l0, some (0, x), l2, l3, l4, l5, l6, l7] [v0, v1] S h n = mx_ex d 177 81 [l0, some (0, x), l2, l3, l4, l5, l6, l7] [(0, x), v0, v1] S h n) ∧
  (∀ (d : Nat) (v i a : Int) (l0 l1 l2 l3 l4 l5 l6 l7 : Option mx_V) (S h : mx_H) (n : Int), mx_ex d 177 81 [l0, l1, l2, l3, l4, l5, l6, l7] [(0, v), (0, i), (2, a)] S h n = mx_gd (S a (-2) = 20 ∧ 0 ≤ i ∧ i < S a (-1)) d 177 82 [l0, l1, l2, l3, l4, l5, l6, l7] [] S (mx_u h a i v) n) ∧
  (∀ (d : Nat) (x : Int) (l1 l2 l3 l4 l5 l6 l7 : Option mx_V) (S h : mx_H) (n : Int), mx_ex d 177 82 [some (2, x), l1, l2, l3, l4, l5, l6, l7] [] S h n = mx_ex d 177 83 [some (2, x), l1, l2, l3, l4, l5, l6, l7] [(2, x)] S h n) ∧
  (∀ (d : Nat) (a : Int) (l0 l1 l2 l3 l4 l5 l6 l7 : Option mx_V) (S h : mx_H) (n : Int), mx_ex d 177 83 [l0, l1, l2, l3, l4, l5, l6, l7] [(2, a)] S h n = mx_gd (13 ≤ S a (-2) ∧ S a (-2) ≤ 13) d 177 86 [l0, l1, l2, l3, l4, l5, l6, l7] [(2, S a 0)] S h n) ∧
  (∀ (d : Nat) (x : Int) (l0 l1 l2 l3 l4 l5 l7 : Option mx_V) (v0 : mx_V) (S h : mx_H) (n : Int), mx_ex d 177 86 [l0, l1, l2, l3, l4, l5, some (0, x), l7] [v0] S h n = mx_ex d 177 88 [l0, l1, l2, l3, l4, l5, some (0, x), l7] [(0, x), v0] S h n) ∧
  (∀ (d : Nat) (l0 l1 l2 l3 l4 l5 l6 l7 : Option mx_V) (v0 v1 : mx_V) (S h : mx_H) (n : Int), mx_ex d 177 88 [l0, l1, l2, l3, l4, l5, l6, l7] [v0, v1] S h n = mx_ex d 177 89 [l0, l1, l2, l3, l4, l5, l6, l7] [(0, 1), v0, v1] S h n) ∧
  (∀ (d : Nat) (b a : Int) (l0 l1 l2 l3 l4 l5 l6 l7 : Option mx_V) (v2 : mx_V) (S h : mx_H) (n : Int), mx_ex d 177 89 [l0, l1, l2, l3, l4, l5, l6, l7] [(0, b), (0, a), v2] S h n = mx_ex d 177 90 [l0, l1, l2, l3, l4, l5, l6, l7] [(0, mx_w (a + b)), v2] S h n) ∧
  (∀ (d : Nat) (x : Int) (l0 l1 l3 l4 l5 l6 l7 : Option mx_V) (v0 v1 : mx_V) (S h : mx_H) (n : Int), mx_ex d 177 90 [l0, l1, some (0, x), l3, l4, l5, l6, l7] [v0, v1] S h n = mx_ex d 177 91 [l0, l1, some (0, x), l3, l4, l5, l6, l7] [(0, x), v0, v1] S h n) ∧
  (∀ (d : Nat) (v i a : Int) (l0 l1 l2 l3 l4 l5 l6 l7 : Option mx_V) (S h : mx_H) (n : Int), mx_ex d 177 91 [l0, l1, l2, l3, l4, l5, l6, l7] [(0, v), (0, i), (2, a)] S h n = mx_gd (S a (-2) = 20 ∧ 0 ≤ i ∧ i < S a (-1)) d 177 92 [l0, l1, l2, l3, l4, l5, l6, l7] [] S (mx_u h a i v) n) ∧
  (∀ (d : Nat) (x : Int) (l1 l2 l3 l4 l5 l6 l7 : Option mx_V) (S h : mx_H) (n : Int), mx_ex d 177 92 [some (2, x), l1, l2, l3, l4, l5, l6, l7] [] S h n = mx_ex d 177 93 [some (2, x), l1, l2, l3, l4, l5, l6, l7] [(2, x)] S h n) ∧
  (∀ (d : Nat) (a : Int) (l0 l1 l2 l3 l4 l5 l6 l7 : Option mx_V) (S h : mx_H) (n : Int), mx_ex d 177 93 [l0, l1, l2, l3, l4, l5, l6, l7] [(2, a)] S h n = mx_gd (13 ≤ S a (-2) ∧ S a (-2) ≤ 13) d 177 96 [l0, l1, l2, l3, l4, l5, l6, l7] [(2, S a 0)] S h n) ∧
  (∀ (d : Nat) (x : Int) (l0 l1 l2 l3 l4 l5 l7 : Option mx_V) (v0 : mx_V) (S h : mx_H) (n : Int), mx_ex d 177 96 [l0, l1, l2, l3, l4, l5, some (0, x), l7] [v0] S h n = mx_ex d 177 98 [l0, l1, l2, l3, l4, l5, some (0, x), l7] [(0, x), v0] S h n) ∧
  (∀ (d : Nat) (l0 l1 l2 l3 l4 l5 l6 l7 : Option mx_V) (v0 v1 : mx_V) (S h : mx_H) (n : Int), mx_ex d 177 98 [l0, l1, l2, l3, l4, l5, l6, l7] [v0, v1] S h n = mx_ex d 177 99 [l0, l1, l2, l3, l4, l5, l6, l7] [(0, 2), v0, v1] S h n) ∧
  (∀ (d : Nat) (b a : Int) (l0 l1 l2 l3 l4 l5 l6 l7 : Option mx_V) (v2 : mx_V) (S h : mx_H) (n : Int), mx_ex d 177 99 [l0, l1, l2, l3, l4, l5, l6, l7] [(0, b), (0, a), v2] S h n = mx_ex d 177 100 [l0, l1, l2, l3, l4, l5, l6, l7] [(0, mx_w (a + b)), v2] S h n) ∧
  (∀ (d : Nat) (x : Int) (l0 l1 l2 l4 l5 l6 l7 : Option mx_V) (v0 v1 : mx_V) (S h : mx_H) (n : Int), mx_ex d 177 100 [l0, l1, l2, some (0, x), l4, l5, l6, l7] [v0, v1] S h n = mx_ex d 177 101 [l0, l1, l2, some (0, x), l4, l5, l6, l7] [(0, x), v0, v1] S h n) ∧
  (∀ (d : Nat) (v i a : Int) (l0 l1 l2 l3 l4 l5 l6 l7 : Option mx_V) (S h : mx_H) (n : Int), mx_ex d 177 101 [l0, l1, l2, l3, l4, l5, l6, l7] [(0, v), (0, i), (2, a)] S h n = mx_gd (S a (-2) = 20 ∧ 0 ≤ i ∧ i < S a (-1)) d 177 102 [l0, l1, l2, l3, l4, l5, l6, l7] [] S (mx_u h a i v) n) ∧
  (∀ (d : Nat) (x : Int) (l1 l2 l3 l4 l5 l6 l7 : Option mx_V) (S h : mx_H) (n : Int), mx_ex d 177 102 [some (2, x), l1, l2, l3, l4, l5, l6, l7] [] S h n = mx_ex d 177 103 [some (2, x), l1, l2, l3, l4, l5, l6, l7] [(2, x)] S h n) ∧
  (∀ (d : Nat) (a : Int) (l0 l1 l2 l3 l4 l5 l6 l7 : Option mx_V) (S h : mx_H) (n : Int), mx_ex d 177 103 [l0, l1, l2, l3, l4, l5, l6, l7] [(2, a)] S h n = mx_gd (13 ≤ S a (-2) ∧ S a (-2) ≤ 13) d 177 106 [l0, l1, l2, l3, l4, l5, l6, l7] [(2, S a 0)] S h n) ∧
  (∀ (d : Nat) (x : Int) (l0 l1 l2 l3 l4 l5 l7 : Option mx_V) (v0 : mx_V) (S h : mx_H) (n : Int), mx_ex d 177 106 [l0, l1, l2, l3, l4, l5, some (0, x), l7] [v0] S h n = mx_ex d 177 108 [l0, l1, l2, l3, l4, l5, some (0, x), l7] [(0, x), v0] S h n) ∧
  (∀ (d : Nat) (l0 l1 l2 l3 l4 l5 l6 l7 : Option mx_V) (v0 v1 : mx_V) (S h : mx_H) (n : Int), mx_ex d 177 108 [l0, l1, l2, l3, l4, l5, l6, l7] [v0, v1] S h n = mx_ex d 177 109 [l0, l1, l2, l3, l4, l5, l6, l7] [(0, 3), v0, v1] S h n) ∧
  (∀ (d : Nat) (b a : Int) (l0 l1 l2 l3 l4 l5 l6 l7 : Option mx_V) (v2 : mx_V) (S h : mx_H) (n : Int), mx_ex d 177 109 [l0, l1, l2, l3, l4, l5, l6, l7] [(0, b), (0, a), v2] S h n = mx_ex d 177 110 [l0, l1, l2, l3, l4, l5, l6, l7] [(0, mx_w (a + b)), v2] S h n) ∧
  (∀ (d : Nat) (x : Int) (l0 l1 l2 l3 l5 l6 l7 : Option mx_V) (v0 v1 : mx_V) (S h : mx_H) (n : Int), mx_ex d 177 110 [l0, l1, l2, l3, some (0, x), l5, l6, l7] [v0, v1] S h n = mx_ex d 177 112 [l0, l1, l2, l3, some (0, x), l5, l6, l7] [(0, x), v0, v1] S h n) ∧
  (∀ (d : Nat) (v i a : Int) (l0 l1 l2 l3 l4 l5 l6 l7 : Option mx_V) (S h : mx_H) (n : Int), mx_ex d 177 112 [l0, l1, l2, l3, l4, l5, l6, l7] [(0, v), (0, i), (2, a)] S h n = mx_gd (S a (-2) = 20 ∧ 0 ≤ i ∧ i < S a (-1)) d 177 113 [l0, l1, l2, l3, l4, l5, l6, l7] [] S (mx_u h a i v) n) ∧
  (∀ (d : Nat) (l0 l1 l2 l3 l4 l5 l6 l7 : Option mx_V) (S h : mx_H) (n : Int), mx_ex d 177 113 [l0, l1, l2, l3, l4, l5, l6, l7] [] S h n = mx_ex d 177 114 [l0, l1, l2, l3, l4, l5, l6, l7] [(0, 0)] S h n) ∧
  (∀ (d : Nat) (x : Int) (l0 l1 l2 l3 l4 l5 l6 l7 : Option mx_V) (S h : mx_H) (n : Int), mx_ex d 177 114 [l0, l1, l2, l3, l4, l5, l6, l7] [(0, x)] S h n = mx_ex d 177 116 [l0, l1, l2, l3, l4, l5, mx_nl l6, some (0, x)] [] S h n) :=
  ⟨by intros; exact rfl,
   by intros; exact eq_ld rfl rfl,
   by intros; exact eq_push rfl,
   by intros; exact eq_push rfl,
   by intros; exact eq_cs rfl (Nat.le_of_ble_eq_true rfl) rfl rfl rfl (Nat.le_of_ble_eq_true rfl),
   by intros; exact eq_if0 rfl,
   by intros; exact eq_ld rfl rfl,
   by intros; exact eq_cs rfl (Nat.le_of_ble_eq_true rfl) rfl rfl rfl (Nat.le_of_ble_eq_true rfl),
   by intros; exact eq_if0 rfl,
   by intros; exact eq_ld rfl rfl,
   by intros; exact eq_push rfl,
   by intros; exact eq_push rfl,
   by intros; exact eq_cs rfl (Nat.le_of_ble_eq_true rfl) rfl rfl rfl (Nat.le_of_ble_eq_true rfl),
   by intros; exact eq_if0 rfl,
   by intros; exact eq_ld rfl rfl,
   by intros; exact eq_push rfl,
   by intros; exact eq_push rfl,
   by intros; exact eq_cs rfl (Nat.le_of_ble_eq_true rfl) rfl rfl rfl (Nat.le_of_ble_eq_true rfl),
   by intros; exact eq_if0 rfl,
   by intros; exact eq_ld rfl rfl,
   by intros; exact eq_if3 rfl,
   by intros; exact eq_push rfl,
   by intros; exact eq_ret rfl,
   by intros; exact eq_ld rfl rfl,
   by intros; exact eq_gr rfl,
   by intros; exact eq_push rfl,
   by intros; exact eq_iald rfl,
   by intros; exact eq_push rfl,
   by intros; exact eq_ic1 rfl,
   by intros; exact eq_push rfl,
   by intros; exact eq_ret rfl,
   by intros; exact eq_push rfl,
   by intros; exact eq_push rfl,
   by intros; exact eq_ld rfl rfl,
   by intros; exact eq_gr rfl,
   by intros; exact eq_push rfl,
   by intros; exact eq_iald rfl,
   by intros; exact eq_i2 (o := mx_mul) rfl,
   by intros; exact eq_i2 (o := mx_add) rfl,
   by intros; exact eq_st rfl (by decide) (Nat.le_of_ble_eq_true rfl) rfl,
   by intros; exact eq_ld rfl rfl,
   by intros; exact eq_gr rfl,
   by intros; exact eq_ld rfl rfl,
   by intros; exact eq_push rfl,
   by intros; exact eq_i2 (o := mx_add) rfl,
   by intros; exact eq_ld rfl rfl,
   by intros; exact eq_iast rfl,
   by intros; exact eq_ld rfl rfl,
   by intros; exact eq_gr rfl,
   by intros; exact eq_ld rfl rfl,
   by intros; exact eq_push rfl,
   by intros; exact eq_i2 (o := mx_add) rfl,
   by intros; exact eq_ld rfl rfl,
   by intros; exact eq_iast rfl,
   by intros; exact eq_ld rfl rfl,
   by intros; exact eq_gr rfl,
   by intros; exact eq_ld rfl rfl,
   by intros; exact eq_push rfl,
   by intros; exact eq_i2 (o := mx_add) rfl,
   by intros; exact eq_ld rfl rfl,
   by intros; exact eq_iast rfl,
   by intros; exact eq_ld rfl rfl,
   by intros; exact eq_gr rfl,
   by intros; exact eq_ld rfl rfl,
   by intros; exact eq_push rfl,
   by intros; exact eq_i2 (o := mx_add) rfl,
   by intros; exact eq_ld rfl rfl,
   by intros; exact eq_iast rfl,
   by intros; exact eq_push rfl,
   by intros; exact eq_st rfl (by decide) (Nat.le_of_ble_eq_true rfl) rfl⟩
theorem rw_X12_note_1 :
  (∀ (d : Nat) (x : Int) (l0 l1 l2 l3 l5 l6 l7 : Option mx_V) (v0 : mx_V) (S h : mx_H) (n : Int), mx_ex d 177 118 [l0, l1, l2, l3, some (0, x), l5, l6, l7] [v0] S h n = mx_ex d 177 120 [l0, l1, l2, l3, some (0, x), l5, l6, l7] [(0, x), v0] S h n) ∧
  (∀ (d : Nat) (b a : Int) (l0 l1 l2 l3 l4 l5 l6 l7 : Option mx_V) (S h : mx_H) (n : Int), mx_ex d 177 120 [l0, l1, l2, l3, l4, l5, l6, l7] [(0, b), (0, a)] S h n = mx_br (a < b) d 177 123 156 [l0, l1, l2, l3, l4, l5, l6, l7] [] S h n) ∧
  (∀ (d : Nat) (x : Int) (l1 l2 l3 l4 l5 l6 l7 : Option mx_V) (S h : mx_H) (n : Int), mx_ex d 177 123 [some (2, x), l1, l2, l3, l4, l5, l6, l7] [] S h n = mx_ex d 177 124 [some (2, x), l1, l2, l3, l4, l5, l6, l7] [(2, x)] S h n) ∧
  (∀ (d : Nat) (a : Int) (l0 l1 l2 l3 l4 l5 l6 l7 : Option mx_V) (S h : mx_H) (n : Int), mx_ex d 177 124 [l0, l1, l2, l3, l4, l5, l6, l7] [(2, a)] S h n = mx_gd (13 ≤ S a (-2) ∧ S a (-2) ≤ 13) d 177 127 [l0, l1, l2, l3, l4, l5, l6, l7] [(2, S a 0)] S h n) ∧
  (∀ (d : Nat) (x : Int) (l0 l1 l2 l3 l4 l5 l7 : Option mx_V) (v0 : mx_V) (S h : mx_H) (n : Int), mx_ex d 177 127 [l0, l1, l2, l3, l4, l5, some (0, x), l7] [v0] S h n = mx_ex d 177 129 [l0, l1, l2, l3, l4, l5, some (0, x), l7] [(0, x), v0] S h n) ∧
  (∀ (d : Nat) (l0 l1 l2 l3 l4 l5 l6 l7 : Option mx_V) (v0 v1 : mx_V) (S h : mx_H) (n : Int), mx_ex d 177 129 [l0, l1, l2, l3, l4, l5, l6, l7] [v0, v1] S h n = mx_ex d 177 130 [l0, l1, l2, l3, l4, l5, l6, l7] [(0, 4), v0, v1] S h n) ∧
  (∀ (d : Nat) (b a : Int) (l0 l1 l2 l3 l4 l5 l6 l7 : Option mx_V) (v2 : mx_V) (S h : mx_H) (n : Int), mx_ex d 177 130 [l0, l1, l2, l3, l4, l5, l6, l7] [(0, b), (0, a), v2] S h n = mx_ex d 177 131 [l0, l1, l2, l3, l4, l5, l6, l7] [(0, mx_w (a + b)), v2] S h n) ∧
  (∀ (d : Nat) (x : Int) (l0 l1 l2 l3 l4 l5 l6 : Option mx_V) (v0 v1 : mx_V) (S h : mx_H) (n : Int), mx_ex d 177 131 [l0, l1, l2, l3, l4, l5, l6, some (0, x)] [v0, v1] S h n = mx_ex d 177 133 [l0, l1, l2, l3, l4, l5, l6, some (0, x)] [(0, x), v0, v1] S h n) ∧
  (∀ (d : Nat) (b a : Int) (l0 l1 l2 l3 l4 l5 l6 l7 : Option mx_V) (v2 : mx_V) (S h : mx_H) (n : Int), mx_ex d 177 133 [l0, l1, l2, l3, l4, l5, l6, l7] [(0, b), (0, a), v2] S h n = mx_ex d 177 134 [l0, l1, l2, l3, l4, l5, l6, l7] [(0, mx_w (a + b)), v2] S h n) ∧
  (∀ (d : Nat) (x : Int) (l0 l1 l2 l3 l4 l6 l7 : Option mx_V) (v0 v1 : mx_V) (S h : mx_H) (n : Int), mx_ex d 177 134 [l0, l1, l2, l3, l4, some (0, x), l6, l7] [v0, v1] S h n = mx_ex d 177 136 [l0, l1, l2, l3, l4, some (0, x), l6, l7] [(0, x), v0, v1] S h n) ∧
  (∀ (d : Nat) (l0 l1 l2 l3 l4 l5 l6 l7 : Option mx_V) (v0 v1 v2 : mx_V) (S h : mx_H) (n : Int), mx_ex d 177 136 [l0, l1, l2, l3, l4, l5, l6, l7] [v0, v1, v2] S h n = mx_ex d 177 137 [l0, l1, l2, l3, l4, l5, l6, l7] [(0, 4), v0, v1, v2] S h n) ∧
  (∀ (d : Nat) (x : Int) (l0 l1 l2 l3 l5 l6 l7 : Option mx_V) (v0 v1 v2 v3 : mx_V) (S h : mx_H) (n : Int), mx_ex d 177 137 [l0, l1, l2, l3, some (0, x), l5, l6, l7] [v0, v1, v2, v3] S h n = mx_ex d 177 139 [l0, l1, l2, l3, some (0, x), l5, l6, l7] [(0, x), v0, v1, v2, v3] S h n) ∧
  (∀ (d : Nat) (l0 l1 l2 l3 l4 l5 l6 l7 : Option mx_V) (v0 v1 v2 v3 v4 : mx_V) (S h : mx_H) (n : Int), mx_ex d 177 139 [l0, l1, l2, l3, l4, l5, l6, l7] [v0, v1, v2, v3, v4] S h n = mx_ex d 177 140 [l0, l1, l2, l3, l4, l5, l6, l7] [(0, 1), v0, v1, v2, v3, v4] S h n) ∧
  (∀ (d : Nat) (b a : Int) (l0 l1 l2 l3 l4 l5 l6 l7 : Option mx_V) (v2 v3 v4 v5 : mx_V) (S h : mx_H) (n : Int), mx_ex d 177 140 [l0, l1, l2, l3, l4, l5, l6, l7] [(0, b), (0, a), v2, v3, v4, v5] S h n = mx_ex d 177 141 [l0, l1, l2, l3, l4, l5, l6, l7] [(0, mx_w (a - b)), v2, v3, v4, v5] S h n) ∧
  (∀ (d : Nat) (x : Int) (l0 l1 l2 l3 l4 l5 l6 : Option mx_V) (v0 v1 v2 v3 v4 : mx_V) (S h : mx_H) (n : Int), mx_ex d 177 141 [l0, l1, l2, l3, l4, l5, l6, some (0, x)] [v0, v1, v2, v3, v4] S h n = mx_ex d 177 143 [l0, l1, l2, l3, l4, l5, l6, some (0, x)] [(0, x), v0, v1, v2, v3, v4] S h n) ∧
  (∀ (d : Nat) (b a : Int) (l0 l1 l2 l3 l4 l5 l6 l7 : Option mx_V) (v2 v3 v4 v5 : mx_V) (S h : mx_H) (n : Int), mx_ex d 177 143 [l0, l1, l2, l3, l4, l5, l6, l7] [(0, b), (0, a), v2, v3, v4, v5] S h n = mx_ex d 177 144 [l0, l1, l2, l3, l4, l5, l6, l7] [(0, mx_w (a - b)), v2, v3, v4, v5] S h n) ∧
  (∀ (d : Nat) (b a : Int) (l0 l1 l2 l3 l4 l5 l6 l7 : Option mx_V) (v2 v3 v4 : mx_V) (S h : mx_H) (n : Int), mx_ex d 177 144 [l0, l1, l2, l3, l4, l5, l6, l7] [(0, b), (0, a), v2, v3, v4] S h n = mx_ex d 177 145 [l0, l1, l2, l3, l4, l5, l6, l7] [(0, mx_w (a * b)), v2, v3, v4] S h n) ∧
  (∀ (d : Nat) (b a : Int) (l0 l1 l2 l3 l4 l5 l6 l7 : Option mx_V) (v2 v3 : mx_V) (S h : mx_H) (n : Int), mx_ex d 177 145 [l0, l1, l2, l3, l4, l5, l6, l7] [(0, b), (0, a), v2, v3] S h n = mx_ex d 177 146 [l0, l1, l2, l3, l4, l5, l6, l7] [(0, mx_shr a b), v2, v3] S h n) ∧
  (∀ (d : Nat) (l0 l1 l2 l3 l4 l5 l6 l7 : Option mx_V) (v0 v1 v2 : mx_V) (S h : mx_H) (n : Int), mx_ex d 177 146 [l0, l1, l2, l3, l4, l5, l6, l7] [v0, v1, v2] S h n = mx_ex d 177 148 [l0, l1, l2, l3, l4, l5, l6, l7] [(0, 15), v0, v1, v2] S h n) ∧
  (∀ (d : Nat) (b a : Int) (l0 l1 l2 l3 l4 l5 l6 l7 : Option mx_V) (v2 v3 : mx_V) (S h : mx_H) (n : Int), mx_ex d 177 148 [l0, l1, l2, l3, l4, l5, l6, l7] [(0, b), (0, a), v2, v3] S h n = mx_ex d 177 149 [l0, l1, l2, l3, l4, l5, l6, l7] [(0, mx_and a b), v2, v3] S h n) ∧
  (∀ (d : Nat) (v i a : Int) (l0 l1 l2 l3 l4 l5 l6 l7 : Option mx_V) (S h : mx_H) (n : Int), mx_ex d 177 149 [l0, l1, l2, l3, l4, l5, l6, l7] [(0, v), (0, i), (2, a)] S h n = mx_gd (S a (-2) = 20 ∧ 0 ≤ i ∧ i < S a (-1)) d 177 150 [l0, l1, l2, l3, l4, l5, l6, l7] [] S (mx_u h a i v) n) ∧
  (∀ (d : Nat) (x : Int) (l0 l1 l2 l3 l4 l5 l6 : Option mx_V) (S h : mx_H) (n : Int), mx_ex d 177 150 [l0, l1, l2, l3, l4, l5, l6, some (0, x)] [] S h n = mx_ex d 177 153 [l0, l1, l2, l3, l4, l5, mx_nl l6, some (0, mx_w (x + 1))] [] S h n) ∧
  (∀ (d : Nat) (l0 l1 l2 l3 l4 l5 l6 l7 : Option mx_V) (S h : mx_H) (n : Int), mx_ex d 177 153 [l0, l1, l2, l3, l4, l5, l6, l7] [] S h n = mx_ex d 177 116 [l0, l1, l2, l3, l4, l5, l6, l7] [] S h n) ∧
  (∀ (d : Nat) (x : Int) (l1 l2 l3 l4 l5 l6 l7 : Option mx_V) (S h : mx_H) (n : Int), mx_ex d 177 156 [some (2, x), l1, l2, l3, l4, l5, l6, l7] [] S h n = mx_ex d 177 157 [some (2, x), l1, l2, l3, l4, l5, l6, l7] [(2, x)] S h n) ∧
  (∀ (d : Nat) (a : Int) (l0 l1 l2 l3 l4 l5 l6 l7 : Option mx_V) (S h : mx_H) (n : Int), mx_ex d 177 157 [l0, l1, l2, l3, l4, l5, l6, l7] [(2, a)] S h n = mx_gd (13 ≤ S a (-2) ∧ S a (-2) ≤ 13) d 177 160 [l0, l1, l2, l3, l4, l5, l6, l7] [(2, S a 0)] S h n) ∧
  (∀ (d : Nat) (l0 l1 l2 l3 l4 l5 l6 l7 : Option mx_V) (v0 : mx_V) (S h : mx_H) (n : Int), mx_ex d 177 160 [l0, l1, l2, l3, l4, l5, l6, l7] [v0] S h n = mx_ex d 177 161 [l0, l1, l2, l3, l4, l5, l6, l7] [(0, 0), v0] S h n) ∧
  (∀ (d : Nat) (a b : Int) (l0 l1 l2 l3 l4 l5 l6 l7 : Option mx_V) (S h : mx_H) (n : Int), mx_ex d 177 161 [l0, l1, l2, l3, l4, l5, l6, l7] [(0, a), (2, b)] S h n = mx_ex d 177 162 [l0, l1, l2, l3, l4, l5, l6, l7] [(0, a), (2, b), (0, a), (2, b)] S h n) ∧
  (∀ (d : Nat) (i a : Int) (l0 l1 l2 l3 l4 l5 l6 l7 : Option mx_V) (v2 v3 : mx_V) (S h : mx_H) (n : Int), mx_ex d 177 162 [l0, l1, l2, l3, l4, l5, l6, l7] [(0, i), (2, a), v2, v3] S h n = mx_gd ((S a (-2) = 20 ∨ S a (-2) = 24) ∧ 0 ≤ i ∧ i < S a (-1)) d 177 163 [l0, l1, l2, l3, l4, l5, l6, l7] [(0, h a i), v2, v3] S h n) ∧
  (∀ (d : Nat) (l0 l1 l2 l3 l4 l5 l6 l7 : Option mx_V) (v0 v1 v2 : mx_V) (S h : mx_H) (n : Int), mx_ex d 177 163 [l0, l1, l2, l3, l4, l5, l6, l7] [v0, v1, v2] S h n = mx_ex d 177 164 [l0, l1, l2, l3, l4, l5, l6, l7] [(0, 1), v0, v1, v2] S h n) ∧
  (∀ (d : Nat) (b a : Int) (l0 l1 l2 l3 l4 l5 l6 l7 : Option mx_V) (v2 v3 : mx_V) (S h : mx_H) (n : Int), mx_ex d 177 164 [l0, l1, l2, l3, l4, l5, l6, l7] [(0, b), (0, a), v2, v3] S h n = mx_ex d 177 165 [l0, l1, l2, l3, l4, l5, l6, l7] [(0, mx_w (a + b)), v2, v3] S h n) ∧
  (∀ (d : Nat) (v i a : Int) (l0 l1 l2 l3 l4 l5 l6 l7 : Option mx_V) (S h : mx_H) (n : Int), mx_ex d 177 165 [l0, l1, l2, l3, l4, l5, l6, l7] [(0, v), (0, i), (2, a)] S h n = mx_gd (S a (-2) = 20 ∧ 0 ≤ i ∧ i < S a (-1)) d 177 166 [l0, l1, l2, l3, l4, l5, l6, l7] [] S (mx_u h a i v) n) ∧
  (∀ (d : Nat) (x : Int) (l1 l2 l3 l4 l5 l6 l7 : Option mx_V) (S h : mx_H) (n : Int), mx_ex d 177 166 [some (2, x), l1, l2, l3, l4, l5, l6, l7] [] S h n = mx_ex d 177 167 [some (2, x), l1, l2, l3, l4, l5, l6, l7] [(2, x)] S h n) ∧
  (∀ (d : Nat) (a : Int) (l0 l1 l2 l3 l4 l5 l6 l7 : Option mx_V) (S h : mx_H) (n : Int), mx_ex d 177 167 [l0, l1, l2, l3, l4, l5, l6, l7] [(2, a)] S h n = mx_gd (13 ≤ S a (-2) ∧ S a (-2) ≤ 13) d 177 170 [l0, l1, l2, l3, l4, l5, l6, l7] [(2, S a 0)] S h n) ∧
  (∀ (d : Nat) (l0 l1 l2 l3 l4 l5 l6 l7 : Option mx_V) (v0 : mx_V) (S h : mx_H) (n : Int), mx_ex d 177 170 [l0, l1, l2, l3, l4, l5, l6, l7] [v0] S h n = mx_ex d 177 171 [l0, l1, l2, l3, l4, l5, l6, l7] [(0, 0), v0] S h n) ∧
  (∀ (d : Nat) (i a : Int) (l0 l1 l2 l3 l4 l5 l6 l7 : Option mx_V) (S h : mx_H) (n : Int), mx_ex d 177 171 [l0, l1, l2, l3, l4, l5, l6, l7] [(0, i), (2, a)] S h n = mx_gd ((S a (-2) = 20 ∨ S a (-2) = 24) ∧ 0 ≤ i ∧ i < S a (-1)) d 177 172 [l0, l1, l2, l3, l4, l5, l6, l7] [(0, h a i)] S h n) ∧
  (∀ (d : Nat) (l0 l1 l2 l3 l4 l5 l6 l7 : Option mx_V) (v0 : mx_V) (S h : mx_H) (n : Int), mx_ex d 177 172 [l0, l1, l2, l3, l4, l5, l6, l7] [v0] S h n = mx_ex d 177 173 [l0, l1, l2, l3, l4, l5, l6, l7] [(0, 1), v0] S h n) ∧
  (∀ (d : Nat) (b a : Int) (l0 l1 l2 l3 l4 l5 l6 l7 : Option mx_V) (S h : mx_H) (n : Int), mx_ex d 177 173 [l0, l1, l2, l3, l4, l5, l6, l7] [(0, b), (0, a)] S h n = mx_ex d 177 174 [l0, l1, l2, l3, l4, l5, l6, l7] [(0, mx_w (a - b))] S h n) ∧
  (∀ (d : Nat) (x : Int) (l0 l1 l2 l3 l4 l5 l6 l7 : Option mx_V) (S h : mx_H) (n : Int), mx_ex d 177 174 [l0, l1, l2, l3, l4, l5, l6, l7] [(0, x)] S h n = some (some (0, x), S, h, n)) :=
  ⟨by intros; exact eq_ld rfl rfl,
   by intros; exact eq_ic3 rfl,
   by intros; exact eq_ld rfl rfl,
   by intros; exact eq_gr rfl,
   by intros; exact eq_ld rfl rfl,
   by intros; exact eq_push rfl,
   by intros; exact eq_i2 (o := mx_add) rfl,
   by intros; exact eq_ld rfl rfl,
   by intros; exact eq_i2 (o := mx_add) rfl,
   by intros; exact eq_ld rfl rfl,
   by intros; exact eq_push rfl,
   by intros; exact eq_ld rfl rfl,
   by intros; exact eq_push rfl,
   by intros; exact eq_i2 (o := mx_sub) rfl,
   by intros; exact eq_ld rfl rfl,
   by intros; exact eq_i2 (o := mx_sub) rfl,
   by intros; exact eq_i2 (o := mx_mul) rfl,
   by intros; exact eq_i2 (o := mx_shr) rfl,
   by intros; exact eq_push rfl,
   by intros; exact eq_i2 (o := mx_and) rfl,
   by intros; exact eq_iast rfl,
   by intros; exact eq_inc rfl rfl rfl,
   by intros; exact eq_go rfl,
   by intros; exact eq_ld rfl rfl,
   by intros; exact eq_gr rfl,
   by intros; exact eq_push rfl,
   by intros; exact eq_dup2 rfl (by decide) (by decide),
   by intros; exact eq_iald rfl,
   by intros; exact eq_push rfl,
   by intros; exact eq_i2 (o := mx_add) rfl,
   by intros; exact eq_iast rfl,
   by intros; exact eq_ld rfl rfl,
   by intros; exact eq_gr rfl,
   by intros; exact eq_push rfl,
   by intros; exact eq_iald rfl,
   by intros; exact eq_push rfl,
   by intros; exact eq_i2 (o := mx_sub) rfl,
   by intros; exact eq_ret rfl⟩
theorem rw_X12_noteOf :
  (∀ (d : Nat) (a0 a1 a2 : Int) (S h : mx_H) (n : Int), mx_M d 178 [(2, a0), (0, a1), (0, a2)] S h n = mx_ex d 178 0 [some (2, a0), some (0, a1), some (0, a2)] [] S h n) ∧
  (∀ (d : Nat) (x : Int) (l1 l2 : Option mx_V) (S h : mx_H) (n : Int), mx_ex d 178 0 [some (2, x), l1, l2] [] S h n = mx_ex d 178 1 [some (2, x), l1, l2] [(2, x)] S h n) ∧
  (∀ (d : Nat) (x : Int) (l0 l2 : Option mx_V) (v0 : mx_V) (S h : mx_H) (n : Int), mx_ex d 178 1 [l0, some (0, x), l2] [v0] S h n = mx_ex d 178 2 [l0, some (0, x), l2] [(0, x), v0] S h n) ∧
  (∀ (d : Nat) (x0 a : Int) (l0 l1 l2 : Option mx_V) (S h : mx_H) (n : Int), mx_ex (d + 1) 178 2 [l0, l1, l2] [(0, x0), (2, a)] S h n = mx_cl (S a (-2) = 13) d 158 [(2, a), (0, x0)] 178 5 [l0, l1, l2] [] S h n) ∧
  (∀ (d : Nat) (a : Int) (l0 l1 l2 : Option mx_V) (S h : mx_H) (n : Int), mx_ex d 178 5 [l0, l1, l2] [(0, a)] S h n = mx_br (a = 0) d 178 8 10 [l0, l1, l2] [] S h n) ∧
  (∀ (d : Nat) (l0 l1 l2 : Option mx_V) (S h : mx_H) (n : Int), mx_ex d 178 8 [l0, l1, l2] [] S h n = mx_ex d 178 9 [l0, l1, l2] [(0, (-1))] S h n) ∧
  (∀ (d : Nat) (x : Int) (l0 l1 l2 : Option mx_V) (S h : mx_H) (n : Int), mx_ex d 178 9 [l0, l1, l2] [(0, x)] S h n = some (some (0, x), S, h, n)) ∧
  (∀ (d : Nat) (x : Int) (l0 l1 : Option mx_V) (S h : mx_H) (n : Int), mx_ex d 178 10 [l0, l1, some (0, x)] [] S h n = mx_ex d 178 11 [l0, l1, some (0, x)] [(0, x)] S h n) ∧
  (∀ (d : Nat) (l0 l1 l2 : Option mx_V) (v0 : mx_V) (S h : mx_H) (n : Int), mx_ex d 178 11 [l0, l1, l2] [v0] S h n = mx_ex d 178 12 [l0, l1, l2] [(0, 0), v0] S h n) ∧
  (∀ (d : Nat) (l0 l1 l2 : Option mx_V) (v0 v1 : mx_V) (S h : mx_H) (n : Int), mx_ex d 178 12 [l0, l1, l2] [v0, v1] S h n = mx_ex d 178 13 [l0, l1, l2] [(0, 3), v0, v1] S h n) ∧
  (∀ (d : Nat) (x0 x1 x2 : Int) (l0 l1 l2 : Option mx_V) (S h : mx_H) (n : Int), mx_ex (d + 1) 178 13 [l0, l1, l2] [(0, x0), (0, x1), (0, x2)] S h n = mx_rt (mx_M d 157 [(0, x2), (0, x1), (0, x0)] S h n) (d + 1) 178 16 [l0, l1, l2] []) ∧
  (∀ (d : Nat) (a : Int) (l0 l1 l2 : Option mx_V) (S h : mx_H) (n : Int), mx_ex d 178 16 [l0, l1, l2] [(0, a)] S h n = mx_br (a = 0) d 178 26 19 [l0, l1, l2] [] S h n) ∧
  (∀ (d : Nat) (x : Int) (l1 l2 : Option mx_V) (S h : mx_H) (n : Int), mx_ex d 178 19 [some (2, x), l1, l2] [] S h n = mx_ex d 178 20 [some (2, x), l1, l2] [(2, x)] S h n) ∧
  (∀ (d : Nat) (x : Int) (l0 l2 : Option mx_V) (v0 : mx_V) (S h : mx_H) (n : Int), mx_ex d 178 20 [l0, some (0, x), l2] [v0] S h n = mx_ex d 178 21 [l0, some (0, x), l2] [(0, x), v0] S h n) ∧
  (∀ (d : Nat) (x : Int) (l0 l1 : Option mx_V) (v0 v1 : mx_V) (S h : mx_H) (n : Int), mx_ex d 178 21 [l0, l1, some (0, x)] [v0, v1] S h n = mx_ex d 178 22 [l0, l1, some (0, x)] [(0, x), v0, v1] S h n) ∧
  (∀ (d : Nat) (x0 x1 a : Int) (l0 l1 l2 : Option mx_V) (S h : mx_H) (n : Int), mx_ex (d + 1) 178 22 [l0, l1, l2] [(0, x0), (0, x1), (2, a)] S h n = mx_cl (S a (-2) = 13) d 161 [(2, a), (0, x1), (0, x0)] 178 25 [l0, l1, l2] [] S h n) ∧
  (∀ (d : Nat) (x : Int) (l0 l1 l2 : Option mx_V) (S h : mx_H) (n : Int), mx_ex d 178 25 [l0, l1, l2] [(0, x)] S h n = some (some (0, x), S, h, n)) ∧
  (∀ (d : Nat) (x : Int) (l0 l1 : Option mx_V) (S h : mx_H) (n : Int), mx_ex d 178 26 [l0, l1, some (0, x)] [] S h n = mx_ex d 178 27 [l0, l1, some (0, x)] [(0, x)] S h n) ∧
  (∀ (d : Nat) (l0 l1 l2 : Option mx_V) (v0 : mx_V) (S h : mx_H) (n : Int), mx_ex d 178 27 [l0, l1, l2] [v0] S h n = mx_ex d 178 29 [l0, l1, l2] [(0, 10), v0] S h n) ∧
  (∀ (d : Nat) (l0 l1 l2 : Option mx_V) (v0 v1 : mx_V) (S h : mx_H) (n : Int), mx_ex d 178 29 [l0, l1, l2] [v0, v1] S h n = mx_ex d 178 31 [l0, l1, l2] [(0, 9), v0, v1] S h n) ∧
  (∀ (d : Nat) (x : Int) (l1 l2 : Option mx_V) (v0 v1 v2 : mx_V) (S h : mx_H) (n : Int), mx_ex d 178 31 [some (2, x), l1, l2] [v0, v1, v2] S h n = mx_ex d 178 32 [some (2, x), l1, l2] [(2, x), v0, v1, v2] S h n) ∧
  (∀ (d : Nat) (x : Int) (l0 l2 : Option mx_V) (v0 v1 v2 v3 : mx_V) (S h : mx_H) (n : Int), mx_ex d 178 32 [l0, some (0, x), l2] [v0, v1, v2, v3] S h n = mx_ex d 178 33 [l0, some (0, x), l2] [(0, x), v0, v1, v2, v3] S h n) ∧
  (∀ (d : Nat) (l0 l1 l2 : Option mx_V) (v0 v1 v2 v3 v4 : mx_V) (S h : mx_H) (n : Int), mx_ex d 178 33 [l0, l1, l2] [v0, v1, v2, v3, v4] S h n = mx_ex d 178 34 [l0, l1, l2] [(0, 3), v0, v1, v2, v3, v4] S h n) ∧
  (∀ (d : Nat) (x0 x1 a : Int) (l0 l1 l2 : Option mx_V) (v3 v4 v5 : mx_V) (S h : mx_H) (n : Int), mx_ex (d + 1) 178 34 [l0, l1, l2] [(0, x0), (0, x1), (2, a), v3, v4, v5] S h n = mx_cl (S a (-2) = 13) d 161 [(2, a), (0, x1), (0, x0)] 178 37 [l0, l1, l2] [v3, v4, v5] S h n) ∧
  (∀ (d : Nat) (b a : Int) (l0 l1 l2 : Option mx_V) (v2 v3 : mx_V) (S h : mx_H) (n : Int), mx_ex d 178 37 [l0, l1, l2] [(0, b), (0, a), v2, v3] S h n = mx_ex d 178 38 [l0, l1, l2] [(0, mx_w (a + b)), v2, v3] S h n) ∧
  (∀ (d : Nat) (x0 x1 x2 : Int) (l0 l1 l2 : Option mx_V) (S h : mx_H) (n : Int), mx_ex (d + 1) 178 38 [l0, l1, l2] [(0, x0), (0, x1), (0, x2)] S h n = mx_rt (mx_M d 157 [(0, x2), (0, x1), (0, x0)] S h n) (d + 1) 178 41 [l0, l1, l2] []) ∧
  (∀ (d : Nat) (a : Int) (l0 l1 l2 : Option mx_V) (S h : mx_H) (n : Int), mx_ex d 178 41 [l0, l1, l2] [(0, a)] S h n = mx_br (a = 0) d 178 58 44 [l0, l1, l2] [] S h n) ∧
  (∀ (d : Nat) (x : Int) (l1 l2 : Option mx_V) (S h : mx_H) (n : Int), mx_ex d 178 44 [some (2, x), l1, l2] [] S h n = mx_ex d 178 45 [some (2, x), l1, l2] [(2, x)] S h n) ∧
  (∀ (d : Nat) (x : Int) (l0 l2 : Option mx_V) (v0 : mx_V) (S h : mx_H) (n : Int), mx_ex d 178 45 [l0, some (0, x), l2] [v0] S h n = mx_ex d 178 46 [l0, some (0, x), l2] [(0, x), v0] S h n) ∧
  (∀ (d : Nat) (l0 l1 l2 : Option mx_V) (v0 v1 : mx_V) (S h : mx_H) (n : Int), mx_ex d 178 46 [l0, l1, l2] [v0, v1] S h n = mx_ex d 178 47 [l0, l1, l2] [(0, 4), v0, v1] S h n) ∧
  (∀ (d : Nat) (x : Int) (l0 l1 : Option mx_V) (v0 v1 v2 : mx_V) (S h : mx_H) (n : Int), mx_ex d 178 47 [l0, l1, some (0, x)] [v0, v1, v2] S h n = mx_ex d 178 48 [l0, l1, some (0, x)] [(0, x), v0, v1, v2] S h n) ∧
  (∀ (d : Nat) (b a : Int) (l0 l1 l2 : Option mx_V) (v2 v3 : mx_V) (S h : mx_H) (n : Int), mx_ex d 178 48 [l0, l1, l2] [(0, b), (0, a), v2, v3] S h n = mx_ex d 178 49 [l0, l1, l2] [(0, mx_w (a + b)), v2, v3] S h n) ∧
  (∀ (d : Nat) (l0 l1 l2 : Option mx_V) (v0 v1 v2 : mx_V) (S h : mx_H) (n : Int), mx_ex d 178 49 [l0, l1, l2] [v0, v1, v2] S h n = mx_ex d 178 51 [l0, l1, l2] [(0, 10), v0, v1, v2] S h n) ∧
  (∀ (d : Nat) (b a : Int) (l0 l1 l2 : Option mx_V) (v2 v3 : mx_V) (S h : mx_H) (n : Int), mx_ex d 178 51 [l0, l1, l2] [(0, b), (0, a), v2, v3] S h n = mx_ex d 178 52 [l0, l1, l2] [(0, mx_w (a - b)), v2, v3] S h n) ∧
  (∀ (d : Nat) (x0 x1 a : Int) (l0 l1 l2 : Option mx_V) (S h : mx_H) (n : Int), mx_ex (d + 1) 178 52 [l0, l1, l2] [(0, x0), (0, x1), (2, a)] S h n = mx_cl (S a (-2) = 13) d 161 [(2, a), (0, x1), (0, x0)] 178 55 [l0, l1, l2] [] S h n) ∧
  (∀ (d : Nat) (l0 l1 l2 : Option mx_V) (v0 : mx_V) (S h : mx_H) (n : Int), mx_ex d 178 55 [l0, l1, l2] [v0] S h n = mx_ex d 178 59 [l0, l1, l2] [v0] S h n) ∧
  (∀ (d : Nat) (l0 l1 l2 : Option mx_V) (S h : mx_H) (n : Int), mx_ex d 178 58 [l0, l1, l2] [] S h n = mx_ex d 178 59 [l0, l1, l2] [(0, (-1))] S h n) ∧
  (∀ (d : Nat) (x : Int) (l0 l1 l2 : Option mx_V) (S h : mx_H) (n : Int), mx_ex d 178 59 [l0, l1, l2] [(0, x)] S h n = some (some (0, x), S, h, n)) :=
  ⟨by intros; exact rfl,
   by intros; exact eq_ld rfl rfl,
   by intros; exact eq_ld rfl rfl,
   by intros; exact eq_cv rfl (Nat.le_of_ble_eq_true rfl) rfl rfl rfl (Nat.le_of_ble_eq_true rfl),
   by intros; exact eq_if1 rfl,
   by intros; exact eq_push rfl,
   by intros; exact eq_ret rfl,
   by intros; exact eq_ld rfl rfl,
   by intros; exact eq_push rfl,
   by intros; exact eq_push rfl,
   by intros; exact eq_cs rfl (Nat.le_of_ble_eq_true rfl) rfl rfl rfl (Nat.le_of_ble_eq_true rfl),
   by intros; exact eq_if0 rfl,
   by intros; exact eq_ld rfl rfl,
   by intros; exact eq_ld rfl rfl,
   by intros; exact eq_ld rfl rfl,
   by intros; exact eq_cv rfl (Nat.le_of_ble_eq_true rfl) rfl rfl rfl (Nat.le_of_ble_eq_true rfl),
   by intros; exact eq_ret rfl,
   by intros; exact eq_ld rfl rfl,
   by intros; exact eq_push rfl,
   by intros; exact eq_push rfl,
   by intros; exact eq_ld rfl rfl,
   by intros; exact eq_ld rfl rfl,
   by intros; exact eq_push rfl,
   by intros; exact eq_cv rfl (Nat.le_of_ble_eq_true rfl) rfl rfl rfl (Nat.le_of_ble_eq_true rfl),
   by intros; exact eq_i2 (o := mx_add) rfl,
   by intros; exact eq_cs rfl (Nat.le_of_ble_eq_true rfl) rfl rfl rfl (Nat.le_of_ble_eq_true rfl),
   by intros; exact eq_if0 rfl,
   by intros; exact eq_ld rfl rfl,
   by intros; exact eq_ld rfl rfl,
   by intros; exact eq_push rfl,
   by intros; exact eq_ld rfl rfl,
   by intros; exact eq_i2 (o := mx_add) rfl,
   by intros; exact eq_push rfl,
   by intros; exact eq_i2 (o := mx_sub) rfl,
   by intros; exact eq_cv rfl (Nat.le_of_ble_eq_true rfl) rfl rfl rfl (Nat.le_of_ble_eq_true rfl),
   by intros; exact eq_go rfl,
   by intros; exact eq_push rfl,
   by intros; exact eq_ret rfl⟩
theorem rw_X12_isPlace :
  (∀ (d : Nat) (a0 a1 a2 : Int) (S h : mx_H) (n : Int), mx_M d 179 [(2, a0), (0, a1), (0, a2)] S h n = mx_ex d 179 0 [some (2, a0), some (0, a1), some (0, a2)] [] S h n) ∧
  (∀ (d : Nat) (x : Int) (l0 l1 : Option mx_V) (S h : mx_H) (n : Int), mx_ex d 179 0 [l0, l1, some (0, x)] [] S h n = mx_ex d 179 1 [l0, l1, some (0, x)] [(0, x)] S h n) ∧
  (∀ (d : Nat) (l0 l1 l2 : Option mx_V) (v0 : mx_V) (S h : mx_H) (n : Int), mx_ex d 179 1 [l0, l1, l2] [v0] S h n = mx_ex d 179 2 [l0, l1, l2] [(0, 0), v0] S h n) ∧
  (∀ (d : Nat) (x : Int) (l1 l2 : Option mx_V) (v0 v1 : mx_V) (S h : mx_H) (n : Int), mx_ex d 179 2 [some (2, x), l1, l2] [v0, v1] S h n = mx_ex d 179 3 [some (2, x), l1, l2] [(2, x), v0, v1] S h n) ∧
  (∀ (d : Nat) (x : Int) (l0 l2 : Option mx_V) (v0 v1 v2 : mx_V) (S h : mx_H) (n : Int), mx_ex d 179 3 [l0, some (0, x), l2] [v0, v1, v2] S h n = mx_ex d 179 4 [l0, some (0, x), l2] [(0, x), v0, v1, v2] S h n) ∧
  (∀ (d : Nat) (l0 l1 l2 : Option mx_V) (v0 v1 v2 v3 : mx_V) (S h : mx_H) (n : Int), mx_ex d 179 4 [l0, l1, l2] [v0, v1, v2, v3] S h n = mx_ex d 179 5 [l0, l1, l2] [(0, 3), v0, v1, v2, v3] S h n) ∧
  (∀ (d : Nat) (x0 x1 a : Int) (l0 l1 l2 : Option mx_V) (v3 v4 : mx_V) (S h : mx_H) (n : Int), mx_ex (d + 1) 179 5 [l0, l1, l2] [(0, x0), (0, x1), (2, a), v3, v4] S h n = mx_cl (S a (-2) = 13) d 161 [(2, a), (0, x1), (0, x0)] 179 8 [l0, l1, l2] [v3, v4] S h n) ∧
  (∀ (d : Nat) (l0 l1 l2 : Option mx_V) (v0 v1 v2 : mx_V) (S h : mx_H) (n : Int), mx_ex d 179 8 [l0, l1, l2] [v0, v1, v2] S h n = mx_ex d 179 9 [l0, l1, l2] [(0, 1), v0, v1, v2] S h n) ∧
  (∀ (d : Nat) (b a : Int) (l0 l1 l2 : Option mx_V) (v2 v3 : mx_V) (S h : mx_H) (n : Int), mx_ex d 179 9 [l0, l1, l2] [(0, b), (0, a), v2, v3] S h n = mx_ex d 179 10 [l0, l1, l2] [(0, mx_w (a - b)), v2, v3] S h n) ∧
  (∀ (d : Nat) (x0 x1 x2 : Int) (l0 l1 l2 : Option mx_V) (S h : mx_H) (n : Int), mx_ex (d + 1) 179 10 [l0, l1, l2] [(0, x0), (0, x1), (0, x2)] S h n = mx_rt (mx_M d 157 [(0, x2), (0, x1), (0, x0)] S h n) (d + 1) 179 13 [l0, l1, l2] []) ∧
  (∀ (d : Nat) (x : Int) (l0 l1 l2 : Option mx_V) (S h : mx_H) (n : Int), mx_ex d 179 13 [l0, l1, l2] [(0, x)] S h n = mx_re (0 ≤ x ∧ x ≤ 1) (some (0, x)) S h n) :=
  ⟨by intros; exact rfl,
   by intros; exact eq_ld rfl rfl,
   by intros; exact eq_push rfl,
   by intros; exact eq_ld rfl rfl,
   by intros; exact eq_ld rfl rfl,
   by intros; exact eq_push rfl,
   by intros; exact eq_cv rfl (Nat.le_of_ble_eq_true rfl) rfl rfl rfl (Nat.le_of_ble_eq_true rfl),
   by intros; exact eq_push rfl,
   by intros; exact eq_i2 (o := mx_sub) rfl,
   by intros; exact eq_cs rfl (Nat.le_of_ble_eq_true rfl) rfl rfl rfl (Nat.le_of_ble_eq_true rfl),
   by intros; exact eq_rr rfl⟩
theorem rw_X12_alter :
  (∀ (d : Nat) (a0 a1 a2 a3 : Int) (S h : mx_H) (n : Int), mx_M d 180 [(2, a0), (0, a1), (0, a2), (0, a3)] S h n = mx_ex d 180 0 [some (2, a0), some (0, a1), some (0, a2), some (0, a3), none] [] S h n) ∧
  (∀ (d : Nat) (x : Int) (l1 l2 l3 l4 : Option mx_V) (S h : mx_H) (n : Int), mx_ex d 180 0 [some (2, x), l1, l2, l3, l4] [] S h n = mx_ex d 180 1 [some (2, x), l1, l2, l3, l4] [(2, x)] S h n) ∧
  (∀ (d : Nat) (x : Int) (l0 l2 l3 l4 : Option mx_V) (v0 : mx_V) (S h : mx_H) (n : Int), mx_ex d 180 1 [l0, some (0, x), l2, l3, l4] [v0] S h n = mx_ex d 180 2 [l0, some (0, x), l2, l3, l4] [(0, x), v0] S h n) ∧
  (∀ (d : Nat) (x0 a : Int) (l0 l1 l2 l3 l4 : Option mx_V) (S h : mx_H) (n : Int), mx_ex (d + 1) 180 2 [l0, l1, l2, l3, l4] [(0, x0), (2, a)] S h n = mx_cl (S a (-2) = 13) d 158 [(2, a), (0, x0)] 180 5 [l0, l1, l2, l3, l4] [] S h n) ∧
  (∀ (d : Nat) (a : Int) (l0 l1 l2 l3 l4 : Option mx_V) (S h : mx_H) (n : Int), mx_ex d 180 5 [l0, l1, l2, l3, l4] [(0, a)] S h n = mx_br (a = 0) d 180 27 8 [l0, l1, l2, l3, l4] [] S h n) ∧
  (∀ (d : Nat) (x : Int) (l1 l2 l3 l4 : Option mx_V) (S h : mx_H) (n : Int), mx_ex d 180 8 [some (2, x), l1, l2, l3, l4] [] S h n = mx_ex d 180 9 [some (2, x), l1, l2, l3, l4] [(2, x)] S h n) ∧
  (∀ (d : Nat) (x : Int) (l0 l2 l3 l4 : Option mx_V) (v0 : mx_V) (S h : mx_H) (n : Int), mx_ex d 180 9 [l0, some (0, x), l2, l3, l4] [v0] S h n = mx_ex d 180 10 [l0, some (0, x), l2, l3, l4] [(0, x), v0] S h n) ∧
  (∀ (d : Nat) (x : Int) (l0 l1 l3 l4 : Option mx_V) (v0 v1 : mx_V) (S h : mx_H) (n : Int), mx_ex d 180 10 [l0, l1, some (0, x), l3, l4] [v0, v1] S h n = mx_ex d 180 11 [l0, l1, some (0, x), l3, l4] [(0, x), v0, v1] S h n) ∧
  (∀ (d : Nat) (x0 x1 a : Int) (l0 l1 l2 l3 l4 : Option mx_V) (S h : mx_H) (n : Int), mx_ex (d + 1) 180 11 [l0, l1, l2, l3, l4] [(0, x0), (0, x1), (2, a)] S h n = mx_cl (S a (-2) = 13) d 179 [(2, a), (0, x1), (0, x0)] 180 14 [l0, l1, l2, l3, l4] [] S h n) ∧
  (∀ (d : Nat) (a : Int) (l0 l1 l2 l3 l4 : Option mx_V) (S h : mx_H) (n : Int), mx_ex d 180 14 [l0, l1, l2, l3, l4] [(0, a)] S h n = mx_br (a = 0) d 180 27 17 [l0, l1, l2, l3, l4] [] S h n) ∧
  (∀ (d : Nat) (x : Int) (l0 l1 l2 l4 : Option mx_V) (S h : mx_H) (n : Int), mx_ex d 180 17 [l0, l1, l2, some (0, x), l4] [] S h n = mx_ex d 180 18 [l0, l1, l2, some (0, x), l4] [(0, x)] S h n) ∧
  (∀ (d : Nat) (l0 l1 l2 l3 l4 : Option mx_V) (v0 : mx_V) (S h : mx_H) (n : Int), mx_ex d 180 18 [l0, l1, l2, l3, l4] [v0] S h n = mx_ex d 180 19 [l0, l1, l2, l3, l4] [(0, 0), v0] S h n) ∧
  (∀ (d : Nat) (l0 l1 l2 l3 l4 : Option mx_V) (v0 v1 : mx_V) (S h : mx_H) (n : Int), mx_ex d 180 19 [l0, l1, l2, l3, l4] [v0, v1] S h n = mx_ex d 180 21 [l0, l1, l2, l3, l4] [(0, 15), v0, v1] S h n) ∧
  (∀ (d : Nat) (x0 x1 x2 : Int) (l0 l1 l2 l3 l4 : Option mx_V) (S h : mx_H) (n : Int), mx_ex (d + 1) 180 21 [l0, l1, l2, l3, l4] [(0, x0), (0, x1), (0, x2)] S h n = mx_rt (mx_M d 157 [(0, x2), (0, x1), (0, x0)] S h n) (d + 1) 180 24 [l0, l1, l2, l3, l4] []) ∧
  (∀ (d : Nat) (a : Int) (l0 l1 l2 l3 l4 : Option mx_V) (S h : mx_H) (n : Int), mx_ex d 180 24 [l0, l1, l2, l3, l4] [(0, a)] S h n = mx_br (a = 0) d 180 27 29 [l0, l1, l2, l3, l4] [] S h n) ∧
  (∀ (d : Nat) (l0 l1 l2 l3 l4 : Option mx_V) (S h : mx_H) (n : Int), mx_ex d 180 27 [l0, l1, l2, l3, l4] [] S h n = mx_ex d 180 28 [l0, l1, l2, l3, l4] [(0, (-1))] S h n) ∧
  (∀ (d : Nat) (x : Int) (l0 l1 l2 l3 l4 : Option mx_V) (S h : mx_H) (n : Int), mx_ex d 180 28 [l0, l1, l2, l3, l4] [(0, x)] S h n = some (some (0, x), S, h, n)) ∧
  (∀ (d : Nat) (x : Int) (l1 l2 l3 l4 : Option mx_V) (S h : mx_H) (n : Int), mx_ex d 180 29 [some (2, x), l1, l2, l3, l4] [] S h n = mx_ex d 180 30 [some (2, x), l1, l2, l3, l4] [(2, x)] S h n) ∧
  (∀ (d : Nat) (x : Int) (l0 l2 l3 l4 : Option mx_V) (v0 : mx_V) (S h : mx_H) (n : Int), mx_ex d 180 30 [l0, some (0, x), l2, l3, l4] [v0] S h n = mx_ex d 180 31 [l0, some (0, x), l2, l3, l4] [(0, x), v0] S h n) ∧
  (∀ (d : Nat) (l0 l1 l2 l3 l4 : Option mx_V) (v0 v1 : mx_V) (S h : mx_H) (n : Int), mx_ex d 180 31 [l0, l1, l2, l3, l4] [v0, v1] S h n = mx_ex d 180 32 [l0, l1, l2, l3, l4] [(0, 4), v0, v1] S h n) ∧
  (∀ (d : Nat) (x : Int) (l0 l1 l3 l4 : Option mx_V) (v0 v1 v2 : mx_V) (S h : mx_H) (n : Int), mx_ex d 180 32 [l0, l1, some (0, x), l3, l4] [v0, v1, v2] S h n = mx_ex d 180 33 [l0, l1, some (0, x), l3, l4] [(0, x), v0, v1, v2] S h n) ∧
  (∀ (d : Nat) (b a : Int) (l0 l1 l2 l3 l4 : Option mx_V) (v2 v3 : mx_V) (S h : mx_H) (n : Int), mx_ex d 180 33 [l0, l1, l2, l3, l4] [(0, b), (0, a), v2, v3] S h n = mx_ex d 180 34 [l0, l1, l2, l3, l4] [(0, mx_w (a + b)), v2, v3] S h n) ∧
  (∀ (d : Nat) (x0 x1 a : Int) (l0 l1 l2 l3 l4 : Option mx_V) (S h : mx_H) (n : Int), mx_ex (d + 1) 180 34 [l0, l1, l2, l3, l4] [(0, x0), (0, x1), (2, a)] S h n = mx_cl (S a (-2) = 13) d 161 [(2, a), (0, x1), (0, x0)] 180 37 [l0, l1, l2, l3, l4] [] S h n) ∧
  (∀ (d : Nat) (x : Int) (l0 l1 l2 l3 l4 : Option mx_V) (S h : mx_H) (n : Int), mx_ex d 180 37 [l0, l1, l2, l3, l4] [(0, x)] S h n = mx_ex d 180 39 [l0, l1, l2, mx_nl l3, some (0, x)] [] S h n) ∧
  (∀ (d : Nat) (x : Int) (l1 l2 l3 l4 : Option mx_V) (S h : mx_H) (n : Int), mx_ex d 180 39 [some (2, x), l1, l2, l3, l4] [] S h n = mx_ex d 180 40 [some (2, x), l1, l2, l3, l4] [(2, x)] S h n) ∧
  (∀ (d : Nat) (a : Int) (l0 l1 l2 l3 l4 : Option mx_V) (S h : mx_H) (n : Int), mx_ex d 180 40 [l0, l1, l2, l3, l4] [(2, a)] S h n = mx_gd (13 ≤ S a (-2) ∧ S a (-2) ≤ 13) d 180 43 [l0, l1, l2, l3, l4] [(2, S a 0)] S h n) ∧
  (∀ (d : Nat) (l0 l1 l2 l3 l4 : Option mx_V) (v0 : mx_V) (S h : mx_H) (n : Int), mx_ex d 180 43 [l0, l1, l2, l3, l4] [v0] S h n = mx_ex d 180 45 [l0, l1, l2, l3, l4] [(0, 9), v0] S h n) ∧
  (∀ (d : Nat) (l0 l1 l2 l3 l4 : Option mx_V) (v0 v1 : mx_V) (S h : mx_H) (n : Int), mx_ex d 180 45 [l0, l1, l2, l3, l4] [v0, v1] S h n = mx_ex d 180 47 [l0, l1, l2, l3, l4] [(0, 10), v0, v1] S h n) ∧
  (∀ (d : Nat) (x : Int) (l0 l2 l3 l4 : Option mx_V) (v0 v1 v2 : mx_V) (S h : mx_H) (n : Int), mx_ex d 180 47 [l0, some (0, x), l2, l3, l4] [v0, v1, v2] S h n = mx_ex d 180 48 [l0, some (0, x), l2, l3, l4] [(0, x), v0, v1, v2] S h n) ∧
  (∀ (d : Nat) (b a : Int) (l0 l1 l2 l3 l4 : Option mx_V) (v2 v3 : mx_V) (S h : mx_H) (n : Int), mx_ex d 180 48 [l0, l1, l2, l3, l4] [(0, b), (0, a), v2, v3] S h n = mx_ex d 180 49 [l0, l1, l2, l3, l4] [(0, mx_w (a * b)), v2, v3] S h n) ∧
  (∀ (d : Nat) (b a : Int) (l0 l1 l2 l3 l4 : Option mx_V) (v2 : mx_V) (S h : mx_H) (n : Int), mx_ex d 180 49 [l0, l1, l2, l3, l4] [(0, b), (0, a), v2] S h n = mx_ex d 180 50 [l0, l1, l2, l3, l4] [(0, mx_w (a + b)), v2] S h n) ∧
  (∀ (d : Nat) (l0 l1 l2 l3 l4 : Option mx_V) (v0 v1 : mx_V) (S h : mx_H) (n : Int), mx_ex d 180 50 [l0, l1, l2, l3, l4] [v0, v1] S h n = mx_ex d 180 51 [l0, l1, l2, l3, l4] [(0, 4), v0, v1] S h n) ∧
  (∀ (d : Nat) (b a : Int) (l0 l1 l2 l3 l4 : Option mx_V) (v2 : mx_V) (S h : mx_H) (n : Int), mx_ex d 180 51 [l0, l1, l2, l3, l4] [(0, b), (0, a), v2] S h n = mx_ex d 180 52 [l0, l1, l2, l3, l4] [(0, mx_w (a + b)), v2] S h n) ∧
  (∀ (d : Nat) (x : Int) (l0 l1 l3 l4 : Option mx_V) (v0 v1 : mx_V) (S h : mx_H) (n : Int), mx_ex d 180 52 [l0, l1, some (0, x), l3, l4] [v0, v1] S h n = mx_ex d 180 53 [l0, l1, some (0, x), l3, l4] [(0, x), v0, v1] S h n) ∧
  (∀ (d : Nat) (b a : Int) (l0 l1 l2 l3 l4 : Option mx_V) (v2 : mx_V) (S h : mx_H) (n : Int), mx_ex d 180 53 [l0, l1, l2, l3, l4] [(0, b), (0, a), v2] S h n = mx_ex d 180 54 [l0, l1, l2, l3, l4] [(0, mx_w (a + b)), v2] S h n) ∧
  (∀ (d : Nat) (x : Int) (l0 l1 l2 l4 : Option mx_V) (v0 v1 : mx_V) (S h : mx_H) (n : Int), mx_ex d 180 54 [l0, l1, l2, some (0, x), l4] [v0, v1] S h n = mx_ex d 180 55 [l0, l1, l2, some (0, x), l4] [(0, x), v0, v1] S h n) ∧
  (∀ (d : Nat) (v i a : Int) (l0 l1 l2 l3 l4 : Option mx_V) (S h : mx_H) (n : Int), mx_ex d 180 55 [l0, l1, l2, l3, l4] [(0, v), (0, i), (2, a)] S h n = mx_gd (S a (-2) = 20 ∧ 0 ≤ i ∧ i < S a (-1)) d 180 56 [l0, l1, l2, l3, l4] [] S (mx_u h a i v) n) ∧
  (∀ (d : Nat) (x : Int) (l0 l1 l2 l3 : Option mx_V) (S h : mx_H) (n : Int), mx_ex d 180 56 [l0, l1, l2, l3, some (0, x)] [] S h n = mx_ex d 180 58 [l0, l1, l2, l3, some (0, x)] [(0, x)] S h n) ∧
  (∀ (d : Nat) (x : Int) (l0 l1 l2 l3 l4 : Option mx_V) (S h : mx_H) (n : Int), mx_ex d 180 58 [l0, l1, l2, l3, l4] [(0, x)] S h n = some (some (0, x), S, h, n)) :=
  ⟨by intros; exact rfl,
   by intros; exact eq_ld rfl rfl,
   by intros; exact eq_ld rfl rfl,
   by intros; exact eq_cv rfl (Nat.le_of_ble_eq_true rfl) rfl rfl rfl (Nat.le_of_ble_eq_true rfl),
   by intros; exact eq_if0 rfl,
   by intros; exact eq_ld rfl rfl,
   by intros; exact eq_ld rfl rfl,
   by intros; exact eq_ld rfl rfl,
   by intros; exact eq_cv rfl (Nat.le_of_ble_eq_true rfl) rfl rfl rfl (Nat.le_of_ble_eq_true rfl),
   by intros; exact eq_if0 rfl,
   by intros; exact eq_ld rfl rfl,
   by intros; exact eq_push rfl,
   by intros; exact eq_push rfl,
   by intros; exact eq_cs rfl (Nat.le_of_ble_eq_true rfl) rfl rfl rfl (Nat.le_of_ble_eq_true rfl),
   by intros; exact eq_if1 rfl,
   by intros; exact eq_push rfl,
   by intros; exact eq_ret rfl,
   by intros; exact eq_ld rfl rfl,
   by intros; exact eq_ld rfl rfl,
   by intros; exact eq_push rfl,
   by intros; exact eq_ld rfl rfl,
   by intros; exact eq_i2 (o := mx_add) rfl,
   by intros; exact eq_cv rfl (Nat.le_of_ble_eq_true rfl) rfl rfl rfl (Nat.le_of_ble_eq_true rfl),
   by intros; exact eq_st rfl (by decide) (Nat.le_of_ble_eq_true rfl) rfl,
   by intros; exact eq_ld rfl rfl,
   by intros; exact eq_gr rfl,
   by intros; exact eq_push rfl,
   by intros; exact eq_push rfl,
   by intros; exact eq_ld rfl rfl,
   by intros; exact eq_i2 (o := mx_mul) rfl,
   by intros; exact eq_i2 (o := mx_add) rfl,
   by intros; exact eq_push rfl,
   by intros; exact eq_i2 (o := mx_add) rfl,
   by intros; exact eq_ld rfl rfl,
   by intros; exact eq_i2 (o := mx_add) rfl,
   by intros; exact eq_ld rfl rfl,
   by intros; exact eq_iast rfl,
   by intros; exact eq_ld rfl rfl,
   by intros; exact eq_ret rfl⟩
theorem rw_X12_move :
  (∀ (d : Nat) (a0 a1 a2 : Int) (S h : mx_H) (n : Int), mx_M d 181 [(2, a0), (0, a1), (0, a2)] S h n = mx_ex d 181 0 [some (2, a0), some (0, a1), some (0, a2), none] [] S h n) ∧
  (∀ (d : Nat) (x : Int) (l1 l2 l3 : Option mx_V) (S h : mx_H) (n : Int), mx_ex d 181 0 [some (2, x), l1, l2, l3] [] S h n = mx_ex d 181 1 [some (2, x), l1, l2, l3] [(2, x)] S h n) ∧
  (∀ (d : Nat) (x : Int) (l0 l2 l3 : Option mx_V) (v0 : mx_V) (S h : mx_H) (n : Int), mx_ex d 181 1 [l0, some (0, x), l2, l3] [v0] S h n = mx_ex d 181 2 [l0, some (0, x), l2, l3] [(0, x), v0] S h n) ∧
  (∀ (d : Nat) (x0 a : Int) (l0 l1 l2 l3 : Option mx_V) (S h : mx_H) (n : Int), mx_ex (d + 1) 181 2 [l0, l1, l2, l3] [(0, x0), (2, a)] S h n = mx_cl (S a (-2) = 13) d 158 [(2, a), (0, x0)] 181 5 [l0, l1, l2, l3] [] S h n) ∧
  (∀ (d : Nat) (a : Int) (l0 l1 l2 l3 : Option mx_V) (S h : mx_H) (n : Int), mx_ex d 181 5 [l0, l1, l2, l3] [(0, a)] S h n = mx_br (a = 0) d 181 15 8 [l0, l1, l2, l3] [] S h n) ∧
  (∀ (d : Nat) (x : Int) (l0 l1 l3 : Option mx_V) (S h : mx_H) (n : Int), mx_ex d 181 8 [l0, l1, some (0, x), l3] [] S h n = mx_ex d 181 9 [l0, l1, some (0, x), l3] [(0, x)] S h n) ∧
  (∀ (d : Nat) (x0 : Int) (l0 l1 l2 l3 : Option mx_V) (S h : mx_H) (n : Int), mx_ex (d + 1) 181 9 [l0, l1, l2, l3] [(0, x0)] S h n = mx_rt (mx_M d 159 [(0, x0)] S h n) (d + 1) 181 12 [l0, l1, l2, l3] []) ∧
  (∀ (d : Nat) (a : Int) (l0 l1 l2 l3 : Option mx_V) (S h : mx_H) (n : Int), mx_ex d 181 12 [l0, l1, l2, l3] [(0, a)] S h n = mx_br (a = 0) d 181 15 17 [l0, l1, l2, l3] [] S h n) ∧
  (∀ (d : Nat) (l0 l1 l2 l3 : Option mx_V) (S h : mx_H) (n : Int), mx_ex d 181 15 [l0, l1, l2, l3] [] S h n = mx_ex d 181 16 [l0, l1, l2, l3] [(0, (-1))] S h n) ∧
  (∀ (d : Nat) (x : Int) (l0 l1 l2 l3 : Option mx_V) (S h : mx_H) (n : Int), mx_ex d 181 16 [l0, l1, l2, l3] [(0, x)] S h n = some (some (0, x), S, h, n)) ∧
  (∀ (d : Nat) (x : Int) (l1 l2 l3 : Option mx_V) (S h : mx_H) (n : Int), mx_ex d 181 17 [some (2, x), l1, l2, l3] [] S h n = mx_ex d 181 18 [some (2, x), l1, l2, l3] [(2, x)] S h n) ∧
  (∀ (d : Nat) (x : Int) (l0 l2 l3 : Option mx_V) (v0 : mx_V) (S h : mx_H) (n : Int), mx_ex d 181 18 [l0, some (0, x), l2, l3] [v0] S h n = mx_ex d 181 19 [l0, some (0, x), l2, l3] [(0, x), v0] S h n) ∧
  (∀ (d : Nat) (l0 l1 l2 l3 : Option mx_V) (v0 v1 : mx_V) (S h : mx_H) (n : Int), mx_ex d 181 19 [l0, l1, l2, l3] [v0, v1] S h n = mx_ex d 181 20 [l0, l1, l2, l3] [(0, 1), v0, v1] S h n) ∧
  (∀ (d : Nat) (x0 x1 a : Int) (l0 l1 l2 l3 : Option mx_V) (S h : mx_H) (n : Int), mx_ex (d + 1) 181 20 [l0, l1, l2, l3] [(0, x0), (0, x1), (2, a)] S h n = mx_cl (S a (-2) = 13) d 161 [(2, a), (0, x1), (0, x0)] 181 23 [l0, l1, l2, l3] [] S h n) ∧
  (∀ (d : Nat) (x : Int) (l0 l1 l2 l3 : Option mx_V) (S h : mx_H) (n : Int), mx_ex d 181 23 [l0, l1, l2, l3] [(0, x)] S h n = mx_ex d 181 24 [l0, l1, mx_nl l2, some (0, x)] [] S h n) ∧
  (∀ (d : Nat) (x : Int) (l1 l2 l3 : Option mx_V) (S h : mx_H) (n : Int), mx_ex d 181 24 [some (2, x), l1, l2, l3] [] S h n = mx_ex d 181 25 [some (2, x), l1, l2, l3] [(2, x)] S h n) ∧
  (∀ (d : Nat) (a : Int) (l0 l1 l2 l3 : Option mx_V) (S h : mx_H) (n : Int), mx_ex d 181 25 [l0, l1, l2, l3] [(2, a)] S h n = mx_gd (13 ≤ S a (-2) ∧ S a (-2) ≤ 13) d 181 28 [l0, l1, l2, l3] [(2, S a 0)] S h n) ∧
  (∀ (d : Nat) (l0 l1 l2 l3 : Option mx_V) (v0 : mx_V) (S h : mx_H) (n : Int), mx_ex d 181 28 [l0, l1, l2, l3] [v0] S h n = mx_ex d 181 30 [l0, l1, l2, l3] [(0, 9), v0] S h n) ∧
  (∀ (d : Nat) (l0 l1 l2 l3 : Option mx_V) (v0 v1 : mx_V) (S h : mx_H) (n : Int), mx_ex d 181 30 [l0, l1, l2, l3] [v0, v1] S h n = mx_ex d 181 32 [l0, l1, l2, l3] [(0, 10), v0, v1] S h n) ∧
  (∀ (d : Nat) (x : Int) (l0 l2 l3 : Option mx_V) (v0 v1 v2 : mx_V) (S h : mx_H) (n : Int), mx_ex d 181 32 [l0, some (0, x), l2, l3] [v0, v1, v2] S h n = mx_ex d 181 33 [l0, some (0, x), l2, l3] [(0, x), v0, v1, v2] S h n) ∧
  (∀ (d : Nat) (b a : Int) (l0 l1 l2 l3 : Option mx_V) (v2 v3 : mx_V) (S h : mx_H) (n : Int), mx_ex d 181 33 [l0, l1, l2, l3] [(0, b), (0, a), v2, v3] S h n = mx_ex d 181 34 [l0, l1, l2, l3] [(0, mx_w (a * b)), v2, v3] S h n) ∧
  (∀ (d : Nat) (b a : Int) (l0 l1 l2 l3 : Option mx_V) (v2 : mx_V) (S h : mx_H) (n : Int), mx_ex d 181 34 [l0, l1, l2, l3] [(0, b), (0, a), v2] S h n = mx_ex d 181 35 [l0, l1, l2, l3] [(0, mx_w (a + b)), v2] S h n) ∧
  (∀ (d : Nat) (l0 l1 l2 l3 : Option mx_V) (v0 v1 : mx_V) (S h : mx_H) (n : Int), mx_ex d 181 35 [l0, l1, l2, l3] [v0, v1] S h n = mx_ex d 181 36 [l0, l1, l2, l3] [(0, 1), v0, v1] S h n) ∧
  (∀ (d : Nat) (b a : Int) (l0 l1 l2 l3 : Option mx_V) (v2 : mx_V) (S h : mx_H) (n : Int), mx_ex d 181 36 [l0, l1, l2, l3] [(0, b), (0, a), v2] S h n = mx_ex d 181 37 [l0, l1, l2, l3] [(0, mx_w (a + b)), v2] S h n) ∧
  (∀ (d : Nat) (x : Int) (l0 l1 l3 : Option mx_V) (v0 v1 : mx_V) (S h : mx_H) (n : Int), mx_ex d 181 37 [l0, l1, some (0, x), l3] [v0, v1] S h n = mx_ex d 181 38 [l0, l1, some (0, x), l3] [(0, x), v0, v1] S h n) ∧
  (∀ (d : Nat) (v i a : Int) (l0 l1 l2 l3 : Option mx_V) (S h : mx_H) (n : Int), mx_ex d 181 38 [l0, l1, l2, l3] [(0, v), (0, i), (2, a)] S h n = mx_gd (S a (-2) = 20 ∧ 0 ≤ i ∧ i < S a (-1)) d 181 39 [l0, l1, l2, l3] [] S (mx_u h a i v) n) ∧
  (∀ (d : Nat) (x : Int) (l0 l1 l2 : Option mx_V) (S h : mx_H) (n : Int), mx_ex d 181 39 [l0, l1, l2, some (0, x)] [] S h n = mx_ex d 181 40 [l0, l1, l2, some (0, x)] [(0, x)] S h n) ∧
  (∀ (d : Nat) (x : Int) (l0 l1 l2 l3 : Option mx_V) (S h : mx_H) (n : Int), mx_ex d 181 40 [l0, l1, l2, l3] [(0, x)] S h n = some (some (0, x), S, h, n)) :=
  ⟨by intros; exact rfl,
   by intros; exact eq_ld rfl rfl,
   by intros; exact eq_ld rfl rfl,
   by intros; exact eq_cv rfl (Nat.le_of_ble_eq_true rfl) rfl rfl rfl (Nat.le_of_ble_eq_true rfl),
   by intros; exact eq_if0 rfl,
   by intros; exact eq_ld rfl rfl,
   by intros; exact eq_cs rfl (Nat.le_of_ble_eq_true rfl) rfl rfl rfl (Nat.le_of_ble_eq_true rfl),
   by intros; exact eq_if1 rfl,
   by intros; exact eq_push rfl,
   by intros; exact eq_ret rfl,
   by intros; exact eq_ld rfl rfl,
   by intros; exact eq_ld rfl rfl,
   by intros; exact eq_push rfl,
   by intros; exact eq_cv rfl (Nat.le_of_ble_eq_true rfl) rfl rfl rfl (Nat.le_of_ble_eq_true rfl),
   by intros; exact eq_st rfl (by decide) (Nat.le_of_ble_eq_true rfl) rfl,
   by intros; exact eq_ld rfl rfl,
   by intros; exact eq_gr rfl,
   by intros; exact eq_push rfl,
   by intros; exact eq_push rfl,
   by intros; exact eq_ld rfl rfl,
   by intros; exact eq_i2 (o := mx_mul) rfl,
   by intros; exact eq_i2 (o := mx_add) rfl,
   by intros; exact eq_push rfl,
   by intros; exact eq_i2 (o := mx_add) rfl,
   by intros; exact eq_ld rfl rfl,
   by intros; exact eq_iast rfl,
   by intros; exact eq_ld rfl rfl,
   by intros; exact eq_ret rfl⟩
theorem rw_X12_baseAt :
  (∀ (d : Nat) (a0 a1 a2 a3 : Int) (S h : mx_H) (n : Int), mx_M d 182 [(2, a0), (0, a1), (0, a2), (0, a3)] S h n = mx_ex d 182 0 [some (2, a0), some (0, a1), some (0, a2), some (0, a3), none] [] S h n) ∧
  (∀ (d : Nat) (x : Int) (l0 l1 l3 l4 : Option mx_V) (S h : mx_H) (n : Int), mx_ex d 182 0 [l0, l1, some (0, x), l3, l4] [] S h n = mx_ex d 182 1 [l0, l1, some (0, x), l3, l4] [(0, x)] S h n) ∧
  (∀ (d : Nat) (x : Int) (l1 l2 l3 l4 : Option mx_V) (v0 : mx_V) (S h : mx_H) (n : Int), mx_ex d 182 1 [some (2, x), l1, l2, l3, l4] [v0] S h n = mx_ex d 182 2 [some (2, x), l1, l2, l3, l4] [(2, x), v0] S h n) ∧
  (∀ (d : Nat) (x : Int) (l0 l2 l3 l4 : Option mx_V) (v0 v1 : mx_V) (S h : mx_H) (n : Int), mx_ex d 182 2 [l0, some (0, x), l2, l3, l4] [v0, v1] S h n = mx_ex d 182 3 [l0, some (0, x), l2, l3, l4] [(0, x), v0, v1] S h n) ∧
  (∀ (d : Nat) (l0 l1 l2 l3 l4 : Option mx_V) (v0 v1 v2 : mx_V) (S h : mx_H) (n : Int), mx_ex d 182 3 [l0, l1, l2, l3, l4] [v0, v1, v2] S h n = mx_ex d 182 4 [l0, l1, l2, l3, l4] [(0, 2), v0, v1, v2] S h n) ∧
  (∀ (d : Nat) (x0 x1 a : Int) (l0 l1 l2 l3 l4 : Option mx_V) (v3 : mx_V) (S h : mx_H) (n : Int), mx_ex (d + 1) 182 4 [l0, l1, l2, l3, l4] [(0, x0), (0, x1), (2, a), v3] S h n = mx_cl (S a (-2) = 13) d 161 [(2, a), (0, x1), (0, x0)] 182 7 [l0, l1, l2, l3, l4] [v3] S h n) ∧
  (∀ (d : Nat) (b a : Int) (l0 l1 l2 l3 l4 : Option mx_V) (S h : mx_H) (n : Int), mx_ex d 182 7 [l0, l1, l2, l3, l4] [(0, b), (0, a)] S h n = mx_br (a < b) d 182 14 10 [l0, l1, l2, l3, l4] [] S h n) ∧
  (∀ (d : Nat) (l0 l1 l2 l3 l4 : Option mx_V) (S h : mx_H) (n : Int), mx_ex d 182 10 [l0, l1, l2, l3, l4] [] S h n = mx_ex d 182 11 [l0, l1, l2, l3, l4] [(0, 1)] S h n) ∧
  (∀ (d : Nat) (l0 l1 l2 l3 l4 : Option mx_V) (v0 : mx_V) (S h : mx_H) (n : Int), mx_ex d 182 11 [l0, l1, l2, l3, l4] [v0] S h n = mx_ex d 182 15 [l0, l1, l2, l3, l4] [v0] S h n) ∧
  (∀ (d : Nat) (l0 l1 l2 l3 l4 : Option mx_V) (S h : mx_H) (n : Int), mx_ex d 182 14 [l0, l1, l2, l3, l4] [] S h n = mx_ex d 182 15 [l0, l1, l2, l3, l4] [(0, 0)] S h n) ∧
  (∀ (d : Nat) (x : Int) (l0 l1 l2 l3 l4 : Option mx_V) (S h : mx_H) (n : Int), mx_ex d 182 15 [l0, l1, l2, l3, l4] [(0, x)] S h n = mx_ex d 182 17 [l0, l1, l2, mx_nl l3, some (0, x)] [] S h n) ∧
  (∀ (d : Nat) (x : Int) (l1 l2 l3 l4 : Option mx_V) (S h : mx_H) (n : Int), mx_ex d 182 17 [some (2, x), l1, l2, l3, l4] [] S h n = mx_ex d 182 18 [some (2, x), l1, l2, l3, l4] [(2, x)] S h n) ∧
  (∀ (d : Nat) (x : Int) (l0 l2 l3 l4 : Option mx_V) (v0 : mx_V) (S h : mx_H) (n : Int), mx_ex d 182 18 [l0, some (0, x), l2, l3, l4] [v0] S h n = mx_ex d 182 19 [l0, some (0, x), l2, l3, l4] [(0, x), v0] S h n) ∧
  (∀ (d : Nat) (l0 l1 l2 l3 l4 : Option mx_V) (v0 v1 : mx_V) (S h : mx_H) (n : Int), mx_ex d 182 19 [l0, l1, l2, l3, l4] [v0, v1] S h n = mx_ex d 182 20 [l0, l1, l2, l3, l4] [(0, 0), v0, v1] S h n) ∧
  (∀ (d : Nat) (x0 x1 a : Int) (l0 l1 l2 l3 l4 : Option mx_V) (S h : mx_H) (n : Int), mx_ex (d + 1) 182 20 [l0, l1, l2, l3, l4] [(0, x0), (0, x1), (2, a)] S h n = mx_cl (S a (-2) = 13) d 161 [(2, a), (0, x1), (0, x0)] 182 23 [l0, l1, l2, l3, l4] [] S h n) ∧
  (∀ (d : Nat) (l0 l1 l2 l3 l4 : Option mx_V) (v0 : mx_V) (S h : mx_H) (n : Int), mx_ex d 182 23 [l0, l1, l2, l3, l4] [v0] S h n = mx_ex d 182 24 [l0, l1, l2, l3, l4] [(0, 2), v0] S h n) ∧
  (∀ (d : Nat) (b a : Int) (l0 l1 l2 l3 l4 : Option mx_V) (S h : mx_H) (n : Int), mx_ex d 182 24 [l0, l1, l2, l3, l4] [(0, b), (0, a)] S h n = mx_br (a = b) d 182 27 38 [l0, l1, l2, l3, l4] [] S h n) ∧
  (∀ (d : Nat) (x : Int) (l0 l1 l2 l3 : Option mx_V) (S h : mx_H) (n : Int), mx_ex d 182 27 [l0, l1, l2, l3, some (0, x)] [] S h n = mx_ex d 182 29 [l0, l1, l2, l3, some (0, x)] [(0, x)] S h n) ∧
  (∀ (d : Nat) (a : Int) (l0 l1 l2 l3 l4 : Option mx_V) (S h : mx_H) (n : Int), mx_ex d 182 29 [l0, l1, l2, l3, l4] [(0, a)] S h n = mx_br (a = 0) d 182 38 32 [l0, l1, l2, l3, l4] [] S h n) ∧
  (∀ (d : Nat) (x : Int) (l0 l1 l2 l4 : Option mx_V) (S h : mx_H) (n : Int), mx_ex d 182 32 [l0, l1, l2, some (0, x), l4] [] S h n = mx_ex d 182 33 [l0, l1, l2, some (0, x), l4] [(0, x)] S h n) ∧
  (∀ (d : Nat) (l0 l1 l2 l3 l4 : Option mx_V) (v0 : mx_V) (S h : mx_H) (n : Int), mx_ex d 182 33 [l0, l1, l2, l3, l4] [v0] S h n = mx_ex d 182 34 [l0, l1, l2, l3, l4] [(0, 1), v0] S h n) ∧
  (∀ (d : Nat) (b a : Int) (l0 l1 l2 l3 l4 : Option mx_V) (S h : mx_H) (n : Int), mx_ex d 182 34 [l0, l1, l2, l3, l4] [(0, b), (0, a)] S h n = mx_ex d 182 35 [l0, l1, l2, l3, l4] [(0, mx_w (a + b))] S h n) ∧
  (∀ (d : Nat) (l0 l1 l2 l3 l4 : Option mx_V) (v0 : mx_V) (S h : mx_H) (n : Int), mx_ex d 182 35 [l0, l1, l2, l3, l4] [v0] S h n = mx_ex d 182 60 [l0, l1, l2, l3, l4] [v0] S h n) ∧
  (∀ (d : Nat) (x : Int) (l1 l2 l3 l4 : Option mx_V) (S h : mx_H) (n : Int), mx_ex d 182 38 [some (2, x), l1, l2, l3, l4] [] S h n = mx_ex d 182 39 [some (2, x), l1, l2, l3, l4] [(2, x)] S h n) ∧
  (∀ (d : Nat) (x : Int) (l0 l2 l3 l4 : Option mx_V) (v0 : mx_V) (S h : mx_H) (n : Int), mx_ex d 182 39 [l0, some (0, x), l2, l3, l4] [v0] S h n = mx_ex d 182 40 [l0, some (0, x), l2, l3, l4] [(0, x), v0] S h n) ∧
  (∀ (d : Nat) (l0 l1 l2 l3 l4 : Option mx_V) (v0 v1 : mx_V) (S h : mx_H) (n : Int), mx_ex d 182 40 [l0, l1, l2, l3, l4] [v0, v1] S h n = mx_ex d 182 41 [l0, l1, l2, l3, l4] [(0, 0), v0, v1] S h n) ∧
  (∀ (d : Nat) (x0 x1 a : Int) (l0 l1 l2 l3 l4 : Option mx_V) (S h : mx_H) (n : Int), mx_ex (d + 1) 182 41 [l0, l1, l2, l3, l4] [(0, x0), (0, x1), (2, a)] S h n = mx_cl (S a (-2) = 13) d 161 [(2, a), (0, x1), (0, x0)] 182 44 [l0, l1, l2, l3, l4] [] S h n) ∧
  (∀ (d : Nat) (l0 l1 l2 l3 l4 : Option mx_V) (v0 : mx_V) (S h : mx_H) (n : Int), mx_ex d 182 44 [l0, l1, l2, l3, l4] [v0] S h n = mx_ex d 182 45 [l0, l1, l2, l3, l4] [(0, 3), v0] S h n) ∧
  (∀ (d : Nat) (b a : Int) (l0 l1 l2 l3 l4 : Option mx_V) (S h : mx_H) (n : Int), mx_ex d 182 45 [l0, l1, l2, l3, l4] [(0, b), (0, a)] S h n = mx_br (a = b) d 182 48 59 [l0, l1, l2, l3, l4] [] S h n) ∧
  (∀ (d : Nat) (x : Int) (l0 l1 l2 l3 : Option mx_V) (S h : mx_H) (n : Int), mx_ex d 182 48 [l0, l1, l2, l3, some (0, x)] [] S h n = mx_ex d 182 50 [l0, l1, l2, l3, some (0, x)] [(0, x)] S h n) ∧
  (∀ (d : Nat) (a : Int) (l0 l1 l2 l3 l4 : Option mx_V) (S h : mx_H) (n : Int), mx_ex d 182 50 [l0, l1, l2, l3, l4] [(0, a)] S h n = mx_br (a = 0) d 182 59 53 [l0, l1, l2, l3, l4] [] S h n) ∧
  (∀ (d : Nat) (x : Int) (l0 l1 l2 l4 : Option mx_V) (S h : mx_H) (n : Int), mx_ex d 182 53 [l0, l1, l2, some (0, x), l4] [] S h n = mx_ex d 182 54 [l0, l1, l2, some (0, x), l4] [(0, x)] S h n) ∧
  (∀ (d : Nat) (l0 l1 l2 l3 l4 : Option mx_V) (v0 : mx_V) (S h : mx_H) (n : Int), mx_ex d 182 54 [l0, l1, l2, l3, l4] [v0] S h n = mx_ex d 182 55 [l0, l1, l2, l3, l4] [(0, 1), v0] S h n) ∧
  (∀ (d : Nat) (b a : Int) (l0 l1 l2 l3 l4 : Option mx_V) (S h : mx_H) (n : Int), mx_ex d 182 55 [l0, l1, l2, l3, l4] [(0, b), (0, a)] S h n = mx_ex d 182 56 [l0, l1, l2, l3, l4] [(0, mx_w (a - b))] S h n) ∧
  (∀ (d : Nat) (l0 l1 l2 l3 l4 : Option mx_V) (v0 : mx_V) (S h : mx_H) (n : Int), mx_ex d 182 56 [l0, l1, l2, l3, l4] [v0] S h n = mx_ex d 182 60 [l0, l1, l2, l3, l4] [v0] S h n) ∧
  (∀ (d : Nat) (x : Int) (l0 l1 l2 l4 : Option mx_V) (S h : mx_H) (n : Int), mx_ex d 182 59 [l0, l1, l2, some (0, x), l4] [] S h n = mx_ex d 182 60 [l0, l1, l2, some (0, x), l4] [(0, x)] S h n) ∧
  (∀ (d : Nat) (x : Int) (l0 l1 l2 l3 l4 : Option mx_V) (S h : mx_H) (n : Int), mx_ex d 182 60 [l0, l1, l2, l3, l4] [(0, x)] S h n = some (some (0, x), S, h, n)) :=
  ⟨by intros; exact rfl,
   by intros; exact eq_ld rfl rfl,
   by intros; exact eq_ld rfl rfl,
   by intros; exact eq_ld rfl rfl,
   by intros; exact eq_push rfl,
   by intros; exact eq_cv rfl (Nat.le_of_ble_eq_true rfl) rfl rfl rfl (Nat.le_of_ble_eq_true rfl),
   by intros; exact eq_ic2 rfl,
   by intros; exact eq_push rfl,
   by intros; exact eq_go rfl,
   by intros; exact eq_push rfl,
   by intros; exact eq_st rfl (by decide) (Nat.le_of_ble_eq_true rfl) rfl,
   by intros; exact eq_ld rfl rfl,
   by intros; exact eq_ld rfl rfl,
   by intros; exact eq_push rfl,
   by intros; exact eq_cv rfl (Nat.le_of_ble_eq_true rfl) rfl rfl rfl (Nat.le_of_ble_eq_true rfl),
   by intros; exact eq_push rfl,
   by intros; exact eq_ic1 rfl,
   by intros; exact eq_ld rfl rfl,
   by intros; exact eq_if0 rfl,
   by intros; exact eq_ld rfl rfl,
   by intros; exact eq_push rfl,
   by intros; exact eq_i2 (o := mx_add) rfl,
   by intros; exact eq_go rfl,
   by intros; exact eq_ld rfl rfl,
   by intros; exact eq_ld rfl rfl,
   by intros; exact eq_push rfl,
   by intros; exact eq_cv rfl (Nat.le_of_ble_eq_true rfl) rfl rfl rfl (Nat.le_of_ble_eq_true rfl),
   by intros; exact eq_push rfl,
   by intros; exact eq_ic1 rfl,
   by intros; exact eq_ld rfl rfl,
   by intros; exact eq_if0 rfl,
   by intros; exact eq_ld rfl rfl,
   by intros; exact eq_push rfl,
   by intros; exact eq_i2 (o := mx_sub) rfl,
   by intros; exact eq_go rfl,
   by intros; exact eq_ld rfl rfl,
   by intros; exact eq_ret rfl⟩
theorem rh_X12_worthBy_52 : ∀ (d : Nat) (x : Int) (l0 l1 l2 l3 l4 l5 l7 : Option mx_V) (S h : mx_H) (n : Int), mx_ex d 183 52 [l0, l1, l2, l3, l4, l5, some (0, x), l7] [] S h n = mx_ex d 183 54 [l0, l1, l2, l3, l4, l5, some (0, x), l7] [(0, x)] S h n := by intros; exact eq_ld rfl rfl
theorem rw_X12_worthBy :
  (∀ (d : Nat) (a0 a1 a2 : Int) (S h : mx_H) (n : Int), mx_M d 183 [(2, a0), (0, a1), (0, a2)] S h n = mx_ex d 183 0 [some (2, a0), some (0, a1), some (0, a2), none, none, none, none, none] [] S h n) ∧
  (∀ (d : Nat) (x : Int) (l1 l2 l3 l4 l5 l6 l7 : Option mx_V) (S h : mx_H) (n : Int), mx_ex d 183 0 [some (2, x), l1, l2, l3, l4, l5, l6, l7] [] S h n = mx_ex d 183 1 [some (2, x), l1, l2, l3, l4, l5, l6, l7] [(2, x)] S h n) ∧
  (∀ (d : Nat) (x : Int) (l0 l2 l3 l4 l5 l6 l7 : Option mx_V) (v0 : mx_V) (S h : mx_H) (n : Int), mx_ex d 183 1 [l0, some (0, x), l2, l3, l4, l5, l6, l7] [v0] S h n = mx_ex d 183 2 [l0, some (0, x), l2, l3, l4, l5, l6, l7] [(0, x), v0] S h n) ∧
  (∀ (d : Nat) (l0 l1 l2 l3 l4 l5 l6 l7 : Option mx_V) (v0 v1 : mx_V) (S h : mx_H) (n : Int), mx_ex d 183 2 [l0, l1, l2, l3, l4, l5, l6, l7] [v0, v1] S h n = mx_ex d 183 3 [l0, l1, l2, l3, l4, l5, l6, l7] [(0, 3), v0, v1] S h n) ∧
  (∀ (d : Nat) (x0 x1 a : Int) (l0 l1 l2 l3 l4 l5 l6 l7 : Option mx_V) (S h : mx_H) (n : Int), mx_ex (d + 1) 183 3 [l0, l1, l2, l3, l4, l5, l6, l7] [(0, x0), (0, x1), (2, a)] S h n = mx_cl (S a (-2) = 13) d 161 [(2, a), (0, x1), (0, x0)] 183 6 [l0, l1, l2, l3, l4, l5, l6, l7] [] S h n) ∧
  (∀ (d : Nat) (x : Int) (l0 l1 l2 l3 l4 l5 l6 l7 : Option mx_V) (S h : mx_H) (n : Int), mx_ex d 183 6 [l0, l1, l2, l3, l4, l5, l6, l7] [(0, x)] S h n = mx_ex d 183 7 [l0, l1, mx_nl l2, some (0, x), l4, l5, l6, l7] [] S h n) ∧
  (∀ (d : Nat) (x : Int) (l1 l2 l3 l4 l5 l6 l7 : Option mx_V) (S h : mx_H) (n : Int), mx_ex d 183 7 [some (2, x), l1, l2, l3, l4, l5, l6, l7] [] S h n = mx_ex d 183 8 [some (2, x), l1, l2, l3, l4, l5, l6, l7] [(2, x)] S h n) ∧
  (∀ (d : Nat) (x : Int) (l0 l2 l3 l4 l5 l6 l7 : Option mx_V) (v0 : mx_V) (S h : mx_H) (n : Int), mx_ex d 183 8 [l0, some (0, x), l2, l3, l4, l5, l6, l7] [v0] S h n = mx_ex d 183 9 [l0, some (0, x), l2, l3, l4, l5, l6, l7] [(0, x), v0] S h n) ∧
  (∀ (d : Nat) (l0 l1 l2 l3 l4 l5 l6 l7 : Option mx_V) (v0 v1 : mx_V) (S h : mx_H) (n : Int), mx_ex d 183 9 [l0, l1, l2, l3, l4, l5, l6, l7] [v0, v1] S h n = mx_ex d 183 10 [l0, l1, l2, l3, l4, l5, l6, l7] [(0, 0), v0, v1] S h n) ∧
  (∀ (d : Nat) (x0 x1 a : Int) (l0 l1 l2 l3 l4 l5 l6 l7 : Option mx_V) (S h : mx_H) (n : Int), mx_ex (d + 1) 183 10 [l0, l1, l2, l3, l4, l5, l6, l7] [(0, x0), (0, x1), (2, a)] S h n = mx_cl (S a (-2) = 13) d 161 [(2, a), (0, x1), (0, x0)] 183 13 [l0, l1, l2, l3, l4, l5, l6, l7] [] S h n) ∧
  (∀ (d : Nat) (l0 l1 l2 l3 l4 l5 l6 l7 : Option mx_V) (v0 : mx_V) (S h : mx_H) (n : Int), mx_ex d 183 13 [l0, l1, l2, l3, l4, l5, l6, l7] [v0] S h n = mx_ex d 183 14 [l0, l1, l2, l3, l4, l5, l6, l7] [(0, 1), v0] S h n) ∧
  (∀ (d : Nat) (b a : Int) (l0 l1 l2 l3 l4 l5 l6 l7 : Option mx_V) (S h : mx_H) (n : Int), mx_ex d 183 14 [l0, l1, l2, l3, l4, l5, l6, l7] [(0, b), (0, a)] S h n = mx_br (a = b) d 183 27 17 [l0, l1, l2, l3, l4, l5, l6, l7] [] S h n) ∧
  (∀ (d : Nat) (x : Int) (l1 l2 l3 l4 l5 l6 l7 : Option mx_V) (S h : mx_H) (n : Int), mx_ex d 183 17 [some (2, x), l1, l2, l3, l4, l5, l6, l7] [] S h n = mx_ex d 183 18 [some (2, x), l1, l2, l3, l4, l5, l6, l7] [(2, x)] S h n) ∧
  (∀ (d : Nat) (x : Int) (l0 l2 l3 l4 l5 l6 l7 : Option mx_V) (v0 : mx_V) (S h : mx_H) (n : Int), mx_ex d 183 18 [l0, some (0, x), l2, l3, l4, l5, l6, l7] [v0] S h n = mx_ex d 183 19 [l0, some (0, x), l2, l3, l4, l5, l6, l7] [(0, x), v0] S h n) ∧
  (∀ (d : Nat) (l0 l1 l2 l3 l4 l5 l6 l7 : Option mx_V) (v0 v1 : mx_V) (S h : mx_H) (n : Int), mx_ex d 183 19 [l0, l1, l2, l3, l4, l5, l6, l7] [v0, v1] S h n = mx_ex d 183 20 [l0, l1, l2, l3, l4, l5, l6, l7] [(0, 0), v0, v1] S h n) ∧
  (∀ (d : Nat) (x0 x1 a : Int) (l0 l1 l2 l3 l4 l5 l6 l7 : Option mx_V) (S h : mx_H) (n : Int), mx_ex (d + 1) 183 20 [l0, l1, l2, l3, l4, l5, l6, l7] [(0, x0), (0, x1), (2, a)] S h n = mx_cl (S a (-2) = 13) d 161 [(2, a), (0, x1), (0, x0)] 183 23 [l0, l1, l2, l3, l4, l5, l6, l7] [] S h n) ∧
  (∀ (d : Nat) (l0 l1 l2 l3 l4 l5 l6 l7 : Option mx_V) (v0 : mx_V) (S h : mx_H) (n : Int), mx_ex d 183 23 [l0, l1, l2, l3, l4, l5, l6, l7] [v0] S h n = mx_ex d 183 24 [l0, l1, l2, l3, l4, l5, l6, l7] [(0, 5), v0] S h n) ∧
  (∀ (d : Nat) (b a : Int) (l0 l1 l2 l3 l4 l5 l6 l7 : Option mx_V) (S h : mx_H) (n : Int), mx_ex d 183 24 [l0, l1, l2, l3, l4, l5, l6, l7] [(0, b), (0, a)] S h n = mx_br (a = b) d 183 27 46 [l0, l1, l2, l3, l4, l5, l6, l7] [] S h n) ∧
  (∀ (d : Nat) (x : Int) (l1 l2 l3 l4 l5 l6 l7 : Option mx_V) (S h : mx_H) (n : Int), mx_ex d 183 27 [some (2, x), l1, l2, l3, l4, l5, l6, l7] [] S h n = mx_ex d 183 28 [some (2, x), l1, l2, l3, l4, l5, l6, l7] [(2, x)] S h n) ∧
  (∀ (d : Nat) (x : Int) (l0 l2 l3 l4 l5 l6 l7 : Option mx_V) (v0 : mx_V) (S h : mx_H) (n : Int), mx_ex d 183 28 [l0, some (0, x), l2, l3, l4, l5, l6, l7] [v0] S h n = mx_ex d 183 29 [l0, some (0, x), l2, l3, l4, l5, l6, l7] [(0, x), v0] S h n) ∧
  (∀ (d : Nat) (l0 l1 l2 l3 l4 l5 l6 l7 : Option mx_V) (v0 v1 : mx_V) (S h : mx_H) (n : Int), mx_ex d 183 29 [l0, l1, l2, l3, l4, l5, l6, l7] [v0, v1] S h n = mx_ex d 183 30 [l0, l1, l2, l3, l4, l5, l6, l7] [(0, 0), v0, v1] S h n) ∧
  (∀ (d : Nat) (x0 x1 a : Int) (l0 l1 l2 l3 l4 l5 l6 l7 : Option mx_V) (S h : mx_H) (n : Int), mx_ex (d + 1) 183 30 [l0, l1, l2, l3, l4, l5, l6, l7] [(0, x0), (0, x1), (2, a)] S h n = mx_cl (S a (-2) = 13) d 161 [(2, a), (0, x1), (0, x0)] 183 33 [l0, l1, l2, l3, l4, l5, l6, l7] [] S h n) ∧
  (∀ (d : Nat) (l0 l1 l2 l3 l4 l5 l6 l7 : Option mx_V) (v0 : mx_V) (S h : mx_H) (n : Int), mx_ex d 183 33 [l0, l1, l2, l3, l4, l5, l6, l7] [v0] S h n = mx_ex d 183 34 [l0, l1, l2, l3, l4, l5, l6, l7] [(0, 5), v0] S h n) ∧
  (∀ (d : Nat) (b a : Int) (l0 l1 l2 l3 l4 l5 l6 l7 : Option mx_V) (S h : mx_H) (n : Int), mx_ex d 183 34 [l0, l1, l2, l3, l4, l5, l6, l7] [(0, b), (0, a)] S h n = mx_br (a = b) d 183 37 43 [l0, l1, l2, l3, l4, l5, l6, l7] [] S h n) ∧
  (∀ (d : Nat) (x : Int) (l0 l1 l2 l4 l5 l6 l7 : Option mx_V) (S h : mx_H) (n : Int), mx_ex d 183 37 [l0, l1, l2, some (0, x), l4, l5, l6, l7] [] S h n = mx_ex d 183 38 [l0, l1, l2, some (0, x), l4, l5, l6, l7] [(0, x)] S h n) ∧
  (∀ (d : Nat) (a : Int) (l0 l1 l2 l3 l4 l5 l6 l7 : Option mx_V) (S h : mx_H) (n : Int), mx_ex d 183 38 [l0, l1, l2, l3, l4, l5, l6, l7] [(0, a)] S h n = mx_ex d 183 39 [l0, l1, l2, l3, l4, l5, l6, l7] [(0, mx_w (-a))] S h n) ∧
  (∀ (d : Nat) (a : Int) (l0 l1 l2 l3 l4 l5 l6 l7 : Option mx_V) (S h : mx_H) (n : Int), mx_ex d 183 39 [l0, l1, l2, l3, l4, l5, l6, l7] [(0, a)] S h n = mx_ex d 183 40 [l0, l1, l2, l3, l4, l5, l6, l7] [(1, a)] S h n) ∧
  (∀ (d : Nat) (l0 l1 l2 l3 l4 l5 l6 l7 : Option mx_V) (v0 : mx_V) (S h : mx_H) (n : Int), mx_ex d 183 40 [l0, l1, l2, l3, l4, l5, l6, l7] [v0] S h n = mx_ex d 183 45 [l0, l1, l2, l3, l4, l5, l6, l7] [v0] S h n) ∧
  (∀ (d : Nat) (x : Int) (l0 l1 l2 l4 l5 l6 l7 : Option mx_V) (S h : mx_H) (n : Int), mx_ex d 183 43 [l0, l1, l2, some (0, x), l4, l5, l6, l7] [] S h n = mx_ex d 183 44 [l0, l1, l2, some (0, x), l4, l5, l6, l7] [(0, x)] S h n) ∧
  (∀ (d : Nat) (a : Int) (l0 l1 l2 l3 l4 l5 l6 l7 : Option mx_V) (S h : mx_H) (n : Int), mx_ex d 183 44 [l0, l1, l2, l3, l4, l5, l6, l7] [(0, a)] S h n = mx_ex d 183 45 [l0, l1, l2, l3, l4, l5, l6, l7] [(1, a)] S h n) ∧
  (∀ (d : Nat) (x : Int) (l0 l1 l2 l3 l4 l5 l6 l7 : Option mx_V) (S h : mx_H) (n : Int), mx_ex d 183 45 [l0, l1, l2, l3, l4, l5, l6, l7] [(1, x)] S h n = some (some (1, x), S, h, n)) ∧
  (∀ (d : Nat) (l0 l1 l2 l3 l4 l5 l6 l7 : Option mx_V) (S h : mx_H) (n : Int), mx_ex d 183 46 [l0, l1, l2, l3, l4, l5, l6, l7] [] S h n = mx_ex d 183 47 [l0, l1, l2, l3, l4, l5, l6, l7] [(1, 0)] S h n) ∧
  (∀ (d : Nat) (x : Int) (l0 l1 l2 l3 l4 l5 l6 l7 : Option mx_V) (S h : mx_H) (n : Int), mx_ex d 183 47 [l0, l1, l2, l3, l4, l5, l6, l7] [(1, x)] S h n = mx_ex d 183 49 [l0, l1, l2, mx_nl l3, some (1, x), none, l6, l7] [] S h n) ∧
  (∀ (d : Nat) (l0 l1 l2 l3 l4 l5 l6 l7 : Option mx_V) (S h : mx_H) (n : Int), mx_ex d 183 49 [l0, l1, l2, l3, l4, l5, l6, l7] [] S h n = mx_ex d 183 50 [l0, l1, l2, l3, l4, l5, l6, l7] [(0, 0)] S h n) ∧
  (∀ (d : Nat) (x : Int) (l0 l1 l2 l3 l4 l5 l6 l7 : Option mx_V) (S h : mx_H) (n : Int), mx_ex d 183 50 [l0, l1, l2, l3, l4, l5, l6, l7] [(0, x)] S h n = mx_ex d 183 52 [l0, l1, l2, l3, l4, mx_nl l5, some (0, x), l7] [] S h n) ∧
  (∀ (d : Nat) (x : Int) (l0 l1 l2 l4 l5 l6 l7 : Option mx_V) (v0 : mx_V) (S h : mx_H) (n : Int), mx_ex d 183 54 [l0, l1, l2, some (0, x), l4, l5, l6, l7] [v0] S h n = mx_ex d 183 55 [l0, l1, l2, some (0, x), l4, l5, l6, l7] [(0, x), v0] S h n) ∧
  (∀ (d : Nat) (b a : Int) (l0 l1 l2 l3 l4 l5 l6 l7 : Option mx_V) (S h : mx_H) (n : Int), mx_ex d 183 55 [l0, l1, l2, l3, l4, l5, l6, l7] [(0, b), (0, a)] S h n = mx_br (a < b) d 183 58 112 [l0, l1, l2, l3, l4, l5, l6, l7] [] S h n) ∧
  (∀ (d : Nat) (x : Int) (l1 l2 l3 l4 l5 l6 l7 : Option mx_V) (S h : mx_H) (n : Int), mx_ex d 183 58 [some (2, x), l1, l2, l3, l4, l5, l6, l7] [] S h n = mx_ex d 183 59 [some (2, x), l1, l2, l3, l4, l5, l6, l7] [(2, x)] S h n) ∧
  (∀ (d : Nat) (x : Int) (l0 l2 l3 l4 l5 l6 l7 : Option mx_V) (v0 : mx_V) (S h : mx_H) (n : Int), mx_ex d 183 59 [l0, some (0, x), l2, l3, l4, l5, l6, l7] [v0] S h n = mx_ex d 183 60 [l0, some (0, x), l2, l3, l4, l5, l6, l7] [(0, x), v0] S h n) ∧
  (∀ (d : Nat) (l0 l1 l2 l3 l4 l5 l6 l7 : Option mx_V) (v0 v1 : mx_V) (S h : mx_H) (n : Int), mx_ex d 183 60 [l0, l1, l2, l3, l4, l5, l6, l7] [v0, v1] S h n = mx_ex d 183 61 [l0, l1, l2, l3, l4, l5, l6, l7] [(0, 0), v0, v1] S h n) ∧
  (∀ (d : Nat) (x0 x1 a : Int) (l0 l1 l2 l3 l4 l5 l6 l7 : Option mx_V) (S h : mx_H) (n : Int), mx_ex (d + 1) 183 61 [l0, l1, l2, l3, l4, l5, l6, l7] [(0, x0), (0, x1), (2, a)] S h n = mx_cl (S a (-2) = 13) d 161 [(2, a), (0, x1), (0, x0)] 183 64 [l0, l1, l2, l3, l4, l5, l6, l7] [] S h n) ∧
  (∀ (d : Nat) (l0 l1 l2 l3 l4 l5 l6 l7 : Option mx_V) (v0 : mx_V) (S h : mx_H) (n : Int), mx_ex d 183 64 [l0, l1, l2, l3, l4, l5, l6, l7] [v0] S h n = mx_ex d 183 65 [l0, l1, l2, l3, l4, l5, l6, l7] [(0, 4), v0] S h n) ∧
  (∀ (d : Nat) (b a : Int) (l0 l1 l2 l3 l4 l5 l6 l7 : Option mx_V) (S h : mx_H) (n : Int), mx_ex d 183 65 [l0, l1, l2, l3, l4, l5, l6, l7] [(0, b), (0, a)] S h n = mx_br (a = b) d 183 68 77 [l0, l1, l2, l3, l4, l5, l6, l7] [] S h n) ∧
  (∀ (d : Nat) (x : Int) (l0 l1 l2 l4 l5 l6 l7 : Option mx_V) (S h : mx_H) (n : Int), mx_ex d 183 68 [l0, l1, l2, some (0, x), l4, l5, l6, l7] [] S h n = mx_ex d 183 69 [l0, l1, l2, some (0, x), l4, l5, l6, l7] [(0, x)] S h n) ∧
  (∀ (d : Nat) (l0 l1 l2 l3 l4 l5 l6 l7 : Option mx_V) (v0 : mx_V) (S h : mx_H) (n : Int), mx_ex d 183 69 [l0, l1, l2, l3, l4, l5, l6, l7] [v0] S h n = mx_ex d 183 70 [l0, l1, l2, l3, l4, l5, l6, l7] [(0, 1), v0] S h n) ∧
  (∀ (d : Nat) (b a : Int) (l0 l1 l2 l3 l4 l5 l6 l7 : Option mx_V) (S h : mx_H) (n : Int), mx_ex d 183 70 [l0, l1, l2, l3, l4, l5, l6, l7] [(0, b), (0, a)] S h n = mx_ex d 183 71 [l0, l1, l2, l3, l4, l5, l6, l7] [(0, mx_w (a - b))] S h n) ∧
  (∀ (d : Nat) (x : Int) (l0 l1 l2 l3 l4 l5 l7 : Option mx_V) (v0 : mx_V) (S h : mx_H) (n : Int), mx_ex d 183 71 [l0, l1, l2, l3, l4, l5, some (0, x), l7] [v0] S h n = mx_ex d 183 73 [l0, l1, l2, l3, l4, l5, some (0, x), l7] [(0, x), v0] S h n) ∧
  (∀ (d : Nat) (b a : Int) (l0 l1 l2 l3 l4 l5 l6 l7 : Option mx_V) (S h : mx_H) (n : Int), mx_ex d 183 73 [l0, l1, l2, l3, l4, l5, l6, l7] [(0, b), (0, a)] S h n = mx_ex d 183 74 [l0, l1, l2, l3, l4, l5, l6, l7] [(0, mx_w (a - b))] S h n) ∧
  (∀ (d : Nat) (l0 l1 l2 l3 l4 l5 l6 l7 : Option mx_V) (v0 : mx_V) (S h : mx_H) (n : Int), mx_ex d 183 74 [l0, l1, l2, l3, l4, l5, l6, l7] [v0] S h n = mx_ex d 183 79 [l0, l1, l2, l3, l4, l5, l6, l7] [v0] S h n) ∧
  (∀ (d : Nat) (x : Int) (l0 l1 l2 l3 l4 l5 l7 : Option mx_V) (S h : mx_H) (n : Int), mx_ex d 183 77 [l0, l1, l2, l3, l4, l5, some (0, x), l7] [] S h n = mx_ex d 183 79 [l0, l1, l2, l3, l4, l5, some (0, x), l7] [(0, x)] S h n) ∧
  (∀ (d : Nat) (x : Int) (l0 l1 l2 l3 l4 l5 l6 l7 : Option mx_V) (S h : mx_H) (n : Int), mx_ex d 183 79 [l0, l1, l2, l3, l4, l5, l6, l7] [(0, x)] S h n = mx_ex d 183 81 [l0, l1, l2, l3, l4, l5, mx_nl l6, some (0, x)] [] S h n) ∧
  (∀ (d : Nat) (x : Int) (l0 l1 l2 l3 l5 l6 l7 : Option mx_V) (S h : mx_H) (n : Int), mx_ex d 183 81 [l0, l1, l2, l3, some (1, x), l5, l6, l7] [] S h n = mx_ex d 183 83 [l0, l1, l2, l3, some (1, x), l5, l6, l7] [(1, x)] S h n) ∧
  (∀ (d : Nat) (x : Int) (l1 l2 l3 l4 l5 l6 l7 : Option mx_V) (v0 : mx_V) (S h : mx_H) (n : Int), mx_ex d 183 83 [some (2, x), l1, l2, l3, l4, l5, l6, l7] [v0] S h n = mx_ex d 183 84 [some (2, x), l1, l2, l3, l4, l5, l6, l7] [(2, x), v0] S h n) ∧
  (∀ (d : Nat) (x : Int) (l0 l2 l3 l4 l5 l6 l7 : Option mx_V) (v0 v1 : mx_V) (S h : mx_H) (n : Int), mx_ex d 183 84 [l0, some (0, x), l2, l3, l4, l5, l6, l7] [v0, v1] S h n = mx_ex d 183 85 [l0, some (0, x), l2, l3, l4, l5, l6, l7] [(0, x), v0, v1] S h n) ∧
  (∀ (d : Nat) (x : Int) (l0 l1 l2 l3 l4 l5 l7 : Option mx_V) (v0 v1 v2 : mx_V) (S h : mx_H) (n : Int), mx_ex d 183 85 [l0, l1, l2, l3, l4, l5, some (0, x), l7] [v0, v1, v2] S h n = mx_ex d 183 87 [l0, l1, l2, l3, l4, l5, some (0, x), l7] [(0, x), v0, v1, v2] S h n) ∧
  (∀ (d : Nat) (x : Int) (l0 l1 l3 l4 l5 l6 l7 : Option mx_V) (v0 v1 v2 v3 : mx_V) (S h : mx_H) (n : Int), mx_ex d 183 87 [l0, l1, some (0, x), l3, l4, l5, l6, l7] [v0, v1, v2, v3] S h n = mx_ex d 183 88 [l0, l1, some (0, x), l3, l4, l5, l6, l7] [(0, x), v0, v1, v2, v3] S h n) ∧
  (∀ (d : Nat) (x0 x1 x2 a : Int) (l0 l1 l2 l3 l4 l5 l6 l7 : Option mx_V) (v4 : mx_V) (S h : mx_H) (n : Int), mx_ex (d + 1) 183 88 [l0, l1, l2, l3, l4, l5, l6, l7] [(0, x0), (0, x1), (0, x2), (2, a), v4] S h n = mx_cl (S a (-2) = 13) d 182 [(2, a), (0, x2), (0, x1), (0, x0)] 183 91 [l0, l1, l2, l3, l4, l5, l6, l7] [v4] S h n) ∧
  (∀ (d : Nat) (a : Int) (l0 l1 l2 l3 l4 l5 l6 l7 : Option mx_V) (v1 : mx_V) (S h : mx_H) (n : Int), mx_ex d 183 91 [l0, l1, l2, l3, l4, l5, l6, l7] [(0, a), v1] S h n = mx_ex d 183 92 [l0, l1, l2, l3, l4, l5, l6, l7] [(1, a), v1] S h n) ∧
  (∀ (d : Nat) (b a : Int) (l0 l1 l2 l3 l4 l5 l6 l7 : Option mx_V) (S h : mx_H) (n : Int), mx_ex d 183 92 [l0, l1, l2, l3, l4, l5, l6, l7] [(1, b), (1, a)] S h n = mx_ex d 183 93 [l0, l1, l2, l3, l4, l5, l6, l7] [(1, mx_l (a * b))] S h n) ∧
  (∀ (d : Nat) (x : Int) (l1 l2 l3 l4 l5 l6 l7 : Option mx_V) (v0 : mx_V) (S h : mx_H) (n : Int), mx_ex d 183 93 [some (2, x), l1, l2, l3, l4, l5, l6, l7] [v0] S h n = mx_ex d 183 94 [some (2, x), l1, l2, l3, l4, l5, l6, l7] [(2, x), v0] S h n) ∧
  (∀ (d : Nat) (x : Int) (l0 l2 l3 l4 l5 l6 l7 : Option mx_V) (v0 v1 : mx_V) (S h : mx_H) (n : Int), mx_ex d 183 94 [l0, some (0, x), l2, l3, l4, l5, l6, l7] [v0, v1] S h n = mx_ex d 183 95 [l0, some (0, x), l2, l3, l4, l5, l6, l7] [(0, x), v0, v1] S h n) ∧
  (∀ (d : Nat) (l0 l1 l2 l3 l4 l5 l6 l7 : Option mx_V) (v0 v1 v2 : mx_V) (S h : mx_H) (n : Int), mx_ex d 183 95 [l0, l1, l2, l3, l4, l5, l6, l7] [v0, v1, v2] S h n = mx_ex d 183 96 [l0, l1, l2, l3, l4, l5, l6, l7] [(0, 4), v0, v1, v2] S h n) ∧
  (∀ (d : Nat) (x : Int) (l0 l1 l2 l3 l4 l5 l6 : Option mx_V) (v0 v1 v2 v3 : mx_V) (S h : mx_H) (n : Int), mx_ex d 183 96 [l0, l1, l2, l3, l4, l5, l6, some (0, x)] [v0, v1, v2, v3] S h n = mx_ex d 183 98 [l0, l1, l2, l3, l4, l5, l6, some (0, x)] [(0, x), v0, v1, v2, v3] S h n) ∧
  (∀ (d : Nat) (b a : Int) (l0 l1 l2 l3 l4 l5 l6 l7 : Option mx_V) (v2 v3 v4 : mx_V) (S h : mx_H) (n : Int), mx_ex d 183 98 [l0, l1, l2, l3, l4, l5, l6, l7] [(0, b), (0, a), v2, v3, v4] S h n = mx_ex d 183 99 [l0, l1, l2, l3, l4, l5, l6, l7] [(0, mx_w (a + b)), v2, v3, v4] S h n) ∧
  (∀ (d : Nat) (x0 x1 a : Int) (l0 l1 l2 l3 l4 l5 l6 l7 : Option mx_V) (v3 : mx_V) (S h : mx_H) (n : Int), mx_ex (d + 1) 183 99 [l0, l1, l2, l3, l4, l5, l6, l7] [(0, x0), (0, x1), (2, a), v3] S h n = mx_cl (S a (-2) = 13) d 161 [(2, a), (0, x1), (0, x0)] 183 102 [l0, l1, l2, l3, l4, l5, l6, l7] [v3] S h n) ∧
  (∀ (d : Nat) (a : Int) (l0 l1 l2 l3 l4 l5 l6 l7 : Option mx_V) (v1 : mx_V) (S h : mx_H) (n : Int), mx_ex d 183 102 [l0, l1, l2, l3, l4, l5, l6, l7] [(0, a), v1] S h n = mx_ex d 183 103 [l0, l1, l2, l3, l4, l5, l6, l7] [(1, a), v1] S h n) ∧
  (∀ (d : Nat) (b a : Int) (l0 l1 l2 l3 l4 l5 l6 l7 : Option mx_V) (S h : mx_H) (n : Int), mx_ex d 183 103 [l0, l1, l2, l3, l4, l5, l6, l7] [(1, b), (1, a)] S h n = mx_ex d 183 104 [l0, l1, l2, l3, l4, l5, l6, l7] [(1, mx_l (a + b))] S h n) ∧
  (∀ (d : Nat) (x : Int) (l0 l1 l2 l3 l4 l5 l6 l7 : Option mx_V) (S h : mx_H) (n : Int), mx_ex d 183 104 [l0, l1, l2, l3, l4, l5, l6, l7] [(1, x)] S h n = mx_ex d 183 106 [l0, l1, l2, mx_nl l3, some (1, x), none, l6, l7] [] S h n) ∧
  (∀ (d : Nat) (x : Int) (l0 l1 l2 l3 l4 l5 l7 : Option mx_V) (S h : mx_H) (n : Int), mx_ex d 183 106 [l0, l1, l2, l3, l4, l5, some (0, x), l7] [] S h n = mx_ex d 183 109 [l0, l1, l2, l3, l4, mx_nl l5, some (0, mx_w (x + 1)), l7] [] S h n) ∧
  (∀ (d : Nat) (l0 l1 l2 l3 l4 l5 l6 l7 : Option mx_V) (S h : mx_H) (n : Int), mx_ex d 183 109 [l0, l1, l2, l3, l4, l5, l6, l7] [] S h n = mx_ex d 183 52 [l0, l1, l2, l3, l4, l5, l6, l7] [] S h n) :=
  ⟨by intros; exact rfl,
   by intros; exact eq_ld rfl rfl,
   by intros; exact eq_ld rfl rfl,
   by intros; exact eq_push rfl,
   by intros; exact eq_cv rfl (Nat.le_of_ble_eq_true rfl) rfl rfl rfl (Nat.le_of_ble_eq_true rfl),
   by intros; exact eq_st rfl (by decide) (Nat.le_of_ble_eq_true rfl) rfl,
   by intros; exact eq_ld rfl rfl,
   by intros; exact eq_ld rfl rfl,
   by intros; exact eq_push rfl,
   by intros; exact eq_cv rfl (Nat.le_of_ble_eq_true rfl) rfl rfl rfl (Nat.le_of_ble_eq_true rfl),
   by intros; exact eq_push rfl,
   by intros; exact eq_ic0 rfl,
   by intros; exact eq_ld rfl rfl,
   by intros; exact eq_ld rfl rfl,
   by intros; exact eq_push rfl,
   by intros; exact eq_cv rfl (Nat.le_of_ble_eq_true rfl) rfl rfl rfl (Nat.le_of_ble_eq_true rfl),
   by intros; exact eq_push rfl,
   by intros; exact eq_ic1 rfl,
   by intros; exact eq_ld rfl rfl,
   by intros; exact eq_ld rfl rfl,
   by intros; exact eq_push rfl,
   by intros; exact eq_cv rfl (Nat.le_of_ble_eq_true rfl) rfl rfl rfl (Nat.le_of_ble_eq_true rfl),
   by intros; exact eq_push rfl,
   by intros; exact eq_ic1 rfl,
   by intros; exact eq_ld rfl rfl,
   by intros; exact eq_i1 (o1 := mx_neg) rfl,
   by intros; exact eq_i2l rfl,
   by intros; exact eq_go rfl,
   by intros; exact eq_ld rfl rfl,
   by intros; exact eq_i2l rfl,
   by intros; exact eq_ret rfl,
   by intros; exact eq_push rfl,
   by intros; exact eq_st2 rfl (Nat.le_of_ble_eq_true rfl) rfl,
   by intros; exact eq_push rfl,
   by intros; exact eq_st rfl (by decide) (Nat.le_of_ble_eq_true rfl) rfl,
   by intros; exact eq_ld rfl rfl,
   by intros; exact eq_ic3 rfl,
   by intros; exact eq_ld rfl rfl,
   by intros; exact eq_ld rfl rfl,
   by intros; exact eq_push rfl,
   by intros; exact eq_cv rfl (Nat.le_of_ble_eq_true rfl) rfl rfl rfl (Nat.le_of_ble_eq_true rfl),
   by intros; exact eq_push rfl,
   by intros; exact eq_ic1 rfl,
   by intros; exact eq_ld rfl rfl,
   by intros; exact eq_push rfl,
   by intros; exact eq_i2 (o := mx_sub) rfl,
   by intros; exact eq_ld rfl rfl,
   by intros; exact eq_i2 (o := mx_sub) rfl,
   by intros; exact eq_go rfl,
   by intros; exact eq_ld rfl rfl,
   by intros; exact eq_st rfl (by decide) (Nat.le_of_ble_eq_true rfl) rfl,
   by intros; exact eq_ld rfl rfl,
   by intros; exact eq_ld rfl rfl,
   by intros; exact eq_ld rfl rfl,
   by intros; exact eq_ld rfl rfl,
   by intros; exact eq_ld rfl rfl,
   by intros; exact eq_cv rfl (Nat.le_of_ble_eq_true rfl) rfl rfl rfl (Nat.le_of_ble_eq_true rfl),
   by intros; exact eq_i2l rfl,
   by intros; exact eq_l2 (o := ml_mul) rfl,
   by intros; exact eq_ld rfl rfl,
   by intros; exact eq_ld rfl rfl,
   by intros; exact eq_push rfl,
   by intros; exact eq_ld rfl rfl,
   by intros; exact eq_i2 (o := mx_add) rfl,
   by intros; exact eq_cv rfl (Nat.le_of_ble_eq_true rfl) rfl rfl rfl (Nat.le_of_ble_eq_true rfl),
   by intros; exact eq_i2l rfl,
   by intros; exact eq_l2 (o := ml_add) rfl,
   by intros; exact eq_st2 rfl (Nat.le_of_ble_eq_true rfl) rfl,
   by intros; exact eq_inc rfl rfl rfl,
   by intros; exact eq_go rfl⟩
theorem rw_X12_worthBy_1 :
  (∀ (d : Nat) (x : Int) (l0 l1 l2 l3 l5 l6 l7 : Option mx_V) (S h : mx_H) (n : Int), mx_ex d 183 112 [l0, l1, l2, l3, some (1, x), l5, l6, l7] [] S h n = mx_ex d 183 114 [l0, l1, l2, l3, some (1, x), l5, l6, l7] [(1, x)] S h n) ∧
  (∀ (d : Nat) (x : Int) (l0 l1 l2 l3 l4 l5 l6 l7 : Option mx_V) (S h : mx_H) (n : Int), mx_ex d 183 114 [l0, l1, l2, l3, l4, l5, l6, l7] [(1, x)] S h n = some (some (1, x), S, h, n)) :=
  ⟨by intros; exact eq_ld rfl rfl,
   by intros; exact eq_ret rfl⟩
theorem rh_X12_canBe_29 : ∀ (d : Nat) (x : Int) (l0 l1 l2 l3 l5 : Option mx_V) (S h : mx_H) (n : Int), mx_ex d 184 29 [l0, l1, l2, l3, some (0, x), l5] [] S h n = mx_ex d 184 31 [l0, l1, l2, l3, some (0, x), l5] [(0, x)] S h n := by intros; exact eq_ld rfl rfl
theorem rw_X12_canBe :
  (∀ (d : Nat) (a0 a1 a2 : Int) (S h : mx_H) (n : Int), mx_M d 184 [(2, a0), (0, a1), (0, a2)] S h n = mx_ex d 184 0 [some (2, a0), some (0, a1), some (0, a2), none, none, none] [] S h n) ∧
  (∀ (d : Nat) (x : Int) (l1 l2 l3 l4 l5 : Option mx_V) (S h : mx_H) (n : Int), mx_ex d 184 0 [some (2, x), l1, l2, l3, l4, l5] [] S h n = mx_ex d 184 1 [some (2, x), l1, l2, l3, l4, l5] [(2, x)] S h n) ∧
  (∀ (d : Nat) (x : Int) (l0 l2 l3 l4 l5 : Option mx_V) (v0 : mx_V) (S h : mx_H) (n : Int), mx_ex d 184 1 [l0, some (0, x), l2, l3, l4, l5] [v0] S h n = mx_ex d 184 2 [l0, some (0, x), l2, l3, l4, l5] [(0, x), v0] S h n) ∧
  (∀ (d : Nat) (l0 l1 l2 l3 l4 l5 : Option mx_V) (v0 v1 : mx_V) (S h : mx_H) (n : Int), mx_ex d 184 2 [l0, l1, l2, l3, l4, l5] [v0, v1] S h n = mx_ex d 184 3 [l0, l1, l2, l3, l4, l5] [(0, 0), v0, v1] S h n) ∧
  (∀ (d : Nat) (x0 x1 a : Int) (l0 l1 l2 l3 l4 l5 : Option mx_V) (S h : mx_H) (n : Int), mx_ex (d + 1) 184 3 [l0, l1, l2, l3, l4, l5] [(0, x0), (0, x1), (2, a)] S h n = mx_cl (S a (-2) = 13) d 161 [(2, a), (0, x1), (0, x0)] 184 6 [l0, l1, l2, l3, l4, l5] [] S h n) ∧
  (∀ (d : Nat) (l0 l1 l2 l3 l4 l5 : Option mx_V) (v0 : mx_V) (S h : mx_H) (n : Int), mx_ex d 184 6 [l0, l1, l2, l3, l4, l5] [v0] S h n = mx_ex d 184 7 [l0, l1, l2, l3, l4, l5] [(0, 1), v0] S h n) ∧
  (∀ (d : Nat) (b a : Int) (l0 l1 l2 l3 l4 l5 : Option mx_V) (S h : mx_H) (n : Int), mx_ex d 184 7 [l0, l1, l2, l3, l4, l5] [(0, b), (0, a)] S h n = mx_br (a = b) d 184 20 10 [l0, l1, l2, l3, l4, l5] [] S h n) ∧
  (∀ (d : Nat) (x : Int) (l1 l2 l3 l4 l5 : Option mx_V) (S h : mx_H) (n : Int), mx_ex d 184 10 [some (2, x), l1, l2, l3, l4, l5] [] S h n = mx_ex d 184 11 [some (2, x), l1, l2, l3, l4, l5] [(2, x)] S h n) ∧
  (∀ (d : Nat) (x : Int) (l0 l2 l3 l4 l5 : Option mx_V) (v0 : mx_V) (S h : mx_H) (n : Int), mx_ex d 184 11 [l0, some (0, x), l2, l3, l4, l5] [v0] S h n = mx_ex d 184 12 [l0, some (0, x), l2, l3, l4, l5] [(0, x), v0] S h n) ∧
  (∀ (d : Nat) (l0 l1 l2 l3 l4 l5 : Option mx_V) (v0 v1 : mx_V) (S h : mx_H) (n : Int), mx_ex d 184 12 [l0, l1, l2, l3, l4, l5] [v0, v1] S h n = mx_ex d 184 13 [l0, l1, l2, l3, l4, l5] [(0, 0), v0, v1] S h n) ∧
  (∀ (d : Nat) (x0 x1 a : Int) (l0 l1 l2 l3 l4 l5 : Option mx_V) (S h : mx_H) (n : Int), mx_ex (d + 1) 184 13 [l0, l1, l2, l3, l4, l5] [(0, x0), (0, x1), (2, a)] S h n = mx_cl (S a (-2) = 13) d 161 [(2, a), (0, x1), (0, x0)] 184 16 [l0, l1, l2, l3, l4, l5] [] S h n) ∧
  (∀ (d : Nat) (l0 l1 l2 l3 l4 l5 : Option mx_V) (v0 : mx_V) (S h : mx_H) (n : Int), mx_ex d 184 16 [l0, l1, l2, l3, l4, l5] [v0] S h n = mx_ex d 184 17 [l0, l1, l2, l3, l4, l5] [(0, 5), v0] S h n) ∧
  (∀ (d : Nat) (b a : Int) (l0 l1 l2 l3 l4 l5 : Option mx_V) (S h : mx_H) (n : Int), mx_ex d 184 17 [l0, l1, l2, l3, l4, l5] [(0, b), (0, a)] S h n = mx_br (a = b) d 184 20 24 [l0, l1, l2, l3, l4, l5] [] S h n) ∧
  (∀ (d : Nat) (l0 l1 l2 l3 l4 l5 : Option mx_V) (S h : mx_H) (n : Int), mx_ex d 184 20 [l0, l1, l2, l3, l4, l5] [] S h n = mx_ex d 184 21 [l0, l1, l2, l3, l4, l5] [(0, 1)] S h n) ∧
  (∀ (d : Nat) (l0 l1 l2 l3 l4 l5 : Option mx_V) (v0 : mx_V) (S h : mx_H) (n : Int), mx_ex d 184 21 [l0, l1, l2, l3, l4, l5] [v0] S h n = mx_ex d 184 25 [l0, l1, l2, l3, l4, l5] [v0] S h n) ∧
  (∀ (d : Nat) (l0 l1 l2 l3 l4 l5 : Option mx_V) (S h : mx_H) (n : Int), mx_ex d 184 24 [l0, l1, l2, l3, l4, l5] [] S h n = mx_ex d 184 25 [l0, l1, l2, l3, l4, l5] [(0, 0)] S h n) ∧
  (∀ (d : Nat) (x : Int) (l0 l1 l2 l3 l4 l5 : Option mx_V) (S h : mx_H) (n : Int), mx_ex d 184 25 [l0, l1, l2, l3, l4, l5] [(0, x)] S h n = mx_ex d 184 26 [l0, l1, mx_nl l2, some (0, x), l4, l5] [] S h n) ∧
  (∀ (d : Nat) (l0 l1 l2 l3 l4 l5 : Option mx_V) (S h : mx_H) (n : Int), mx_ex d 184 26 [l0, l1, l2, l3, l4, l5] [] S h n = mx_ex d 184 27 [l0, l1, l2, l3, l4, l5] [(0, 0)] S h n) ∧
  (∀ (d : Nat) (x : Int) (l0 l1 l2 l3 l4 l5 : Option mx_V) (S h : mx_H) (n : Int), mx_ex d 184 27 [l0, l1, l2, l3, l4, l5] [(0, x)] S h n = mx_ex d 184 29 [l0, l1, l2, mx_nl l3, some (0, x), l5] [] S h n) ∧
  (∀ (d : Nat) (x : Int) (l1 l2 l3 l4 l5 : Option mx_V) (v0 : mx_V) (S h : mx_H) (n : Int), mx_ex d 184 31 [some (2, x), l1, l2, l3, l4, l5] [v0] S h n = mx_ex d 184 32 [some (2, x), l1, l2, l3, l4, l5] [(2, x), v0] S h n) ∧
  (∀ (d : Nat) (x : Int) (l0 l2 l3 l4 l5 : Option mx_V) (v0 v1 : mx_V) (S h : mx_H) (n : Int), mx_ex d 184 32 [l0, some (0, x), l2, l3, l4, l5] [v0, v1] S h n = mx_ex d 184 33 [l0, some (0, x), l2, l3, l4, l5] [(0, x), v0, v1] S h n) ∧
  (∀ (d : Nat) (l0 l1 l2 l3 l4 l5 : Option mx_V) (v0 v1 v2 : mx_V) (S h : mx_H) (n : Int), mx_ex d 184 33 [l0, l1, l2, l3, l4, l5] [v0, v1, v2] S h n = mx_ex d 184 34 [l0, l1, l2, l3, l4, l5] [(0, 3), v0, v1, v2] S h n) ∧
  (∀ (d : Nat) (x0 x1 a : Int) (l0 l1 l2 l3 l4 l5 : Option mx_V) (v3 : mx_V) (S h : mx_H) (n : Int), mx_ex (d + 1) 184 34 [l0, l1, l2, l3, l4, l5] [(0, x0), (0, x1), (2, a), v3] S h n = mx_cl (S a (-2) = 13) d 161 [(2, a), (0, x1), (0, x0)] 184 37 [l0, l1, l2, l3, l4, l5] [v3] S h n) ∧
  (∀ (d : Nat) (b a : Int) (l0 l1 l2 l3 l4 l5 : Option mx_V) (S h : mx_H) (n : Int), mx_ex d 184 37 [l0, l1, l2, l3, l4, l5] [(0, b), (0, a)] S h n = mx_br (a < b) d 184 40 85 [l0, l1, l2, l3, l4, l5] [] S h n) ∧
  (∀ (d : Nat) (x : Int) (l1 l2 l3 l4 l5 : Option mx_V) (S h : mx_H) (n : Int), mx_ex d 184 40 [some (2, x), l1, l2, l3, l4, l5] [] S h n = mx_ex d 184 41 [some (2, x), l1, l2, l3, l4, l5] [(2, x)] S h n) ∧
  (∀ (d : Nat) (x : Int) (l0 l2 l3 l4 l5 : Option mx_V) (v0 : mx_V) (S h : mx_H) (n : Int), mx_ex d 184 41 [l0, some (0, x), l2, l3, l4, l5] [v0] S h n = mx_ex d 184 42 [l0, some (0, x), l2, l3, l4, l5] [(0, x), v0] S h n) ∧
  (∀ (d : Nat) (l0 l1 l2 l3 l4 l5 : Option mx_V) (v0 v1 : mx_V) (S h : mx_H) (n : Int), mx_ex d 184 42 [l0, l1, l2, l3, l4, l5] [v0, v1] S h n = mx_ex d 184 43 [l0, l1, l2, l3, l4, l5] [(0, 4), v0, v1] S h n) ∧
  (∀ (d : Nat) (x : Int) (l0 l1 l2 l3 l5 : Option mx_V) (v0 v1 v2 : mx_V) (S h : mx_H) (n : Int), mx_ex d 184 43 [l0, l1, l2, l3, some (0, x), l5] [v0, v1, v2] S h n = mx_ex d 184 45 [l0, l1, l2, l3, some (0, x), l5] [(0, x), v0, v1, v2] S h n) ∧
  (∀ (d : Nat) (b a : Int) (l0 l1 l2 l3 l4 l5 : Option mx_V) (v2 v3 : mx_V) (S h : mx_H) (n : Int), mx_ex d 184 45 [l0, l1, l2, l3, l4, l5] [(0, b), (0, a), v2, v3] S h n = mx_ex d 184 46 [l0, l1, l2, l3, l4, l5] [(0, mx_w (a + b)), v2, v3] S h n) ∧
  (∀ (d : Nat) (x0 x1 a : Int) (l0 l1 l2 l3 l4 l5 : Option mx_V) (S h : mx_H) (n : Int), mx_ex (d + 1) 184 46 [l0, l1, l2, l3, l4, l5] [(0, x0), (0, x1), (2, a)] S h n = mx_cl (S a (-2) = 13) d 161 [(2, a), (0, x1), (0, x0)] 184 49 [l0, l1, l2, l3, l4, l5] [] S h n) ∧
  (∀ (d : Nat) (x : Int) (l0 l1 l2 l3 l4 l5 : Option mx_V) (S h : mx_H) (n : Int), mx_ex d 184 49 [l0, l1, l2, l3, l4, l5] [(0, x)] S h n = mx_ex d 184 51 [l0, l1, l2, l3, mx_nl l4, some (0, x)] [] S h n) ∧
  (∀ (d : Nat) (x : Int) (l0 l1 l2 l4 l5 : Option mx_V) (S h : mx_H) (n : Int), mx_ex d 184 51 [l0, l1, l2, some (0, x), l4, l5] [] S h n = mx_ex d 184 52 [l0, l1, l2, some (0, x), l4, l5] [(0, x)] S h n) ∧
  (∀ (d : Nat) (a : Int) (l0 l1 l2 l3 l4 l5 : Option mx_V) (S h : mx_H) (n : Int), mx_ex d 184 52 [l0, l1, l2, l3, l4, l5] [(0, a)] S h n = mx_br (a = 0) d 184 64 55 [l0, l1, l2, l3, l4, l5] [] S h n) ∧
  (∀ (d : Nat) (x : Int) (l0 l1 l2 l3 l4 : Option mx_V) (S h : mx_H) (n : Int), mx_ex d 184 55 [l0, l1, l2, l3, l4, some (0, x)] [] S h n = mx_ex d 184 57 [l0, l1, l2, l3, l4, some (0, x)] [(0, x)] S h n) ∧
  (∀ (d : Nat) (l0 l1 l2 l3 l4 l5 : Option mx_V) (v0 : mx_V) (S h : mx_H) (n : Int), mx_ex d 184 57 [l0, l1, l2, l3, l4, l5] [v0] S h n = mx_ex d 184 58 [l0, l1, l2, l3, l4, l5] [(0, 1), v0] S h n) ∧
  (∀ (d : Nat) (b a : Int) (l0 l1 l2 l3 l4 l5 : Option mx_V) (S h : mx_H) (n : Int), mx_ex d 184 58 [l0, l1, l2, l3, l4, l5] [(0, b), (0, a)] S h n = mx_br (a = b) d 184 79 61 [l0, l1, l2, l3, l4, l5] [] S h n) ∧
  (∀ (d : Nat) (l0 l1 l2 l3 l4 l5 : Option mx_V) (S h : mx_H) (n : Int), mx_ex d 184 61 [l0, l1, l2, l3, l4, l5] [] S h n = mx_ex d 184 77 [l0, l1, l2, l3, l4, l5] [] S h n) ∧
  (∀ (d : Nat) (x : Int) (l0 l1 l2 l3 l4 : Option mx_V) (S h : mx_H) (n : Int), mx_ex d 184 64 [l0, l1, l2, l3, l4, some (0, x)] [] S h n = mx_ex d 184 66 [l0, l1, l2, l3, l4, some (0, x)] [(0, x)] S h n) ∧
  (∀ (d : Nat) (x : Int) (l1 l2 l3 l4 l5 : Option mx_V) (v0 : mx_V) (S h : mx_H) (n : Int), mx_ex d 184 66 [some (2, x), l1, l2, l3, l4, l5] [v0] S h n = mx_ex d 184 67 [some (2, x), l1, l2, l3, l4, l5] [(2, x), v0] S h n) ∧
  (∀ (d : Nat) (x : Int) (l0 l2 l3 l4 l5 : Option mx_V) (v0 v1 : mx_V) (S h : mx_H) (n : Int), mx_ex d 184 67 [l0, some (0, x), l2, l3, l4, l5] [v0, v1] S h n = mx_ex d 184 68 [l0, some (0, x), l2, l3, l4, l5] [(0, x), v0, v1] S h n) ∧
  (∀ (d : Nat) (x : Int) (l0 l1 l2 l3 l5 : Option mx_V) (v0 v1 v2 : mx_V) (S h : mx_H) (n : Int), mx_ex d 184 68 [l0, l1, l2, l3, some (0, x), l5] [v0, v1, v2] S h n = mx_ex d 184 70 [l0, l1, l2, l3, some (0, x), l5] [(0, x), v0, v1, v2] S h n) ∧
  (∀ (d : Nat) (x : Int) (l0 l1 l3 l4 l5 : Option mx_V) (v0 v1 v2 v3 : mx_V) (S h : mx_H) (n : Int), mx_ex d 184 70 [l0, l1, some (0, x), l3, l4, l5] [v0, v1, v2, v3] S h n = mx_ex d 184 71 [l0, l1, some (0, x), l3, l4, l5] [(0, x), v0, v1, v2, v3] S h n) ∧
  (∀ (d : Nat) (x0 x1 x2 a : Int) (l0 l1 l2 l3 l4 l5 : Option mx_V) (v4 : mx_V) (S h : mx_H) (n : Int), mx_ex (d + 1) 184 71 [l0, l1, l2, l3, l4, l5] [(0, x0), (0, x1), (0, x2), (2, a), v4] S h n = mx_cl (S a (-2) = 13) d 182 [(2, a), (0, x2), (0, x1), (0, x0)] 184 74 [l0, l1, l2, l3, l4, l5] [v4] S h n) ∧
  (∀ (d : Nat) (b a : Int) (l0 l1 l2 l3 l4 l5 : Option mx_V) (S h : mx_H) (n : Int), mx_ex d 184 74 [l0, l1, l2, l3, l4, l5] [(0, b), (0, a)] S h n = mx_br (a < b) d 184 79 77 [l0, l1, l2, l3, l4, l5] [] S h n) ∧
  (∀ (d : Nat) (l0 l1 l2 l3 l4 l5 : Option mx_V) (S h : mx_H) (n : Int), mx_ex d 184 77 [l0, l1, l2, l3, l4, l5] [] S h n = mx_ex d 184 78 [l0, l1, l2, l3, l4, l5] [(0, 0)] S h n) ∧
  (∀ (d : Nat) (x : Int) (l0 l1 l2 l3 l4 l5 : Option mx_V) (S h : mx_H) (n : Int), mx_ex d 184 78 [l0, l1, l2, l3, l4, l5] [(0, x)] S h n = mx_re (0 ≤ x ∧ x ≤ 1) (some (0, x)) S h n) ∧
  (∀ (d : Nat) (x : Int) (l0 l1 l2 l3 l5 : Option mx_V) (S h : mx_H) (n : Int), mx_ex d 184 79 [l0, l1, l2, l3, some (0, x), l5] [] S h n = mx_ex d 184 82 [l0, l1, l2, mx_nl l3, some (0, mx_w (x + 1)), l5] [] S h n) ∧
  (∀ (d : Nat) (l0 l1 l2 l3 l4 l5 : Option mx_V) (S h : mx_H) (n : Int), mx_ex d 184 82 [l0, l1, l2, l3, l4, l5] [] S h n = mx_ex d 184 29 [l0, l1, l2, l3, l4, l5] [] S h n) ∧
  (∀ (d : Nat) (l0 l1 l2 l3 l4 l5 : Option mx_V) (S h : mx_H) (n : Int), mx_ex d 184 85 [l0, l1, l2, l3, l4, l5] [] S h n = mx_ex d 184 86 [l0, l1, l2, l3, l4, l5] [(0, 1)] S h n) ∧
  (∀ (d : Nat) (x : Int) (l0 l1 l2 l3 l4 l5 : Option mx_V) (S h : mx_H) (n : Int), mx_ex d 184 86 [l0, l1, l2, l3, l4, l5] [(0, x)] S h n = mx_re (0 ≤ x ∧ x ≤ 1) (some (0, x)) S h n) :=
  ⟨by intros; exact rfl,
   by intros; exact eq_ld rfl rfl,
   by intros; exact eq_ld rfl rfl,
   by intros; exact eq_push rfl,
   by intros; exact eq_cv rfl (Nat.le_of_ble_eq_true rfl) rfl rfl rfl (Nat.le_of_ble_eq_true rfl),
   by intros; exact eq_push rfl,
   by intros; exact eq_ic0 rfl,
   by intros; exact eq_ld rfl rfl,
   by intros; exact eq_ld rfl rfl,
   by intros; exact eq_push rfl,
   by intros; exact eq_cv rfl (Nat.le_of_ble_eq_true rfl) rfl rfl rfl (Nat.le_of_ble_eq_true rfl),
   by intros; exact eq_push rfl,
   by intros; exact eq_ic1 rfl,
   by intros; exact eq_push rfl,
   by intros; exact eq_go rfl,
   by intros; exact eq_push rfl,
   by intros; exact eq_st rfl (by decide) (Nat.le_of_ble_eq_true rfl) rfl,
   by intros; exact eq_push rfl,
   by intros; exact eq_st rfl (by decide) (Nat.le_of_ble_eq_true rfl) rfl,
   by intros; exact eq_ld rfl rfl,
   by intros; exact eq_ld rfl rfl,
   by intros; exact eq_push rfl,
   by intros; exact eq_cv rfl (Nat.le_of_ble_eq_true rfl) rfl rfl rfl (Nat.le_of_ble_eq_true rfl),
   by intros; exact eq_ic3 rfl,
   by intros; exact eq_ld rfl rfl,
   by intros; exact eq_ld rfl rfl,
   by intros; exact eq_push rfl,
   by intros; exact eq_ld rfl rfl,
   by intros; exact eq_i2 (o := mx_add) rfl,
   by intros; exact eq_cv rfl (Nat.le_of_ble_eq_true rfl) rfl rfl rfl (Nat.le_of_ble_eq_true rfl),
   by intros; exact eq_st rfl (by decide) (Nat.le_of_ble_eq_true rfl) rfl,
   by intros; exact eq_ld rfl rfl,
   by intros; exact eq_if0 rfl,
   by intros; exact eq_ld rfl rfl,
   by intros; exact eq_push rfl,
   by intros; exact eq_ic0 rfl,
   by intros; exact eq_go rfl,
   by intros; exact eq_ld rfl rfl,
   by intros; exact eq_ld rfl rfl,
   by intros; exact eq_ld rfl rfl,
   by intros; exact eq_ld rfl rfl,
   by intros; exact eq_ld rfl rfl,
   by intros; exact eq_cv rfl (Nat.le_of_ble_eq_true rfl) rfl rfl rfl (Nat.le_of_ble_eq_true rfl),
   by intros; exact eq_ic2 rfl,
   by intros; exact eq_push rfl,
   by intros; exact eq_rr rfl,
   by intros; exact eq_inc rfl rfl rfl,
   by intros; exact eq_go rfl,
   by intros; exact eq_push rfl,
   by intros; exact eq_rr rfl⟩
theorem rw_X12_worth :
  (∀ (d : Nat) (a0 a1 a2 : Int) (S h : mx_H) (n : Int), mx_M d 185 [(2, a0), (0, a1), (0, a2)] S h n = mx_ex d 185 0 [some (2, a0), some (0, a1), some (0, a2)] [] S h n) ∧
  (∀ (d : Nat) (x : Int) (l1 l2 : Option mx_V) (S h : mx_H) (n : Int), mx_ex d 185 0 [some (2, x), l1, l2] [] S h n = mx_ex d 185 1 [some (2, x), l1, l2] [(2, x)] S h n) ∧
  (∀ (d : Nat) (x : Int) (l0 l2 : Option mx_V) (v0 : mx_V) (S h : mx_H) (n : Int), mx_ex d 185 1 [l0, some (0, x), l2] [v0] S h n = mx_ex d 185 2 [l0, some (0, x), l2] [(0, x), v0] S h n) ∧
  (∀ (d : Nat) (x0 a : Int) (l0 l1 l2 : Option mx_V) (S h : mx_H) (n : Int), mx_ex (d + 1) 185 2 [l0, l1, l2] [(0, x0), (2, a)] S h n = mx_cl (S a (-2) = 13) d 158 [(2, a), (0, x0)] 185 5 [l0, l1, l2] [] S h n) ∧
  (∀ (d : Nat) (a : Int) (l0 l1 l2 : Option mx_V) (S h : mx_H) (n : Int), mx_ex d 185 5 [l0, l1, l2] [(0, a)] S h n = mx_br (a = 0) d 185 24 8 [l0, l1, l2] [] S h n) ∧
  (∀ (d : Nat) (x : Int) (l0 l1 : Option mx_V) (S h : mx_H) (n : Int), mx_ex d 185 8 [l0, l1, some (0, x)] [] S h n = mx_ex d 185 9 [l0, l1, some (0, x)] [(0, x)] S h n) ∧
  (∀ (d : Nat) (x0 : Int) (l0 l1 l2 : Option mx_V) (S h : mx_H) (n : Int), mx_ex (d + 1) 185 9 [l0, l1, l2] [(0, x0)] S h n = mx_rt (mx_M d 160 [(0, x0)] S h n) (d + 1) 185 12 [l0, l1, l2] []) ∧
  (∀ (d : Nat) (a : Int) (l0 l1 l2 : Option mx_V) (S h : mx_H) (n : Int), mx_ex d 185 12 [l0, l1, l2] [(0, a)] S h n = mx_br (a = 0) d 185 24 15 [l0, l1, l2] [] S h n) ∧
  (∀ (d : Nat) (x : Int) (l1 l2 : Option mx_V) (S h : mx_H) (n : Int), mx_ex d 185 15 [some (2, x), l1, l2] [] S h n = mx_ex d 185 16 [some (2, x), l1, l2] [(2, x)] S h n) ∧
  (∀ (d : Nat) (x : Int) (l0 l2 : Option mx_V) (v0 : mx_V) (S h : mx_H) (n : Int), mx_ex d 185 16 [l0, some (0, x), l2] [v0] S h n = mx_ex d 185 17 [l0, some (0, x), l2] [(0, x), v0] S h n) ∧
  (∀ (d : Nat) (x : Int) (l0 l1 : Option mx_V) (v0 v1 : mx_V) (S h : mx_H) (n : Int), mx_ex d 185 17 [l0, l1, some (0, x)] [v0, v1] S h n = mx_ex d 185 18 [l0, l1, some (0, x)] [(0, x), v0, v1] S h n) ∧
  (∀ (d : Nat) (x0 x1 a : Int) (l0 l1 l2 : Option mx_V) (S h : mx_H) (n : Int), mx_ex (d + 1) 185 18 [l0, l1, l2] [(0, x0), (0, x1), (2, a)] S h n = mx_cl (S a (-2) = 13) d 183 [(2, a), (0, x1), (0, x0)] 185 21 [l0, l1, l2] [] S h n) ∧
  (∀ (d : Nat) (l0 l1 l2 : Option mx_V) (v0 : mx_V) (S h : mx_H) (n : Int), mx_ex d 185 21 [l0, l1, l2] [v0] S h n = mx_ex d 185 27 [l0, l1, l2] [v0] S h n) ∧
  (∀ (d : Nat) (l0 l1 l2 : Option mx_V) (S h : mx_H) (n : Int), mx_ex d 185 24 [l0, l1, l2] [] S h n = mx_ex d 185 27 [l0, l1, l2] [(1, (-1000000000000))] S h n) ∧
  (∀ (d : Nat) (x : Int) (l0 l1 l2 : Option mx_V) (S h : mx_H) (n : Int), mx_ex d 185 27 [l0, l1, l2] [(1, x)] S h n = some (some (1, x), S, h, n)) :=
  ⟨by intros; exact rfl,
   by intros; exact eq_ld rfl rfl,
   by intros; exact eq_ld rfl rfl,
   by intros; exact eq_cv rfl (Nat.le_of_ble_eq_true rfl) rfl rfl rfl (Nat.le_of_ble_eq_true rfl),
   by intros; exact eq_if0 rfl,
   by intros; exact eq_ld rfl rfl,
   by intros; exact eq_cs rfl (Nat.le_of_ble_eq_true rfl) rfl rfl rfl (Nat.le_of_ble_eq_true rfl),
   by intros; exact eq_if0 rfl,
   by intros; exact eq_ld rfl rfl,
   by intros; exact eq_ld rfl rfl,
   by intros; exact eq_ld rfl rfl,
   by intros; exact eq_cv rfl (Nat.le_of_ble_eq_true rfl) rfl rfl rfl (Nat.le_of_ble_eq_true rfl),
   by intros; exact eq_go rfl,
   by intros; exact eq_push rfl,
   by intros; exact eq_ret rfl⟩
theorem rh_X12_can_14 : ∀ (d : Nat) (x : Int) (l0 l1 l2 : Option mx_V) (S h : mx_H) (n : Int), mx_ex d 186 14 [l0, l1, l2, some (0, x)] [] S h n = mx_ex d 186 15 [l0, l1, l2, some (0, x)] [(0, x)] S h n := by intros; exact eq_ld rfl rfl
theorem rw_X12_can :
  (∀ (d : Nat) (a0 a1 : Int) (S h : mx_H) (n : Int), mx_M d 186 [(2, a0), (0, a1)] S h n = mx_ex d 186 0 [some (2, a0), some (0, a1), none, none] [] S h n) ∧
  (∀ (d : Nat) (x : Int) (l1 l2 l3 : Option mx_V) (S h : mx_H) (n : Int), mx_ex d 186 0 [some (2, x), l1, l2, l3] [] S h n = mx_ex d 186 1 [some (2, x), l1, l2, l3] [(2, x)] S h n) ∧
  (∀ (d : Nat) (x : Int) (l0 l2 l3 : Option mx_V) (v0 : mx_V) (S h : mx_H) (n : Int), mx_ex d 186 1 [l0, some (0, x), l2, l3] [v0] S h n = mx_ex d 186 2 [l0, some (0, x), l2, l3] [(0, x), v0] S h n) ∧
  (∀ (d : Nat) (x0 a : Int) (l0 l1 l2 l3 : Option mx_V) (S h : mx_H) (n : Int), mx_ex (d + 1) 186 2 [l0, l1, l2, l3] [(0, x0), (2, a)] S h n = mx_cl (S a (-2) = 13) d 158 [(2, a), (0, x0)] 186 5 [l0, l1, l2, l3] [] S h n) ∧
  (∀ (d : Nat) (a : Int) (l0 l1 l2 l3 : Option mx_V) (S h : mx_H) (n : Int), mx_ex d 186 5 [l0, l1, l2, l3] [(0, a)] S h n = mx_br (a = 0) d 186 8 10 [l0, l1, l2, l3] [] S h n) ∧
  (∀ (d : Nat) (l0 l1 l2 l3 : Option mx_V) (S h : mx_H) (n : Int), mx_ex d 186 8 [l0, l1, l2, l3] [] S h n = mx_ex d 186 9 [l0, l1, l2, l3] [(0, (-1))] S h n) ∧
  (∀ (d : Nat) (x : Int) (l0 l1 l2 l3 : Option mx_V) (S h : mx_H) (n : Int), mx_ex d 186 9 [l0, l1, l2, l3] [(0, x)] S h n = some (some (0, x), S, h, n)) ∧
  (∀ (d : Nat) (l0 l1 l2 l3 : Option mx_V) (S h : mx_H) (n : Int), mx_ex d 186 10 [l0, l1, l2, l3] [] S h n = mx_ex d 186 11 [l0, l1, l2, l3] [(0, 0)] S h n) ∧
  (∀ (d : Nat) (x : Int) (l0 l1 l2 l3 : Option mx_V) (S h : mx_H) (n : Int), mx_ex d 186 11 [l0, l1, l2, l3] [(0, x)] S h n = mx_ex d 186 12 [l0, mx_nl l1, some (0, x), l3] [] S h n) ∧
  (∀ (d : Nat) (l0 l1 l2 l3 : Option mx_V) (S h : mx_H) (n : Int), mx_ex d 186 12 [l0, l1, l2, l3] [] S h n = mx_ex d 186 13 [l0, l1, l2, l3] [(0, 2)] S h n) ∧
  (∀ (d : Nat) (x : Int) (l0 l1 l2 l3 : Option mx_V) (S h : mx_H) (n : Int), mx_ex d 186 13 [l0, l1, l2, l3] [(0, x)] S h n = mx_ex d 186 14 [l0, l1, mx_nl l2, some (0, x)] [] S h n) ∧
  (∀ (d : Nat) (l0 l1 l2 l3 : Option mx_V) (v0 : mx_V) (S h : mx_H) (n : Int), mx_ex d 186 15 [l0, l1, l2, l3] [v0] S h n = mx_ex d 186 17 [l0, l1, l2, l3] [(0, 16), v0] S h n) ∧
  (∀ (d : Nat) (b a : Int) (l0 l1 l2 l3 : Option mx_V) (S h : mx_H) (n : Int), mx_ex d 186 17 [l0, l1, l2, l3] [(0, b), (0, a)] S h n = mx_br (b < a) d 186 45 20 [l0, l1, l2, l3] [] S h n) ∧
  (∀ (d : Nat) (x : Int) (l0 l1 l3 : Option mx_V) (S h : mx_H) (n : Int), mx_ex d 186 20 [l0, l1, some (0, x), l3] [] S h n = mx_ex d 186 21 [l0, l1, some (0, x), l3] [(0, x)] S h n) ∧
  (∀ (d : Nat) (x : Int) (l1 l2 l3 : Option mx_V) (v0 : mx_V) (S h : mx_H) (n : Int), mx_ex d 186 21 [some (2, x), l1, l2, l3] [v0] S h n = mx_ex d 186 22 [some (2, x), l1, l2, l3] [(2, x), v0] S h n) ∧
  (∀ (d : Nat) (x : Int) (l0 l2 l3 : Option mx_V) (v0 v1 : mx_V) (S h : mx_H) (n : Int), mx_ex d 186 22 [l0, some (0, x), l2, l3] [v0, v1] S h n = mx_ex d 186 23 [l0, some (0, x), l2, l3] [(0, x), v0, v1] S h n) ∧
  (∀ (d : Nat) (x : Int) (l0 l1 l2 : Option mx_V) (v0 v1 v2 : mx_V) (S h : mx_H) (n : Int), mx_ex d 186 23 [l0, l1, l2, some (0, x)] [v0, v1, v2] S h n = mx_ex d 186 24 [l0, l1, l2, some (0, x)] [(0, x), v0, v1, v2] S h n) ∧
  (∀ (d : Nat) (x0 x1 a : Int) (l0 l1 l2 l3 : Option mx_V) (v3 : mx_V) (S h : mx_H) (n : Int), mx_ex (d + 1) 186 24 [l0, l1, l2, l3] [(0, x0), (0, x1), (2, a), v3] S h n = mx_cl (S a (-2) = 13) d 184 [(2, a), (0, x1), (0, x0)] 186 27 [l0, l1, l2, l3] [v3] S h n) ∧
  (∀ (d : Nat) (a : Int) (l0 l1 l2 l3 : Option mx_V) (v1 : mx_V) (S h : mx_H) (n : Int), mx_ex d 186 27 [l0, l1, l2, l3] [(0, a), v1] S h n = mx_br (a = 0) d 186 36 30 [l0, l1, l2, l3] [v1] S h n) ∧
  (∀ (d : Nat) (l0 l1 l2 l3 : Option mx_V) (v0 : mx_V) (S h : mx_H) (n : Int), mx_ex d 186 30 [l0, l1, l2, l3] [v0] S h n = mx_ex d 186 31 [l0, l1, l2, l3] [(0, 1), v0] S h n) ∧
  (∀ (d : Nat) (x : Int) (l0 l1 l2 : Option mx_V) (v0 v1 : mx_V) (S h : mx_H) (n : Int), mx_ex d 186 31 [l0, l1, l2, some (0, x)] [v0, v1] S h n = mx_ex d 186 32 [l0, l1, l2, some (0, x)] [(0, x), v0, v1] S h n) ∧
  (∀ (d : Nat) (b a : Int) (l0 l1 l2 l3 : Option mx_V) (v2 : mx_V) (S h : mx_H) (n : Int), mx_ex d 186 32 [l0, l1, l2, l3] [(0, b), (0, a), v2] S h n = mx_ex d 186 33 [l0, l1, l2, l3] [(0, mx_shl a b), v2] S h n) ∧
  (∀ (d : Nat) (l0 l1 l2 l3 : Option mx_V) (v0 v1 : mx_V) (S h : mx_H) (n : Int), mx_ex d 186 33 [l0, l1, l2, l3] [v0, v1] S h n = mx_ex d 186 37 [l0, l1, l2, l3] [v0, v1] S h n) ∧
  (∀ (d : Nat) (l0 l1 l2 l3 : Option mx_V) (v0 : mx_V) (S h : mx_H) (n : Int), mx_ex d 186 36 [l0, l1, l2, l3] [v0] S h n = mx_ex d 186 37 [l0, l1, l2, l3] [(0, 0), v0] S h n) ∧
  (∀ (d : Nat) (b a : Int) (l0 l1 l2 l3 : Option mx_V) (S h : mx_H) (n : Int), mx_ex d 186 37 [l0, l1, l2, l3] [(0, b), (0, a)] S h n = mx_ex d 186 38 [l0, l1, l2, l3] [(0, mx_or a b)] S h n) ∧
  (∀ (d : Nat) (x : Int) (l0 l1 l2 l3 : Option mx_V) (S h : mx_H) (n : Int), mx_ex d 186 38 [l0, l1, l2, l3] [(0, x)] S h n = mx_ex d 186 39 [l0, mx_nl l1, some (0, x), l3] [] S h n) ∧
  (∀ (d : Nat) (x : Int) (l0 l1 l2 : Option mx_V) (S h : mx_H) (n : Int), mx_ex d 186 39 [l0, l1, l2, some (0, x)] [] S h n = mx_ex d 186 42 [l0, l1, mx_nl l2, some (0, mx_w (x + 1))] [] S h n) ∧
  (∀ (d : Nat) (l0 l1 l2 l3 : Option mx_V) (S h : mx_H) (n : Int), mx_ex d 186 42 [l0, l1, l2, l3] [] S h n = mx_ex d 186 14 [l0, l1, l2, l3] [] S h n) ∧
  (∀ (d : Nat) (x : Int) (l0 l1 l3 : Option mx_V) (S h : mx_H) (n : Int), mx_ex d 186 45 [l0, l1, some (0, x), l3] [] S h n = mx_ex d 186 46 [l0, l1, some (0, x), l3] [(0, x)] S h n) ∧
  (∀ (d : Nat) (x : Int) (l0 l1 l2 l3 : Option mx_V) (S h : mx_H) (n : Int), mx_ex d 186 46 [l0, l1, l2, l3] [(0, x)] S h n = some (some (0, x), S, h, n)) :=
  ⟨by intros; exact rfl,
   by intros; exact eq_ld rfl rfl,
   by intros; exact eq_ld rfl rfl,
   by intros; exact eq_cv rfl (Nat.le_of_ble_eq_true rfl) rfl rfl rfl (Nat.le_of_ble_eq_true rfl),
   by intros; exact eq_if1 rfl,
   by intros; exact eq_push rfl,
   by intros; exact eq_ret rfl,
   by intros; exact eq_push rfl,
   by intros; exact eq_st rfl (by decide) (Nat.le_of_ble_eq_true rfl) rfl,
   by intros; exact eq_push rfl,
   by intros; exact eq_st rfl (by decide) (Nat.le_of_ble_eq_true rfl) rfl,
   by intros; exact eq_push rfl,
   by intros; exact eq_ic4 rfl,
   by intros; exact eq_ld rfl rfl,
   by intros; exact eq_ld rfl rfl,
   by intros; exact eq_ld rfl rfl,
   by intros; exact eq_ld rfl rfl,
   by intros; exact eq_cv rfl (Nat.le_of_ble_eq_true rfl) rfl rfl rfl (Nat.le_of_ble_eq_true rfl),
   by intros; exact eq_if0 rfl,
   by intros; exact eq_push rfl,
   by intros; exact eq_ld rfl rfl,
   by intros; exact eq_i2 (o := mx_shl) rfl,
   by intros; exact eq_go rfl,
   by intros; exact eq_push rfl,
   by intros; exact eq_i2 (o := mx_or) rfl,
   by intros; exact eq_st rfl (by decide) (Nat.le_of_ble_eq_true rfl) rfl,
   by intros; exact eq_inc rfl rfl rfl,
   by intros; exact eq_go rfl,
   by intros; exact eq_ld rfl rfl,
   by intros; exact eq_ret rfl⟩
theorem rw_X12_isLine :
  (∀ (d : Nat) (a0 a1 : Int) (S h : mx_H) (n : Int), mx_M d 187 [(2, a0), (0, a1)] S h n = mx_ex d 187 0 [some (2, a0), some (0, a1)] [] S h n) ∧
  (∀ (d : Nat) (x : Int) (l0 : Option mx_V) (S h : mx_H) (n : Int), mx_ex d 187 0 [l0, some (0, x)] [] S h n = mx_ex d 187 1 [l0, some (0, x)] [(0, x)] S h n) ∧
  (∀ (d : Nat) (l0 l1 : Option mx_V) (v0 : mx_V) (S h : mx_H) (n : Int), mx_ex d 187 1 [l0, l1] [v0] S h n = mx_ex d 187 2 [l0, l1] [(0, 0), v0] S h n) ∧
  (∀ (d : Nat) (x : Int) (l1 : Option mx_V) (v0 v1 : mx_V) (S h : mx_H) (n : Int), mx_ex d 187 2 [some (2, x), l1] [v0, v1] S h n = mx_ex d 187 3 [some (2, x), l1] [(2, x), v0, v1] S h n) ∧
  (∀ (d : Nat) (a : Int) (l0 l1 : Option mx_V) (v1 v2 : mx_V) (S h : mx_H) (n : Int), mx_ex d 187 3 [l0, l1] [(2, a), v1, v2] S h n = mx_gd (13 ≤ S a (-2) ∧ S a (-2) ≤ 13) d 187 6 [l0, l1] [(2, S a 0), v1, v2] S h n) ∧
  (∀ (d : Nat) (l0 l1 : Option mx_V) (v0 v1 v2 : mx_V) (S h : mx_H) (n : Int), mx_ex d 187 6 [l0, l1] [v0, v1, v2] S h n = mx_ex d 187 7 [l0, l1] [(0, 1), v0, v1, v2] S h n) ∧
  (∀ (d : Nat) (i a : Int) (l0 l1 : Option mx_V) (v2 v3 : mx_V) (S h : mx_H) (n : Int), mx_ex d 187 7 [l0, l1] [(0, i), (2, a), v2, v3] S h n = mx_gd ((S a (-2) = 20 ∨ S a (-2) = 24) ∧ 0 ≤ i ∧ i < S a (-1)) d 187 8 [l0, l1] [(0, h a i), v2, v3] S h n) ∧
  (∀ (d : Nat) (l0 l1 : Option mx_V) (v0 v1 v2 : mx_V) (S h : mx_H) (n : Int), mx_ex d 187 8 [l0, l1] [v0, v1, v2] S h n = mx_ex d 187 9 [l0, l1] [(0, 1), v0, v1, v2] S h n) ∧
  (∀ (d : Nat) (b a : Int) (l0 l1 : Option mx_V) (v2 v3 : mx_V) (S h : mx_H) (n : Int), mx_ex d 187 9 [l0, l1] [(0, b), (0, a), v2, v3] S h n = mx_ex d 187 10 [l0, l1] [(0, mx_w (a - b)), v2, v3] S h n) ∧
  (∀ (d : Nat) (x0 x1 x2 : Int) (l0 l1 : Option mx_V) (S h : mx_H) (n : Int), mx_ex (d + 1) 187 10 [l0, l1] [(0, x0), (0, x1), (0, x2)] S h n = mx_rt (mx_M d 157 [(0, x2), (0, x1), (0, x0)] S h n) (d + 1) 187 13 [l0, l1] []) ∧
  (∀ (d : Nat) (x : Int) (l0 l1 : Option mx_V) (S h : mx_H) (n : Int), mx_ex d 187 13 [l0, l1] [(0, x)] S h n = mx_re (0 ≤ x ∧ x ≤ 1) (some (0, x)) S h n) :=
  ⟨by intros; exact rfl,
   by intros; exact eq_ld rfl rfl,
   by intros; exact eq_push rfl,
   by intros; exact eq_ld rfl rfl,
   by intros; exact eq_gr rfl,
   by intros; exact eq_push rfl,
   by intros; exact eq_iald rfl,
   by intros; exact eq_push rfl,
   by intros; exact eq_i2 (o := mx_sub) rfl,
   by intros; exact eq_cs rfl (Nat.le_of_ble_eq_true rfl) rfl rfl rfl (Nat.le_of_ble_eq_true rfl),
   by intros; exact eq_rr rfl⟩
theorem rw_X12_line :
  (∀ (d : Nat) (a0 a1 a2 a3 a4 : Int) (S h : mx_H) (n : Int), mx_M d 188 [(2, a0), (0, a1), (0, a2), (0, a3), (0, a4)] S h n = mx_ex d 188 0 [some (2, a0), some (0, a1), some (0, a2), some (0, a3), some (0, a4), none, none] [] S h n) ∧
  (∀ (d : Nat) (x : Int) (l0 l2 l3 l4 l5 l6 : Option mx_V) (S h : mx_H) (n : Int), mx_ex d 188 0 [l0, some (0, x), l2, l3, l4, l5, l6] [] S h n = mx_ex d 188 1 [l0, some (0, x), l2, l3, l4, l5, l6] [(0, x)] S h n) ∧
  (∀ (d : Nat) (l0 l1 l2 l3 l4 l5 l6 : Option mx_V) (v0 : mx_V) (S h : mx_H) (n : Int), mx_ex d 188 1 [l0, l1, l2, l3, l4, l5, l6] [v0] S h n = mx_ex d 188 2 [l0, l1, l2, l3, l4, l5, l6] [(0, 0), v0] S h n) ∧
  (∀ (d : Nat) (l0 l1 l2 l3 l4 l5 l6 : Option mx_V) (v0 v1 : mx_V) (S h : mx_H) (n : Int), mx_ex d 188 2 [l0, l1, l2, l3, l4, l5, l6] [v0, v1] S h n = mx_ex d 188 3 [l0, l1, l2, l3, l4, l5, l6] [(0, 3), v0, v1] S h n) ∧
  (∀ (d : Nat) (x0 x1 x2 : Int) (l0 l1 l2 l3 l4 l5 l6 : Option mx_V) (S h : mx_H) (n : Int), mx_ex (d + 1) 188 3 [l0, l1, l2, l3, l4, l5, l6] [(0, x0), (0, x1), (0, x2)] S h n = mx_rt (mx_M d 157 [(0, x2), (0, x1), (0, x0)] S h n) (d + 1) 188 6 [l0, l1, l2, l3, l4, l5, l6] []) ∧
  (∀ (d : Nat) (a : Int) (l0 l1 l2 l3 l4 l5 l6 : Option mx_V) (S h : mx_H) (n : Int), mx_ex d 188 6 [l0, l1, l2, l3, l4, l5, l6] [(0, a)] S h n = mx_br (a = 0) d 188 34 9 [l0, l1, l2, l3, l4, l5, l6] [] S h n) ∧
  (∀ (d : Nat) (x : Int) (l1 l2 l3 l4 l5 l6 : Option mx_V) (S h : mx_H) (n : Int), mx_ex d 188 9 [some (2, x), l1, l2, l3, l4, l5, l6] [] S h n = mx_ex d 188 10 [some (2, x), l1, l2, l3, l4, l5, l6] [(2, x)] S h n) ∧
  (∀ (d : Nat) (x : Int) (l0 l1 l3 l4 l5 l6 : Option mx_V) (v0 : mx_V) (S h : mx_H) (n : Int), mx_ex d 188 10 [l0, l1, some (0, x), l3, l4, l5, l6] [v0] S h n = mx_ex d 188 11 [l0, l1, some (0, x), l3, l4, l5, l6] [(0, x), v0] S h n) ∧
  (∀ (d : Nat) (x0 a : Int) (l0 l1 l2 l3 l4 l5 l6 : Option mx_V) (S h : mx_H) (n : Int), mx_ex (d + 1) 188 11 [l0, l1, l2, l3, l4, l5, l6] [(0, x0), (2, a)] S h n = mx_cl (S a (-2) = 13) d 158 [(2, a), (0, x0)] 188 14 [l0, l1, l2, l3, l4, l5, l6] [] S h n) ∧
  (∀ (d : Nat) (a : Int) (l0 l1 l2 l3 l4 l5 l6 : Option mx_V) (S h : mx_H) (n : Int), mx_ex d 188 14 [l0, l1, l2, l3, l4, l5, l6] [(0, a)] S h n = mx_br (a = 0) d 188 34 17 [l0, l1, l2, l3, l4, l5, l6] [] S h n) ∧
  (∀ (d : Nat) (x : Int) (l0 l2 l3 l4 l5 l6 : Option mx_V) (S h : mx_H) (n : Int), mx_ex d 188 17 [l0, some (0, x), l2, l3, l4, l5, l6] [] S h n = mx_ex d 188 18 [l0, some (0, x), l2, l3, l4, l5, l6] [(0, x)] S h n) ∧
  (∀ (d : Nat) (l0 l1 l2 l3 l4 l5 l6 : Option mx_V) (v0 : mx_V) (S h : mx_H) (n : Int), mx_ex d 188 18 [l0, l1, l2, l3, l4, l5, l6] [v0] S h n = mx_ex d 188 19 [l0, l1, l2, l3, l4, l5, l6] [(0, 3), v0] S h n) ∧
  (∀ (d : Nat) (b a : Int) (l0 l1 l2 l3 l4 l5 l6 : Option mx_V) (S h : mx_H) (n : Int), mx_ex d 188 19 [l0, l1, l2, l3, l4, l5, l6] [(0, b), (0, a)] S h n = mx_br (a = b) d 188 30 22 [l0, l1, l2, l3, l4, l5, l6] [] S h n) ∧
  (∀ (d : Nat) (x : Int) (l1 l2 l3 l4 l5 l6 : Option mx_V) (S h : mx_H) (n : Int), mx_ex d 188 22 [some (2, x), l1, l2, l3, l4, l5, l6] [] S h n = mx_ex d 188 23 [some (2, x), l1, l2, l3, l4, l5, l6] [(2, x)] S h n) ∧
  (∀ (d : Nat) (x : Int) (l0 l1 l2 l4 l5 l6 : Option mx_V) (v0 : mx_V) (S h : mx_H) (n : Int), mx_ex d 188 23 [l0, l1, l2, some (0, x), l4, l5, l6] [v0] S h n = mx_ex d 188 24 [l0, l1, l2, some (0, x), l4, l5, l6] [(0, x), v0] S h n) ∧
  (∀ (d : Nat) (x0 a : Int) (l0 l1 l2 l3 l4 l5 l6 : Option mx_V) (S h : mx_H) (n : Int), mx_ex (d + 1) 188 24 [l0, l1, l2, l3, l4, l5, l6] [(0, x0), (2, a)] S h n = mx_cl (S a (-2) = 13) d 158 [(2, a), (0, x0)] 188 27 [l0, l1, l2, l3, l4, l5, l6] [] S h n) ∧
  (∀ (d : Nat) (a : Int) (l0 l1 l2 l3 l4 l5 l6 : Option mx_V) (S h : mx_H) (n : Int), mx_ex d 188 27 [l0, l1, l2, l3, l4, l5, l6] [(0, a)] S h n = mx_br (a = 0) d 188 34 30 [l0, l1, l2, l3, l4, l5, l6] [] S h n) ∧
  (∀ (d : Nat) (l0 l1 l2 l3 l4 l5 l6 : Option mx_V) (S h : mx_H) (n : Int), mx_ex d 188 30 [l0, l1, l2, l3, l4, l5, l6] [] S h n = mx_ex d 188 31 [l0, l1, l2, l3, l4, l5, l6] [(0, 1)] S h n) ∧
  (∀ (d : Nat) (l0 l1 l2 l3 l4 l5 l6 : Option mx_V) (v0 : mx_V) (S h : mx_H) (n : Int), mx_ex d 188 31 [l0, l1, l2, l3, l4, l5, l6] [v0] S h n = mx_ex d 188 35 [l0, l1, l2, l3, l4, l5, l6] [v0] S h n) ∧
  (∀ (d : Nat) (l0 l1 l2 l3 l4 l5 l6 : Option mx_V) (S h : mx_H) (n : Int), mx_ex d 188 34 [l0, l1, l2, l3, l4, l5, l6] [] S h n = mx_ex d 188 35 [l0, l1, l2, l3, l4, l5, l6] [(0, 0)] S h n) ∧
  (∀ (d : Nat) (x : Int) (l0 l1 l2 l3 l4 l5 l6 : Option mx_V) (S h : mx_H) (n : Int), mx_ex d 188 35 [l0, l1, l2, l3, l4, l5, l6] [(0, x)] S h n = mx_ex d 188 37 [l0, l1, l2, l3, mx_nl l4, some (0, x), l6] [] S h n) ∧
  (∀ (d : Nat) (x : Int) (l0 l1 l2 l3 l4 l6 : Option mx_V) (S h : mx_H) (n : Int), mx_ex d 188 37 [l0, l1, l2, l3, l4, some (0, x), l6] [] S h n = mx_ex d 188 39 [l0, l1, l2, l3, l4, some (0, x), l6] [(0, x)] S h n) ∧
  (∀ (d : Nat) (a : Int) (l0 l1 l2 l3 l4 l5 l6 : Option mx_V) (S h : mx_H) (n : Int), mx_ex d 188 39 [l0, l1, l2, l3, l4, l5, l6] [(0, a)] S h n = mx_br (a = 0) d 188 72 42 [l0, l1, l2, l3, l4, l5, l6] [] S h n) ∧
  (∀ (d : Nat) (x : Int) (l0 l2 l3 l4 l5 l6 : Option mx_V) (S h : mx_H) (n : Int), mx_ex d 188 42 [l0, some (0, x), l2, l3, l4, l5, l6] [] S h n = mx_ex d 188 43 [l0, some (0, x), l2, l3, l4, l5, l6] [(0, x)] S h n) ∧
  (∀ (d : Nat) (l0 l1 l2 l3 l4 l5 l6 : Option mx_V) (v0 : mx_V) (S h : mx_H) (n : Int), mx_ex d 188 43 [l0, l1, l2, l3, l4, l5, l6] [v0] S h n = mx_ex d 188 44 [l0, l1, l2, l3, l4, l5, l6] [(0, 2), v0] S h n) ∧
  (∀ (d : Nat) (b a : Int) (l0 l1 l2 l3 l4 l5 l6 : Option mx_V) (S h : mx_H) (n : Int), mx_ex d 188 44 [l0, l1, l2, l3, l4, l5, l6] [(0, b), (0, a)] S h n = mx_br (a = b) d 188 47 56 [l0, l1, l2, l3, l4, l5, l6] [] S h n) ∧
  (∀ (d : Nat) (x : Int) (l1 l2 l3 l4 l5 l6 : Option mx_V) (S h : mx_H) (n : Int), mx_ex d 188 47 [some (2, x), l1, l2, l3, l4, l5, l6] [] S h n = mx_ex d 188 48 [some (2, x), l1, l2, l3, l4, l5, l6] [(2, x)] S h n) ∧
  (∀ (d : Nat) (x : Int) (l0 l1 l2 l3 l5 l6 : Option mx_V) (v0 : mx_V) (S h : mx_H) (n : Int), mx_ex d 188 48 [l0, l1, l2, l3, some (0, x), l5, l6] [v0] S h n = mx_ex d 188 50 [l0, l1, l2, l3, some (0, x), l5, l6] [(0, x), v0] S h n) ∧
  (∀ (d : Nat) (x0 a : Int) (l0 l1 l2 l3 l4 l5 l6 : Option mx_V) (S h : mx_H) (n : Int), mx_ex (d + 1) 188 50 [l0, l1, l2, l3, l4, l5, l6] [(0, x0), (2, a)] S h n = mx_cl (S a (-2) = 13) d 158 [(2, a), (0, x0)] 188 53 [l0, l1, l2, l3, l4, l5, l6] [] S h n) ∧
  (∀ (d : Nat) (a : Int) (l0 l1 l2 l3 l4 l5 l6 : Option mx_V) (S h : mx_H) (n : Int), mx_ex d 188 53 [l0, l1, l2, l3, l4, l5, l6] [(0, a)] S h n = mx_br (a = 0) d 188 72 56 [l0, l1, l2, l3, l4, l5, l6] [] S h n) ∧
  (∀ (d : Nat) (x : Int) (l0 l2 l3 l4 l5 l6 : Option mx_V) (S h : mx_H) (n : Int), mx_ex d 188 56 [l0, some (0, x), l2, l3, l4, l5, l6] [] S h n = mx_ex d 188 57 [l0, some (0, x), l2, l3, l4, l5, l6] [(0, x)] S h n) ∧
  (∀ (d : Nat) (l0 l1 l2 l3 l4 l5 l6 : Option mx_V) (v0 : mx_V) (S h : mx_H) (n : Int), mx_ex d 188 57 [l0, l1, l2, l3, l4, l5, l6] [v0] S h n = mx_ex d 188 58 [l0, l1, l2, l3, l4, l5, l6] [(0, 3), v0] S h n) ∧
  (∀ (d : Nat) (b a : Int) (l0 l1 l2 l3 l4 l5 l6 : Option mx_V) (S h : mx_H) (n : Int), mx_ex d 188 58 [l0, l1, l2, l3, l4, l5, l6] [(0, b), (0, a)] S h n = mx_br (a = b) d 188 61 74 [l0, l1, l2, l3, l4, l5, l6] [] S h n) ∧
  (∀ (d : Nat) (x : Int) (l0 l1 l2 l3 l5 l6 : Option mx_V) (S h : mx_H) (n : Int), mx_ex d 188 61 [l0, l1, l2, l3, some (0, x), l5, l6] [] S h n = mx_ex d 188 63 [l0, l1, l2, l3, some (0, x), l5, l6] [(0, x)] S h n) ∧
  (∀ (d : Nat) (l0 l1 l2 l3 l4 l5 l6 : Option mx_V) (v0 : mx_V) (S h : mx_H) (n : Int), mx_ex d 188 63 [l0, l1, l2, l3, l4, l5, l6] [v0] S h n = mx_ex d 188 64 [l0, l1, l2, l3, l4, l5, l6] [(0, 1), v0] S h n) ∧
  (∀ (d : Nat) (l0 l1 l2 l3 l4 l5 l6 : Option mx_V) (v0 v1 : mx_V) (S h : mx_H) (n : Int), mx_ex d 188 64 [l0, l1, l2, l3, l4, l5, l6] [v0, v1] S h n = mx_ex d 188 66 [l0, l1, l2, l3, l4, l5, l6] [(0, 99), v0, v1] S h n) ∧
  (∀ (d : Nat) (x0 x1 x2 : Int) (l0 l1 l2 l3 l4 l5 l6 : Option mx_V) (S h : mx_H) (n : Int), mx_ex (d + 1) 188 66 [l0, l1, l2, l3, l4, l5, l6] [(0, x0), (0, x1), (0, x2)] S h n = mx_rt (mx_M d 157 [(0, x2), (0, x1), (0, x0)] S h n) (d + 1) 188 69 [l0, l1, l2, l3, l4, l5, l6] []) ∧
  (∀ (d : Nat) (a : Int) (l0 l1 l2 l3 l4 l5 l6 : Option mx_V) (S h : mx_H) (n : Int), mx_ex d 188 69 [l0, l1, l2, l3, l4, l5, l6] [(0, a)] S h n = mx_br (a = 0) d 188 72 74 [l0, l1, l2, l3, l4, l5, l6] [] S h n) ∧
  (∀ (d : Nat) (l0 l1 l2 l3 l4 l5 l6 : Option mx_V) (S h : mx_H) (n : Int), mx_ex d 188 72 [l0, l1, l2, l3, l4, l5, l6] [] S h n = mx_ex d 188 73 [l0, l1, l2, l3, l4, l5, l6] [(0, (-1))] S h n) ∧
  (∀ (d : Nat) (x : Int) (l0 l1 l2 l3 l4 l5 l6 : Option mx_V) (S h : mx_H) (n : Int), mx_ex d 188 73 [l0, l1, l2, l3, l4, l5, l6] [(0, x)] S h n = some (some (0, x), S, h, n)) ∧
  (∀ (d : Nat) (x : Int) (l1 l2 l3 l4 l5 l6 : Option mx_V) (S h : mx_H) (n : Int), mx_ex d 188 74 [some (2, x), l1, l2, l3, l4, l5, l6] [] S h n = mx_ex d 188 75 [some (2, x), l1, l2, l3, l4, l5, l6] [(2, x)] S h n) ∧
  (∀ (d : Nat) (a : Int) (l0 l1 l2 l3 l4 l5 l6 : Option mx_V) (S h : mx_H) (n : Int), mx_ex d 188 75 [l0, l1, l2, l3, l4, l5, l6] [(2, a)] S h n = mx_gd (13 ≤ S a (-2) ∧ S a (-2) ≤ 13) d 188 78 [l0, l1, l2, l3, l4, l5, l6] [(2, S a 0)] S h n) ∧
  (∀ (d : Nat) (l0 l1 l2 l3 l4 l5 l6 : Option mx_V) (v0 : mx_V) (S h : mx_H) (n : Int), mx_ex d 188 78 [l0, l1, l2, l3, l4, l5, l6] [v0] S h n = mx_ex d 188 79 [l0, l1, l2, l3, l4, l5, l6] [(0, 1), v0] S h n) ∧
  (∀ (d : Nat) (i a : Int) (l0 l1 l2 l3 l4 l5 l6 : Option mx_V) (S h : mx_H) (n : Int), mx_ex d 188 79 [l0, l1, l2, l3, l4, l5, l6] [(0, i), (2, a)] S h n = mx_gd ((S a (-2) = 20 ∨ S a (-2) = 24) ∧ 0 ≤ i ∧ i < S a (-1)) d 188 80 [l0, l1, l2, l3, l4, l5, l6] [(0, h a i)] S h n) ∧
  (∀ (d : Nat) (l0 l1 l2 l3 l4 l5 l6 : Option mx_V) (v0 : mx_V) (S h : mx_H) (n : Int), mx_ex d 188 80 [l0, l1, l2, l3, l4, l5, l6] [v0] S h n = mx_ex d 188 82 [l0, l1, l2, l3, l4, l5, l6] [(0, 6), v0] S h n) ∧
  (∀ (d : Nat) (b a : Int) (l0 l1 l2 l3 l4 l5 l6 : Option mx_V) (S h : mx_H) (n : Int), mx_ex d 188 82 [l0, l1, l2, l3, l4, l5, l6] [(0, b), (0, a)] S h n = mx_br (a = b) d 188 85 88 [l0, l1, l2, l3, l4, l5, l6] [] S h n) ∧
  (∀ (d : Nat) (l0 l1 l2 l3 l4 l5 l6 : Option mx_V) (S h : mx_H) (n : Int), mx_ex d 188 85 [l0, l1, l2, l3, l4, l5, l6] [] S h n = mx_ex d 188 87 [l0, l1, l2, l3, l4, l5, l6] [(0, (-2))] S h n) ∧
  (∀ (d : Nat) (x : Int) (l0 l1 l2 l3 l4 l5 l6 : Option mx_V) (S h : mx_H) (n : Int), mx_ex d 188 87 [l0, l1, l2, l3, l4, l5, l6] [(0, x)] S h n = some (some (0, x), S, h, n)) ∧
  (∀ (d : Nat) (l0 l1 l2 l3 l4 l5 l6 : Option mx_V) (S h : mx_H) (n : Int), mx_ex d 188 88 [l0, l1, l2, l3, l4, l5, l6] [] S h n = mx_ex d 188 90 [l0, l1, l2, l3, l4, l5, l6] [(0, 69)] S h n) ∧
  (∀ (d : Nat) (l0 l1 l2 l3 l4 l5 l6 : Option mx_V) (v0 : mx_V) (S h : mx_H) (n : Int), mx_ex d 188 90 [l0, l1, l2, l3, l4, l5, l6] [v0] S h n = mx_ex d 188 91 [l0, l1, l2, l3, l4, l5, l6] [(0, 4), v0] S h n) ∧
  (∀ (d : Nat) (x : Int) (l1 l2 l3 l4 l5 l6 : Option mx_V) (v0 v1 : mx_V) (S h : mx_H) (n : Int), mx_ex d 188 91 [some (2, x), l1, l2, l3, l4, l5, l6] [v0, v1] S h n = mx_ex d 188 92 [some (2, x), l1, l2, l3, l4, l5, l6] [(2, x), v0, v1] S h n) ∧
  (∀ (d : Nat) (a : Int) (l0 l1 l2 l3 l4 l5 l6 : Option mx_V) (v1 v2 : mx_V) (S h : mx_H) (n : Int), mx_ex d 188 92 [l0, l1, l2, l3, l4, l5, l6] [(2, a), v1, v2] S h n = mx_gd (13 ≤ S a (-2) ∧ S a (-2) ≤ 13) d 188 95 [l0, l1, l2, l3, l4, l5, l6] [(2, S a 0), v1, v2] S h n) ∧
  (∀ (d : Nat) (l0 l1 l2 l3 l4 l5 l6 : Option mx_V) (v0 v1 v2 : mx_V) (S h : mx_H) (n : Int), mx_ex d 188 95 [l0, l1, l2, l3, l4, l5, l6] [v0, v1, v2] S h n = mx_ex d 188 96 [l0, l1, l2, l3, l4, l5, l6] [(0, 1), v0, v1, v2] S h n) ∧
  (∀ (d : Nat) (i a : Int) (l0 l1 l2 l3 l4 l5 l6 : Option mx_V) (v2 v3 : mx_V) (S h : mx_H) (n : Int), mx_ex d 188 96 [l0, l1, l2, l3, l4, l5, l6] [(0, i), (2, a), v2, v3] S h n = mx_gd ((S a (-2) = 20 ∨ S a (-2) = 24) ∧ 0 ≤ i ∧ i < S a (-1)) d 188 97 [l0, l1, l2, l3, l4, l5, l6] [(0, h a i), v2, v3] S h n) ∧
  (∀ (d : Nat) (b a : Int) (l0 l1 l2 l3 l4 l5 l6 : Option mx_V) (v2 : mx_V) (S h : mx_H) (n : Int), mx_ex d 188 97 [l0, l1, l2, l3, l4, l5, l6] [(0, b), (0, a), v2] S h n = mx_ex d 188 98 [l0, l1, l2, l3, l4, l5, l6] [(0, mx_w (a * b)), v2] S h n) ∧
  (∀ (d : Nat) (b a : Int) (l0 l1 l2 l3 l4 l5 l6 : Option mx_V) (S h : mx_H) (n : Int), mx_ex d 188 98 [l0, l1, l2, l3, l4, l5, l6] [(0, b), (0, a)] S h n = mx_ex d 188 99 [l0, l1, l2, l3, l4, l5, l6] [(0, mx_w (a + b))] S h n) ∧
  (∀ (d : Nat) (x : Int) (l0 l1 l2 l3 l4 l5 l6 : Option mx_V) (S h : mx_H) (n : Int), mx_ex d 188 99 [l0, l1, l2, l3, l4, l5, l6] [(0, x)] S h n = mx_ex d 188 101 [l0, l1, l2, l3, l4, mx_nl l5, some (0, x)] [] S h n) ∧
  (∀ (d : Nat) (x : Int) (l1 l2 l3 l4 l5 l6 : Option mx_V) (S h : mx_H) (n : Int), mx_ex d 188 101 [some (2, x), l1, l2, l3, l4, l5, l6] [] S h n = mx_ex d 188 102 [some (2, x), l1, l2, l3, l4, l5, l6] [(2, x)] S h n) ∧
  (∀ (d : Nat) (a : Int) (l0 l1 l2 l3 l4 l5 l6 : Option mx_V) (S h : mx_H) (n : Int), mx_ex d 188 102 [l0, l1, l2, l3, l4, l5, l6] [(2, a)] S h n = mx_gd (13 ≤ S a (-2) ∧ S a (-2) ≤ 13) d 188 105 [l0, l1, l2, l3, l4, l5, l6] [(2, S a 0)] S h n) ∧
  (∀ (d : Nat) (x : Int) (l0 l1 l2 l3 l4 l5 : Option mx_V) (v0 : mx_V) (S h : mx_H) (n : Int), mx_ex d 188 105 [l0, l1, l2, l3, l4, l5, some (0, x)] [v0] S h n = mx_ex d 188 107 [l0, l1, l2, l3, l4, l5, some (0, x)] [(0, x), v0] S h n) ∧
  (∀ (d : Nat) (x : Int) (l0 l2 l3 l4 l5 l6 : Option mx_V) (v0 v1 : mx_V) (S h : mx_H) (n : Int), mx_ex d 188 107 [l0, some (0, x), l2, l3, l4, l5, l6] [v0, v1] S h n = mx_ex d 188 108 [l0, some (0, x), l2, l3, l4, l5, l6] [(0, x), v0, v1] S h n) ∧
  (∀ (d : Nat) (v i a : Int) (l0 l1 l2 l3 l4 l5 l6 : Option mx_V) (S h : mx_H) (n : Int), mx_ex d 188 108 [l0, l1, l2, l3, l4, l5, l6] [(0, v), (0, i), (2, a)] S h n = mx_gd (S a (-2) = 20 ∧ 0 ≤ i ∧ i < S a (-1)) d 188 109 [l0, l1, l2, l3, l4, l5, l6] [] S (mx_u h a i v) n) ∧
  (∀ (d : Nat) (x : Int) (l1 l2 l3 l4 l5 l6 : Option mx_V) (S h : mx_H) (n : Int), mx_ex d 188 109 [some (2, x), l1, l2, l3, l4, l5, l6] [] S h n = mx_ex d 188 110 [some (2, x), l1, l2, l3, l4, l5, l6] [(2, x)] S h n) ∧
  (∀ (d : Nat) (a : Int) (l0 l1 l2 l3 l4 l5 l6 : Option mx_V) (S h : mx_H) (n : Int), mx_ex d 188 110 [l0, l1, l2, l3, l4, l5, l6] [(2, a)] S h n = mx_gd (13 ≤ S a (-2) ∧ S a (-2) ≤ 13) d 188 113 [l0, l1, l2, l3, l4, l5, l6] [(2, S a 0)] S h n) ∧
  (∀ (d : Nat) (x : Int) (l0 l1 l2 l3 l4 l5 : Option mx_V) (v0 : mx_V) (S h : mx_H) (n : Int), mx_ex d 188 113 [l0, l1, l2, l3, l4, l5, some (0, x)] [v0] S h n = mx_ex d 188 115 [l0, l1, l2, l3, l4, l5, some (0, x)] [(0, x), v0] S h n) ∧
  (∀ (d : Nat) (l0 l1 l2 l3 l4 l5 l6 : Option mx_V) (v0 v1 : mx_V) (S h : mx_H) (n : Int), mx_ex d 188 115 [l0, l1, l2, l3, l4, l5, l6] [v0, v1] S h n = mx_ex d 188 116 [l0, l1, l2, l3, l4, l5, l6] [(0, 1), v0, v1] S h n) ∧
  (∀ (d : Nat) (b a : Int) (l0 l1 l2 l3 l4 l5 l6 : Option mx_V) (v2 : mx_V) (S h : mx_H) (n : Int), mx_ex d 188 116 [l0, l1, l2, l3, l4, l5, l6] [(0, b), (0, a), v2] S h n = mx_ex d 188 117 [l0, l1, l2, l3, l4, l5, l6] [(0, mx_w (a + b)), v2] S h n) ∧
  (∀ (d : Nat) (x : Int) (l0 l1 l3 l4 l5 l6 : Option mx_V) (v0 v1 : mx_V) (S h : mx_H) (n : Int), mx_ex d 188 117 [l0, l1, some (0, x), l3, l4, l5, l6] [v0, v1] S h n = mx_ex d 188 118 [l0, l1, some (0, x), l3, l4, l5, l6] [(0, x), v0, v1] S h n) ∧
  (∀ (d : Nat) (v i a : Int) (l0 l1 l2 l3 l4 l5 l6 : Option mx_V) (S h : mx_H) (n : Int), mx_ex d 188 118 [l0, l1, l2, l3, l4, l5, l6] [(0, v), (0, i), (2, a)] S h n = mx_gd (S a (-2) = 20 ∧ 0 ≤ i ∧ i < S a (-1)) d 188 119 [l0, l1, l2, l3, l4, l5, l6] [] S (mx_u h a i v) n) ∧
  (∀ (d : Nat) (x : Int) (l1 l2 l3 l4 l5 l6 : Option mx_V) (S h : mx_H) (n : Int), mx_ex d 188 119 [some (2, x), l1, l2, l3, l4, l5, l6] [] S h n = mx_ex d 188 120 [some (2, x), l1, l2, l3, l4, l5, l6] [(2, x)] S h n) :=
  ⟨by intros; exact rfl,
   by intros; exact eq_ld rfl rfl,
   by intros; exact eq_push rfl,
   by intros; exact eq_push rfl,
   by intros; exact eq_cs rfl (Nat.le_of_ble_eq_true rfl) rfl rfl rfl (Nat.le_of_ble_eq_true rfl),
   by intros; exact eq_if0 rfl,
   by intros; exact eq_ld rfl rfl,
   by intros; exact eq_ld rfl rfl,
   by intros; exact eq_cv rfl (Nat.le_of_ble_eq_true rfl) rfl rfl rfl (Nat.le_of_ble_eq_true rfl),
   by intros; exact eq_if0 rfl,
   by intros; exact eq_ld rfl rfl,
   by intros; exact eq_push rfl,
   by intros; exact eq_ic0 rfl,
   by intros; exact eq_ld rfl rfl,
   by intros; exact eq_ld rfl rfl,
   by intros; exact eq_cv rfl (Nat.le_of_ble_eq_true rfl) rfl rfl rfl (Nat.le_of_ble_eq_true rfl),
   by intros; exact eq_if0 rfl,
   by intros; exact eq_push rfl,
   by intros; exact eq_go rfl,
   by intros; exact eq_push rfl,
   by intros; exact eq_st rfl (by decide) (Nat.le_of_ble_eq_true rfl) rfl,
   by intros; exact eq_ld rfl rfl,
   by intros; exact eq_if0 rfl,
   by intros; exact eq_ld rfl rfl,
   by intros; exact eq_push rfl,
   by intros; exact eq_ic1 rfl,
   by intros; exact eq_ld rfl rfl,
   by intros; exact eq_ld rfl rfl,
   by intros; exact eq_cv rfl (Nat.le_of_ble_eq_true rfl) rfl rfl rfl (Nat.le_of_ble_eq_true rfl),
   by intros; exact eq_if0 rfl,
   by intros; exact eq_ld rfl rfl,
   by intros; exact eq_push rfl,
   by intros; exact eq_ic1 rfl,
   by intros; exact eq_ld rfl rfl,
   by intros; exact eq_push rfl,
   by intros; exact eq_push rfl,
   by intros; exact eq_cs rfl (Nat.le_of_ble_eq_true rfl) rfl rfl rfl (Nat.le_of_ble_eq_true rfl),
   by intros; exact eq_if1 rfl,
   by intros; exact eq_push rfl,
   by intros; exact eq_ret rfl,
   by intros; exact eq_ld rfl rfl,
   by intros; exact eq_gr rfl,
   by intros; exact eq_push rfl,
   by intros; exact eq_iald rfl,
   by intros; exact eq_push rfl,
   by intros; exact eq_ic1 rfl,
   by intros; exact eq_push rfl,
   by intros; exact eq_ret rfl,
   by intros; exact eq_push rfl,
   by intros; exact eq_push rfl,
   by intros; exact eq_ld rfl rfl,
   by intros; exact eq_gr rfl,
   by intros; exact eq_push rfl,
   by intros; exact eq_iald rfl,
   by intros; exact eq_i2 (o := mx_mul) rfl,
   by intros; exact eq_i2 (o := mx_add) rfl,
   by intros; exact eq_st rfl (by decide) (Nat.le_of_ble_eq_true rfl) rfl,
   by intros; exact eq_ld rfl rfl,
   by intros; exact eq_gr rfl,
   by intros; exact eq_ld rfl rfl,
   by intros; exact eq_ld rfl rfl,
   by intros; exact eq_iast rfl,
   by intros; exact eq_ld rfl rfl,
   by intros; exact eq_gr rfl,
   by intros; exact eq_ld rfl rfl,
   by intros; exact eq_push rfl,
   by intros; exact eq_i2 (o := mx_add) rfl,
   by intros; exact eq_ld rfl rfl,
   by intros; exact eq_iast rfl,
   by intros; exact eq_ld rfl rfl⟩
theorem rw_X12_line_1 :
  (∀ (d : Nat) (a : Int) (l0 l1 l2 l3 l4 l5 l6 : Option mx_V) (S h : mx_H) (n : Int), mx_ex d 188 120 [l0, l1, l2, l3, l4, l5, l6] [(2, a)] S h n = mx_gd (13 ≤ S a (-2) ∧ S a (-2) ≤ 13) d 188 123 [l0, l1, l2, l3, l4, l5, l6] [(2, S a 0)] S h n) ∧
  (∀ (d : Nat) (x : Int) (l0 l1 l2 l3 l4 l5 : Option mx_V) (v0 : mx_V) (S h : mx_H) (n : Int), mx_ex d 188 123 [l0, l1, l2, l3, l4, l5, some (0, x)] [v0] S h n = mx_ex d 188 125 [l0, l1, l2, l3, l4, l5, some (0, x)] [(0, x), v0] S h n) ∧
  (∀ (d : Nat) (l0 l1 l2 l3 l4 l5 l6 : Option mx_V) (v0 v1 : mx_V) (S h : mx_H) (n : Int), mx_ex d 188 125 [l0, l1, l2, l3, l4, l5, l6] [v0, v1] S h n = mx_ex d 188 126 [l0, l1, l2, l3, l4, l5, l6] [(0, 2), v0, v1] S h n) ∧
  (∀ (d : Nat) (b a : Int) (l0 l1 l2 l3 l4 l5 l6 : Option mx_V) (v2 : mx_V) (S h : mx_H) (n : Int), mx_ex d 188 126 [l0, l1, l2, l3, l4, l5, l6] [(0, b), (0, a), v2] S h n = mx_ex d 188 127 [l0, l1, l2, l3, l4, l5, l6] [(0, mx_w (a + b)), v2] S h n) ∧
  (∀ (d : Nat) (x : Int) (l0 l2 l3 l4 l5 l6 : Option mx_V) (v0 v1 : mx_V) (S h : mx_H) (n : Int), mx_ex d 188 127 [l0, some (0, x), l2, l3, l4, l5, l6] [v0, v1] S h n = mx_ex d 188 128 [l0, some (0, x), l2, l3, l4, l5, l6] [(0, x), v0, v1] S h n) ∧
  (∀ (d : Nat) (l0 l1 l2 l3 l4 l5 l6 : Option mx_V) (v0 v1 v2 : mx_V) (S h : mx_H) (n : Int), mx_ex d 188 128 [l0, l1, l2, l3, l4, l5, l6] [v0, v1, v2] S h n = mx_ex d 188 129 [l0, l1, l2, l3, l4, l5, l6] [(0, 3), v0, v1, v2] S h n) ∧
  (∀ (d : Nat) (b a : Int) (l0 l1 l2 l3 l4 l5 l6 : Option mx_V) (v2 v3 : mx_V) (S h : mx_H) (n : Int), mx_ex d 188 129 [l0, l1, l2, l3, l4, l5, l6] [(0, b), (0, a), v2, v3] S h n = mx_br (a = b) d 188 132 136 [l0, l1, l2, l3, l4, l5, l6] [v2, v3] S h n) ∧
  (∀ (d : Nat) (l0 l1 l2 l3 l4 l5 l6 : Option mx_V) (v0 v1 : mx_V) (S h : mx_H) (n : Int), mx_ex d 188 132 [l0, l1, l2, l3, l4, l5, l6] [v0, v1] S h n = mx_ex d 188 133 [l0, l1, l2, l3, l4, l5, l6] [(0, 0), v0, v1] S h n) ∧
  (∀ (d : Nat) (l0 l1 l2 l3 l4 l5 l6 : Option mx_V) (v0 v1 v2 : mx_V) (S h : mx_H) (n : Int), mx_ex d 188 133 [l0, l1, l2, l3, l4, l5, l6] [v0, v1, v2] S h n = mx_ex d 188 137 [l0, l1, l2, l3, l4, l5, l6] [v0, v1, v2] S h n) ∧
  (∀ (d : Nat) (x : Int) (l0 l1 l2 l4 l5 l6 : Option mx_V) (v0 v1 : mx_V) (S h : mx_H) (n : Int), mx_ex d 188 136 [l0, l1, l2, some (0, x), l4, l5, l6] [v0, v1] S h n = mx_ex d 188 137 [l0, l1, l2, some (0, x), l4, l5, l6] [(0, x), v0, v1] S h n) ∧
  (∀ (d : Nat) (v i a : Int) (l0 l1 l2 l3 l4 l5 l6 : Option mx_V) (S h : mx_H) (n : Int), mx_ex d 188 137 [l0, l1, l2, l3, l4, l5, l6] [(0, v), (0, i), (2, a)] S h n = mx_gd (S a (-2) = 20 ∧ 0 ≤ i ∧ i < S a (-1)) d 188 138 [l0, l1, l2, l3, l4, l5, l6] [] S (mx_u h a i v) n) ∧
  (∀ (d : Nat) (x : Int) (l1 l2 l3 l4 l5 l6 : Option mx_V) (S h : mx_H) (n : Int), mx_ex d 188 138 [some (2, x), l1, l2, l3, l4, l5, l6] [] S h n = mx_ex d 188 139 [some (2, x), l1, l2, l3, l4, l5, l6] [(2, x)] S h n) ∧
  (∀ (d : Nat) (a : Int) (l0 l1 l2 l3 l4 l5 l6 : Option mx_V) (S h : mx_H) (n : Int), mx_ex d 188 139 [l0, l1, l2, l3, l4, l5, l6] [(2, a)] S h n = mx_gd (13 ≤ S a (-2) ∧ S a (-2) ≤ 13) d 188 142 [l0, l1, l2, l3, l4, l5, l6] [(2, S a 0)] S h n) ∧
  (∀ (d : Nat) (x : Int) (l0 l1 l2 l3 l4 l5 : Option mx_V) (v0 : mx_V) (S h : mx_H) (n : Int), mx_ex d 188 142 [l0, l1, l2, l3, l4, l5, some (0, x)] [v0] S h n = mx_ex d 188 144 [l0, l1, l2, l3, l4, l5, some (0, x)] [(0, x), v0] S h n) ∧
  (∀ (d : Nat) (l0 l1 l2 l3 l4 l5 l6 : Option mx_V) (v0 v1 : mx_V) (S h : mx_H) (n : Int), mx_ex d 188 144 [l0, l1, l2, l3, l4, l5, l6] [v0, v1] S h n = mx_ex d 188 145 [l0, l1, l2, l3, l4, l5, l6] [(0, 3), v0, v1] S h n) ∧
  (∀ (d : Nat) (b a : Int) (l0 l1 l2 l3 l4 l5 l6 : Option mx_V) (v2 : mx_V) (S h : mx_H) (n : Int), mx_ex d 188 145 [l0, l1, l2, l3, l4, l5, l6] [(0, b), (0, a), v2] S h n = mx_ex d 188 146 [l0, l1, l2, l3, l4, l5, l6] [(0, mx_w (a + b)), v2] S h n) ∧
  (∀ (d : Nat) (x : Int) (l0 l2 l3 l4 l5 l6 : Option mx_V) (v0 v1 : mx_V) (S h : mx_H) (n : Int), mx_ex d 188 146 [l0, some (0, x), l2, l3, l4, l5, l6] [v0, v1] S h n = mx_ex d 188 147 [l0, some (0, x), l2, l3, l4, l5, l6] [(0, x), v0, v1] S h n) ∧
  (∀ (d : Nat) (l0 l1 l2 l3 l4 l5 l6 : Option mx_V) (v0 v1 v2 : mx_V) (S h : mx_H) (n : Int), mx_ex d 188 147 [l0, l1, l2, l3, l4, l5, l6] [v0, v1, v2] S h n = mx_ex d 188 148 [l0, l1, l2, l3, l4, l5, l6] [(0, 2), v0, v1, v2] S h n) ∧
  (∀ (d : Nat) (b a : Int) (l0 l1 l2 l3 l4 l5 l6 : Option mx_V) (v2 v3 : mx_V) (S h : mx_H) (n : Int), mx_ex d 188 148 [l0, l1, l2, l3, l4, l5, l6] [(0, b), (0, a), v2, v3] S h n = mx_br (a = b) d 188 156 151 [l0, l1, l2, l3, l4, l5, l6] [v2, v3] S h n) ∧
  (∀ (d : Nat) (x : Int) (l0 l2 l3 l4 l5 l6 : Option mx_V) (v0 v1 : mx_V) (S h : mx_H) (n : Int), mx_ex d 188 151 [l0, some (0, x), l2, l3, l4, l5, l6] [v0, v1] S h n = mx_ex d 188 152 [l0, some (0, x), l2, l3, l4, l5, l6] [(0, x), v0, v1] S h n) ∧
  (∀ (d : Nat) (l0 l1 l2 l3 l4 l5 l6 : Option mx_V) (v0 v1 v2 : mx_V) (S h : mx_H) (n : Int), mx_ex d 188 152 [l0, l1, l2, l3, l4, l5, l6] [v0, v1, v2] S h n = mx_ex d 188 153 [l0, l1, l2, l3, l4, l5, l6] [(0, 3), v0, v1, v2] S h n) ∧
  (∀ (d : Nat) (b a : Int) (l0 l1 l2 l3 l4 l5 l6 : Option mx_V) (v2 v3 : mx_V) (S h : mx_H) (n : Int), mx_ex d 188 153 [l0, l1, l2, l3, l4, l5, l6] [(0, b), (0, a), v2, v3] S h n = mx_br (a = b) d 188 156 161 [l0, l1, l2, l3, l4, l5, l6] [v2, v3] S h n) ∧
  (∀ (d : Nat) (x : Int) (l0 l1 l2 l3 l5 l6 : Option mx_V) (v0 v1 : mx_V) (S h : mx_H) (n : Int), mx_ex d 188 156 [l0, l1, l2, l3, some (0, x), l5, l6] [v0, v1] S h n = mx_ex d 188 158 [l0, l1, l2, l3, some (0, x), l5, l6] [(0, x), v0, v1] S h n) ∧
  (∀ (d : Nat) (l0 l1 l2 l3 l4 l5 l6 : Option mx_V) (v0 v1 v2 : mx_V) (S h : mx_H) (n : Int), mx_ex d 188 158 [l0, l1, l2, l3, l4, l5, l6] [v0, v1, v2] S h n = mx_ex d 188 162 [l0, l1, l2, l3, l4, l5, l6] [v0, v1, v2] S h n) ∧
  (∀ (d : Nat) (l0 l1 l2 l3 l4 l5 l6 : Option mx_V) (v0 v1 : mx_V) (S h : mx_H) (n : Int), mx_ex d 188 161 [l0, l1, l2, l3, l4, l5, l6] [v0, v1] S h n = mx_ex d 188 162 [l0, l1, l2, l3, l4, l5, l6] [(0, 0), v0, v1] S h n) ∧
  (∀ (d : Nat) (v i a : Int) (l0 l1 l2 l3 l4 l5 l6 : Option mx_V) (S h : mx_H) (n : Int), mx_ex d 188 162 [l0, l1, l2, l3, l4, l5, l6] [(0, v), (0, i), (2, a)] S h n = mx_gd (S a (-2) = 20 ∧ 0 ≤ i ∧ i < S a (-1)) d 188 163 [l0, l1, l2, l3, l4, l5, l6] [] S (mx_u h a i v) n) ∧
  (∀ (d : Nat) (x : Int) (l1 l2 l3 l4 l5 l6 : Option mx_V) (S h : mx_H) (n : Int), mx_ex d 188 163 [some (2, x), l1, l2, l3, l4, l5, l6] [] S h n = mx_ex d 188 164 [some (2, x), l1, l2, l3, l4, l5, l6] [(2, x)] S h n) ∧
  (∀ (d : Nat) (a : Int) (l0 l1 l2 l3 l4 l5 l6 : Option mx_V) (S h : mx_H) (n : Int), mx_ex d 188 164 [l0, l1, l2, l3, l4, l5, l6] [(2, a)] S h n = mx_gd (13 ≤ S a (-2) ∧ S a (-2) ≤ 13) d 188 167 [l0, l1, l2, l3, l4, l5, l6] [(2, S a 0)] S h n) ∧
  (∀ (d : Nat) (l0 l1 l2 l3 l4 l5 l6 : Option mx_V) (v0 : mx_V) (S h : mx_H) (n : Int), mx_ex d 188 167 [l0, l1, l2, l3, l4, l5, l6] [v0] S h n = mx_ex d 188 168 [l0, l1, l2, l3, l4, l5, l6] [(0, 1), v0] S h n) ∧
  (∀ (d : Nat) (a b : Int) (l0 l1 l2 l3 l4 l5 l6 : Option mx_V) (S h : mx_H) (n : Int), mx_ex d 188 168 [l0, l1, l2, l3, l4, l5, l6] [(0, a), (2, b)] S h n = mx_ex d 188 169 [l0, l1, l2, l3, l4, l5, l6] [(0, a), (2, b), (0, a), (2, b)] S h n) ∧
  (∀ (d : Nat) (i a : Int) (l0 l1 l2 l3 l4 l5 l6 : Option mx_V) (v2 v3 : mx_V) (S h : mx_H) (n : Int), mx_ex d 188 169 [l0, l1, l2, l3, l4, l5, l6] [(0, i), (2, a), v2, v3] S h n = mx_gd ((S a (-2) = 20 ∨ S a (-2) = 24) ∧ 0 ≤ i ∧ i < S a (-1)) d 188 170 [l0, l1, l2, l3, l4, l5, l6] [(0, h a i), v2, v3] S h n) ∧
  (∀ (d : Nat) (l0 l1 l2 l3 l4 l5 l6 : Option mx_V) (v0 v1 v2 : mx_V) (S h : mx_H) (n : Int), mx_ex d 188 170 [l0, l1, l2, l3, l4, l5, l6] [v0, v1, v2] S h n = mx_ex d 188 171 [l0, l1, l2, l3, l4, l5, l6] [(0, 1), v0, v1, v2] S h n) ∧
  (∀ (d : Nat) (b a : Int) (l0 l1 l2 l3 l4 l5 l6 : Option mx_V) (v2 v3 : mx_V) (S h : mx_H) (n : Int), mx_ex d 188 171 [l0, l1, l2, l3, l4, l5, l6] [(0, b), (0, a), v2, v3] S h n = mx_ex d 188 172 [l0, l1, l2, l3, l4, l5, l6] [(0, mx_w (a + b)), v2, v3] S h n) ∧
  (∀ (d : Nat) (v i a : Int) (l0 l1 l2 l3 l4 l5 l6 : Option mx_V) (S h : mx_H) (n : Int), mx_ex d 188 172 [l0, l1, l2, l3, l4, l5, l6] [(0, v), (0, i), (2, a)] S h n = mx_gd (S a (-2) = 20 ∧ 0 ≤ i ∧ i < S a (-1)) d 188 173 [l0, l1, l2, l3, l4, l5, l6] [] S (mx_u h a i v) n) ∧
  (∀ (d : Nat) (x : Int) (l1 l2 l3 l4 l5 l6 : Option mx_V) (S h : mx_H) (n : Int), mx_ex d 188 173 [some (2, x), l1, l2, l3, l4, l5, l6] [] S h n = mx_ex d 188 174 [some (2, x), l1, l2, l3, l4, l5, l6] [(2, x)] S h n) ∧
  (∀ (d : Nat) (a : Int) (l0 l1 l2 l3 l4 l5 l6 : Option mx_V) (S h : mx_H) (n : Int), mx_ex d 188 174 [l0, l1, l2, l3, l4, l5, l6] [(2, a)] S h n = mx_gd (13 ≤ S a (-2) ∧ S a (-2) ≤ 13) d 188 177 [l0, l1, l2, l3, l4, l5, l6] [(2, S a 0)] S h n) ∧
  (∀ (d : Nat) (l0 l1 l2 l3 l4 l5 l6 : Option mx_V) (v0 : mx_V) (S h : mx_H) (n : Int), mx_ex d 188 177 [l0, l1, l2, l3, l4, l5, l6] [v0] S h n = mx_ex d 188 178 [l0, l1, l2, l3, l4, l5, l6] [(0, 1), v0] S h n) ∧
  (∀ (d : Nat) (i a : Int) (l0 l1 l2 l3 l4 l5 l6 : Option mx_V) (S h : mx_H) (n : Int), mx_ex d 188 178 [l0, l1, l2, l3, l4, l5, l6] [(0, i), (2, a)] S h n = mx_gd ((S a (-2) = 20 ∨ S a (-2) = 24) ∧ 0 ≤ i ∧ i < S a (-1)) d 188 179 [l0, l1, l2, l3, l4, l5, l6] [(0, h a i)] S h n) ∧
  (∀ (d : Nat) (l0 l1 l2 l3 l4 l5 l6 : Option mx_V) (v0 : mx_V) (S h : mx_H) (n : Int), mx_ex d 188 179 [l0, l1, l2, l3, l4, l5, l6] [v0] S h n = mx_ex d 188 180 [l0, l1, l2, l3, l4, l5, l6] [(0, 1), v0] S h n) ∧
  (∀ (d : Nat) (b a : Int) (l0 l1 l2 l3 l4 l5 l6 : Option mx_V) (S h : mx_H) (n : Int), mx_ex d 188 180 [l0, l1, l2, l3, l4, l5, l6] [(0, b), (0, a)] S h n = mx_ex d 188 181 [l0, l1, l2, l3, l4, l5, l6] [(0, mx_w (a - b))] S h n) ∧
  (∀ (d : Nat) (x : Int) (l0 l1 l2 l3 l4 l5 l6 : Option mx_V) (S h : mx_H) (n : Int), mx_ex d 188 181 [l0, l1, l2, l3, l4, l5, l6] [(0, x)] S h n = some (some (0, x), S, h, n)) :=
  ⟨by intros; exact eq_gr rfl,
   by intros; exact eq_ld rfl rfl,
   by intros; exact eq_push rfl,
   by intros; exact eq_i2 (o := mx_add) rfl,
   by intros; exact eq_ld rfl rfl,
   by intros; exact eq_push rfl,
   by intros; exact eq_ic1 rfl,
   by intros; exact eq_push rfl,
   by intros; exact eq_go rfl,
   by intros; exact eq_ld rfl rfl,
   by intros; exact eq_iast rfl,
   by intros; exact eq_ld rfl rfl,
   by intros; exact eq_gr rfl,
   by intros; exact eq_ld rfl rfl,
   by intros; exact eq_push rfl,
   by intros; exact eq_i2 (o := mx_add) rfl,
   by intros; exact eq_ld rfl rfl,
   by intros; exact eq_push rfl,
   by intros; exact eq_ic0 rfl,
   by intros; exact eq_ld rfl rfl,
   by intros; exact eq_push rfl,
   by intros; exact eq_ic1 rfl,
   by intros; exact eq_ld rfl rfl,
   by intros; exact eq_go rfl,
   by intros; exact eq_push rfl,
   by intros; exact eq_iast rfl,
   by intros; exact eq_ld rfl rfl,
   by intros; exact eq_gr rfl,
   by intros; exact eq_push rfl,
   by intros; exact eq_dup2 rfl (by decide) (by decide),
   by intros; exact eq_iald rfl,
   by intros; exact eq_push rfl,
   by intros; exact eq_i2 (o := mx_add) rfl,
   by intros; exact eq_iast rfl,
   by intros; exact eq_ld rfl rfl,
   by intros; exact eq_gr rfl,
   by intros; exact eq_push rfl,
   by intros; exact eq_iald rfl,
   by intros; exact eq_push rfl,
   by intros; exact eq_i2 (o := mx_sub) rfl,
   by intros; exact eq_ret rfl⟩
theorem rw_X12_lineOf :
  (∀ (d : Nat) (a0 a1 a2 : Int) (S h : mx_H) (n : Int), mx_M d 189 [(2, a0), (0, a1), (0, a2)] S h n = mx_ex d 189 0 [some (2, a0), some (0, a1), some (0, a2)] [] S h n) ∧
  (∀ (d : Nat) (x : Int) (l1 l2 : Option mx_V) (S h : mx_H) (n : Int), mx_ex d 189 0 [some (2, x), l1, l2] [] S h n = mx_ex d 189 1 [some (2, x), l1, l2] [(2, x)] S h n) ∧
  (∀ (d : Nat) (x : Int) (l0 l2 : Option mx_V) (v0 : mx_V) (S h : mx_H) (n : Int), mx_ex d 189 1 [l0, some (0, x), l2] [v0] S h n = mx_ex d 189 2 [l0, some (0, x), l2] [(0, x), v0] S h n) ∧
  (∀ (d : Nat) (x0 a : Int) (l0 l1 l2 : Option mx_V) (S h : mx_H) (n : Int), mx_ex (d + 1) 189 2 [l0, l1, l2] [(0, x0), (2, a)] S h n = mx_cl (S a (-2) = 13) d 187 [(2, a), (0, x0)] 189 5 [l0, l1, l2] [] S h n) ∧
  (∀ (d : Nat) (a : Int) (l0 l1 l2 : Option mx_V) (S h : mx_H) (n : Int), mx_ex d 189 5 [l0, l1, l2] [(0, a)] S h n = mx_br (a = 0) d 189 26 8 [l0, l1, l2] [] S h n) ∧
  (∀ (d : Nat) (x : Int) (l0 l1 : Option mx_V) (S h : mx_H) (n : Int), mx_ex d 189 8 [l0, l1, some (0, x)] [] S h n = mx_ex d 189 9 [l0, l1, some (0, x)] [(0, x)] S h n) ∧
  (∀ (d : Nat) (l0 l1 l2 : Option mx_V) (v0 : mx_V) (S h : mx_H) (n : Int), mx_ex d 189 9 [l0, l1, l2] [v0] S h n = mx_ex d 189 10 [l0, l1, l2] [(0, 0), v0] S h n) ∧
  (∀ (d : Nat) (l0 l1 l2 : Option mx_V) (v0 v1 : mx_V) (S h : mx_H) (n : Int), mx_ex d 189 10 [l0, l1, l2] [v0, v1] S h n = mx_ex d 189 11 [l0, l1, l2] [(0, 3), v0, v1] S h n) ∧
  (∀ (d : Nat) (x0 x1 x2 : Int) (l0 l1 l2 : Option mx_V) (S h : mx_H) (n : Int), mx_ex (d + 1) 189 11 [l0, l1, l2] [(0, x0), (0, x1), (0, x2)] S h n = mx_rt (mx_M d 157 [(0, x2), (0, x1), (0, x0)] S h n) (d + 1) 189 14 [l0, l1, l2] []) ∧
  (∀ (d : Nat) (a : Int) (l0 l1 l2 : Option mx_V) (S h : mx_H) (n : Int), mx_ex d 189 14 [l0, l1, l2] [(0, a)] S h n = mx_br (a = 0) d 189 26 17 [l0, l1, l2] [] S h n) ∧
  (∀ (d : Nat) (x : Int) (l1 l2 : Option mx_V) (S h : mx_H) (n : Int), mx_ex d 189 17 [some (2, x), l1, l2] [] S h n = mx_ex d 189 18 [some (2, x), l1, l2] [(2, x)] S h n) ∧
  (∀ (d : Nat) (x : Int) (l0 l2 : Option mx_V) (v0 : mx_V) (S h : mx_H) (n : Int), mx_ex d 189 18 [l0, some (0, x), l2] [v0] S h n = mx_ex d 189 19 [l0, some (0, x), l2] [(0, x), v0] S h n) ∧
  (∀ (d : Nat) (x : Int) (l0 l1 : Option mx_V) (v0 v1 : mx_V) (S h : mx_H) (n : Int), mx_ex d 189 19 [l0, l1, some (0, x)] [v0, v1] S h n = mx_ex d 189 20 [l0, l1, some (0, x)] [(0, x), v0, v1] S h n) ∧
  (∀ (d : Nat) (x0 x1 a : Int) (l0 l1 l2 : Option mx_V) (S h : mx_H) (n : Int), mx_ex (d + 1) 189 20 [l0, l1, l2] [(0, x0), (0, x1), (2, a)] S h n = mx_cl (S a (-2) = 13) d 162 [(2, a), (0, x1), (0, x0)] 189 23 [l0, l1, l2] [] S h n) ∧
  (∀ (d : Nat) (l0 l1 l2 : Option mx_V) (v0 : mx_V) (S h : mx_H) (n : Int), mx_ex d 189 23 [l0, l1, l2] [v0] S h n = mx_ex d 189 27 [l0, l1, l2] [v0] S h n) ∧
  (∀ (d : Nat) (l0 l1 l2 : Option mx_V) (S h : mx_H) (n : Int), mx_ex d 189 26 [l0, l1, l2] [] S h n = mx_ex d 189 27 [l0, l1, l2] [(0, (-1))] S h n) ∧
  (∀ (d : Nat) (x : Int) (l0 l1 l2 : Option mx_V) (S h : mx_H) (n : Int), mx_ex d 189 27 [l0, l1, l2] [(0, x)] S h n = some (some (0, x), S, h, n)) :=
  ⟨by intros; exact rfl,
   by intros; exact eq_ld rfl rfl,
   by intros; exact eq_ld rfl rfl,
   by intros; exact eq_cv rfl (Nat.le_of_ble_eq_true rfl) rfl rfl rfl (Nat.le_of_ble_eq_true rfl),
   by intros; exact eq_if0 rfl,
   by intros; exact eq_ld rfl rfl,
   by intros; exact eq_push rfl,
   by intros; exact eq_push rfl,
   by intros; exact eq_cs rfl (Nat.le_of_ble_eq_true rfl) rfl rfl rfl (Nat.le_of_ble_eq_true rfl),
   by intros; exact eq_if0 rfl,
   by intros; exact eq_ld rfl rfl,
   by intros; exact eq_ld rfl rfl,
   by intros; exact eq_ld rfl rfl,
   by intros; exact eq_cv rfl (Nat.le_of_ble_eq_true rfl) rfl rfl rfl (Nat.le_of_ble_eq_true rfl),
   by intros; exact eq_go rfl,
   by intros; exact eq_push rfl,
   by intros; exact eq_ret rfl⟩
theorem rh_X12_strike_27 : ∀ (d : Nat) (x : Int) (l0 l1 : Option mx_V) (S h : mx_H) (n : Int), mx_ex d 190 27 [l0, l1, some (0, x)] [] S h n = mx_ex d 190 28 [l0, l1, some (0, x)] [(0, x)] S h n := by intros; exact eq_ld rfl rfl
theorem rw_X12_strike :
  (∀ (d : Nat) (a0 a1 : Int) (S h : mx_H) (n : Int), mx_M d 190 [(2, a0), (0, a1)] S h n = mx_ex d 190 0 [some (2, a0), some (0, a1), none] [] S h n) ∧
  (∀ (d : Nat) (x : Int) (l1 l2 : Option mx_V) (S h : mx_H) (n : Int), mx_ex d 190 0 [some (2, x), l1, l2] [] S h n = mx_ex d 190 1 [some (2, x), l1, l2] [(2, x)] S h n) ∧
  (∀ (d : Nat) (x : Int) (l0 l2 : Option mx_V) (v0 : mx_V) (S h : mx_H) (n : Int), mx_ex d 190 1 [l0, some (0, x), l2] [v0] S h n = mx_ex d 190 2 [l0, some (0, x), l2] [(0, x), v0] S h n) ∧
  (∀ (d : Nat) (x0 a : Int) (l0 l1 l2 : Option mx_V) (S h : mx_H) (n : Int), mx_ex (d + 1) 190 2 [l0, l1, l2] [(0, x0), (2, a)] S h n = mx_cl (S a (-2) = 13) d 187 [(2, a), (0, x0)] 190 5 [l0, l1, l2] [] S h n) ∧
  (∀ (d : Nat) (a : Int) (l0 l1 l2 : Option mx_V) (S h : mx_H) (n : Int), mx_ex d 190 5 [l0, l1, l2] [(0, a)] S h n = mx_br (a = 0) d 190 8 10 [l0, l1, l2] [] S h n) ∧
  (∀ (d : Nat) (l0 l1 l2 : Option mx_V) (S h : mx_H) (n : Int), mx_ex d 190 8 [l0, l1, l2] [] S h n = mx_ex d 190 9 [l0, l1, l2] [(0, (-1))] S h n) ∧
  (∀ (d : Nat) (x : Int) (l0 l1 l2 : Option mx_V) (S h : mx_H) (n : Int), mx_ex d 190 9 [l0, l1, l2] [(0, x)] S h n = some (some (0, x), S, h, n)) ∧
  (∀ (d : Nat) (x : Int) (l1 l2 : Option mx_V) (S h : mx_H) (n : Int), mx_ex d 190 10 [some (2, x), l1, l2] [] S h n = mx_ex d 190 11 [some (2, x), l1, l2] [(2, x)] S h n) ∧
  (∀ (d : Nat) (a : Int) (l0 l1 l2 : Option mx_V) (S h : mx_H) (n : Int), mx_ex d 190 11 [l0, l1, l2] [(2, a)] S h n = mx_gd (13 ≤ S a (-2) ∧ S a (-2) ≤ 13) d 190 14 [l0, l1, l2] [(2, S a 0)] S h n) ∧
  (∀ (d : Nat) (l0 l1 l2 : Option mx_V) (v0 : mx_V) (S h : mx_H) (n : Int), mx_ex d 190 14 [l0, l1, l2] [v0] S h n = mx_ex d 190 15 [l0, l1, l2] [(0, 1), v0] S h n) ∧
  (∀ (d : Nat) (a b : Int) (l0 l1 l2 : Option mx_V) (S h : mx_H) (n : Int), mx_ex d 190 15 [l0, l1, l2] [(0, a), (2, b)] S h n = mx_ex d 190 16 [l0, l1, l2] [(0, a), (2, b), (0, a), (2, b)] S h n) ∧
  (∀ (d : Nat) (i a : Int) (l0 l1 l2 : Option mx_V) (v2 v3 : mx_V) (S h : mx_H) (n : Int), mx_ex d 190 16 [l0, l1, l2] [(0, i), (2, a), v2, v3] S h n = mx_gd ((S a (-2) = 20 ∨ S a (-2) = 24) ∧ 0 ≤ i ∧ i < S a (-1)) d 190 17 [l0, l1, l2] [(0, h a i), v2, v3] S h n) ∧
  (∀ (d : Nat) (l0 l1 l2 : Option mx_V) (v0 v1 v2 : mx_V) (S h : mx_H) (n : Int), mx_ex d 190 17 [l0, l1, l2] [v0, v1, v2] S h n = mx_ex d 190 18 [l0, l1, l2] [(0, 1), v0, v1, v2] S h n) ∧
  (∀ (d : Nat) (b a : Int) (l0 l1 l2 : Option mx_V) (v2 v3 : mx_V) (S h : mx_H) (n : Int), mx_ex d 190 18 [l0, l1, l2] [(0, b), (0, a), v2, v3] S h n = mx_ex d 190 19 [l0, l1, l2] [(0, mx_w (a - b)), v2, v3] S h n) ∧
  (∀ (d : Nat) (v i a : Int) (l0 l1 l2 : Option mx_V) (S h : mx_H) (n : Int), mx_ex d 190 19 [l0, l1, l2] [(0, v), (0, i), (2, a)] S h n = mx_gd (S a (-2) = 20 ∧ 0 ≤ i ∧ i < S a (-1)) d 190 20 [l0, l1, l2] [] S (mx_u h a i v) n) ∧
  (∀ (d : Nat) (l0 l1 l2 : Option mx_V) (S h : mx_H) (n : Int), mx_ex d 190 20 [l0, l1, l2] [] S h n = mx_ex d 190 22 [l0, l1, l2] [(0, 69)] S h n) ∧
  (∀ (d : Nat) (l0 l1 l2 : Option mx_V) (v0 : mx_V) (S h : mx_H) (n : Int), mx_ex d 190 22 [l0, l1, l2] [v0] S h n = mx_ex d 190 23 [l0, l1, l2] [(0, 4), v0] S h n) ∧
  (∀ (d : Nat) (x : Int) (l0 l2 : Option mx_V) (v0 v1 : mx_V) (S h : mx_H) (n : Int), mx_ex d 190 23 [l0, some (0, x), l2] [v0, v1] S h n = mx_ex d 190 24 [l0, some (0, x), l2] [(0, x), v0, v1] S h n) ∧
  (∀ (d : Nat) (b a : Int) (l0 l1 l2 : Option mx_V) (v2 : mx_V) (S h : mx_H) (n : Int), mx_ex d 190 24 [l0, l1, l2] [(0, b), (0, a), v2] S h n = mx_ex d 190 25 [l0, l1, l2] [(0, mx_w (a * b)), v2] S h n) ∧
  (∀ (d : Nat) (b a : Int) (l0 l1 l2 : Option mx_V) (S h : mx_H) (n : Int), mx_ex d 190 25 [l0, l1, l2] [(0, b), (0, a)] S h n = mx_ex d 190 26 [l0, l1, l2] [(0, mx_w (a + b))] S h n) ∧
  (∀ (d : Nat) (x : Int) (l0 l1 l2 : Option mx_V) (S h : mx_H) (n : Int), mx_ex d 190 26 [l0, l1, l2] [(0, x)] S h n = mx_ex d 190 27 [l0, mx_nl l1, some (0, x)] [] S h n) ∧
  (∀ (d : Nat) (l0 l1 l2 : Option mx_V) (v0 : mx_V) (S h : mx_H) (n : Int), mx_ex d 190 28 [l0, l1, l2] [v0] S h n = mx_ex d 190 30 [l0, l1, l2] [(0, 69), v0] S h n) ∧
  (∀ (d : Nat) (l0 l1 l2 : Option mx_V) (v0 v1 : mx_V) (S h : mx_H) (n : Int), mx_ex d 190 30 [l0, l1, l2] [v0, v1] S h n = mx_ex d 190 31 [l0, l1, l2] [(0, 4), v0, v1] S h n) ∧
  (∀ (d : Nat) (x : Int) (l1 l2 : Option mx_V) (v0 v1 v2 : mx_V) (S h : mx_H) (n : Int), mx_ex d 190 31 [some (2, x), l1, l2] [v0, v1, v2] S h n = mx_ex d 190 32 [some (2, x), l1, l2] [(2, x), v0, v1, v2] S h n) ∧
  (∀ (d : Nat) (a : Int) (l0 l1 l2 : Option mx_V) (v1 v2 v3 : mx_V) (S h : mx_H) (n : Int), mx_ex d 190 32 [l0, l1, l2] [(2, a), v1, v2, v3] S h n = mx_gd (13 ≤ S a (-2) ∧ S a (-2) ≤ 13) d 190 35 [l0, l1, l2] [(2, S a 0), v1, v2, v3] S h n) ∧
  (∀ (d : Nat) (l0 l1 l2 : Option mx_V) (v0 v1 v2 v3 : mx_V) (S h : mx_H) (n : Int), mx_ex d 190 35 [l0, l1, l2] [v0, v1, v2, v3] S h n = mx_ex d 190 36 [l0, l1, l2] [(0, 1), v0, v1, v2, v3] S h n) ∧
  (∀ (d : Nat) (i a : Int) (l0 l1 l2 : Option mx_V) (v2 v3 v4 : mx_V) (S h : mx_H) (n : Int), mx_ex d 190 36 [l0, l1, l2] [(0, i), (2, a), v2, v3, v4] S h n = mx_gd ((S a (-2) = 20 ∨ S a (-2) = 24) ∧ 0 ≤ i ∧ i < S a (-1)) d 190 37 [l0, l1, l2] [(0, h a i), v2, v3, v4] S h n) ∧
  (∀ (d : Nat) (b a : Int) (l0 l1 l2 : Option mx_V) (v2 v3 : mx_V) (S h : mx_H) (n : Int), mx_ex d 190 37 [l0, l1, l2] [(0, b), (0, a), v2, v3] S h n = mx_ex d 190 38 [l0, l1, l2] [(0, mx_w (a * b)), v2, v3] S h n) ∧
  (∀ (d : Nat) (b a : Int) (l0 l1 l2 : Option mx_V) (v2 : mx_V) (S h : mx_H) (n : Int), mx_ex d 190 38 [l0, l1, l2] [(0, b), (0, a), v2] S h n = mx_ex d 190 39 [l0, l1, l2] [(0, mx_w (a + b)), v2] S h n) ∧
  (∀ (d : Nat) (b a : Int) (l0 l1 l2 : Option mx_V) (S h : mx_H) (n : Int), mx_ex d 190 39 [l0, l1, l2] [(0, b), (0, a)] S h n = mx_br (a < b) d 190 42 62 [l0, l1, l2] [] S h n) ∧
  (∀ (d : Nat) (x : Int) (l1 l2 : Option mx_V) (S h : mx_H) (n : Int), mx_ex d 190 42 [some (2, x), l1, l2] [] S h n = mx_ex d 190 43 [some (2, x), l1, l2] [(2, x)] S h n) ∧
  (∀ (d : Nat) (a : Int) (l0 l1 l2 : Option mx_V) (S h : mx_H) (n : Int), mx_ex d 190 43 [l0, l1, l2] [(2, a)] S h n = mx_gd (13 ≤ S a (-2) ∧ S a (-2) ≤ 13) d 190 46 [l0, l1, l2] [(2, S a 0)] S h n) ∧
  (∀ (d : Nat) (x : Int) (l0 l1 : Option mx_V) (v0 : mx_V) (S h : mx_H) (n : Int), mx_ex d 190 46 [l0, l1, some (0, x)] [v0] S h n = mx_ex d 190 47 [l0, l1, some (0, x)] [(0, x), v0] S h n) ∧
  (∀ (d : Nat) (x : Int) (l1 l2 : Option mx_V) (v0 v1 : mx_V) (S h : mx_H) (n : Int), mx_ex d 190 47 [some (2, x), l1, l2] [v0, v1] S h n = mx_ex d 190 48 [some (2, x), l1, l2] [(2, x), v0, v1] S h n) ∧
  (∀ (d : Nat) (a : Int) (l0 l1 l2 : Option mx_V) (v1 v2 : mx_V) (S h : mx_H) (n : Int), mx_ex d 190 48 [l0, l1, l2] [(2, a), v1, v2] S h n = mx_gd (13 ≤ S a (-2) ∧ S a (-2) ≤ 13) d 190 51 [l0, l1, l2] [(2, S a 0), v1, v2] S h n) ∧
  (∀ (d : Nat) (x : Int) (l0 l1 : Option mx_V) (v0 v1 v2 : mx_V) (S h : mx_H) (n : Int), mx_ex d 190 51 [l0, l1, some (0, x)] [v0, v1, v2] S h n = mx_ex d 190 52 [l0, l1, some (0, x)] [(0, x), v0, v1, v2] S h n) ∧
  (∀ (d : Nat) (l0 l1 l2 : Option mx_V) (v0 v1 v2 v3 : mx_V) (S h : mx_H) (n : Int), mx_ex d 190 52 [l0, l1, l2] [v0, v1, v2, v3] S h n = mx_ex d 190 53 [l0, l1, l2] [(0, 4), v0, v1, v2, v3] S h n) ∧
  (∀ (d : Nat) (b a : Int) (l0 l1 l2 : Option mx_V) (v2 v3 v4 : mx_V) (S h : mx_H) (n : Int), mx_ex d 190 53 [l0, l1, l2] [(0, b), (0, a), v2, v3, v4] S h n = mx_ex d 190 54 [l0, l1, l2] [(0, mx_w (a + b)), v2, v3, v4] S h n) ∧
  (∀ (d : Nat) (i a : Int) (l0 l1 l2 : Option mx_V) (v2 v3 : mx_V) (S h : mx_H) (n : Int), mx_ex d 190 54 [l0, l1, l2] [(0, i), (2, a), v2, v3] S h n = mx_gd ((S a (-2) = 20 ∨ S a (-2) = 24) ∧ 0 ≤ i ∧ i < S a (-1)) d 190 55 [l0, l1, l2] [(0, h a i), v2, v3] S h n) ∧
  (∀ (d : Nat) (v i a : Int) (l0 l1 l2 : Option mx_V) (S h : mx_H) (n : Int), mx_ex d 190 55 [l0, l1, l2] [(0, v), (0, i), (2, a)] S h n = mx_gd (S a (-2) = 20 ∧ 0 ≤ i ∧ i < S a (-1)) d 190 56 [l0, l1, l2] [] S (mx_u h a i v) n) ∧
  (∀ (d : Nat) (x : Int) (l0 l1 : Option mx_V) (S h : mx_H) (n : Int), mx_ex d 190 56 [l0, l1, some (0, x)] [] S h n = mx_ex d 190 59 [l0, mx_nl l1, some (0, mx_w (x + 1))] [] S h n) ∧
  (∀ (d : Nat) (l0 l1 l2 : Option mx_V) (S h : mx_H) (n : Int), mx_ex d 190 59 [l0, l1, l2] [] S h n = mx_ex d 190 27 [l0, l1, l2] [] S h n) ∧
  (∀ (d : Nat) (x : Int) (l1 l2 : Option mx_V) (S h : mx_H) (n : Int), mx_ex d 190 62 [some (2, x), l1, l2] [] S h n = mx_ex d 190 63 [some (2, x), l1, l2] [(2, x)] S h n) ∧
  (∀ (d : Nat) (a : Int) (l0 l1 l2 : Option mx_V) (S h : mx_H) (n : Int), mx_ex d 190 63 [l0, l1, l2] [(2, a)] S h n = mx_gd (13 ≤ S a (-2) ∧ S a (-2) ≤ 13) d 190 66 [l0, l1, l2] [(2, S a 0)] S h n) ∧
  (∀ (d : Nat) (l0 l1 l2 : Option mx_V) (v0 : mx_V) (S h : mx_H) (n : Int), mx_ex d 190 66 [l0, l1, l2] [v0] S h n = mx_ex d 190 67 [l0, l1, l2] [(0, 1), v0] S h n) ∧
  (∀ (d : Nat) (i a : Int) (l0 l1 l2 : Option mx_V) (S h : mx_H) (n : Int), mx_ex d 190 67 [l0, l1, l2] [(0, i), (2, a)] S h n = mx_gd ((S a (-2) = 20 ∨ S a (-2) = 24) ∧ 0 ≤ i ∧ i < S a (-1)) d 190 68 [l0, l1, l2] [(0, h a i)] S h n) ∧
  (∀ (d : Nat) (x : Int) (l0 l1 l2 : Option mx_V) (S h : mx_H) (n : Int), mx_ex d 190 68 [l0, l1, l2] [(0, x)] S h n = some (some (0, x), S, h, n)) :=
  ⟨by intros; exact rfl,
   by intros; exact eq_ld rfl rfl,
   by intros; exact eq_ld rfl rfl,
   by intros; exact eq_cv rfl (Nat.le_of_ble_eq_true rfl) rfl rfl rfl (Nat.le_of_ble_eq_true rfl),
   by intros; exact eq_if1 rfl,
   by intros; exact eq_push rfl,
   by intros; exact eq_ret rfl,
   by intros; exact eq_ld rfl rfl,
   by intros; exact eq_gr rfl,
   by intros; exact eq_push rfl,
   by intros; exact eq_dup2 rfl (by decide) (by decide),
   by intros; exact eq_iald rfl,
   by intros; exact eq_push rfl,
   by intros; exact eq_i2 (o := mx_sub) rfl,
   by intros; exact eq_iast rfl,
   by intros; exact eq_push rfl,
   by intros; exact eq_push rfl,
   by intros; exact eq_ld rfl rfl,
   by intros; exact eq_i2 (o := mx_mul) rfl,
   by intros; exact eq_i2 (o := mx_add) rfl,
   by intros; exact eq_st rfl (by decide) (Nat.le_of_ble_eq_true rfl) rfl,
   by intros; exact eq_push rfl,
   by intros; exact eq_push rfl,
   by intros; exact eq_ld rfl rfl,
   by intros; exact eq_gr rfl,
   by intros; exact eq_push rfl,
   by intros; exact eq_iald rfl,
   by intros; exact eq_i2 (o := mx_mul) rfl,
   by intros; exact eq_i2 (o := mx_add) rfl,
   by intros; exact eq_ic3 rfl,
   by intros; exact eq_ld rfl rfl,
   by intros; exact eq_gr rfl,
   by intros; exact eq_ld rfl rfl,
   by intros; exact eq_ld rfl rfl,
   by intros; exact eq_gr rfl,
   by intros; exact eq_ld rfl rfl,
   by intros; exact eq_push rfl,
   by intros; exact eq_i2 (o := mx_add) rfl,
   by intros; exact eq_iald rfl,
   by intros; exact eq_iast rfl,
   by intros; exact eq_inc rfl rfl rfl,
   by intros; exact eq_go rfl,
   by intros; exact eq_ld rfl rfl,
   by intros; exact eq_gr rfl,
   by intros; exact eq_push rfl,
   by intros; exact eq_iald rfl,
   by intros; exact eq_ret rfl⟩
theorem rw_X12_worthNow :
  (∀ (d : Nat) (a0 a1 : Int) (S h : mx_H) (n : Int), mx_M d 191 [(2, a0), (0, a1)] S h n = mx_ex d 191 0 [some (2, a0), some (0, a1)] [] S h n) ∧
  (∀ (d : Nat) (x : Int) (l1 : Option mx_V) (S h : mx_H) (n : Int), mx_ex d 191 0 [some (2, x), l1] [] S h n = mx_ex d 191 1 [some (2, x), l1] [(2, x)] S h n) ∧
  (∀ (d : Nat) (x : Int) (l0 : Option mx_V) (v0 : mx_V) (S h : mx_H) (n : Int), mx_ex d 191 1 [l0, some (0, x)] [v0] S h n = mx_ex d 191 2 [l0, some (0, x)] [(0, x), v0] S h n) ∧
  (∀ (d : Nat) (x : Int) (l1 : Option mx_V) (v0 v1 : mx_V) (S h : mx_H) (n : Int), mx_ex d 191 2 [some (2, x), l1] [v0, v1] S h n = mx_ex d 191 3 [some (2, x), l1] [(2, x), v0, v1] S h n) ∧
  (∀ (d : Nat) (a : Int) (l0 l1 : Option mx_V) (v1 v2 : mx_V) (S h : mx_H) (n : Int), mx_ex d 191 3 [l0, l1] [(2, a), v1, v2] S h n = mx_gd (13 ≤ S a (-2) ∧ S a (-2) ≤ 13) d 191 6 [l0, l1] [(2, S a 11), v1, v2] S h n) ∧
  (∀ (d : Nat) (x : Int) (l1 : Option mx_V) (v0 v1 v2 : mx_V) (S h : mx_H) (n : Int), mx_ex d 191 6 [some (2, x), l1] [v0, v1, v2] S h n = mx_ex d 191 7 [some (2, x), l1] [(2, x), v0, v1, v2] S h n) ∧
  (∀ (d : Nat) (x : Int) (l0 : Option mx_V) (v0 v1 v2 v3 : mx_V) (S h : mx_H) (n : Int), mx_ex d 191 7 [l0, some (0, x)] [v0, v1, v2, v3] S h n = mx_ex d 191 8 [l0, some (0, x)] [(0, x), v0, v1, v2, v3] S h n) ∧
  (∀ (d : Nat) (l0 l1 : Option mx_V) (v0 v1 v2 v3 v4 : mx_V) (S h : mx_H) (n : Int), mx_ex d 191 8 [l0, l1] [v0, v1, v2, v3, v4] S h n = mx_ex d 191 9 [l0, l1] [(0, 1), v0, v1, v2, v3, v4] S h n) ∧
  (∀ (d : Nat) (x0 x1 a : Int) (l0 l1 : Option mx_V) (v3 v4 v5 : mx_V) (S h : mx_H) (n : Int), mx_ex (d + 1) 191 9 [l0, l1] [(0, x0), (0, x1), (2, a), v3, v4, v5] S h n = mx_cl (S a (-2) = 13) d 161 [(2, a), (0, x1), (0, x0)] 191 12 [l0, l1] [v3, v4, v5] S h n) ∧
  (∀ (d : Nat) (i a : Int) (l0 l1 : Option mx_V) (v2 v3 : mx_V) (S h : mx_H) (n : Int), mx_ex d 191 12 [l0, l1] [(0, i), (2, a), v2, v3] S h n = mx_gd ((S a (-2) = 20 ∨ S a (-2) = 24) ∧ 0 ≤ i ∧ i < S a (-1)) d 191 13 [l0, l1] [(0, h a i), v2, v3] S h n) ∧
  (∀ (d : Nat) (x0 x1 a : Int) (l0 l1 : Option mx_V) (S h : mx_H) (n : Int), mx_ex (d + 1) 191 13 [l0, l1] [(0, x0), (0, x1), (2, a)] S h n = mx_cl (S a (-2) = 13) d 183 [(2, a), (0, x1), (0, x0)] 191 16 [l0, l1] [] S h n) ∧
  (∀ (d : Nat) (x : Int) (l0 l1 : Option mx_V) (S h : mx_H) (n : Int), mx_ex d 191 16 [l0, l1] [(1, x)] S h n = some (some (1, x), S, h, n)) :=
  ⟨by intros; exact rfl,
   by intros; exact eq_ld rfl rfl,
   by intros; exact eq_ld rfl rfl,
   by intros; exact eq_ld rfl rfl,
   by intros; exact eq_gr rfl,
   by intros; exact eq_ld rfl rfl,
   by intros; exact eq_ld rfl rfl,
   by intros; exact eq_push rfl,
   by intros; exact eq_cv rfl (Nat.le_of_ble_eq_true rfl) rfl rfl rfl (Nat.le_of_ble_eq_true rfl),
   by intros; exact eq_iald rfl,
   by intros; exact eq_cv rfl (Nat.le_of_ble_eq_true rfl) rfl rfl rfl (Nat.le_of_ble_eq_true rfl),
   by intros; exact eq_ret rfl⟩
theorem rw_X12_holdsNow :
  (∀ (d : Nat) (a0 a1 : Int) (S h : mx_H) (n : Int), mx_M d 192 [(2, a0), (0, a1)] S h n = mx_ex d 192 0 [some (2, a0), some (0, a1), none, none] [] S h n) ∧
  (∀ (d : Nat) (x : Int) (l1 l2 l3 : Option mx_V) (S h : mx_H) (n : Int), mx_ex d 192 0 [some (2, x), l1, l2, l3] [] S h n = mx_ex d 192 1 [some (2, x), l1, l2, l3] [(2, x)] S h n) ∧
  (∀ (d : Nat) (x : Int) (l1 l2 l3 : Option mx_V) (v0 : mx_V) (S h : mx_H) (n : Int), mx_ex d 192 1 [some (2, x), l1, l2, l3] [v0] S h n = mx_ex d 192 2 [some (2, x), l1, l2, l3] [(2, x), v0] S h n) ∧
  (∀ (d : Nat) (x : Int) (l0 l2 l3 : Option mx_V) (v0 v1 : mx_V) (S h : mx_H) (n : Int), mx_ex d 192 2 [l0, some (0, x), l2, l3] [v0, v1] S h n = mx_ex d 192 3 [l0, some (0, x), l2, l3] [(0, x), v0, v1] S h n) ∧
  (∀ (d : Nat) (l0 l1 l2 l3 : Option mx_V) (v0 v1 v2 : mx_V) (S h : mx_H) (n : Int), mx_ex d 192 3 [l0, l1, l2, l3] [v0, v1, v2] S h n = mx_ex d 192 4 [l0, l1, l2, l3] [(0, 1), v0, v1, v2] S h n) ∧
  (∀ (d : Nat) (x0 x1 a : Int) (l0 l1 l2 l3 : Option mx_V) (v3 : mx_V) (S h : mx_H) (n : Int), mx_ex (d + 1) 192 4 [l0, l1, l2, l3] [(0, x0), (0, x1), (2, a), v3] S h n = mx_cl (S a (-2) = 13) d 162 [(2, a), (0, x1), (0, x0)] 192 7 [l0, l1, l2, l3] [v3] S h n) ∧
  (∀ (d : Nat) (x0 a : Int) (l0 l1 l2 l3 : Option mx_V) (S h : mx_H) (n : Int), mx_ex (d + 1) 192 7 [l0, l1, l2, l3] [(0, x0), (2, a)] S h n = mx_cl (S a (-2) = 13) d 191 [(2, a), (0, x0)] 192 10 [l0, l1, l2, l3] [] S h n) ∧
  (∀ (d : Nat) (x : Int) (l0 l1 l2 l3 : Option mx_V) (S h : mx_H) (n : Int), mx_ex d 192 10 [l0, l1, l2, l3] [(1, x)] S h n = mx_ex d 192 11 [l0, mx_nl l1, some (1, x), none] [] S h n) ∧
  (∀ (d : Nat) (x : Int) (l1 l2 l3 : Option mx_V) (S h : mx_H) (n : Int), mx_ex d 192 11 [some (2, x), l1, l2, l3] [] S h n = mx_ex d 192 12 [some (2, x), l1, l2, l3] [(2, x)] S h n) ∧
  (∀ (d : Nat) (x : Int) (l0 l2 l3 : Option mx_V) (v0 : mx_V) (S h : mx_H) (n : Int), mx_ex d 192 12 [l0, some (0, x), l2, l3] [v0] S h n = mx_ex d 192 13 [l0, some (0, x), l2, l3] [(0, x), v0] S h n) ∧
  (∀ (d : Nat) (l0 l1 l2 l3 : Option mx_V) (v0 v1 : mx_V) (S h : mx_H) (n : Int), mx_ex d 192 13 [l0, l1, l2, l3] [v0, v1] S h n = mx_ex d 192 14 [l0, l1, l2, l3] [(0, 0), v0, v1] S h n) ∧
  (∀ (d : Nat) (x0 x1 a : Int) (l0 l1 l2 l3 : Option mx_V) (S h : mx_H) (n : Int), mx_ex (d + 1) 192 14 [l0, l1, l2, l3] [(0, x0), (0, x1), (2, a)] S h n = mx_cl (S a (-2) = 13) d 162 [(2, a), (0, x1), (0, x0)] 192 17 [l0, l1, l2, l3] [] S h n) ∧
  (∀ (d : Nat) (a : Int) (l0 l1 l2 l3 : Option mx_V) (S h : mx_H) (n : Int), mx_ex d 192 17 [l0, l1, l2, l3] [(0, a)] S h n = mx_sw a [(0, 44), (1, 65), (2, 86)] d 192 118 [l0, l1, l2, l3] [] S h n) ∧
  (∀ (d : Nat) (x : Int) (l0 l1 l3 : Option mx_V) (S h : mx_H) (n : Int), mx_ex d 192 44 [l0, l1, some (1, x), l3] [] S h n = mx_ex d 192 45 [l0, l1, some (1, x), l3] [(1, x)] S h n) ∧
  (∀ (d : Nat) (x : Int) (l1 l2 l3 : Option mx_V) (v0 : mx_V) (S h : mx_H) (n : Int), mx_ex d 192 45 [some (2, x), l1, l2, l3] [v0] S h n = mx_ex d 192 46 [some (2, x), l1, l2, l3] [(2, x), v0] S h n) ∧
  (∀ (d : Nat) (x : Int) (l1 l2 l3 : Option mx_V) (v0 v1 : mx_V) (S h : mx_H) (n : Int), mx_ex d 192 46 [some (2, x), l1, l2, l3] [v0, v1] S h n = mx_ex d 192 47 [some (2, x), l1, l2, l3] [(2, x), v0, v1] S h n) ∧
  (∀ (d : Nat) (x : Int) (l0 l2 l3 : Option mx_V) (v0 v1 v2 : mx_V) (S h : mx_H) (n : Int), mx_ex d 192 47 [l0, some (0, x), l2, l3] [v0, v1, v2] S h n = mx_ex d 192 48 [l0, some (0, x), l2, l3] [(0, x), v0, v1, v2] S h n) ∧
  (∀ (d : Nat) (l0 l1 l2 l3 : Option mx_V) (v0 v1 v2 v3 : mx_V) (S h : mx_H) (n : Int), mx_ex d 192 48 [l0, l1, l2, l3] [v0, v1, v2, v3] S h n = mx_ex d 192 49 [l0, l1, l2, l3] [(0, 2), v0, v1, v2, v3] S h n) ∧
  (∀ (d : Nat) (x0 x1 a : Int) (l0 l1 l2 l3 : Option mx_V) (v3 v4 : mx_V) (S h : mx_H) (n : Int), mx_ex (d + 1) 192 49 [l0, l1, l2, l3] [(0, x0), (0, x1), (2, a), v3, v4] S h n = mx_cl (S a (-2) = 13) d 162 [(2, a), (0, x1), (0, x0)] 192 52 [l0, l1, l2, l3] [v3, v4] S h n) ∧
  (∀ (d : Nat) (x0 a : Int) (l0 l1 l2 l3 : Option mx_V) (v2 : mx_V) (S h : mx_H) (n : Int), mx_ex (d + 1) 192 52 [l0, l1, l2, l3] [(0, x0), (2, a), v2] S h n = mx_cl (S a (-2) = 13) d 191 [(2, a), (0, x0)] 192 55 [l0, l1, l2, l3] [v2] S h n) ∧
  (∀ (d : Nat) (b a : Int) (l0 l1 l2 l3 : Option mx_V) (S h : mx_H) (n : Int), mx_ex d 192 55 [l0, l1, l2, l3] [(1, b), (1, a)] S h n = mx_ex d 192 56 [l0, l1, l2, l3] [(0, mx_cmp a b)] S h n) ∧
  (∀ (d : Nat) (a : Int) (l0 l1 l2 l3 : Option mx_V) (S h : mx_H) (n : Int), mx_ex d 192 56 [l0, l1, l2, l3] [(0, a)] S h n = mx_br (a = 0) d 192 59 63 [l0, l1, l2, l3] [] S h n) ∧
  (∀ (d : Nat) (l0 l1 l2 l3 : Option mx_V) (S h : mx_H) (n : Int), mx_ex d 192 59 [l0, l1, l2, l3] [] S h n = mx_ex d 192 60 [l0, l1, l2, l3] [(0, 1)] S h n) ∧
  (∀ (d : Nat) (l0 l1 l2 l3 : Option mx_V) (v0 : mx_V) (S h : mx_H) (n : Int), mx_ex d 192 60 [l0, l1, l2, l3] [v0] S h n = mx_ex d 192 64 [l0, l1, l2, l3] [v0] S h n) ∧
  (∀ (d : Nat) (l0 l1 l2 l3 : Option mx_V) (S h : mx_H) (n : Int), mx_ex d 192 63 [l0, l1, l2, l3] [] S h n = mx_ex d 192 64 [l0, l1, l2, l3] [(0, 0)] S h n) ∧
  (∀ (d : Nat) (x : Int) (l0 l1 l2 l3 : Option mx_V) (S h : mx_H) (n : Int), mx_ex d 192 64 [l0, l1, l2, l3] [(0, x)] S h n = mx_re (0 ≤ x ∧ x ≤ 1) (some (0, x)) S h n) ∧
  (∀ (d : Nat) (x : Int) (l0 l1 l3 : Option mx_V) (S h : mx_H) (n : Int), mx_ex d 192 65 [l0, l1, some (1, x), l3] [] S h n = mx_ex d 192 66 [l0, l1, some (1, x), l3] [(1, x)] S h n) ∧
  (∀ (d : Nat) (x : Int) (l1 l2 l3 : Option mx_V) (v0 : mx_V) (S h : mx_H) (n : Int), mx_ex d 192 66 [some (2, x), l1, l2, l3] [v0] S h n = mx_ex d 192 67 [some (2, x), l1, l2, l3] [(2, x), v0] S h n) ∧
  (∀ (d : Nat) (x : Int) (l1 l2 l3 : Option mx_V) (v0 v1 : mx_V) (S h : mx_H) (n : Int), mx_ex d 192 67 [some (2, x), l1, l2, l3] [v0, v1] S h n = mx_ex d 192 68 [some (2, x), l1, l2, l3] [(2, x), v0, v1] S h n) ∧
  (∀ (d : Nat) (x : Int) (l0 l2 l3 : Option mx_V) (v0 v1 v2 : mx_V) (S h : mx_H) (n : Int), mx_ex d 192 68 [l0, some (0, x), l2, l3] [v0, v1, v2] S h n = mx_ex d 192 69 [l0, some (0, x), l2, l3] [(0, x), v0, v1, v2] S h n) ∧
  (∀ (d : Nat) (l0 l1 l2 l3 : Option mx_V) (v0 v1 v2 v3 : mx_V) (S h : mx_H) (n : Int), mx_ex d 192 69 [l0, l1, l2, l3] [v0, v1, v2, v3] S h n = mx_ex d 192 70 [l0, l1, l2, l3] [(0, 2), v0, v1, v2, v3] S h n) ∧
  (∀ (d : Nat) (x0 x1 a : Int) (l0 l1 l2 l3 : Option mx_V) (v3 v4 : mx_V) (S h : mx_H) (n : Int), mx_ex (d + 1) 192 70 [l0, l1, l2, l3] [(0, x0), (0, x1), (2, a), v3, v4] S h n = mx_cl (S a (-2) = 13) d 162 [(2, a), (0, x1), (0, x0)] 192 73 [l0, l1, l2, l3] [v3, v4] S h n) ∧
  (∀ (d : Nat) (x0 a : Int) (l0 l1 l2 l3 : Option mx_V) (v2 : mx_V) (S h : mx_H) (n : Int), mx_ex (d + 1) 192 73 [l0, l1, l2, l3] [(0, x0), (2, a), v2] S h n = mx_cl (S a (-2) = 13) d 191 [(2, a), (0, x0)] 192 76 [l0, l1, l2, l3] [v2] S h n) ∧
  (∀ (d : Nat) (b a : Int) (l0 l1 l2 l3 : Option mx_V) (S h : mx_H) (n : Int), mx_ex d 192 76 [l0, l1, l2, l3] [(1, b), (1, a)] S h n = mx_ex d 192 77 [l0, l1, l2, l3] [(0, mx_cmp a b)] S h n) ∧
  (∀ (d : Nat) (a : Int) (l0 l1 l2 l3 : Option mx_V) (S h : mx_H) (n : Int), mx_ex d 192 77 [l0, l1, l2, l3] [(0, a)] S h n = mx_br (0 < a) d 192 80 84 [l0, l1, l2, l3] [] S h n) ∧
  (∀ (d : Nat) (l0 l1 l2 l3 : Option mx_V) (S h : mx_H) (n : Int), mx_ex d 192 80 [l0, l1, l2, l3] [] S h n = mx_ex d 192 81 [l0, l1, l2, l3] [(0, 1)] S h n) ∧
  (∀ (d : Nat) (l0 l1 l2 l3 : Option mx_V) (v0 : mx_V) (S h : mx_H) (n : Int), mx_ex d 192 81 [l0, l1, l2, l3] [v0] S h n = mx_ex d 192 85 [l0, l1, l2, l3] [v0] S h n) ∧
  (∀ (d : Nat) (l0 l1 l2 l3 : Option mx_V) (S h : mx_H) (n : Int), mx_ex d 192 84 [l0, l1, l2, l3] [] S h n = mx_ex d 192 85 [l0, l1, l2, l3] [(0, 0)] S h n) ∧
  (∀ (d : Nat) (x : Int) (l0 l1 l2 l3 : Option mx_V) (S h : mx_H) (n : Int), mx_ex d 192 85 [l0, l1, l2, l3] [(0, x)] S h n = mx_re (0 ≤ x ∧ x ≤ 1) (some (0, x)) S h n) ∧
  (∀ (d : Nat) (x : Int) (l0 l1 l3 : Option mx_V) (S h : mx_H) (n : Int), mx_ex d 192 86 [l0, l1, some (1, x), l3] [] S h n = mx_ex d 192 87 [l0, l1, some (1, x), l3] [(1, x)] S h n) ∧
  (∀ (d : Nat) (x : Int) (l1 l2 l3 : Option mx_V) (v0 : mx_V) (S h : mx_H) (n : Int), mx_ex d 192 87 [some (2, x), l1, l2, l3] [v0] S h n = mx_ex d 192 88 [some (2, x), l1, l2, l3] [(2, x), v0] S h n) ∧
  (∀ (d : Nat) (x : Int) (l1 l2 l3 : Option mx_V) (v0 v1 : mx_V) (S h : mx_H) (n : Int), mx_ex d 192 88 [some (2, x), l1, l2, l3] [v0, v1] S h n = mx_ex d 192 89 [some (2, x), l1, l2, l3] [(2, x), v0, v1] S h n) ∧
  (∀ (d : Nat) (x : Int) (l0 l2 l3 : Option mx_V) (v0 v1 v2 : mx_V) (S h : mx_H) (n : Int), mx_ex d 192 89 [l0, some (0, x), l2, l3] [v0, v1, v2] S h n = mx_ex d 192 90 [l0, some (0, x), l2, l3] [(0, x), v0, v1, v2] S h n) ∧
  (∀ (d : Nat) (l0 l1 l2 l3 : Option mx_V) (v0 v1 v2 v3 : mx_V) (S h : mx_H) (n : Int), mx_ex d 192 90 [l0, l1, l2, l3] [v0, v1, v2, v3] S h n = mx_ex d 192 91 [l0, l1, l2, l3] [(0, 2), v0, v1, v2, v3] S h n) ∧
  (∀ (d : Nat) (x0 x1 a : Int) (l0 l1 l2 l3 : Option mx_V) (v3 v4 : mx_V) (S h : mx_H) (n : Int), mx_ex (d + 1) 192 91 [l0, l1, l2, l3] [(0, x0), (0, x1), (2, a), v3, v4] S h n = mx_cl (S a (-2) = 13) d 162 [(2, a), (0, x1), (0, x0)] 192 94 [l0, l1, l2, l3] [v3, v4] S h n) ∧
  (∀ (d : Nat) (x0 a : Int) (l0 l1 l2 l3 : Option mx_V) (v2 : mx_V) (S h : mx_H) (n : Int), mx_ex (d + 1) 192 94 [l0, l1, l2, l3] [(0, x0), (2, a), v2] S h n = mx_cl (S a (-2) = 13) d 191 [(2, a), (0, x0)] 192 97 [l0, l1, l2, l3] [v2] S h n) ∧
  (∀ (d : Nat) (b a : Int) (l0 l1 l2 l3 : Option mx_V) (S h : mx_H) (n : Int), mx_ex d 192 97 [l0, l1, l2, l3] [(1, b), (1, a)] S h n = mx_ex d 192 98 [l0, l1, l2, l3] [(1, mx_l (a + b))] S h n) ∧
  (∀ (d : Nat) (x : Int) (l1 l2 l3 : Option mx_V) (v0 : mx_V) (S h : mx_H) (n : Int), mx_ex d 192 98 [some (2, x), l1, l2, l3] [v0] S h n = mx_ex d 192 99 [some (2, x), l1, l2, l3] [(2, x), v0] S h n) ∧
  (∀ (d : Nat) (x : Int) (l1 l2 l3 : Option mx_V) (v0 v1 : mx_V) (S h : mx_H) (n : Int), mx_ex d 192 99 [some (2, x), l1, l2, l3] [v0, v1] S h n = mx_ex d 192 100 [some (2, x), l1, l2, l3] [(2, x), v0, v1] S h n) ∧
  (∀ (d : Nat) (x : Int) (l0 l2 l3 : Option mx_V) (v0 v1 v2 : mx_V) (S h : mx_H) (n : Int), mx_ex d 192 100 [l0, some (0, x), l2, l3] [v0, v1, v2] S h n = mx_ex d 192 101 [l0, some (0, x), l2, l3] [(0, x), v0, v1, v2] S h n) ∧
  (∀ (d : Nat) (l0 l1 l2 l3 : Option mx_V) (v0 v1 v2 v3 : mx_V) (S h : mx_H) (n : Int), mx_ex d 192 101 [l0, l1, l2, l3] [v0, v1, v2, v3] S h n = mx_ex d 192 102 [l0, l1, l2, l3] [(0, 3), v0, v1, v2, v3] S h n) ∧
  (∀ (d : Nat) (x0 x1 a : Int) (l0 l1 l2 l3 : Option mx_V) (v3 v4 : mx_V) (S h : mx_H) (n : Int), mx_ex (d + 1) 192 102 [l0, l1, l2, l3] [(0, x0), (0, x1), (2, a), v3, v4] S h n = mx_cl (S a (-2) = 13) d 162 [(2, a), (0, x1), (0, x0)] 192 105 [l0, l1, l2, l3] [v3, v4] S h n) ∧
  (∀ (d : Nat) (x0 a : Int) (l0 l1 l2 l3 : Option mx_V) (v2 : mx_V) (S h : mx_H) (n : Int), mx_ex (d + 1) 192 105 [l0, l1, l2, l3] [(0, x0), (2, a), v2] S h n = mx_cl (S a (-2) = 13) d 191 [(2, a), (0, x0)] 192 108 [l0, l1, l2, l3] [v2] S h n) ∧
  (∀ (d : Nat) (b a : Int) (l0 l1 l2 l3 : Option mx_V) (S h : mx_H) (n : Int), mx_ex d 192 108 [l0, l1, l2, l3] [(1, b), (1, a)] S h n = mx_ex d 192 109 [l0, l1, l2, l3] [(0, mx_cmp a b)] S h n) ∧
  (∀ (d : Nat) (a : Int) (l0 l1 l2 l3 : Option mx_V) (S h : mx_H) (n : Int), mx_ex d 192 109 [l0, l1, l2, l3] [(0, a)] S h n = mx_br (a = 0) d 192 112 116 [l0, l1, l2, l3] [] S h n) ∧
  (∀ (d : Nat) (l0 l1 l2 l3 : Option mx_V) (S h : mx_H) (n : Int), mx_ex d 192 112 [l0, l1, l2, l3] [] S h n = mx_ex d 192 113 [l0, l1, l2, l3] [(0, 1)] S h n) ∧
  (∀ (d : Nat) (l0 l1 l2 l3 : Option mx_V) (v0 : mx_V) (S h : mx_H) (n : Int), mx_ex d 192 113 [l0, l1, l2, l3] [v0] S h n = mx_ex d 192 117 [l0, l1, l2, l3] [v0] S h n) ∧
  (∀ (d : Nat) (l0 l1 l2 l3 : Option mx_V) (S h : mx_H) (n : Int), mx_ex d 192 116 [l0, l1, l2, l3] [] S h n = mx_ex d 192 117 [l0, l1, l2, l3] [(0, 0)] S h n) ∧
  (∀ (d : Nat) (x : Int) (l0 l1 l2 l3 : Option mx_V) (S h : mx_H) (n : Int), mx_ex d 192 117 [l0, l1, l2, l3] [(0, x)] S h n = mx_re (0 ≤ x ∧ x ≤ 1) (some (0, x)) S h n) ∧
  (∀ (d : Nat) (x : Int) (l0 l1 l3 : Option mx_V) (S h : mx_H) (n : Int), mx_ex d 192 118 [l0, l1, some (1, x), l3] [] S h n = mx_ex d 192 119 [l0, l1, some (1, x), l3] [(1, x)] S h n) ∧
  (∀ (d : Nat) (x : Int) (l1 l2 l3 : Option mx_V) (v0 : mx_V) (S h : mx_H) (n : Int), mx_ex d 192 119 [some (2, x), l1, l2, l3] [v0] S h n = mx_ex d 192 120 [some (2, x), l1, l2, l3] [(2, x), v0] S h n) ∧
  (∀ (d : Nat) (x : Int) (l0 l2 l3 : Option mx_V) (v0 v1 : mx_V) (S h : mx_H) (n : Int), mx_ex d 192 120 [l0, some (0, x), l2, l3] [v0, v1] S h n = mx_ex d 192 121 [l0, some (0, x), l2, l3] [(0, x), v0, v1] S h n) ∧
  (∀ (d : Nat) (l0 l1 l2 l3 : Option mx_V) (v0 v1 v2 : mx_V) (S h : mx_H) (n : Int), mx_ex d 192 121 [l0, l1, l2, l3] [v0, v1, v2] S h n = mx_ex d 192 122 [l0, l1, l2, l3] [(0, 3), v0, v1, v2] S h n) ∧
  (∀ (d : Nat) (x0 x1 a : Int) (l0 l1 l2 l3 : Option mx_V) (v3 : mx_V) (S h : mx_H) (n : Int), mx_ex (d + 1) 192 122 [l0, l1, l2, l3] [(0, x0), (0, x1), (2, a), v3] S h n = mx_cl (S a (-2) = 13) d 162 [(2, a), (0, x1), (0, x0)] 192 125 [l0, l1, l2, l3] [v3] S h n) ∧
  (∀ (d : Nat) (a : Int) (l0 l1 l2 l3 : Option mx_V) (v1 : mx_V) (S h : mx_H) (n : Int), mx_ex d 192 125 [l0, l1, l2, l3] [(0, a), v1] S h n = mx_ex d 192 126 [l0, l1, l2, l3] [(1, a), v1] S h n) ∧
  (∀ (d : Nat) (b a : Int) (l0 l1 l2 l3 : Option mx_V) (S h : mx_H) (n : Int), mx_ex d 192 126 [l0, l1, l2, l3] [(1, b), (1, a)] S h n = mx_gd (¬ b = 0) d 192 127 [l0, l1, l2, l3] [(1, Int.tmod a b)] S h n) ∧
  (∀ (d : Nat) (l0 l1 l2 l3 : Option mx_V) (v0 : mx_V) (S h : mx_H) (n : Int), mx_ex d 192 127 [l0, l1, l2, l3] [v0] S h n = mx_ex d 192 128 [l0, l1, l2, l3] [(1, 0), v0] S h n) ∧
  (∀ (d : Nat) (b a : Int) (l0 l1 l2 l3 : Option mx_V) (S h : mx_H) (n : Int), mx_ex d 192 128 [l0, l1, l2, l3] [(1, b), (1, a)] S h n = mx_ex d 192 129 [l0, l1, l2, l3] [(0, mx_cmp a b)] S h n) ∧
  (∀ (d : Nat) (a : Int) (l0 l1 l2 l3 : Option mx_V) (S h : mx_H) (n : Int), mx_ex d 192 129 [l0, l1, l2, l3] [(0, a)] S h n = mx_br (a = 0) d 192 132 136 [l0, l1, l2, l3] [] S h n) ∧
  (∀ (d : Nat) (l0 l1 l2 l3 : Option mx_V) (S h : mx_H) (n : Int), mx_ex d 192 132 [l0, l1, l2, l3] [] S h n = mx_ex d 192 133 [l0, l1, l2, l3] [(0, 1)] S h n) :=
  ⟨by intros; exact rfl,
   by intros; exact eq_ld rfl rfl,
   by intros; exact eq_ld rfl rfl,
   by intros; exact eq_ld rfl rfl,
   by intros; exact eq_push rfl,
   by intros; exact eq_cv rfl (Nat.le_of_ble_eq_true rfl) rfl rfl rfl (Nat.le_of_ble_eq_true rfl),
   by intros; exact eq_cv rfl (Nat.le_of_ble_eq_true rfl) rfl rfl rfl (Nat.le_of_ble_eq_true rfl),
   by intros; exact eq_st2 rfl (Nat.le_of_ble_eq_true rfl) rfl,
   by intros; exact eq_ld rfl rfl,
   by intros; exact eq_ld rfl rfl,
   by intros; exact eq_push rfl,
   by intros; exact eq_cv rfl (Nat.le_of_ble_eq_true rfl) rfl rfl rfl (Nat.le_of_ble_eq_true rfl),
   by intros; exact eq_sw rfl,
   by intros; exact eq_ld rfl rfl,
   by intros; exact eq_ld rfl rfl,
   by intros; exact eq_ld rfl rfl,
   by intros; exact eq_ld rfl rfl,
   by intros; exact eq_push rfl,
   by intros; exact eq_cv rfl (Nat.le_of_ble_eq_true rfl) rfl rfl rfl (Nat.le_of_ble_eq_true rfl),
   by intros; exact eq_cv rfl (Nat.le_of_ble_eq_true rfl) rfl rfl rfl (Nat.le_of_ble_eq_true rfl),
   by intros; exact eq_lcmp rfl,
   by intros; exact eq_if1 rfl,
   by intros; exact eq_push rfl,
   by intros; exact eq_go rfl,
   by intros; exact eq_push rfl,
   by intros; exact eq_rr rfl,
   by intros; exact eq_ld rfl rfl,
   by intros; exact eq_ld rfl rfl,
   by intros; exact eq_ld rfl rfl,
   by intros; exact eq_ld rfl rfl,
   by intros; exact eq_push rfl,
   by intros; exact eq_cv rfl (Nat.le_of_ble_eq_true rfl) rfl rfl rfl (Nat.le_of_ble_eq_true rfl),
   by intros; exact eq_cv rfl (Nat.le_of_ble_eq_true rfl) rfl rfl rfl (Nat.le_of_ble_eq_true rfl),
   by intros; exact eq_lcmp rfl,
   by intros; exact eq_if5 rfl,
   by intros; exact eq_push rfl,
   by intros; exact eq_go rfl,
   by intros; exact eq_push rfl,
   by intros; exact eq_rr rfl,
   by intros; exact eq_ld rfl rfl,
   by intros; exact eq_ld rfl rfl,
   by intros; exact eq_ld rfl rfl,
   by intros; exact eq_ld rfl rfl,
   by intros; exact eq_push rfl,
   by intros; exact eq_cv rfl (Nat.le_of_ble_eq_true rfl) rfl rfl rfl (Nat.le_of_ble_eq_true rfl),
   by intros; exact eq_cv rfl (Nat.le_of_ble_eq_true rfl) rfl rfl rfl (Nat.le_of_ble_eq_true rfl),
   by intros; exact eq_l2 (o := ml_add) rfl,
   by intros; exact eq_ld rfl rfl,
   by intros; exact eq_ld rfl rfl,
   by intros; exact eq_ld rfl rfl,
   by intros; exact eq_push rfl,
   by intros; exact eq_cv rfl (Nat.le_of_ble_eq_true rfl) rfl rfl rfl (Nat.le_of_ble_eq_true rfl),
   by intros; exact eq_cv rfl (Nat.le_of_ble_eq_true rfl) rfl rfl rfl (Nat.le_of_ble_eq_true rfl),
   by intros; exact eq_lcmp rfl,
   by intros; exact eq_if1 rfl,
   by intros; exact eq_push rfl,
   by intros; exact eq_go rfl,
   by intros; exact eq_push rfl,
   by intros; exact eq_rr rfl,
   by intros; exact eq_ld rfl rfl,
   by intros; exact eq_ld rfl rfl,
   by intros; exact eq_ld rfl rfl,
   by intros; exact eq_push rfl,
   by intros; exact eq_cv rfl (Nat.le_of_ble_eq_true rfl) rfl rfl rfl (Nat.le_of_ble_eq_true rfl),
   by intros; exact eq_i2l rfl,
   by intros; exact eq_l2d (o := ml_rem) rfl,
   by intros; exact eq_push rfl,
   by intros; exact eq_lcmp rfl,
   by intros; exact eq_if1 rfl,
   by intros; exact eq_push rfl⟩
theorem rw_X12_holdsNow_1 :
  (∀ (d : Nat) (l0 l1 l2 l3 : Option mx_V) (v0 : mx_V) (S h : mx_H) (n : Int), mx_ex d 192 133 [l0, l1, l2, l3] [v0] S h n = mx_ex d 192 137 [l0, l1, l2, l3] [v0] S h n) ∧
  (∀ (d : Nat) (l0 l1 l2 l3 : Option mx_V) (S h : mx_H) (n : Int), mx_ex d 192 136 [l0, l1, l2, l3] [] S h n = mx_ex d 192 137 [l0, l1, l2, l3] [(0, 0)] S h n) ∧
  (∀ (d : Nat) (x : Int) (l0 l1 l2 l3 : Option mx_V) (S h : mx_H) (n : Int), mx_ex d 192 137 [l0, l1, l2, l3] [(0, x)] S h n = mx_re (0 ≤ x ∧ x ≤ 1) (some (0, x)) S h n) :=
  ⟨by intros; exact eq_go rfl,
   by intros; exact eq_push rfl,
   by intros; exact eq_rr rfl⟩
theorem rh_X12_holdAll_2 : ∀ (d : Nat) (x : Int) (l0 l1 : Option mx_V) (S h : mx_H) (n : Int), mx_ex d 193 2 [l0, l1, some (0, x)] [] S h n = mx_ex d 193 3 [l0, l1, some (0, x)] [(0, x)] S h n := by intros; exact eq_ld rfl rfl
theorem rw_X12_holdAll :
  (∀ (d : Nat) (a0 a1 : Int) (S h : mx_H) (n : Int), mx_M d 193 [(2, a0), (0, a1)] S h n = mx_ex d 193 0 [some (2, a0), some (0, a1), none] [] S h n) ∧
  (∀ (d : Nat) (l0 l1 l2 : Option mx_V) (S h : mx_H) (n : Int), mx_ex d 193 0 [l0, l1, l2] [] S h n = mx_ex d 193 1 [l0, l1, l2] [(0, 0)] S h n) ∧
  (∀ (d : Nat) (x : Int) (l0 l1 l2 : Option mx_V) (S h : mx_H) (n : Int), mx_ex d 193 1 [l0, l1, l2] [(0, x)] S h n = mx_ex d 193 2 [l0, mx_nl l1, some (0, x)] [] S h n) ∧
  (∀ (d : Nat) (x : Int) (l1 l2 : Option mx_V) (v0 : mx_V) (S h : mx_H) (n : Int), mx_ex d 193 3 [some (2, x), l1, l2] [v0] S h n = mx_ex d 193 4 [some (2, x), l1, l2] [(2, x), v0] S h n) ∧
  (∀ (d : Nat) (a : Int) (l0 l1 l2 : Option mx_V) (v1 : mx_V) (S h : mx_H) (n : Int), mx_ex d 193 4 [l0, l1, l2] [(2, a), v1] S h n = mx_gd (13 ≤ S a (-2) ∧ S a (-2) ≤ 13) d 193 7 [l0, l1, l2] [(2, S a 0), v1] S h n) ∧
  (∀ (d : Nat) (l0 l1 l2 : Option mx_V) (v0 v1 : mx_V) (S h : mx_H) (n : Int), mx_ex d 193 7 [l0, l1, l2] [v0, v1] S h n = mx_ex d 193 8 [l0, l1, l2] [(0, 1), v0, v1] S h n) ∧
  (∀ (d : Nat) (i a : Int) (l0 l1 l2 : Option mx_V) (v2 : mx_V) (S h : mx_H) (n : Int), mx_ex d 193 8 [l0, l1, l2] [(0, i), (2, a), v2] S h n = mx_gd ((S a (-2) = 20 ∨ S a (-2) = 24) ∧ 0 ≤ i ∧ i < S a (-1)) d 193 9 [l0, l1, l2] [(0, h a i), v2] S h n) ∧
  (∀ (d : Nat) (b a : Int) (l0 l1 l2 : Option mx_V) (S h : mx_H) (n : Int), mx_ex d 193 9 [l0, l1, l2] [(0, b), (0, a)] S h n = mx_br (a < b) d 193 12 37 [l0, l1, l2] [] S h n) ∧
  (∀ (d : Nat) (x : Int) (l0 l2 : Option mx_V) (S h : mx_H) (n : Int), mx_ex d 193 12 [l0, some (0, x), l2] [] S h n = mx_ex d 193 13 [l0, some (0, x), l2] [(0, x)] S h n) ∧
  (∀ (d : Nat) (x : Int) (l0 l1 : Option mx_V) (v0 : mx_V) (S h : mx_H) (n : Int), mx_ex d 193 13 [l0, l1, some (0, x)] [v0] S h n = mx_ex d 193 14 [l0, l1, some (0, x)] [(0, x), v0] S h n) ∧
  (∀ (d : Nat) (b a : Int) (l0 l1 l2 : Option mx_V) (S h : mx_H) (n : Int), mx_ex d 193 14 [l0, l1, l2] [(0, b), (0, a)] S h n = mx_ex d 193 15 [l0, l1, l2] [(0, mx_shr a b)] S h n) ∧
  (∀ (d : Nat) (l0 l1 l2 : Option mx_V) (v0 : mx_V) (S h : mx_H) (n : Int), mx_ex d 193 15 [l0, l1, l2] [v0] S h n = mx_ex d 193 16 [l0, l1, l2] [(0, 1), v0] S h n) ∧
  (∀ (d : Nat) (b a : Int) (l0 l1 l2 : Option mx_V) (S h : mx_H) (n : Int), mx_ex d 193 16 [l0, l1, l2] [(0, b), (0, a)] S h n = mx_ex d 193 17 [l0, l1, l2] [(0, mx_and a b)] S h n) ∧
  (∀ (d : Nat) (l0 l1 l2 : Option mx_V) (v0 : mx_V) (S h : mx_H) (n : Int), mx_ex d 193 17 [l0, l1, l2] [v0] S h n = mx_ex d 193 18 [l0, l1, l2] [(0, 1), v0] S h n) ∧
  (∀ (d : Nat) (b a : Int) (l0 l1 l2 : Option mx_V) (S h : mx_H) (n : Int), mx_ex d 193 18 [l0, l1, l2] [(0, b), (0, a)] S h n = mx_br (a = b) d 193 21 31 [l0, l1, l2] [] S h n) ∧
  (∀ (d : Nat) (x : Int) (l1 l2 : Option mx_V) (S h : mx_H) (n : Int), mx_ex d 193 21 [some (2, x), l1, l2] [] S h n = mx_ex d 193 22 [some (2, x), l1, l2] [(2, x)] S h n) ∧
  (∀ (d : Nat) (x : Int) (l0 l1 : Option mx_V) (v0 : mx_V) (S h : mx_H) (n : Int), mx_ex d 193 22 [l0, l1, some (0, x)] [v0] S h n = mx_ex d 193 23 [l0, l1, some (0, x)] [(0, x), v0] S h n) ∧
  (∀ (d : Nat) (x0 a : Int) (l0 l1 l2 : Option mx_V) (S h : mx_H) (n : Int), mx_ex (d + 1) 193 23 [l0, l1, l2] [(0, x0), (2, a)] S h n = mx_cl (S a (-2) = 13) d 192 [(2, a), (0, x0)] 193 26 [l0, l1, l2] [] S h n) ∧
  (∀ (d : Nat) (a : Int) (l0 l1 l2 : Option mx_V) (S h : mx_H) (n : Int), mx_ex d 193 26 [l0, l1, l2] [(0, a)] S h n = mx_br (a = 0) d 193 29 31 [l0, l1, l2] [] S h n) ∧
  (∀ (d : Nat) (l0 l1 l2 : Option mx_V) (S h : mx_H) (n : Int), mx_ex d 193 29 [l0, l1, l2] [] S h n = mx_ex d 193 30 [l0, l1, l2] [(0, 0)] S h n) ∧
  (∀ (d : Nat) (x : Int) (l0 l1 l2 : Option mx_V) (S h : mx_H) (n : Int), mx_ex d 193 30 [l0, l1, l2] [(0, x)] S h n = mx_re (0 ≤ x ∧ x ≤ 1) (some (0, x)) S h n) ∧
  (∀ (d : Nat) (x : Int) (l0 l1 : Option mx_V) (S h : mx_H) (n : Int), mx_ex d 193 31 [l0, l1, some (0, x)] [] S h n = mx_ex d 193 34 [l0, mx_nl l1, some (0, mx_w (x + 1))] [] S h n) ∧
  (∀ (d : Nat) (l0 l1 l2 : Option mx_V) (S h : mx_H) (n : Int), mx_ex d 193 34 [l0, l1, l2] [] S h n = mx_ex d 193 2 [l0, l1, l2] [] S h n) ∧
  (∀ (d : Nat) (l0 l1 l2 : Option mx_V) (S h : mx_H) (n : Int), mx_ex d 193 37 [l0, l1, l2] [] S h n = mx_ex d 193 38 [l0, l1, l2] [(0, 1)] S h n) ∧
  (∀ (d : Nat) (x : Int) (l0 l1 l2 : Option mx_V) (S h : mx_H) (n : Int), mx_ex d 193 38 [l0, l1, l2] [(0, x)] S h n = mx_re (0 ≤ x ∧ x ≤ 1) (some (0, x)) S h n) :=
  ⟨by intros; exact rfl,
   by intros; exact eq_push rfl,
   by intros; exact eq_st rfl (by decide) (Nat.le_of_ble_eq_true rfl) rfl,
   by intros; exact eq_ld rfl rfl,
   by intros; exact eq_gr rfl,
   by intros; exact eq_push rfl,
   by intros; exact eq_iald rfl,
   by intros; exact eq_ic3 rfl,
   by intros; exact eq_ld rfl rfl,
   by intros; exact eq_ld rfl rfl,
   by intros; exact eq_i2 (o := mx_shr) rfl,
   by intros; exact eq_push rfl,
   by intros; exact eq_i2 (o := mx_and) rfl,
   by intros; exact eq_push rfl,
   by intros; exact eq_ic1 rfl,
   by intros; exact eq_ld rfl rfl,
   by intros; exact eq_ld rfl rfl,
   by intros; exact eq_cv rfl (Nat.le_of_ble_eq_true rfl) rfl rfl rfl (Nat.le_of_ble_eq_true rfl),
   by intros; exact eq_if1 rfl,
   by intros; exact eq_push rfl,
   by intros; exact eq_rr rfl,
   by intros; exact eq_inc rfl rfl rfl,
   by intros; exact eq_go rfl,
   by intros; exact eq_push rfl,
   by intros; exact eq_rr rfl⟩
theorem rh_X12_may1_13 : ∀ (d : Nat) (x : Int) (l0 l1 l2 l4 l5 : Option mx_V) (S h : mx_H) (n : Int), mx_ex d 194 13 [l0, l1, l2, some (0, x), l4, l5] [] S h n = mx_ex d 194 14 [l0, l1, l2, some (0, x), l4, l5] [(0, x)] S h n := by intros; exact eq_ld rfl rfl
theorem rh_X12_may1_35 : ∀ (d : Nat) (x : Int) (l0 l1 l2 l3 l4 : Option mx_V) (S h : mx_H) (n : Int), mx_ex d 194 35 [l0, l1, l2, l3, l4, some (0, x)] [] S h n = mx_ex d 194 37 [l0, l1, l2, l3, l4, some (0, x)] [(0, x)] S h n := by intros; exact eq_ld rfl rfl
theorem rw_X12_may1 :
  (∀ (d : Nat) (a0 a1 : Int) (S h : mx_H) (n : Int), mx_M d 194 [(2, a0), (0, a1)] S h n = mx_ex d 194 0 [some (2, a0), some (0, a1), none, none, none, none] [] S h n) ∧
  (∀ (d : Nat) (l0 l1 l2 l3 l4 l5 : Option mx_V) (S h : mx_H) (n : Int), mx_ex d 194 0 [l0, l1, l2, l3, l4, l5] [] S h n = mx_ex d 194 1 [l0, l1, l2, l3, l4, l5] [(0, 0)] S h n) ∧
  (∀ (d : Nat) (x : Int) (l0 l1 l2 l3 l4 l5 : Option mx_V) (S h : mx_H) (n : Int), mx_ex d 194 1 [l0, l1, l2, l3, l4, l5] [(0, x)] S h n = mx_ex d 194 2 [l0, mx_nl l1, some (0, x), l3, l4, l5] [] S h n) ∧
  (∀ (d : Nat) (x : Int) (l1 l2 l3 l4 l5 : Option mx_V) (S h : mx_H) (n : Int), mx_ex d 194 2 [some (2, x), l1, l2, l3, l4, l5] [] S h n = mx_ex d 194 3 [some (2, x), l1, l2, l3, l4, l5] [(2, x)] S h n) ∧
  (∀ (d : Nat) (a : Int) (l0 l1 l2 l3 l4 l5 : Option mx_V) (S h : mx_H) (n : Int), mx_ex d 194 3 [l0, l1, l2, l3, l4, l5] [(2, a)] S h n = mx_gd (13 ≤ S a (-2) ∧ S a (-2) ≤ 13) d 194 6 [l0, l1, l2, l3, l4, l5] [(2, S a 0)] S h n) ∧
  (∀ (d : Nat) (l0 l1 l2 l3 l4 l5 : Option mx_V) (v0 : mx_V) (S h : mx_H) (n : Int), mx_ex d 194 6 [l0, l1, l2, l3, l4, l5] [v0] S h n = mx_ex d 194 7 [l0, l1, l2, l3, l4, l5] [(0, 3), v0] S h n) ∧
  (∀ (d : Nat) (l0 l1 l2 l3 l4 l5 : Option mx_V) (v0 v1 : mx_V) (S h : mx_H) (n : Int), mx_ex d 194 7 [l0, l1, l2, l3, l4, l5] [v0, v1] S h n = mx_ex d 194 8 [l0, l1, l2, l3, l4, l5] [(0, 2), v0, v1] S h n) ∧
  (∀ (d : Nat) (x : Int) (l0 l2 l3 l4 l5 : Option mx_V) (v0 v1 v2 : mx_V) (S h : mx_H) (n : Int), mx_ex d 194 8 [l0, some (0, x), l2, l3, l4, l5] [v0, v1, v2] S h n = mx_ex d 194 9 [l0, some (0, x), l2, l3, l4, l5] [(0, x), v0, v1, v2] S h n) ∧
  (∀ (d : Nat) (b a : Int) (l0 l1 l2 l3 l4 l5 : Option mx_V) (v2 v3 : mx_V) (S h : mx_H) (n : Int), mx_ex d 194 9 [l0, l1, l2, l3, l4, l5] [(0, b), (0, a), v2, v3] S h n = mx_ex d 194 10 [l0, l1, l2, l3, l4, l5] [(0, mx_w (a * b)), v2, v3] S h n) ∧
  (∀ (d : Nat) (b a : Int) (l0 l1 l2 l3 l4 l5 : Option mx_V) (v2 : mx_V) (S h : mx_H) (n : Int), mx_ex d 194 10 [l0, l1, l2, l3, l4, l5] [(0, b), (0, a), v2] S h n = mx_ex d 194 11 [l0, l1, l2, l3, l4, l5] [(0, mx_w (a + b)), v2] S h n) ∧
  (∀ (d : Nat) (i a : Int) (l0 l1 l2 l3 l4 l5 : Option mx_V) (S h : mx_H) (n : Int), mx_ex d 194 11 [l0, l1, l2, l3, l4, l5] [(0, i), (2, a)] S h n = mx_gd ((S a (-2) = 20 ∨ S a (-2) = 24) ∧ 0 ≤ i ∧ i < S a (-1)) d 194 12 [l0, l1, l2, l3, l4, l5] [(0, h a i)] S h n) ∧
  (∀ (d : Nat) (x : Int) (l0 l1 l2 l3 l4 l5 : Option mx_V) (S h : mx_H) (n : Int), mx_ex d 194 12 [l0, l1, l2, l3, l4, l5] [(0, x)] S h n = mx_ex d 194 13 [l0, l1, mx_nl l2, some (0, x), l4, l5] [] S h n) ∧
  (∀ (d : Nat) (x : Int) (l1 l2 l3 l4 l5 : Option mx_V) (v0 : mx_V) (S h : mx_H) (n : Int), mx_ex d 194 14 [some (2, x), l1, l2, l3, l4, l5] [v0] S h n = mx_ex d 194 15 [some (2, x), l1, l2, l3, l4, l5] [(2, x), v0] S h n) ∧
  (∀ (d : Nat) (a : Int) (l0 l1 l2 l3 l4 l5 : Option mx_V) (v1 : mx_V) (S h : mx_H) (n : Int), mx_ex d 194 15 [l0, l1, l2, l3, l4, l5] [(2, a), v1] S h n = mx_gd (13 ≤ S a (-2) ∧ S a (-2) ≤ 13) d 194 18 [l0, l1, l2, l3, l4, l5] [(2, S a 0), v1] S h n) ∧
  (∀ (d : Nat) (l0 l1 l2 l3 l4 l5 : Option mx_V) (v0 v1 : mx_V) (S h : mx_H) (n : Int), mx_ex d 194 18 [l0, l1, l2, l3, l4, l5] [v0, v1] S h n = mx_ex d 194 19 [l0, l1, l2, l3, l4, l5] [(0, 3), v0, v1] S h n) ∧
  (∀ (d : Nat) (l0 l1 l2 l3 l4 l5 : Option mx_V) (v0 v1 v2 : mx_V) (S h : mx_H) (n : Int), mx_ex d 194 19 [l0, l1, l2, l3, l4, l5] [v0, v1, v2] S h n = mx_ex d 194 20 [l0, l1, l2, l3, l4, l5] [(0, 2), v0, v1, v2] S h n) ∧
  (∀ (d : Nat) (x : Int) (l0 l2 l3 l4 l5 : Option mx_V) (v0 v1 v2 v3 : mx_V) (S h : mx_H) (n : Int), mx_ex d 194 20 [l0, some (0, x), l2, l3, l4, l5] [v0, v1, v2, v3] S h n = mx_ex d 194 21 [l0, some (0, x), l2, l3, l4, l5] [(0, x), v0, v1, v2, v3] S h n) ∧
  (∀ (d : Nat) (b a : Int) (l0 l1 l2 l3 l4 l5 : Option mx_V) (v2 v3 v4 : mx_V) (S h : mx_H) (n : Int), mx_ex d 194 21 [l0, l1, l2, l3, l4, l5] [(0, b), (0, a), v2, v3, v4] S h n = mx_ex d 194 22 [l0, l1, l2, l3, l4, l5] [(0, mx_w (a * b)), v2, v3, v4] S h n) ∧
  (∀ (d : Nat) (b a : Int) (l0 l1 l2 l3 l4 l5 : Option mx_V) (v2 v3 : mx_V) (S h : mx_H) (n : Int), mx_ex d 194 22 [l0, l1, l2, l3, l4, l5] [(0, b), (0, a), v2, v3] S h n = mx_ex d 194 23 [l0, l1, l2, l3, l4, l5] [(0, mx_w (a + b)), v2, v3] S h n) ∧
  (∀ (d : Nat) (l0 l1 l2 l3 l4 l5 : Option mx_V) (v0 v1 v2 : mx_V) (S h : mx_H) (n : Int), mx_ex d 194 23 [l0, l1, l2, l3, l4, l5] [v0, v1, v2] S h n = mx_ex d 194 24 [l0, l1, l2, l3, l4, l5] [(0, 1), v0, v1, v2] S h n) ∧
  (∀ (d : Nat) (b a : Int) (l0 l1 l2 l3 l4 l5 : Option mx_V) (v2 v3 : mx_V) (S h : mx_H) (n : Int), mx_ex d 194 24 [l0, l1, l2, l3, l4, l5] [(0, b), (0, a), v2, v3] S h n = mx_ex d 194 25 [l0, l1, l2, l3, l4, l5] [(0, mx_w (a + b)), v2, v3] S h n) ∧
  (∀ (d : Nat) (i a : Int) (l0 l1 l2 l3 l4 l5 : Option mx_V) (v2 : mx_V) (S h : mx_H) (n : Int), mx_ex d 194 25 [l0, l1, l2, l3, l4, l5] [(0, i), (2, a), v2] S h n = mx_gd ((S a (-2) = 20 ∨ S a (-2) = 24) ∧ 0 ≤ i ∧ i < S a (-1)) d 194 26 [l0, l1, l2, l3, l4, l5] [(0, h a i), v2] S h n) ∧
  (∀ (d : Nat) (b a : Int) (l0 l1 l2 l3 l4 l5 : Option mx_V) (S h : mx_H) (n : Int), mx_ex d 194 26 [l0, l1, l2, l3, l4, l5] [(0, b), (0, a)] S h n = mx_br (b < a) d 194 106 29 [l0, l1, l2, l3, l4, l5] [] S h n) ∧
  (∀ (d : Nat) (l0 l1 l2 l3 l4 l5 : Option mx_V) (S h : mx_H) (n : Int), mx_ex d 194 29 [l0, l1, l2, l3, l4, l5] [] S h n = mx_ex d 194 30 [l0, l1, l2, l3, l4, l5] [(0, 1)] S h n) ∧
  (∀ (d : Nat) (x : Int) (l0 l1 l2 l3 l4 l5 : Option mx_V) (S h : mx_H) (n : Int), mx_ex d 194 30 [l0, l1, l2, l3, l4, l5] [(0, x)] S h n = mx_ex d 194 32 [l0, l1, l2, mx_nl l3, some (0, x), l5] [] S h n) ∧
  (∀ (d : Nat) (l0 l1 l2 l3 l4 l5 : Option mx_V) (S h : mx_H) (n : Int), mx_ex d 194 32 [l0, l1, l2, l3, l4, l5] [] S h n = mx_ex d 194 33 [l0, l1, l2, l3, l4, l5] [(0, 0)] S h n) ∧
  (∀ (d : Nat) (x : Int) (l0 l1 l2 l3 l4 l5 : Option mx_V) (S h : mx_H) (n : Int), mx_ex d 194 33 [l0, l1, l2, l3, l4, l5] [(0, x)] S h n = mx_ex d 194 35 [l0, l1, l2, l3, mx_nl l4, some (0, x)] [] S h n) ∧
  (∀ (d : Nat) (x : Int) (l1 l2 l3 l4 l5 : Option mx_V) (v0 : mx_V) (S h : mx_H) (n : Int), mx_ex d 194 37 [some (2, x), l1, l2, l3, l4, l5] [v0] S h n = mx_ex d 194 38 [some (2, x), l1, l2, l3, l4, l5] [(2, x), v0] S h n) ∧
  (∀ (d : Nat) (a : Int) (l0 l1 l2 l3 l4 l5 : Option mx_V) (v1 : mx_V) (S h : mx_H) (n : Int), mx_ex d 194 38 [l0, l1, l2, l3, l4, l5] [(2, a), v1] S h n = mx_gd (13 ≤ S a (-2) ∧ S a (-2) ≤ 13) d 194 41 [l0, l1, l2, l3, l4, l5] [(2, S a 0), v1] S h n) ∧
  (∀ (d : Nat) (l0 l1 l2 l3 l4 l5 : Option mx_V) (v0 v1 : mx_V) (S h : mx_H) (n : Int), mx_ex d 194 41 [l0, l1, l2, l3, l4, l5] [v0, v1] S h n = mx_ex d 194 42 [l0, l1, l2, l3, l4, l5] [(0, 0), v0, v1] S h n) ∧
  (∀ (d : Nat) (i a : Int) (l0 l1 l2 l3 l4 l5 : Option mx_V) (v2 : mx_V) (S h : mx_H) (n : Int), mx_ex d 194 42 [l0, l1, l2, l3, l4, l5] [(0, i), (2, a), v2] S h n = mx_gd ((S a (-2) = 20 ∨ S a (-2) = 24) ∧ 0 ≤ i ∧ i < S a (-1)) d 194 43 [l0, l1, l2, l3, l4, l5] [(0, h a i), v2] S h n) ∧
  (∀ (d : Nat) (b a : Int) (l0 l1 l2 l3 l4 l5 : Option mx_V) (S h : mx_H) (n : Int), mx_ex d 194 43 [l0, l1, l2, l3, l4, l5] [(0, b), (0, a)] S h n = mx_br (a < b) d 194 46 85 [l0, l1, l2, l3, l4, l5] [] S h n) ∧
  (∀ (d : Nat) (x : Int) (l0 l1 l2 l3 l5 : Option mx_V) (S h : mx_H) (n : Int), mx_ex d 194 46 [l0, l1, l2, l3, some (0, x), l5] [] S h n = mx_ex d 194 48 [l0, l1, l2, l3, some (0, x), l5] [(0, x)] S h n) ∧
  (∀ (d : Nat) (a : Int) (l0 l1 l2 l3 l4 l5 : Option mx_V) (S h : mx_H) (n : Int), mx_ex d 194 48 [l0, l1, l2, l3, l4, l5] [(0, a)] S h n = mx_br (a = 0) d 194 85 51 [l0, l1, l2, l3, l4, l5] [] S h n) ∧
  (∀ (d : Nat) (x : Int) (l1 l2 l3 l4 l5 : Option mx_V) (S h : mx_H) (n : Int), mx_ex d 194 51 [some (2, x), l1, l2, l3, l4, l5] [] S h n = mx_ex d 194 52 [some (2, x), l1, l2, l3, l4, l5] [(2, x)] S h n) ∧
  (∀ (d : Nat) (x : Int) (l0 l1 l2 l3 l4 : Option mx_V) (v0 : mx_V) (S h : mx_H) (n : Int), mx_ex d 194 52 [l0, l1, l2, l3, l4, some (0, x)] [v0] S h n = mx_ex d 194 54 [l0, l1, l2, l3, l4, some (0, x)] [(0, x), v0] S h n) ∧
  (∀ (d : Nat) (l0 l1 l2 l3 l4 l5 : Option mx_V) (v0 v1 : mx_V) (S h : mx_H) (n : Int), mx_ex d 194 54 [l0, l1, l2, l3, l4, l5] [v0, v1] S h n = mx_ex d 194 55 [l0, l1, l2, l3, l4, l5] [(0, 1), v0, v1] S h n) ∧
  (∀ (d : Nat) (x0 x1 a : Int) (l0 l1 l2 l3 l4 l5 : Option mx_V) (S h : mx_H) (n : Int), mx_ex (d + 1) 194 55 [l0, l1, l2, l3, l4, l5] [(0, x0), (0, x1), (2, a)] S h n = mx_cl (S a (-2) = 13) d 161 [(2, a), (0, x1), (0, x0)] 194 58 [l0, l1, l2, l3, l4, l5] [] S h n) ∧
  (∀ (d : Nat) (x : Int) (l0 l2 l3 l4 l5 : Option mx_V) (v0 : mx_V) (S h : mx_H) (n : Int), mx_ex d 194 58 [l0, some (0, x), l2, l3, l4, l5] [v0] S h n = mx_ex d 194 59 [l0, some (0, x), l2, l3, l4, l5] [(0, x), v0] S h n) ∧
  (∀ (d : Nat) (b a : Int) (l0 l1 l2 l3 l4 l5 : Option mx_V) (S h : mx_H) (n : Int), mx_ex d 194 59 [l0, l1, l2, l3, l4, l5] [(0, b), (0, a)] S h n = mx_br (a = b) d 194 62 72 [l0, l1, l2, l3, l4, l5] [] S h n) ∧
  (∀ (d : Nat) (x : Int) (l1 l2 l3 l4 l5 : Option mx_V) (S h : mx_H) (n : Int), mx_ex d 194 62 [some (2, x), l1, l2, l3, l4, l5] [] S h n = mx_ex d 194 63 [some (2, x), l1, l2, l3, l4, l5] [(2, x)] S h n) ∧
  (∀ (d : Nat) (x : Int) (l0 l1 l2 l3 l4 : Option mx_V) (v0 : mx_V) (S h : mx_H) (n : Int), mx_ex d 194 63 [l0, l1, l2, l3, l4, some (0, x)] [v0] S h n = mx_ex d 194 65 [l0, l1, l2, l3, l4, some (0, x)] [(0, x), v0] S h n) ∧
  (∀ (d : Nat) (x : Int) (l0 l1 l2 l4 l5 : Option mx_V) (v0 v1 : mx_V) (S h : mx_H) (n : Int), mx_ex d 194 65 [l0, l1, l2, some (0, x), l4, l5] [v0, v1] S h n = mx_ex d 194 66 [l0, l1, l2, some (0, x), l4, l5] [(0, x), v0, v1] S h n) ∧
  (∀ (d : Nat) (x0 x1 a : Int) (l0 l1 l2 l3 l4 l5 : Option mx_V) (S h : mx_H) (n : Int), mx_ex (d + 1) 194 66 [l0, l1, l2, l3, l4, l5] [(0, x0), (0, x1), (2, a)] S h n = mx_cl (S a (-2) = 13) d 184 [(2, a), (0, x1), (0, x0)] 194 69 [l0, l1, l2, l3, l4, l5] [] S h n) ∧
  (∀ (d : Nat) (a : Int) (l0 l1 l2 l3 l4 l5 : Option mx_V) (S h : mx_H) (n : Int), mx_ex d 194 69 [l0, l1, l2, l3, l4, l5] [(0, a)] S h n = mx_br (a = 0) d 194 76 72 [l0, l1, l2, l3, l4, l5] [] S h n) ∧
  (∀ (d : Nat) (l0 l1 l2 l3 l4 l5 : Option mx_V) (S h : mx_H) (n : Int), mx_ex d 194 72 [l0, l1, l2, l3, l4, l5] [] S h n = mx_ex d 194 73 [l0, l1, l2, l3, l4, l5] [(0, 1)] S h n) ∧
  (∀ (d : Nat) (l0 l1 l2 l3 l4 l5 : Option mx_V) (v0 : mx_V) (S h : mx_H) (n : Int), mx_ex d 194 73 [l0, l1, l2, l3, l4, l5] [v0] S h n = mx_ex d 194 77 [l0, l1, l2, l3, l4, l5] [v0] S h n) ∧
  (∀ (d : Nat) (l0 l1 l2 l3 l4 l5 : Option mx_V) (S h : mx_H) (n : Int), mx_ex d 194 76 [l0, l1, l2, l3, l4, l5] [] S h n = mx_ex d 194 77 [l0, l1, l2, l3, l4, l5] [(0, 0)] S h n) ∧
  (∀ (d : Nat) (x : Int) (l0 l1 l2 l3 l4 l5 : Option mx_V) (S h : mx_H) (n : Int), mx_ex d 194 77 [l0, l1, l2, l3, l4, l5] [(0, x)] S h n = mx_ex d 194 79 [l0, l1, l2, mx_nl l3, some (0, x), l5] [] S h n) ∧
  (∀ (d : Nat) (x : Int) (l0 l1 l2 l3 l4 : Option mx_V) (S h : mx_H) (n : Int), mx_ex d 194 79 [l0, l1, l2, l3, l4, some (0, x)] [] S h n = mx_ex d 194 82 [l0, l1, l2, l3, mx_nl l4, some (0, mx_w (x + 1))] [] S h n) ∧
  (∀ (d : Nat) (l0 l1 l2 l3 l4 l5 : Option mx_V) (S h : mx_H) (n : Int), mx_ex d 194 82 [l0, l1, l2, l3, l4, l5] [] S h n = mx_ex d 194 35 [l0, l1, l2, l3, l4, l5] [] S h n) ∧
  (∀ (d : Nat) (x : Int) (l0 l1 l3 l4 l5 : Option mx_V) (S h : mx_H) (n : Int), mx_ex d 194 85 [l0, l1, some (0, x), l3, l4, l5] [] S h n = mx_ex d 194 86 [l0, l1, some (0, x), l3, l4, l5] [(0, x)] S h n) ∧
  (∀ (d : Nat) (x : Int) (l0 l1 l2 l3 l5 : Option mx_V) (v0 : mx_V) (S h : mx_H) (n : Int), mx_ex d 194 86 [l0, l1, l2, l3, some (0, x), l5] [v0] S h n = mx_ex d 194 88 [l0, l1, l2, l3, some (0, x), l5] [(0, x), v0] S h n) ∧
  (∀ (d : Nat) (a : Int) (l0 l1 l2 l3 l4 l5 : Option mx_V) (v1 : mx_V) (S h : mx_H) (n : Int), mx_ex d 194 88 [l0, l1, l2, l3, l4, l5] [(0, a), v1] S h n = mx_br (a = 0) d 194 97 91 [l0, l1, l2, l3, l4, l5] [v1] S h n) ∧
  (∀ (d : Nat) (l0 l1 l2 l3 l4 l5 : Option mx_V) (v0 : mx_V) (S h : mx_H) (n : Int), mx_ex d 194 91 [l0, l1, l2, l3, l4, l5] [v0] S h n = mx_ex d 194 92 [l0, l1, l2, l3, l4, l5] [(0, 1), v0] S h n) ∧
  (∀ (d : Nat) (x : Int) (l0 l1 l2 l4 l5 : Option mx_V) (v0 v1 : mx_V) (S h : mx_H) (n : Int), mx_ex d 194 92 [l0, l1, l2, some (0, x), l4, l5] [v0, v1] S h n = mx_ex d 194 93 [l0, l1, l2, some (0, x), l4, l5] [(0, x), v0, v1] S h n) ∧
  (∀ (d : Nat) (b a : Int) (l0 l1 l2 l3 l4 l5 : Option mx_V) (v2 : mx_V) (S h : mx_H) (n : Int), mx_ex d 194 93 [l0, l1, l2, l3, l4, l5] [(0, b), (0, a), v2] S h n = mx_ex d 194 94 [l0, l1, l2, l3, l4, l5] [(0, mx_shl a b), v2] S h n) ∧
  (∀ (d : Nat) (l0 l1 l2 l3 l4 l5 : Option mx_V) (v0 v1 : mx_V) (S h : mx_H) (n : Int), mx_ex d 194 94 [l0, l1, l2, l3, l4, l5] [v0, v1] S h n = mx_ex d 194 98 [l0, l1, l2, l3, l4, l5] [v0, v1] S h n) ∧
  (∀ (d : Nat) (l0 l1 l2 l3 l4 l5 : Option mx_V) (v0 : mx_V) (S h : mx_H) (n : Int), mx_ex d 194 97 [l0, l1, l2, l3, l4, l5] [v0] S h n = mx_ex d 194 98 [l0, l1, l2, l3, l4, l5] [(0, 0), v0] S h n) ∧
  (∀ (d : Nat) (b a : Int) (l0 l1 l2 l3 l4 l5 : Option mx_V) (S h : mx_H) (n : Int), mx_ex d 194 98 [l0, l1, l2, l3, l4, l5] [(0, b), (0, a)] S h n = mx_ex d 194 99 [l0, l1, l2, l3, l4, l5] [(0, mx_or a b)] S h n) ∧
  (∀ (d : Nat) (x : Int) (l0 l1 l2 l3 l4 l5 : Option mx_V) (S h : mx_H) (n : Int), mx_ex d 194 99 [l0, l1, l2, l3, l4, l5] [(0, x)] S h n = mx_ex d 194 100 [l0, mx_nl l1, some (0, x), l3, l4, l5] [] S h n) ∧
  (∀ (d : Nat) (x : Int) (l0 l1 l2 l4 l5 : Option mx_V) (S h : mx_H) (n : Int), mx_ex d 194 100 [l0, l1, l2, some (0, x), l4, l5] [] S h n = mx_ex d 194 103 [l0, l1, mx_nl l2, some (0, mx_w (x + 1)), l4, l5] [] S h n) ∧
  (∀ (d : Nat) (l0 l1 l2 l3 l4 l5 : Option mx_V) (S h : mx_H) (n : Int), mx_ex d 194 103 [l0, l1, l2, l3, l4, l5] [] S h n = mx_ex d 194 13 [l0, l1, l2, l3, l4, l5] [] S h n) ∧
  (∀ (d : Nat) (x : Int) (l0 l1 l3 l4 l5 : Option mx_V) (S h : mx_H) (n : Int), mx_ex d 194 106 [l0, l1, some (0, x), l3, l4, l5] [] S h n = mx_ex d 194 107 [l0, l1, some (0, x), l3, l4, l5] [(0, x)] S h n) ∧
  (∀ (d : Nat) (x : Int) (l0 l1 l2 l3 l4 l5 : Option mx_V) (S h : mx_H) (n : Int), mx_ex d 194 107 [l0, l1, l2, l3, l4, l5] [(0, x)] S h n = some (some (0, x), S, h, n)) :=
  ⟨by intros; exact rfl,
   by intros; exact eq_push rfl,
   by intros; exact eq_st rfl (by decide) (Nat.le_of_ble_eq_true rfl) rfl,
   by intros; exact eq_ld rfl rfl,
   by intros; exact eq_gr rfl,
   by intros; exact eq_push rfl,
   by intros; exact eq_push rfl,
   by intros; exact eq_ld rfl rfl,
   by intros; exact eq_i2 (o := mx_mul) rfl,
   by intros; exact eq_i2 (o := mx_add) rfl,
   by intros; exact eq_iald rfl,
   by intros; exact eq_st rfl (by decide) (Nat.le_of_ble_eq_true rfl) rfl,
   by intros; exact eq_ld rfl rfl,
   by intros; exact eq_gr rfl,
   by intros; exact eq_push rfl,
   by intros; exact eq_push rfl,
   by intros; exact eq_ld rfl rfl,
   by intros; exact eq_i2 (o := mx_mul) rfl,
   by intros; exact eq_i2 (o := mx_add) rfl,
   by intros; exact eq_push rfl,
   by intros; exact eq_i2 (o := mx_add) rfl,
   by intros; exact eq_iald rfl,
   by intros; exact eq_ic4 rfl,
   by intros; exact eq_push rfl,
   by intros; exact eq_st rfl (by decide) (Nat.le_of_ble_eq_true rfl) rfl,
   by intros; exact eq_push rfl,
   by intros; exact eq_st rfl (by decide) (Nat.le_of_ble_eq_true rfl) rfl,
   by intros; exact eq_ld rfl rfl,
   by intros; exact eq_gr rfl,
   by intros; exact eq_push rfl,
   by intros; exact eq_iald rfl,
   by intros; exact eq_ic3 rfl,
   by intros; exact eq_ld rfl rfl,
   by intros; exact eq_if0 rfl,
   by intros; exact eq_ld rfl rfl,
   by intros; exact eq_ld rfl rfl,
   by intros; exact eq_push rfl,
   by intros; exact eq_cv rfl (Nat.le_of_ble_eq_true rfl) rfl rfl rfl (Nat.le_of_ble_eq_true rfl),
   by intros; exact eq_ld rfl rfl,
   by intros; exact eq_ic1 rfl,
   by intros; exact eq_ld rfl rfl,
   by intros; exact eq_ld rfl rfl,
   by intros; exact eq_ld rfl rfl,
   by intros; exact eq_cv rfl (Nat.le_of_ble_eq_true rfl) rfl rfl rfl (Nat.le_of_ble_eq_true rfl),
   by intros; exact eq_if0 rfl,
   by intros; exact eq_push rfl,
   by intros; exact eq_go rfl,
   by intros; exact eq_push rfl,
   by intros; exact eq_st rfl (by decide) (Nat.le_of_ble_eq_true rfl) rfl,
   by intros; exact eq_inc rfl rfl rfl,
   by intros; exact eq_go rfl,
   by intros; exact eq_ld rfl rfl,
   by intros; exact eq_ld rfl rfl,
   by intros; exact eq_if0 rfl,
   by intros; exact eq_push rfl,
   by intros; exact eq_ld rfl rfl,
   by intros; exact eq_i2 (o := mx_shl) rfl,
   by intros; exact eq_go rfl,
   by intros; exact eq_push rfl,
   by intros; exact eq_i2 (o := mx_or) rfl,
   by intros; exact eq_st rfl (by decide) (Nat.le_of_ble_eq_true rfl) rfl,
   by intros; exact eq_inc rfl rfl rfl,
   by intros; exact eq_go rfl,
   by intros; exact eq_ld rfl rfl,
   by intros; exact eq_ret rfl⟩
theorem rh_X12_findWorlds_2 : ∀ (d : Nat) (x : Int) (l0 l1 l2 l4 l5 l6 : Option mx_V) (S h : mx_H) (n : Int), mx_ex d 195 2 [l0, l1, l2, some (0, x), l4, l5, l6] [] S h n = mx_ex d 195 3 [l0, l1, l2, some (0, x), l4, l5, l6] [(0, x)] S h n := by intros; exact eq_ld rfl rfl
theorem rh_X12_findWorlds_36 : ∀ (d : Nat) (x : Int) (l0 l1 l2 l3 l5 l6 : Option mx_V) (S h : mx_H) (n : Int), mx_ex d 195 36 [l0, l1, l2, l3, some (0, x), l5, l6] [] S h n = mx_ex d 195 38 [l0, l1, l2, l3, some (0, x), l5, l6] [(0, x)] S h n := by intros; exact eq_ld rfl rfl
theorem rh_X12_findWorlds_46 : ∀ (d : Nat) (x : Int) (l0 l1 l2 l3 l4 l6 : Option mx_V) (S h : mx_H) (n : Int), mx_ex d 195 46 [l0, l1, l2, l3, l4, some (0, x), l6] [] S h n = mx_ex d 195 48 [l0, l1, l2, l3, l4, some (0, x), l6] [(0, x)] S h n := by intros; exact eq_ld rfl rfl
theorem rh_X12_findWorlds_71 : ∀ (d : Nat) (x : Int) (l0 l1 l2 l3 l4 l5 : Option mx_V) (S h : mx_H) (n : Int), mx_ex d 195 71 [l0, l1, l2, l3, l4, l5, some (0, x)] [] S h n = mx_ex d 195 73 [l0, l1, l2, l3, l4, l5, some (0, x)] [(0, x)] S h n := by intros; exact eq_ld rfl rfl
theorem rw_X12_findWorlds :
  (∀ (d : Nat) (a0 a1 a2 : Int) (S h : mx_H) (n : Int), mx_M d 195 [(2, a0), (0, a1), (0, a2)] S h n = mx_ex d 195 0 [some (2, a0), some (0, a1), some (0, a2), none, none, none, none] [] S h n) ∧
  (∀ (d : Nat) (l0 l1 l2 l3 l4 l5 l6 : Option mx_V) (S h : mx_H) (n : Int), mx_ex d 195 0 [l0, l1, l2, l3, l4, l5, l6] [] S h n = mx_ex d 195 1 [l0, l1, l2, l3, l4, l5, l6] [(0, 0)] S h n) ∧
  (∀ (d : Nat) (x : Int) (l0 l1 l2 l3 l4 l5 l6 : Option mx_V) (S h : mx_H) (n : Int), mx_ex d 195 1 [l0, l1, l2, l3, l4, l5, l6] [(0, x)] S h n = mx_ex d 195 2 [l0, l1, mx_nl l2, some (0, x), l4, l5, l6] [] S h n) ∧
  (∀ (d : Nat) (l0 l1 l2 l3 l4 l5 l6 : Option mx_V) (v0 : mx_V) (S h : mx_H) (n : Int), mx_ex d 195 3 [l0, l1, l2, l3, l4, l5, l6] [v0] S h n = mx_ex d 195 4 [l0, l1, l2, l3, l4, l5, l6] [(0, 3), v0] S h n) ∧
  (∀ (d : Nat) (b a : Int) (l0 l1 l2 l3 l4 l5 l6 : Option mx_V) (S h : mx_H) (n : Int), mx_ex d 195 4 [l0, l1, l2, l3, l4, l5, l6] [(0, b), (0, a)] S h n = mx_br (a < b) d 195 7 31 [l0, l1, l2, l3, l4, l5, l6] [] S h n) ∧
  (∀ (d : Nat) (x : Int) (l1 l2 l3 l4 l5 l6 : Option mx_V) (S h : mx_H) (n : Int), mx_ex d 195 7 [some (2, x), l1, l2, l3, l4, l5, l6] [] S h n = mx_ex d 195 8 [some (2, x), l1, l2, l3, l4, l5, l6] [(2, x)] S h n) ∧
  (∀ (d : Nat) (a : Int) (l0 l1 l2 l3 l4 l5 l6 : Option mx_V) (S h : mx_H) (n : Int), mx_ex d 195 8 [l0, l1, l2, l3, l4, l5, l6] [(2, a)] S h n = mx_gd (13 ≤ S a (-2) ∧ S a (-2) ≤ 13) d 195 11 [l0, l1, l2, l3, l4, l5, l6] [(2, S a 12)] S h n) ∧
  (∀ (d : Nat) (x : Int) (l0 l1 l2 l4 l5 l6 : Option mx_V) (v0 : mx_V) (S h : mx_H) (n : Int), mx_ex d 195 11 [l0, l1, l2, some (0, x), l4, l5, l6] [v0] S h n = mx_ex d 195 12 [l0, l1, l2, some (0, x), l4, l5, l6] [(0, x), v0] S h n) ∧
  (∀ (d : Nat) (x : Int) (l1 l2 l3 l4 l5 l6 : Option mx_V) (v0 v1 : mx_V) (S h : mx_H) (n : Int), mx_ex d 195 12 [some (2, x), l1, l2, l3, l4, l5, l6] [v0, v1] S h n = mx_ex d 195 13 [some (2, x), l1, l2, l3, l4, l5, l6] [(2, x), v0, v1] S h n) ∧
  (∀ (d : Nat) (x : Int) (l0 l1 l2 l4 l5 l6 : Option mx_V) (v0 v1 v2 : mx_V) (S h : mx_H) (n : Int), mx_ex d 195 13 [l0, l1, l2, some (0, x), l4, l5, l6] [v0, v1, v2] S h n = mx_ex d 195 14 [l0, l1, l2, some (0, x), l4, l5, l6] [(0, x), v0, v1, v2] S h n) ∧
  (∀ (d : Nat) (x0 a : Int) (l0 l1 l2 l3 l4 l5 l6 : Option mx_V) (v2 v3 : mx_V) (S h : mx_H) (n : Int), mx_ex (d + 1) 195 14 [l0, l1, l2, l3, l4, l5, l6] [(0, x0), (2, a), v2, v3] S h n = mx_cl (S a (-2) = 13) d 194 [(2, a), (0, x0)] 195 17 [l0, l1, l2, l3, l4, l5, l6] [v2, v3] S h n) ∧
  (∀ (d : Nat) (v i a : Int) (l0 l1 l2 l3 l4 l5 l6 : Option mx_V) (S h : mx_H) (n : Int), mx_ex d 195 17 [l0, l1, l2, l3, l4, l5, l6] [(0, v), (0, i), (2, a)] S h n = mx_gd (S a (-2) = 20 ∧ 0 ≤ i ∧ i < S a (-1)) d 195 18 [l0, l1, l2, l3, l4, l5, l6] [] S (mx_u h a i v) n) ∧
  (∀ (d : Nat) (x : Int) (l1 l2 l3 l4 l5 l6 : Option mx_V) (S h : mx_H) (n : Int), mx_ex d 195 18 [some (2, x), l1, l2, l3, l4, l5, l6] [] S h n = mx_ex d 195 19 [some (2, x), l1, l2, l3, l4, l5, l6] [(2, x)] S h n) ∧
  (∀ (d : Nat) (a : Int) (l0 l1 l2 l3 l4 l5 l6 : Option mx_V) (S h : mx_H) (n : Int), mx_ex d 195 19 [l0, l1, l2, l3, l4, l5, l6] [(2, a)] S h n = mx_gd (13 ≤ S a (-2) ∧ S a (-2) ≤ 13) d 195 22 [l0, l1, l2, l3, l4, l5, l6] [(2, S a 13)] S h n) ∧
  (∀ (d : Nat) (x : Int) (l0 l1 l2 l4 l5 l6 : Option mx_V) (v0 : mx_V) (S h : mx_H) (n : Int), mx_ex d 195 22 [l0, l1, l2, some (0, x), l4, l5, l6] [v0] S h n = mx_ex d 195 23 [l0, l1, l2, some (0, x), l4, l5, l6] [(0, x), v0] S h n) ∧
  (∀ (d : Nat) (l0 l1 l2 l3 l4 l5 l6 : Option mx_V) (v0 v1 : mx_V) (S h : mx_H) (n : Int), mx_ex d 195 23 [l0, l1, l2, l3, l4, l5, l6] [v0, v1] S h n = mx_ex d 195 24 [l0, l1, l2, l3, l4, l5, l6] [(0, 0), v0, v1] S h n) ∧
  (∀ (d : Nat) (v i a : Int) (l0 l1 l2 l3 l4 l5 l6 : Option mx_V) (S h : mx_H) (n : Int), mx_ex d 195 24 [l0, l1, l2, l3, l4, l5, l6] [(0, v), (0, i), (2, a)] S h n = mx_gd (S a (-2) = 20 ∧ 0 ≤ i ∧ i < S a (-1)) d 195 25 [l0, l1, l2, l3, l4, l5, l6] [] S (mx_u h a i v) n) ∧
  (∀ (d : Nat) (x : Int) (l0 l1 l2 l4 l5 l6 : Option mx_V) (S h : mx_H) (n : Int), mx_ex d 195 25 [l0, l1, l2, some (0, x), l4, l5, l6] [] S h n = mx_ex d 195 28 [l0, l1, mx_nl l2, some (0, mx_w (x + 1)), l4, l5, l6] [] S h n) ∧
  (∀ (d : Nat) (l0 l1 l2 l3 l4 l5 l6 : Option mx_V) (S h : mx_H) (n : Int), mx_ex d 195 28 [l0, l1, l2, l3, l4, l5, l6] [] S h n = mx_ex d 195 2 [l0, l1, l2, l3, l4, l5, l6] [] S h n) ∧
  (∀ (d : Nat) (l0 l1 l2 l3 l4 l5 l6 : Option mx_V) (S h : mx_H) (n : Int), mx_ex d 195 31 [l0, l1, l2, l3, l4, l5, l6] [] S h n = mx_ex d 195 32 [l0, l1, l2, l3, l4, l5, l6] [(0, 0)] S h n) ∧
  (∀ (d : Nat) (x : Int) (l0 l1 l2 l3 l4 l5 l6 : Option mx_V) (S h : mx_H) (n : Int), mx_ex d 195 32 [l0, l1, l2, l3, l4, l5, l6] [(0, x)] S h n = mx_ex d 195 33 [l0, l1, mx_nl l2, some (0, x), l4, l5, l6] [] S h n) ∧
  (∀ (d : Nat) (l0 l1 l2 l3 l4 l5 l6 : Option mx_V) (S h : mx_H) (n : Int), mx_ex d 195 33 [l0, l1, l2, l3, l4, l5, l6] [] S h n = mx_ex d 195 34 [l0, l1, l2, l3, l4, l5, l6] [(0, 2)] S h n) ∧
  (∀ (d : Nat) (x : Int) (l0 l1 l2 l3 l4 l5 l6 : Option mx_V) (S h : mx_H) (n : Int), mx_ex d 195 34 [l0, l1, l2, l3, l4, l5, l6] [(0, x)] S h n = mx_ex d 195 36 [l0, l1, l2, mx_nl l3, some (0, x), l5, l6] [] S h n) ∧
  (∀ (d : Nat) (l0 l1 l2 l3 l4 l5 l6 : Option mx_V) (v0 : mx_V) (S h : mx_H) (n : Int), mx_ex d 195 38 [l0, l1, l2, l3, l4, l5, l6] [v0] S h n = mx_ex d 195 40 [l0, l1, l2, l3, l4, l5, l6] [(0, 16), v0] S h n) ∧
  (∀ (d : Nat) (b a : Int) (l0 l1 l2 l3 l4 l5 l6 : Option mx_V) (S h : mx_H) (n : Int), mx_ex d 195 40 [l0, l1, l2, l3, l4, l5, l6] [(0, b), (0, a)] S h n = mx_br (b < a) d 195 207 43 [l0, l1, l2, l3, l4, l5, l6] [] S h n) ∧
  (∀ (d : Nat) (l0 l1 l2 l3 l4 l5 l6 : Option mx_V) (S h : mx_H) (n : Int), mx_ex d 195 43 [l0, l1, l2, l3, l4, l5, l6] [] S h n = mx_ex d 195 44 [l0, l1, l2, l3, l4, l5, l6] [(0, 2)] S h n) ∧
  (∀ (d : Nat) (x : Int) (l0 l1 l2 l3 l4 l5 l6 : Option mx_V) (S h : mx_H) (n : Int), mx_ex d 195 44 [l0, l1, l2, l3, l4, l5, l6] [(0, x)] S h n = mx_ex d 195 46 [l0, l1, l2, l3, mx_nl l4, some (0, x), l6] [] S h n) ∧
  (∀ (d : Nat) (l0 l1 l2 l3 l4 l5 l6 : Option mx_V) (v0 : mx_V) (S h : mx_H) (n : Int), mx_ex d 195 48 [l0, l1, l2, l3, l4, l5, l6] [v0] S h n = mx_ex d 195 50 [l0, l1, l2, l3, l4, l5, l6] [(0, 16), v0] S h n) ∧
  (∀ (d : Nat) (b a : Int) (l0 l1 l2 l3 l4 l5 l6 : Option mx_V) (S h : mx_H) (n : Int), mx_ex d 195 50 [l0, l1, l2, l3, l4, l5, l6] [(0, b), (0, a)] S h n = mx_br (b < a) d 195 201 53 [l0, l1, l2, l3, l4, l5, l6] [] S h n) ∧
  (∀ (d : Nat) (x : Int) (l1 l2 l3 l4 l5 l6 : Option mx_V) (S h : mx_H) (n : Int), mx_ex d 195 53 [some (2, x), l1, l2, l3, l4, l5, l6] [] S h n = mx_ex d 195 54 [some (2, x), l1, l2, l3, l4, l5, l6] [(2, x)] S h n) ∧
  (∀ (d : Nat) (a : Int) (l0 l1 l2 l3 l4 l5 l6 : Option mx_V) (S h : mx_H) (n : Int), mx_ex d 195 54 [l0, l1, l2, l3, l4, l5, l6] [(2, a)] S h n = mx_gd (13 ≤ S a (-2) ∧ S a (-2) ≤ 13) d 195 57 [l0, l1, l2, l3, l4, l5, l6] [(2, S a 12)] S h n) ∧
  (∀ (d : Nat) (l0 l1 l2 l3 l4 l5 l6 : Option mx_V) (v0 : mx_V) (S h : mx_H) (n : Int), mx_ex d 195 57 [l0, l1, l2, l3, l4, l5, l6] [v0] S h n = mx_ex d 195 58 [l0, l1, l2, l3, l4, l5, l6] [(0, 0), v0] S h n) ∧
  (∀ (d : Nat) (i a : Int) (l0 l1 l2 l3 l4 l5 l6 : Option mx_V) (S h : mx_H) (n : Int), mx_ex d 195 58 [l0, l1, l2, l3, l4, l5, l6] [(0, i), (2, a)] S h n = mx_gd ((S a (-2) = 20 ∨ S a (-2) = 24) ∧ 0 ≤ i ∧ i < S a (-1)) d 195 59 [l0, l1, l2, l3, l4, l5, l6] [(0, h a i)] S h n) ∧
  (∀ (d : Nat) (x : Int) (l0 l1 l2 l3 l5 l6 : Option mx_V) (v0 : mx_V) (S h : mx_H) (n : Int), mx_ex d 195 59 [l0, l1, l2, l3, some (0, x), l5, l6] [v0] S h n = mx_ex d 195 61 [l0, l1, l2, l3, some (0, x), l5, l6] [(0, x), v0] S h n) ∧
  (∀ (d : Nat) (b a : Int) (l0 l1 l2 l3 l4 l5 l6 : Option mx_V) (S h : mx_H) (n : Int), mx_ex d 195 61 [l0, l1, l2, l3, l4, l5, l6] [(0, b), (0, a)] S h n = mx_ex d 195 62 [l0, l1, l2, l3, l4, l5, l6] [(0, mx_shr a b)] S h n) ∧
  (∀ (d : Nat) (l0 l1 l2 l3 l4 l5 l6 : Option mx_V) (v0 : mx_V) (S h : mx_H) (n : Int), mx_ex d 195 62 [l0, l1, l2, l3, l4, l5, l6] [v0] S h n = mx_ex d 195 63 [l0, l1, l2, l3, l4, l5, l6] [(0, 1), v0] S h n) ∧
  (∀ (d : Nat) (b a : Int) (l0 l1 l2 l3 l4 l5 l6 : Option mx_V) (S h : mx_H) (n : Int), mx_ex d 195 63 [l0, l1, l2, l3, l4, l5, l6] [(0, b), (0, a)] S h n = mx_ex d 195 64 [l0, l1, l2, l3, l4, l5, l6] [(0, mx_and a b)] S h n) ∧
  (∀ (d : Nat) (l0 l1 l2 l3 l4 l5 l6 : Option mx_V) (v0 : mx_V) (S h : mx_H) (n : Int), mx_ex d 195 64 [l0, l1, l2, l3, l4, l5, l6] [v0] S h n = mx_ex d 195 65 [l0, l1, l2, l3, l4, l5, l6] [(0, 1), v0] S h n) ∧
  (∀ (d : Nat) (b a : Int) (l0 l1 l2 l3 l4 l5 l6 : Option mx_V) (S h : mx_H) (n : Int), mx_ex d 195 65 [l0, l1, l2, l3, l4, l5, l6] [(0, b), (0, a)] S h n = mx_br (a = b) d 195 68 201 [l0, l1, l2, l3, l4, l5, l6] [] S h n) ∧
  (∀ (d : Nat) (l0 l1 l2 l3 l4 l5 l6 : Option mx_V) (S h : mx_H) (n : Int), mx_ex d 195 68 [l0, l1, l2, l3, l4, l5, l6] [] S h n = mx_ex d 195 69 [l0, l1, l2, l3, l4, l5, l6] [(0, 2)] S h n) ∧
  (∀ (d : Nat) (x : Int) (l0 l1 l2 l3 l4 l5 l6 : Option mx_V) (S h : mx_H) (n : Int), mx_ex d 195 69 [l0, l1, l2, l3, l4, l5, l6] [(0, x)] S h n = mx_ex d 195 71 [l0, l1, l2, l3, l4, mx_nl l5, some (0, x)] [] S h n) ∧
  (∀ (d : Nat) (l0 l1 l2 l3 l4 l5 l6 : Option mx_V) (v0 : mx_V) (S h : mx_H) (n : Int), mx_ex d 195 73 [l0, l1, l2, l3, l4, l5, l6] [v0] S h n = mx_ex d 195 75 [l0, l1, l2, l3, l4, l5, l6] [(0, 16), v0] S h n) ∧
  (∀ (d : Nat) (b a : Int) (l0 l1 l2 l3 l4 l5 l6 : Option mx_V) (S h : mx_H) (n : Int), mx_ex d 195 75 [l0, l1, l2, l3, l4, l5, l6] [(0, b), (0, a)] S h n = mx_br (b < a) d 195 195 78 [l0, l1, l2, l3, l4, l5, l6] [] S h n) ∧
  (∀ (d : Nat) (x : Int) (l1 l2 l3 l4 l5 l6 : Option mx_V) (S h : mx_H) (n : Int), mx_ex d 195 78 [some (2, x), l1, l2, l3, l4, l5, l6] [] S h n = mx_ex d 195 79 [some (2, x), l1, l2, l3, l4, l5, l6] [(2, x)] S h n) ∧
  (∀ (d : Nat) (a : Int) (l0 l1 l2 l3 l4 l5 l6 : Option mx_V) (S h : mx_H) (n : Int), mx_ex d 195 79 [l0, l1, l2, l3, l4, l5, l6] [(2, a)] S h n = mx_gd (13 ≤ S a (-2) ∧ S a (-2) ≤ 13) d 195 82 [l0, l1, l2, l3, l4, l5, l6] [(2, S a 12)] S h n) ∧
  (∀ (d : Nat) (l0 l1 l2 l3 l4 l5 l6 : Option mx_V) (v0 : mx_V) (S h : mx_H) (n : Int), mx_ex d 195 82 [l0, l1, l2, l3, l4, l5, l6] [v0] S h n = mx_ex d 195 83 [l0, l1, l2, l3, l4, l5, l6] [(0, 1), v0] S h n) ∧
  (∀ (d : Nat) (i a : Int) (l0 l1 l2 l3 l4 l5 l6 : Option mx_V) (S h : mx_H) (n : Int), mx_ex d 195 83 [l0, l1, l2, l3, l4, l5, l6] [(0, i), (2, a)] S h n = mx_gd ((S a (-2) = 20 ∨ S a (-2) = 24) ∧ 0 ≤ i ∧ i < S a (-1)) d 195 84 [l0, l1, l2, l3, l4, l5, l6] [(0, h a i)] S h n) ∧
  (∀ (d : Nat) (x : Int) (l0 l1 l2 l3 l4 l6 : Option mx_V) (v0 : mx_V) (S h : mx_H) (n : Int), mx_ex d 195 84 [l0, l1, l2, l3, l4, some (0, x), l6] [v0] S h n = mx_ex d 195 86 [l0, l1, l2, l3, l4, some (0, x), l6] [(0, x), v0] S h n) ∧
  (∀ (d : Nat) (b a : Int) (l0 l1 l2 l3 l4 l5 l6 : Option mx_V) (S h : mx_H) (n : Int), mx_ex d 195 86 [l0, l1, l2, l3, l4, l5, l6] [(0, b), (0, a)] S h n = mx_ex d 195 87 [l0, l1, l2, l3, l4, l5, l6] [(0, mx_shr a b)] S h n) ∧
  (∀ (d : Nat) (l0 l1 l2 l3 l4 l5 l6 : Option mx_V) (v0 : mx_V) (S h : mx_H) (n : Int), mx_ex d 195 87 [l0, l1, l2, l3, l4, l5, l6] [v0] S h n = mx_ex d 195 88 [l0, l1, l2, l3, l4, l5, l6] [(0, 1), v0] S h n) ∧
  (∀ (d : Nat) (b a : Int) (l0 l1 l2 l3 l4 l5 l6 : Option mx_V) (S h : mx_H) (n : Int), mx_ex d 195 88 [l0, l1, l2, l3, l4, l5, l6] [(0, b), (0, a)] S h n = mx_ex d 195 89 [l0, l1, l2, l3, l4, l5, l6] [(0, mx_and a b)] S h n) ∧
  (∀ (d : Nat) (l0 l1 l2 l3 l4 l5 l6 : Option mx_V) (v0 : mx_V) (S h : mx_H) (n : Int), mx_ex d 195 89 [l0, l1, l2, l3, l4, l5, l6] [v0] S h n = mx_ex d 195 90 [l0, l1, l2, l3, l4, l5, l6] [(0, 1), v0] S h n) ∧
  (∀ (d : Nat) (b a : Int) (l0 l1 l2 l3 l4 l5 l6 : Option mx_V) (S h : mx_H) (n : Int), mx_ex d 195 90 [l0, l1, l2, l3, l4, l5, l6] [(0, b), (0, a)] S h n = mx_br (a = b) d 195 93 195 [l0, l1, l2, l3, l4, l5, l6] [] S h n) ∧
  (∀ (d : Nat) (x : Int) (l1 l2 l3 l4 l5 l6 : Option mx_V) (S h : mx_H) (n : Int), mx_ex d 195 93 [some (2, x), l1, l2, l3, l4, l5, l6] [] S h n = mx_ex d 195 94 [some (2, x), l1, l2, l3, l4, l5, l6] [(2, x)] S h n) ∧
  (∀ (d : Nat) (a : Int) (l0 l1 l2 l3 l4 l5 l6 : Option mx_V) (S h : mx_H) (n : Int), mx_ex d 195 94 [l0, l1, l2, l3, l4, l5, l6] [(2, a)] S h n = mx_gd (13 ≤ S a (-2) ∧ S a (-2) ≤ 13) d 195 97 [l0, l1, l2, l3, l4, l5, l6] [(2, S a 11)] S h n) ∧
  (∀ (d : Nat) (l0 l1 l2 l3 l4 l5 l6 : Option mx_V) (v0 : mx_V) (S h : mx_H) (n : Int), mx_ex d 195 97 [l0, l1, l2, l3, l4, l5, l6] [v0] S h n = mx_ex d 195 98 [l0, l1, l2, l3, l4, l5, l6] [(0, 0), v0] S h n) ∧
  (∀ (d : Nat) (x : Int) (l0 l1 l2 l3 l5 l6 : Option mx_V) (v0 v1 : mx_V) (S h : mx_H) (n : Int), mx_ex d 195 98 [l0, l1, l2, l3, some (0, x), l5, l6] [v0, v1] S h n = mx_ex d 195 100 [l0, l1, l2, l3, some (0, x), l5, l6] [(0, x), v0, v1] S h n) ∧
  (∀ (d : Nat) (v i a : Int) (l0 l1 l2 l3 l4 l5 l6 : Option mx_V) (S h : mx_H) (n : Int), mx_ex d 195 100 [l0, l1, l2, l3, l4, l5, l6] [(0, v), (0, i), (2, a)] S h n = mx_gd (S a (-2) = 20 ∧ 0 ≤ i ∧ i < S a (-1)) d 195 101 [l0, l1, l2, l3, l4, l5, l6] [] S (mx_u h a i v) n) ∧
  (∀ (d : Nat) (x : Int) (l1 l2 l3 l4 l5 l6 : Option mx_V) (S h : mx_H) (n : Int), mx_ex d 195 101 [some (2, x), l1, l2, l3, l4, l5, l6] [] S h n = mx_ex d 195 102 [some (2, x), l1, l2, l3, l4, l5, l6] [(2, x)] S h n) ∧
  (∀ (d : Nat) (a : Int) (l0 l1 l2 l3 l4 l5 l6 : Option mx_V) (S h : mx_H) (n : Int), mx_ex d 195 102 [l0, l1, l2, l3, l4, l5, l6] [(2, a)] S h n = mx_gd (13 ≤ S a (-2) ∧ S a (-2) ≤ 13) d 195 105 [l0, l1, l2, l3, l4, l5, l6] [(2, S a 11)] S h n) ∧
  (∀ (d : Nat) (l0 l1 l2 l3 l4 l5 l6 : Option mx_V) (v0 : mx_V) (S h : mx_H) (n : Int), mx_ex d 195 105 [l0, l1, l2, l3, l4, l5, l6] [v0] S h n = mx_ex d 195 106 [l0, l1, l2, l3, l4, l5, l6] [(0, 1), v0] S h n) ∧
  (∀ (d : Nat) (x : Int) (l0 l1 l2 l3 l4 l6 : Option mx_V) (v0 v1 : mx_V) (S h : mx_H) (n : Int), mx_ex d 195 106 [l0, l1, l2, l3, l4, some (0, x), l6] [v0, v1] S h n = mx_ex d 195 108 [l0, l1, l2, l3, l4, some (0, x), l6] [(0, x), v0, v1] S h n) ∧
  (∀ (d : Nat) (v i a : Int) (l0 l1 l2 l3 l4 l5 l6 : Option mx_V) (S h : mx_H) (n : Int), mx_ex d 195 108 [l0, l1, l2, l3, l4, l5, l6] [(0, v), (0, i), (2, a)] S h n = mx_gd (S a (-2) = 20 ∧ 0 ≤ i ∧ i < S a (-1)) d 195 109 [l0, l1, l2, l3, l4, l5, l6] [] S (mx_u h a i v) n) ∧
  (∀ (d : Nat) (x : Int) (l1 l2 l3 l4 l5 l6 : Option mx_V) (S h : mx_H) (n : Int), mx_ex d 195 109 [some (2, x), l1, l2, l3, l4, l5, l6] [] S h n = mx_ex d 195 110 [some (2, x), l1, l2, l3, l4, l5, l6] [(2, x)] S h n) ∧
  (∀ (d : Nat) (a : Int) (l0 l1 l2 l3 l4 l5 l6 : Option mx_V) (S h : mx_H) (n : Int), mx_ex d 195 110 [l0, l1, l2, l3, l4, l5, l6] [(2, a)] S h n = mx_gd (13 ≤ S a (-2) ∧ S a (-2) ≤ 13) d 195 113 [l0, l1, l2, l3, l4, l5, l6] [(2, S a 11)] S h n) ∧
  (∀ (d : Nat) (l0 l1 l2 l3 l4 l5 l6 : Option mx_V) (v0 : mx_V) (S h : mx_H) (n : Int), mx_ex d 195 113 [l0, l1, l2, l3, l4, l5, l6] [v0] S h n = mx_ex d 195 114 [l0, l1, l2, l3, l4, l5, l6] [(0, 2), v0] S h n) ∧
  (∀ (d : Nat) (x : Int) (l0 l1 l2 l3 l4 l5 : Option mx_V) (v0 v1 : mx_V) (S h : mx_H) (n : Int), mx_ex d 195 114 [l0, l1, l2, l3, l4, l5, some (0, x)] [v0, v1] S h n = mx_ex d 195 116 [l0, l1, l2, l3, l4, l5, some (0, x)] [(0, x), v0, v1] S h n) ∧
  (∀ (d : Nat) (v i a : Int) (l0 l1 l2 l3 l4 l5 l6 : Option mx_V) (S h : mx_H) (n : Int), mx_ex d 195 116 [l0, l1, l2, l3, l4, l5, l6] [(0, v), (0, i), (2, a)] S h n = mx_gd (S a (-2) = 20 ∧ 0 ≤ i ∧ i < S a (-1)) d 195 117 [l0, l1, l2, l3, l4, l5, l6] [] S (mx_u h a i v) n) ∧
  (∀ (d : Nat) (x : Int) (l1 l2 l3 l4 l5 l6 : Option mx_V) (S h : mx_H) (n : Int), mx_ex d 195 117 [some (2, x), l1, l2, l3, l4, l5, l6] [] S h n = mx_ex d 195 118 [some (2, x), l1, l2, l3, l4, l5, l6] [(2, x)] S h n) ∧
  (∀ (d : Nat) (a : Int) (l0 l1 l2 l3 l4 l5 l6 : Option mx_V) (S h : mx_H) (n : Int), mx_ex d 195 118 [l0, l1, l2, l3, l4, l5, l6] [(2, a)] S h n = mx_gd (13 ≤ S a (-2) ∧ S a (-2) ≤ 13) d 195 121 [l0, l1, l2, l3, l4, l5, l6] [(2, S a 12)] S h n) :=
  ⟨by intros; exact rfl,
   by intros; exact eq_push rfl,
   by intros; exact eq_st rfl (by decide) (Nat.le_of_ble_eq_true rfl) rfl,
   by intros; exact eq_push rfl,
   by intros; exact eq_ic3 rfl,
   by intros; exact eq_ld rfl rfl,
   by intros; exact eq_gr rfl,
   by intros; exact eq_ld rfl rfl,
   by intros; exact eq_ld rfl rfl,
   by intros; exact eq_ld rfl rfl,
   by intros; exact eq_cv rfl (Nat.le_of_ble_eq_true rfl) rfl rfl rfl (Nat.le_of_ble_eq_true rfl),
   by intros; exact eq_iast rfl,
   by intros; exact eq_ld rfl rfl,
   by intros; exact eq_gr rfl,
   by intros; exact eq_ld rfl rfl,
   by intros; exact eq_push rfl,
   by intros; exact eq_iast rfl,
   by intros; exact eq_inc rfl rfl rfl,
   by intros; exact eq_go rfl,
   by intros; exact eq_push rfl,
   by intros; exact eq_st rfl (by decide) (Nat.le_of_ble_eq_true rfl) rfl,
   by intros; exact eq_push rfl,
   by intros; exact eq_st rfl (by decide) (Nat.le_of_ble_eq_true rfl) rfl,
   by intros; exact eq_push rfl,
   by intros; exact eq_ic4 rfl,
   by intros; exact eq_push rfl,
   by intros; exact eq_st rfl (by decide) (Nat.le_of_ble_eq_true rfl) rfl,
   by intros; exact eq_push rfl,
   by intros; exact eq_ic4 rfl,
   by intros; exact eq_ld rfl rfl,
   by intros; exact eq_gr rfl,
   by intros; exact eq_push rfl,
   by intros; exact eq_iald rfl,
   by intros; exact eq_ld rfl rfl,
   by intros; exact eq_i2 (o := mx_shr) rfl,
   by intros; exact eq_push rfl,
   by intros; exact eq_i2 (o := mx_and) rfl,
   by intros; exact eq_push rfl,
   by intros; exact eq_ic1 rfl,
   by intros; exact eq_push rfl,
   by intros; exact eq_st rfl (by decide) (Nat.le_of_ble_eq_true rfl) rfl,
   by intros; exact eq_push rfl,
   by intros; exact eq_ic4 rfl,
   by intros; exact eq_ld rfl rfl,
   by intros; exact eq_gr rfl,
   by intros; exact eq_push rfl,
   by intros; exact eq_iald rfl,
   by intros; exact eq_ld rfl rfl,
   by intros; exact eq_i2 (o := mx_shr) rfl,
   by intros; exact eq_push rfl,
   by intros; exact eq_i2 (o := mx_and) rfl,
   by intros; exact eq_push rfl,
   by intros; exact eq_ic1 rfl,
   by intros; exact eq_ld rfl rfl,
   by intros; exact eq_gr rfl,
   by intros; exact eq_push rfl,
   by intros; exact eq_ld rfl rfl,
   by intros; exact eq_iast rfl,
   by intros; exact eq_ld rfl rfl,
   by intros; exact eq_gr rfl,
   by intros; exact eq_push rfl,
   by intros; exact eq_ld rfl rfl,
   by intros; exact eq_iast rfl,
   by intros; exact eq_ld rfl rfl,
   by intros; exact eq_gr rfl,
   by intros; exact eq_push rfl,
   by intros; exact eq_ld rfl rfl,
   by intros; exact eq_iast rfl,
   by intros; exact eq_ld rfl rfl,
   by intros; exact eq_gr rfl⟩
theorem rw_X12_findWorlds_1 :
  (∀ (d : Nat) (l0 l1 l2 l3 l4 l5 l6 : Option mx_V) (v0 : mx_V) (S h : mx_H) (n : Int), mx_ex d 195 121 [l0, l1, l2, l3, l4, l5, l6] [v0] S h n = mx_ex d 195 122 [l0, l1, l2, l3, l4, l5, l6] [(0, 2), v0] S h n) ∧
  (∀ (d : Nat) (i a : Int) (l0 l1 l2 l3 l4 l5 l6 : Option mx_V) (S h : mx_H) (n : Int), mx_ex d 195 122 [l0, l1, l2, l3, l4, l5, l6] [(0, i), (2, a)] S h n = mx_gd ((S a (-2) = 20 ∨ S a (-2) = 24) ∧ 0 ≤ i ∧ i < S a (-1)) d 195 123 [l0, l1, l2, l3, l4, l5, l6] [(0, h a i)] S h n) ∧
  (∀ (d : Nat) (x : Int) (l0 l1 l2 l3 l4 l5 : Option mx_V) (v0 : mx_V) (S h : mx_H) (n : Int), mx_ex d 195 123 [l0, l1, l2, l3, l4, l5, some (0, x)] [v0] S h n = mx_ex d 195 125 [l0, l1, l2, l3, l4, l5, some (0, x)] [(0, x), v0] S h n) ∧
  (∀ (d : Nat) (b a : Int) (l0 l1 l2 l3 l4 l5 l6 : Option mx_V) (S h : mx_H) (n : Int), mx_ex d 195 125 [l0, l1, l2, l3, l4, l5, l6] [(0, b), (0, a)] S h n = mx_ex d 195 126 [l0, l1, l2, l3, l4, l5, l6] [(0, mx_shr a b)] S h n) ∧
  (∀ (d : Nat) (l0 l1 l2 l3 l4 l5 l6 : Option mx_V) (v0 : mx_V) (S h : mx_H) (n : Int), mx_ex d 195 126 [l0, l1, l2, l3, l4, l5, l6] [v0] S h n = mx_ex d 195 127 [l0, l1, l2, l3, l4, l5, l6] [(0, 1), v0] S h n) ∧
  (∀ (d : Nat) (b a : Int) (l0 l1 l2 l3 l4 l5 l6 : Option mx_V) (S h : mx_H) (n : Int), mx_ex d 195 127 [l0, l1, l2, l3, l4, l5, l6] [(0, b), (0, a)] S h n = mx_ex d 195 128 [l0, l1, l2, l3, l4, l5, l6] [(0, mx_and a b)] S h n) ∧
  (∀ (d : Nat) (l0 l1 l2 l3 l4 l5 l6 : Option mx_V) (v0 : mx_V) (S h : mx_H) (n : Int), mx_ex d 195 128 [l0, l1, l2, l3, l4, l5, l6] [v0] S h n = mx_ex d 195 129 [l0, l1, l2, l3, l4, l5, l6] [(0, 1), v0] S h n) ∧
  (∀ (d : Nat) (b a : Int) (l0 l1 l2 l3 l4 l5 l6 : Option mx_V) (S h : mx_H) (n : Int), mx_ex d 195 129 [l0, l1, l2, l3, l4, l5, l6] [(0, b), (0, a)] S h n = mx_br (a = b) d 195 132 189 [l0, l1, l2, l3, l4, l5, l6] [] S h n) ∧
  (∀ (d : Nat) (x : Int) (l1 l2 l3 l4 l5 l6 : Option mx_V) (S h : mx_H) (n : Int), mx_ex d 195 132 [some (2, x), l1, l2, l3, l4, l5, l6] [] S h n = mx_ex d 195 133 [some (2, x), l1, l2, l3, l4, l5, l6] [(2, x)] S h n) ∧
  (∀ (d : Nat) (x : Int) (l0 l2 l3 l4 l5 l6 : Option mx_V) (v0 : mx_V) (S h : mx_H) (n : Int), mx_ex d 195 133 [l0, some (0, x), l2, l3, l4, l5, l6] [v0] S h n = mx_ex d 195 134 [l0, some (0, x), l2, l3, l4, l5, l6] [(0, x), v0] S h n) ∧
  (∀ (d : Nat) (x0 a : Int) (l0 l1 l2 l3 l4 l5 l6 : Option mx_V) (S h : mx_H) (n : Int), mx_ex (d + 1) 195 134 [l0, l1, l2, l3, l4, l5, l6] [(0, x0), (2, a)] S h n = mx_cl (S a (-2) = 13) d 193 [(2, a), (0, x0)] 195 137 [l0, l1, l2, l3, l4, l5, l6] [] S h n) ∧
  (∀ (d : Nat) (a : Int) (l0 l1 l2 l3 l4 l5 l6 : Option mx_V) (S h : mx_H) (n : Int), mx_ex d 195 137 [l0, l1, l2, l3, l4, l5, l6] [(0, a)] S h n = mx_br (a = 0) d 195 189 140 [l0, l1, l2, l3, l4, l5, l6] [] S h n) ∧
  (∀ (d : Nat) (x : Int) (l1 l2 l3 l4 l5 l6 : Option mx_V) (S h : mx_H) (n : Int), mx_ex d 195 140 [some (2, x), l1, l2, l3, l4, l5, l6] [] S h n = mx_ex d 195 141 [some (2, x), l1, l2, l3, l4, l5, l6] [(2, x)] S h n) ∧
  (∀ (d : Nat) (a : Int) (l0 l1 l2 l3 l4 l5 l6 : Option mx_V) (S h : mx_H) (n : Int), mx_ex d 195 141 [l0, l1, l2, l3, l4, l5, l6] [(2, a)] S h n = mx_gd (13 ≤ S a (-2) ∧ S a (-2) ≤ 13) d 195 144 [l0, l1, l2, l3, l4, l5, l6] [(2, S a 13)] S h n) ∧
  (∀ (d : Nat) (l0 l1 l2 l3 l4 l5 l6 : Option mx_V) (v0 : mx_V) (S h : mx_H) (n : Int), mx_ex d 195 144 [l0, l1, l2, l3, l4, l5, l6] [v0] S h n = mx_ex d 195 145 [l0, l1, l2, l3, l4, l5, l6] [(0, 0), v0] S h n) ∧
  (∀ (d : Nat) (a b : Int) (l0 l1 l2 l3 l4 l5 l6 : Option mx_V) (S h : mx_H) (n : Int), mx_ex d 195 145 [l0, l1, l2, l3, l4, l5, l6] [(0, a), (2, b)] S h n = mx_ex d 195 146 [l0, l1, l2, l3, l4, l5, l6] [(0, a), (2, b), (0, a), (2, b)] S h n) ∧
  (∀ (d : Nat) (i a : Int) (l0 l1 l2 l3 l4 l5 l6 : Option mx_V) (v2 v3 : mx_V) (S h : mx_H) (n : Int), mx_ex d 195 146 [l0, l1, l2, l3, l4, l5, l6] [(0, i), (2, a), v2, v3] S h n = mx_gd ((S a (-2) = 20 ∨ S a (-2) = 24) ∧ 0 ≤ i ∧ i < S a (-1)) d 195 147 [l0, l1, l2, l3, l4, l5, l6] [(0, h a i), v2, v3] S h n) ∧
  (∀ (d : Nat) (l0 l1 l2 l3 l4 l5 l6 : Option mx_V) (v0 v1 v2 : mx_V) (S h : mx_H) (n : Int), mx_ex d 195 147 [l0, l1, l2, l3, l4, l5, l6] [v0, v1, v2] S h n = mx_ex d 195 148 [l0, l1, l2, l3, l4, l5, l6] [(0, 1), v0, v1, v2] S h n) ∧
  (∀ (d : Nat) (x : Int) (l0 l1 l2 l3 l5 l6 : Option mx_V) (v0 v1 v2 v3 : mx_V) (S h : mx_H) (n : Int), mx_ex d 195 148 [l0, l1, l2, l3, some (0, x), l5, l6] [v0, v1, v2, v3] S h n = mx_ex d 195 150 [l0, l1, l2, l3, some (0, x), l5, l6] [(0, x), v0, v1, v2, v3] S h n) ∧
  (∀ (d : Nat) (b a : Int) (l0 l1 l2 l3 l4 l5 l6 : Option mx_V) (v2 v3 v4 : mx_V) (S h : mx_H) (n : Int), mx_ex d 195 150 [l0, l1, l2, l3, l4, l5, l6] [(0, b), (0, a), v2, v3, v4] S h n = mx_ex d 195 151 [l0, l1, l2, l3, l4, l5, l6] [(0, mx_shl a b), v2, v3, v4] S h n) ∧
  (∀ (d : Nat) (b a : Int) (l0 l1 l2 l3 l4 l5 l6 : Option mx_V) (v2 v3 : mx_V) (S h : mx_H) (n : Int), mx_ex d 195 151 [l0, l1, l2, l3, l4, l5, l6] [(0, b), (0, a), v2, v3] S h n = mx_ex d 195 152 [l0, l1, l2, l3, l4, l5, l6] [(0, mx_or a b), v2, v3] S h n) ∧
  (∀ (d : Nat) (v i a : Int) (l0 l1 l2 l3 l4 l5 l6 : Option mx_V) (S h : mx_H) (n : Int), mx_ex d 195 152 [l0, l1, l2, l3, l4, l5, l6] [(0, v), (0, i), (2, a)] S h n = mx_gd (S a (-2) = 20 ∧ 0 ≤ i ∧ i < S a (-1)) d 195 153 [l0, l1, l2, l3, l4, l5, l6] [] S (mx_u h a i v) n) ∧
  (∀ (d : Nat) (x : Int) (l1 l2 l3 l4 l5 l6 : Option mx_V) (S h : mx_H) (n : Int), mx_ex d 195 153 [some (2, x), l1, l2, l3, l4, l5, l6] [] S h n = mx_ex d 195 154 [some (2, x), l1, l2, l3, l4, l5, l6] [(2, x)] S h n) ∧
  (∀ (d : Nat) (a : Int) (l0 l1 l2 l3 l4 l5 l6 : Option mx_V) (S h : mx_H) (n : Int), mx_ex d 195 154 [l0, l1, l2, l3, l4, l5, l6] [(2, a)] S h n = mx_gd (13 ≤ S a (-2) ∧ S a (-2) ≤ 13) d 195 157 [l0, l1, l2, l3, l4, l5, l6] [(2, S a 13)] S h n) ∧
  (∀ (d : Nat) (l0 l1 l2 l3 l4 l5 l6 : Option mx_V) (v0 : mx_V) (S h : mx_H) (n : Int), mx_ex d 195 157 [l0, l1, l2, l3, l4, l5, l6] [v0] S h n = mx_ex d 195 158 [l0, l1, l2, l3, l4, l5, l6] [(0, 1), v0] S h n) ∧
  (∀ (d : Nat) (a b : Int) (l0 l1 l2 l3 l4 l5 l6 : Option mx_V) (S h : mx_H) (n : Int), mx_ex d 195 158 [l0, l1, l2, l3, l4, l5, l6] [(0, a), (2, b)] S h n = mx_ex d 195 159 [l0, l1, l2, l3, l4, l5, l6] [(0, a), (2, b), (0, a), (2, b)] S h n) ∧
  (∀ (d : Nat) (i a : Int) (l0 l1 l2 l3 l4 l5 l6 : Option mx_V) (v2 v3 : mx_V) (S h : mx_H) (n : Int), mx_ex d 195 159 [l0, l1, l2, l3, l4, l5, l6] [(0, i), (2, a), v2, v3] S h n = mx_gd ((S a (-2) = 20 ∨ S a (-2) = 24) ∧ 0 ≤ i ∧ i < S a (-1)) d 195 160 [l0, l1, l2, l3, l4, l5, l6] [(0, h a i), v2, v3] S h n) ∧
  (∀ (d : Nat) (l0 l1 l2 l3 l4 l5 l6 : Option mx_V) (v0 v1 v2 : mx_V) (S h : mx_H) (n : Int), mx_ex d 195 160 [l0, l1, l2, l3, l4, l5, l6] [v0, v1, v2] S h n = mx_ex d 195 161 [l0, l1, l2, l3, l4, l5, l6] [(0, 1), v0, v1, v2] S h n) ∧
  (∀ (d : Nat) (x : Int) (l0 l1 l2 l3 l4 l6 : Option mx_V) (v0 v1 v2 v3 : mx_V) (S h : mx_H) (n : Int), mx_ex d 195 161 [l0, l1, l2, l3, l4, some (0, x), l6] [v0, v1, v2, v3] S h n = mx_ex d 195 163 [l0, l1, l2, l3, l4, some (0, x), l6] [(0, x), v0, v1, v2, v3] S h n) ∧
  (∀ (d : Nat) (b a : Int) (l0 l1 l2 l3 l4 l5 l6 : Option mx_V) (v2 v3 v4 : mx_V) (S h : mx_H) (n : Int), mx_ex d 195 163 [l0, l1, l2, l3, l4, l5, l6] [(0, b), (0, a), v2, v3, v4] S h n = mx_ex d 195 164 [l0, l1, l2, l3, l4, l5, l6] [(0, mx_shl a b), v2, v3, v4] S h n) ∧
  (∀ (d : Nat) (b a : Int) (l0 l1 l2 l3 l4 l5 l6 : Option mx_V) (v2 v3 : mx_V) (S h : mx_H) (n : Int), mx_ex d 195 164 [l0, l1, l2, l3, l4, l5, l6] [(0, b), (0, a), v2, v3] S h n = mx_ex d 195 165 [l0, l1, l2, l3, l4, l5, l6] [(0, mx_or a b), v2, v3] S h n) ∧
  (∀ (d : Nat) (v i a : Int) (l0 l1 l2 l3 l4 l5 l6 : Option mx_V) (S h : mx_H) (n : Int), mx_ex d 195 165 [l0, l1, l2, l3, l4, l5, l6] [(0, v), (0, i), (2, a)] S h n = mx_gd (S a (-2) = 20 ∧ 0 ≤ i ∧ i < S a (-1)) d 195 166 [l0, l1, l2, l3, l4, l5, l6] [] S (mx_u h a i v) n) ∧
  (∀ (d : Nat) (x : Int) (l1 l2 l3 l4 l5 l6 : Option mx_V) (S h : mx_H) (n : Int), mx_ex d 195 166 [some (2, x), l1, l2, l3, l4, l5, l6] [] S h n = mx_ex d 195 167 [some (2, x), l1, l2, l3, l4, l5, l6] [(2, x)] S h n) ∧
  (∀ (d : Nat) (a : Int) (l0 l1 l2 l3 l4 l5 l6 : Option mx_V) (S h : mx_H) (n : Int), mx_ex d 195 167 [l0, l1, l2, l3, l4, l5, l6] [(2, a)] S h n = mx_gd (13 ≤ S a (-2) ∧ S a (-2) ≤ 13) d 195 170 [l0, l1, l2, l3, l4, l5, l6] [(2, S a 13)] S h n) ∧
  (∀ (d : Nat) (l0 l1 l2 l3 l4 l5 l6 : Option mx_V) (v0 : mx_V) (S h : mx_H) (n : Int), mx_ex d 195 170 [l0, l1, l2, l3, l4, l5, l6] [v0] S h n = mx_ex d 195 171 [l0, l1, l2, l3, l4, l5, l6] [(0, 2), v0] S h n) ∧
  (∀ (d : Nat) (a b : Int) (l0 l1 l2 l3 l4 l5 l6 : Option mx_V) (S h : mx_H) (n : Int), mx_ex d 195 171 [l0, l1, l2, l3, l4, l5, l6] [(0, a), (2, b)] S h n = mx_ex d 195 172 [l0, l1, l2, l3, l4, l5, l6] [(0, a), (2, b), (0, a), (2, b)] S h n) ∧
  (∀ (d : Nat) (i a : Int) (l0 l1 l2 l3 l4 l5 l6 : Option mx_V) (v2 v3 : mx_V) (S h : mx_H) (n : Int), mx_ex d 195 172 [l0, l1, l2, l3, l4, l5, l6] [(0, i), (2, a), v2, v3] S h n = mx_gd ((S a (-2) = 20 ∨ S a (-2) = 24) ∧ 0 ≤ i ∧ i < S a (-1)) d 195 173 [l0, l1, l2, l3, l4, l5, l6] [(0, h a i), v2, v3] S h n) ∧
  (∀ (d : Nat) (l0 l1 l2 l3 l4 l5 l6 : Option mx_V) (v0 v1 v2 : mx_V) (S h : mx_H) (n : Int), mx_ex d 195 173 [l0, l1, l2, l3, l4, l5, l6] [v0, v1, v2] S h n = mx_ex d 195 174 [l0, l1, l2, l3, l4, l5, l6] [(0, 1), v0, v1, v2] S h n) ∧
  (∀ (d : Nat) (x : Int) (l0 l1 l2 l3 l4 l5 : Option mx_V) (v0 v1 v2 v3 : mx_V) (S h : mx_H) (n : Int), mx_ex d 195 174 [l0, l1, l2, l3, l4, l5, some (0, x)] [v0, v1, v2, v3] S h n = mx_ex d 195 176 [l0, l1, l2, l3, l4, l5, some (0, x)] [(0, x), v0, v1, v2, v3] S h n) ∧
  (∀ (d : Nat) (b a : Int) (l0 l1 l2 l3 l4 l5 l6 : Option mx_V) (v2 v3 v4 : mx_V) (S h : mx_H) (n : Int), mx_ex d 195 176 [l0, l1, l2, l3, l4, l5, l6] [(0, b), (0, a), v2, v3, v4] S h n = mx_ex d 195 177 [l0, l1, l2, l3, l4, l5, l6] [(0, mx_shl a b), v2, v3, v4] S h n) ∧
  (∀ (d : Nat) (b a : Int) (l0 l1 l2 l3 l4 l5 l6 : Option mx_V) (v2 v3 : mx_V) (S h : mx_H) (n : Int), mx_ex d 195 177 [l0, l1, l2, l3, l4, l5, l6] [(0, b), (0, a), v2, v3] S h n = mx_ex d 195 178 [l0, l1, l2, l3, l4, l5, l6] [(0, mx_or a b), v2, v3] S h n) ∧
  (∀ (d : Nat) (v i a : Int) (l0 l1 l2 l3 l4 l5 l6 : Option mx_V) (S h : mx_H) (n : Int), mx_ex d 195 178 [l0, l1, l2, l3, l4, l5, l6] [(0, v), (0, i), (2, a)] S h n = mx_gd (S a (-2) = 20 ∧ 0 ≤ i ∧ i < S a (-1)) d 195 179 [l0, l1, l2, l3, l4, l5, l6] [] S (mx_u h a i v) n) ∧
  (∀ (d : Nat) (x : Int) (l0 l1 l2 l4 l5 l6 : Option mx_V) (S h : mx_H) (n : Int), mx_ex d 195 179 [l0, l1, l2, some (0, x), l4, l5, l6] [] S h n = mx_ex d 195 182 [l0, l1, mx_nl l2, some (0, mx_w (x + 1)), l4, l5, l6] [] S h n) ∧
  (∀ (d : Nat) (x : Int) (l0 l1 l2 l4 l5 l6 : Option mx_V) (S h : mx_H) (n : Int), mx_ex d 195 182 [l0, l1, l2, some (0, x), l4, l5, l6] [] S h n = mx_ex d 195 183 [l0, l1, l2, some (0, x), l4, l5, l6] [(0, x)] S h n) ∧
  (∀ (d : Nat) (x : Int) (l0 l1 l3 l4 l5 l6 : Option mx_V) (v0 : mx_V) (S h : mx_H) (n : Int), mx_ex d 195 183 [l0, l1, some (0, x), l3, l4, l5, l6] [v0] S h n = mx_ex d 195 184 [l0, l1, some (0, x), l3, l4, l5, l6] [(0, x), v0] S h n) ∧
  (∀ (d : Nat) (b a : Int) (l0 l1 l2 l3 l4 l5 l6 : Option mx_V) (S h : mx_H) (n : Int), mx_ex d 195 184 [l0, l1, l2, l3, l4, l5, l6] [(0, b), (0, a)] S h n = mx_br (a = b) d 195 187 189 [l0, l1, l2, l3, l4, l5, l6] [] S h n) ∧
  (∀ (d : Nat) (x : Int) (l0 l1 l2 l4 l5 l6 : Option mx_V) (S h : mx_H) (n : Int), mx_ex d 195 187 [l0, l1, l2, some (0, x), l4, l5, l6] [] S h n = mx_ex d 195 188 [l0, l1, l2, some (0, x), l4, l5, l6] [(0, x)] S h n) ∧
  (∀ (d : Nat) (x : Int) (l0 l1 l2 l3 l4 l5 l6 : Option mx_V) (S h : mx_H) (n : Int), mx_ex d 195 188 [l0, l1, l2, l3, l4, l5, l6] [(0, x)] S h n = some (some (0, x), S, h, n)) ∧
  (∀ (d : Nat) (x : Int) (l0 l1 l2 l3 l4 l5 : Option mx_V) (S h : mx_H) (n : Int), mx_ex d 195 189 [l0, l1, l2, l3, l4, l5, some (0, x)] [] S h n = mx_ex d 195 192 [l0, l1, l2, l3, l4, mx_nl l5, some (0, mx_w (x + 1))] [] S h n) ∧
  (∀ (d : Nat) (l0 l1 l2 l3 l4 l5 l6 : Option mx_V) (S h : mx_H) (n : Int), mx_ex d 195 192 [l0, l1, l2, l3, l4, l5, l6] [] S h n = mx_ex d 195 71 [l0, l1, l2, l3, l4, l5, l6] [] S h n) ∧
  (∀ (d : Nat) (x : Int) (l0 l1 l2 l3 l4 l6 : Option mx_V) (S h : mx_H) (n : Int), mx_ex d 195 195 [l0, l1, l2, l3, l4, some (0, x), l6] [] S h n = mx_ex d 195 198 [l0, l1, l2, l3, mx_nl l4, some (0, mx_w (x + 1)), l6] [] S h n) ∧
  (∀ (d : Nat) (l0 l1 l2 l3 l4 l5 l6 : Option mx_V) (S h : mx_H) (n : Int), mx_ex d 195 198 [l0, l1, l2, l3, l4, l5, l6] [] S h n = mx_ex d 195 46 [l0, l1, l2, l3, l4, l5, l6] [] S h n) ∧
  (∀ (d : Nat) (x : Int) (l0 l1 l2 l3 l5 l6 : Option mx_V) (S h : mx_H) (n : Int), mx_ex d 195 201 [l0, l1, l2, l3, some (0, x), l5, l6] [] S h n = mx_ex d 195 204 [l0, l1, l2, mx_nl l3, some (0, mx_w (x + 1)), l5, l6] [] S h n) ∧
  (∀ (d : Nat) (l0 l1 l2 l3 l4 l5 l6 : Option mx_V) (S h : mx_H) (n : Int), mx_ex d 195 204 [l0, l1, l2, l3, l4, l5, l6] [] S h n = mx_ex d 195 36 [l0, l1, l2, l3, l4, l5, l6] [] S h n) ∧
  (∀ (d : Nat) (x : Int) (l0 l1 l2 l4 l5 l6 : Option mx_V) (S h : mx_H) (n : Int), mx_ex d 195 207 [l0, l1, l2, some (0, x), l4, l5, l6] [] S h n = mx_ex d 195 208 [l0, l1, l2, some (0, x), l4, l5, l6] [(0, x)] S h n) ∧
  (∀ (d : Nat) (x : Int) (l0 l1 l2 l3 l4 l5 l6 : Option mx_V) (S h : mx_H) (n : Int), mx_ex d 195 208 [l0, l1, l2, l3, l4, l5, l6] [(0, x)] S h n = some (some (0, x), S, h, n)) :=
  ⟨by intros; exact eq_push rfl,
   by intros; exact eq_iald rfl,
   by intros; exact eq_ld rfl rfl,
   by intros; exact eq_i2 (o := mx_shr) rfl,
   by intros; exact eq_push rfl,
   by intros; exact eq_i2 (o := mx_and) rfl,
   by intros; exact eq_push rfl,
   by intros; exact eq_ic1 rfl,
   by intros; exact eq_ld rfl rfl,
   by intros; exact eq_ld rfl rfl,
   by intros; exact eq_cv rfl (Nat.le_of_ble_eq_true rfl) rfl rfl rfl (Nat.le_of_ble_eq_true rfl),
   by intros; exact eq_if0 rfl,
   by intros; exact eq_ld rfl rfl,
   by intros; exact eq_gr rfl,
   by intros; exact eq_push rfl,
   by intros; exact eq_dup2 rfl (by decide) (by decide),
   by intros; exact eq_iald rfl,
   by intros; exact eq_push rfl,
   by intros; exact eq_ld rfl rfl,
   by intros; exact eq_i2 (o := mx_shl) rfl,
   by intros; exact eq_i2 (o := mx_or) rfl,
   by intros; exact eq_iast rfl,
   by intros; exact eq_ld rfl rfl,
   by intros; exact eq_gr rfl,
   by intros; exact eq_push rfl,
   by intros; exact eq_dup2 rfl (by decide) (by decide),
   by intros; exact eq_iald rfl,
   by intros; exact eq_push rfl,
   by intros; exact eq_ld rfl rfl,
   by intros; exact eq_i2 (o := mx_shl) rfl,
   by intros; exact eq_i2 (o := mx_or) rfl,
   by intros; exact eq_iast rfl,
   by intros; exact eq_ld rfl rfl,
   by intros; exact eq_gr rfl,
   by intros; exact eq_push rfl,
   by intros; exact eq_dup2 rfl (by decide) (by decide),
   by intros; exact eq_iald rfl,
   by intros; exact eq_push rfl,
   by intros; exact eq_ld rfl rfl,
   by intros; exact eq_i2 (o := mx_shl) rfl,
   by intros; exact eq_i2 (o := mx_or) rfl,
   by intros; exact eq_iast rfl,
   by intros; exact eq_inc rfl rfl rfl,
   by intros; exact eq_ld rfl rfl,
   by intros; exact eq_ld rfl rfl,
   by intros; exact eq_ic1 rfl,
   by intros; exact eq_ld rfl rfl,
   by intros; exact eq_ret rfl,
   by intros; exact eq_inc rfl rfl rfl,
   by intros; exact eq_go rfl,
   by intros; exact eq_inc rfl rfl rfl,
   by intros; exact eq_go rfl,
   by intros; exact eq_inc rfl rfl rfl,
   by intros; exact eq_go rfl,
   by intros; exact eq_ld rfl rfl,
   by intros; exact eq_ret rfl⟩
theorem rw_X12_worlds :
  (∀ (d : Nat) (a0 : Int) (S h : mx_H) (n : Int), mx_M d 196 [(2, a0)] S h n = mx_ex d 196 0 [some (2, a0)] [] S h n) ∧
  (∀ (d : Nat) (x : Int) (S h : mx_H) (n : Int), mx_ex d 196 0 [some (2, x)] [] S h n = mx_ex d 196 1 [some (2, x)] [(2, x)] S h n) ∧
  (∀ (d : Nat) (l0 : Option mx_V) (v0 : mx_V) (S h : mx_H) (n : Int), mx_ex d 196 1 [l0] [v0] S h n = mx_ex d 196 3 [l0] [(0, 63), v0] S h n) ∧
  (∀ (d : Nat) (l0 : Option mx_V) (v0 v1 : mx_V) (S h : mx_H) (n : Int), mx_ex d 196 3 [l0] [v0, v1] S h n = mx_ex d 196 6 [l0] [(0, 9999), v0, v1] S h n) ∧
  (∀ (d : Nat) (x0 x1 a : Int) (l0 : Option mx_V) (S h : mx_H) (n : Int), mx_ex (d + 1) 196 6 [l0] [(0, x0), (0, x1), (2, a)] S h n = mx_cl (S a (-2) = 13) d 195 [(2, a), (0, x1), (0, x0)] 196 9 [l0] [] S h n) ∧
  (∀ (d : Nat) (x : Int) (l0 : Option mx_V) (S h : mx_H) (n : Int), mx_ex d 196 9 [l0] [(0, x)] S h n = some (some (0, x), S, h, n)) :=
  ⟨by intros; exact rfl,
   by intros; exact eq_ld rfl rfl,
   by intros; exact eq_push rfl,
   by intros; exact eq_push rfl,
   by intros; exact eq_cv rfl (Nat.le_of_ble_eq_true rfl) rfl rfl rfl (Nat.le_of_ble_eq_true rfl),
   by intros; exact eq_ret rfl⟩
theorem rw_X12_hasWorld :
  (∀ (d : Nat) (a0 a1 : Int) (S h : mx_H) (n : Int), mx_M d 197 [(2, a0), (0, a1)] S h n = mx_ex d 197 0 [some (2, a0), some (0, a1)] [] S h n) ∧
  (∀ (d : Nat) (x : Int) (l1 : Option mx_V) (S h : mx_H) (n : Int), mx_ex d 197 0 [some (2, x), l1] [] S h n = mx_ex d 197 1 [some (2, x), l1] [(2, x)] S h n) ∧
  (∀ (d : Nat) (x : Int) (l0 : Option mx_V) (v0 : mx_V) (S h : mx_H) (n : Int), mx_ex d 197 1 [l0, some (0, x)] [v0] S h n = mx_ex d 197 2 [l0, some (0, x)] [(0, x), v0] S h n) ∧
  (∀ (d : Nat) (l0 l1 : Option mx_V) (v0 v1 : mx_V) (S h : mx_H) (n : Int), mx_ex d 197 2 [l0, l1] [v0, v1] S h n = mx_ex d 197 3 [l0, l1] [(0, 1), v0, v1] S h n) ∧
  (∀ (d : Nat) (x0 x1 a : Int) (l0 l1 : Option mx_V) (S h : mx_H) (n : Int), mx_ex (d + 1) 197 3 [l0, l1] [(0, x0), (0, x1), (2, a)] S h n = mx_cl (S a (-2) = 13) d 195 [(2, a), (0, x1), (0, x0)] 197 6 [l0, l1] [] S h n) ∧
  (∀ (d : Nat) (l0 l1 : Option mx_V) (v0 : mx_V) (S h : mx_H) (n : Int), mx_ex d 197 6 [l0, l1] [v0] S h n = mx_ex d 197 7 [l0, l1] [(0, 1), v0] S h n) ∧
  (∀ (d : Nat) (b a : Int) (l0 l1 : Option mx_V) (S h : mx_H) (n : Int), mx_ex d 197 7 [l0, l1] [(0, b), (0, a)] S h n = mx_br (a = b) d 197 10 14 [l0, l1] [] S h n) ∧
  (∀ (d : Nat) (l0 l1 : Option mx_V) (S h : mx_H) (n : Int), mx_ex d 197 10 [l0, l1] [] S h n = mx_ex d 197 11 [l0, l1] [(0, 1)] S h n) ∧
  (∀ (d : Nat) (l0 l1 : Option mx_V) (v0 : mx_V) (S h : mx_H) (n : Int), mx_ex d 197 11 [l0, l1] [v0] S h n = mx_ex d 197 15 [l0, l1] [v0] S h n) ∧
  (∀ (d : Nat) (l0 l1 : Option mx_V) (S h : mx_H) (n : Int), mx_ex d 197 14 [l0, l1] [] S h n = mx_ex d 197 15 [l0, l1] [(0, 0)] S h n) ∧
  (∀ (d : Nat) (x : Int) (l0 l1 : Option mx_V) (S h : mx_H) (n : Int), mx_ex d 197 15 [l0, l1] [(0, x)] S h n = mx_re (0 ≤ x ∧ x ≤ 1) (some (0, x)) S h n) :=
  ⟨by intros; exact rfl,
   by intros; exact eq_ld rfl rfl,
   by intros; exact eq_ld rfl rfl,
   by intros; exact eq_push rfl,
   by intros; exact eq_cv rfl (Nat.le_of_ble_eq_true rfl) rfl rfl rfl (Nat.le_of_ble_eq_true rfl),
   by intros; exact eq_push rfl,
   by intros; exact eq_ic1 rfl,
   by intros; exact eq_push rfl,
   by intros; exact eq_go rfl,
   by intros; exact eq_push rfl,
   by intros; exact eq_rr rfl⟩
theorem rw_X12_findWorld :
  (∀ (d : Nat) (a0 a1 : Int) (S h : mx_H) (n : Int), mx_M d 198 [(2, a0), (0, a1)] S h n = mx_ex d 198 0 [some (2, a0), some (0, a1)] [] S h n) ∧
  (∀ (d : Nat) (x : Int) (l0 : Option mx_V) (S h : mx_H) (n : Int), mx_ex d 198 0 [l0, some (0, x)] [] S h n = mx_ex d 198 1 [l0, some (0, x)] [(0, x)] S h n) ∧
  (∀ (d : Nat) (l0 l1 : Option mx_V) (v0 : mx_V) (S h : mx_H) (n : Int), mx_ex d 198 1 [l0, l1] [v0] S h n = mx_ex d 198 2 [l0, l1] [(0, 0), v0] S h n) ∧
  (∀ (d : Nat) (l0 l1 : Option mx_V) (v0 v1 : mx_V) (S h : mx_H) (n : Int), mx_ex d 198 2 [l0, l1] [v0, v1] S h n = mx_ex d 198 5 [l0, l1] [(0, 9999), v0, v1] S h n) ∧
  (∀ (d : Nat) (x0 x1 x2 : Int) (l0 l1 : Option mx_V) (S h : mx_H) (n : Int), mx_ex (d + 1) 198 5 [l0, l1] [(0, x0), (0, x1), (0, x2)] S h n = mx_rt (mx_M d 157 [(0, x2), (0, x1), (0, x0)] S h n) (d + 1) 198 8 [l0, l1] []) ∧
  (∀ (d : Nat) (a : Int) (l0 l1 : Option mx_V) (S h : mx_H) (n : Int), mx_ex d 198 8 [l0, l1] [(0, a)] S h n = mx_br (a = 0) d 198 30 11 [l0, l1] [] S h n) ∧
  (∀ (d : Nat) (x : Int) (l1 : Option mx_V) (S h : mx_H) (n : Int), mx_ex d 198 11 [some (2, x), l1] [] S h n = mx_ex d 198 12 [some (2, x), l1] [(2, x)] S h n) ∧
  (∀ (d : Nat) (l0 l1 : Option mx_V) (v0 : mx_V) (S h : mx_H) (n : Int), mx_ex d 198 12 [l0, l1] [v0] S h n = mx_ex d 198 14 [l0, l1] [(0, 63), v0] S h n) ∧
  (∀ (d : Nat) (x : Int) (l0 : Option mx_V) (v0 v1 : mx_V) (S h : mx_H) (n : Int), mx_ex d 198 14 [l0, some (0, x)] [v0, v1] S h n = mx_ex d 198 15 [l0, some (0, x)] [(0, x), v0, v1] S h n) ∧
  (∀ (d : Nat) (l0 l1 : Option mx_V) (v0 v1 v2 : mx_V) (S h : mx_H) (n : Int), mx_ex d 198 15 [l0, l1] [v0, v1, v2] S h n = mx_ex d 198 16 [l0, l1] [(0, 1), v0, v1, v2] S h n) ∧
  (∀ (d : Nat) (b a : Int) (l0 l1 : Option mx_V) (v2 v3 : mx_V) (S h : mx_H) (n : Int), mx_ex d 198 16 [l0, l1] [(0, b), (0, a), v2, v3] S h n = mx_ex d 198 17 [l0, l1] [(0, mx_w (a + b)), v2, v3] S h n) ∧
  (∀ (d : Nat) (x0 x1 a : Int) (l0 l1 : Option mx_V) (S h : mx_H) (n : Int), mx_ex (d + 1) 198 17 [l0, l1] [(0, x0), (0, x1), (2, a)] S h n = mx_cl (S a (-2) = 13) d 195 [(2, a), (0, x1), (0, x0)] 198 20 [l0, l1] [] S h n) ∧
  (∀ (d : Nat) (x : Int) (l0 : Option mx_V) (v0 : mx_V) (S h : mx_H) (n : Int), mx_ex d 198 20 [l0, some (0, x)] [v0] S h n = mx_ex d 198 21 [l0, some (0, x)] [(0, x), v0] S h n) ∧
  (∀ (d : Nat) (l0 l1 : Option mx_V) (v0 v1 : mx_V) (S h : mx_H) (n : Int), mx_ex d 198 21 [l0, l1] [v0, v1] S h n = mx_ex d 198 22 [l0, l1] [(0, 1), v0, v1] S h n) ∧
  (∀ (d : Nat) (b a : Int) (l0 l1 : Option mx_V) (v2 : mx_V) (S h : mx_H) (n : Int), mx_ex d 198 22 [l0, l1] [(0, b), (0, a), v2] S h n = mx_ex d 198 23 [l0, l1] [(0, mx_w (a + b)), v2] S h n) ∧
  (∀ (d : Nat) (b a : Int) (l0 l1 : Option mx_V) (S h : mx_H) (n : Int), mx_ex d 198 23 [l0, l1] [(0, b), (0, a)] S h n = mx_br (a = b) d 198 26 30 [l0, l1] [] S h n) ∧
  (∀ (d : Nat) (l0 l1 : Option mx_V) (S h : mx_H) (n : Int), mx_ex d 198 26 [l0, l1] [] S h n = mx_ex d 198 27 [l0, l1] [(0, 1)] S h n) ∧
  (∀ (d : Nat) (l0 l1 : Option mx_V) (v0 : mx_V) (S h : mx_H) (n : Int), mx_ex d 198 27 [l0, l1] [v0] S h n = mx_ex d 198 31 [l0, l1] [v0] S h n) ∧
  (∀ (d : Nat) (l0 l1 : Option mx_V) (S h : mx_H) (n : Int), mx_ex d 198 30 [l0, l1] [] S h n = mx_ex d 198 31 [l0, l1] [(0, 0)] S h n) ∧
  (∀ (d : Nat) (x : Int) (l0 l1 : Option mx_V) (S h : mx_H) (n : Int), mx_ex d 198 31 [l0, l1] [(0, x)] S h n = mx_re (0 ≤ x ∧ x ≤ 1) (some (0, x)) S h n) :=
  ⟨by intros; exact rfl,
   by intros; exact eq_ld rfl rfl,
   by intros; exact eq_push rfl,
   by intros; exact eq_push rfl,
   by intros; exact eq_cs rfl (Nat.le_of_ble_eq_true rfl) rfl rfl rfl (Nat.le_of_ble_eq_true rfl),
   by intros; exact eq_if0 rfl,
   by intros; exact eq_ld rfl rfl,
   by intros; exact eq_push rfl,
   by intros; exact eq_ld rfl rfl,
   by intros; exact eq_push rfl,
   by intros; exact eq_i2 (o := mx_add) rfl,
   by intros; exact eq_cv rfl (Nat.le_of_ble_eq_true rfl) rfl rfl rfl (Nat.le_of_ble_eq_true rfl),
   by intros; exact eq_ld rfl rfl,
   by intros; exact eq_push rfl,
   by intros; exact eq_i2 (o := mx_add) rfl,
   by intros; exact eq_ic1 rfl,
   by intros; exact eq_push rfl,
   by intros; exact eq_go rfl,
   by intros; exact eq_push rfl,
   by intros; exact eq_rr rfl⟩
theorem rw_X12_world :
  (∀ (d : Nat) (a0 a1 a2 : Int) (S h : mx_H) (n : Int), mx_M d 199 [(2, a0), (0, a1), (0, a2)] S h n = mx_ex d 199 0 [some (2, a0), some (0, a1), some (0, a2)] [] S h n) ∧
  (∀ (d : Nat) (x : Int) (l0 l1 : Option mx_V) (S h : mx_H) (n : Int), mx_ex d 199 0 [l0, l1, some (0, x)] [] S h n = mx_ex d 199 1 [l0, l1, some (0, x)] [(0, x)] S h n) ∧
  (∀ (d : Nat) (x0 : Int) (l0 l1 l2 : Option mx_V) (S h : mx_H) (n : Int), mx_ex (d + 1) 199 1 [l0, l1, l2] [(0, x0)] S h n = mx_rt (mx_M d 159 [(0, x0)] S h n) (d + 1) 199 4 [l0, l1, l2] []) ∧
  (∀ (d : Nat) (a : Int) (l0 l1 l2 : Option mx_V) (S h : mx_H) (n : Int), mx_ex d 199 4 [l0, l1, l2] [(0, a)] S h n = mx_br (a = 0) d 199 7 9 [l0, l1, l2] [] S h n) ∧
  (∀ (d : Nat) (l0 l1 l2 : Option mx_V) (S h : mx_H) (n : Int), mx_ex d 199 7 [l0, l1, l2] [] S h n = mx_ex d 199 8 [l0, l1, l2] [(0, (-1))] S h n) ∧
  (∀ (d : Nat) (x : Int) (l0 l1 l2 : Option mx_V) (S h : mx_H) (n : Int), mx_ex d 199 8 [l0, l1, l2] [(0, x)] S h n = some (some (0, x), S, h, n)) ∧
  (∀ (d : Nat) (x : Int) (l1 l2 : Option mx_V) (S h : mx_H) (n : Int), mx_ex d 199 9 [some (2, x), l1, l2] [] S h n = mx_ex d 199 10 [some (2, x), l1, l2] [(2, x)] S h n) ∧
  (∀ (d : Nat) (x : Int) (l0 l2 : Option mx_V) (v0 : mx_V) (S h : mx_H) (n : Int), mx_ex d 199 10 [l0, some (0, x), l2] [v0] S h n = mx_ex d 199 11 [l0, some (0, x), l2] [(0, x), v0] S h n) ∧
  (∀ (d : Nat) (x0 a : Int) (l0 l1 l2 : Option mx_V) (S h : mx_H) (n : Int), mx_ex (d + 1) 199 11 [l0, l1, l2] [(0, x0), (2, a)] S h n = mx_cl (S a (-2) = 13) d 198 [(2, a), (0, x0)] 199 14 [l0, l1, l2] [] S h n) ∧
  (∀ (d : Nat) (a : Int) (l0 l1 l2 : Option mx_V) (S h : mx_H) (n : Int), mx_ex d 199 14 [l0, l1, l2] [(0, a)] S h n = mx_br (a = 0) d 199 26 17 [l0, l1, l2] [] S h n) ∧
  (∀ (d : Nat) (x : Int) (l1 l2 : Option mx_V) (S h : mx_H) (n : Int), mx_ex d 199 17 [some (2, x), l1, l2] [] S h n = mx_ex d 199 18 [some (2, x), l1, l2] [(2, x)] S h n) ∧
  (∀ (d : Nat) (a : Int) (l0 l1 l2 : Option mx_V) (S h : mx_H) (n : Int), mx_ex d 199 18 [l0, l1, l2] [(2, a)] S h n = mx_gd (13 ≤ S a (-2) ∧ S a (-2) ≤ 13) d 199 21 [l0, l1, l2] [(2, S a 11)] S h n) ∧
  (∀ (d : Nat) (x : Int) (l0 l1 : Option mx_V) (v0 : mx_V) (S h : mx_H) (n : Int), mx_ex d 199 21 [l0, l1, some (0, x)] [v0] S h n = mx_ex d 199 22 [l0, l1, some (0, x)] [(0, x), v0] S h n) ∧
  (∀ (d : Nat) (i a : Int) (l0 l1 l2 : Option mx_V) (S h : mx_H) (n : Int), mx_ex d 199 22 [l0, l1, l2] [(0, i), (2, a)] S h n = mx_gd ((S a (-2) = 20 ∨ S a (-2) = 24) ∧ 0 ≤ i ∧ i < S a (-1)) d 199 23 [l0, l1, l2] [(0, h a i)] S h n) ∧
  (∀ (d : Nat) (l0 l1 l2 : Option mx_V) (v0 : mx_V) (S h : mx_H) (n : Int), mx_ex d 199 23 [l0, l1, l2] [v0] S h n = mx_ex d 199 28 [l0, l1, l2] [v0] S h n) ∧
  (∀ (d : Nat) (l0 l1 l2 : Option mx_V) (S h : mx_H) (n : Int), mx_ex d 199 26 [l0, l1, l2] [] S h n = mx_ex d 199 28 [l0, l1, l2] [(0, (-3))] S h n) ∧
  (∀ (d : Nat) (x : Int) (l0 l1 l2 : Option mx_V) (S h : mx_H) (n : Int), mx_ex d 199 28 [l0, l1, l2] [(0, x)] S h n = some (some (0, x), S, h, n)) :=
  ⟨by intros; exact rfl,
   by intros; exact eq_ld rfl rfl,
   by intros; exact eq_cs rfl (Nat.le_of_ble_eq_true rfl) rfl rfl rfl (Nat.le_of_ble_eq_true rfl),
   by intros; exact eq_if1 rfl,
   by intros; exact eq_push rfl,
   by intros; exact eq_ret rfl,
   by intros; exact eq_ld rfl rfl,
   by intros; exact eq_ld rfl rfl,
   by intros; exact eq_cv rfl (Nat.le_of_ble_eq_true rfl) rfl rfl rfl (Nat.le_of_ble_eq_true rfl),
   by intros; exact eq_if0 rfl,
   by intros; exact eq_ld rfl rfl,
   by intros; exact eq_gr rfl,
   by intros; exact eq_ld rfl rfl,
   by intros; exact eq_iald rfl,
   by intros; exact eq_go rfl,
   by intros; exact eq_push rfl,
   by intros; exact eq_ret rfl⟩
theorem rw_X12_may :
  (∀ (d : Nat) (a0 a1 : Int) (S h : mx_H) (n : Int), mx_M d 200 [(2, a0), (0, a1)] S h n = mx_ex d 200 0 [some (2, a0), some (0, a1), none] [] S h n) ∧
  (∀ (d : Nat) (x : Int) (l0 l2 : Option mx_V) (S h : mx_H) (n : Int), mx_ex d 200 0 [l0, some (0, x), l2] [] S h n = mx_ex d 200 1 [l0, some (0, x), l2] [(0, x)] S h n) ∧
  (∀ (d : Nat) (x0 : Int) (l0 l1 l2 : Option mx_V) (S h : mx_H) (n : Int), mx_ex (d + 1) 200 1 [l0, l1, l2] [(0, x0)] S h n = mx_rt (mx_M d 159 [(0, x0)] S h n) (d + 1) 200 4 [l0, l1, l2] []) ∧
  (∀ (d : Nat) (a : Int) (l0 l1 l2 : Option mx_V) (S h : mx_H) (n : Int), mx_ex d 200 4 [l0, l1, l2] [(0, a)] S h n = mx_br (a = 0) d 200 7 9 [l0, l1, l2] [] S h n) ∧
  (∀ (d : Nat) (l0 l1 l2 : Option mx_V) (S h : mx_H) (n : Int), mx_ex d 200 7 [l0, l1, l2] [] S h n = mx_ex d 200 8 [l0, l1, l2] [(0, (-1))] S h n) ∧
  (∀ (d : Nat) (x : Int) (l0 l1 l2 : Option mx_V) (S h : mx_H) (n : Int), mx_ex d 200 8 [l0, l1, l2] [(0, x)] S h n = some (some (0, x), S, h, n)) ∧
  (∀ (d : Nat) (x : Int) (l1 l2 : Option mx_V) (S h : mx_H) (n : Int), mx_ex d 200 9 [some (2, x), l1, l2] [] S h n = mx_ex d 200 10 [some (2, x), l1, l2] [(2, x)] S h n) ∧
  (∀ (d : Nat) (l0 l1 l2 : Option mx_V) (v0 : mx_V) (S h : mx_H) (n : Int), mx_ex d 200 10 [l0, l1, l2] [v0] S h n = mx_ex d 200 12 [l0, l1, l2] [(0, 63), v0] S h n) ∧
  (∀ (d : Nat) (l0 l1 l2 : Option mx_V) (v0 v1 : mx_V) (S h : mx_H) (n : Int), mx_ex d 200 12 [l0, l1, l2] [v0, v1] S h n = mx_ex d 200 15 [l0, l1, l2] [(0, 9999), v0, v1] S h n) ∧
  (∀ (d : Nat) (x0 x1 a : Int) (l0 l1 l2 : Option mx_V) (S h : mx_H) (n : Int), mx_ex (d + 1) 200 15 [l0, l1, l2] [(0, x0), (0, x1), (2, a)] S h n = mx_cl (S a (-2) = 13) d 195 [(2, a), (0, x1), (0, x0)] 200 18 [l0, l1, l2] [] S h n) ∧
  (∀ (d : Nat) (x : Int) (l0 l1 l2 : Option mx_V) (S h : mx_H) (n : Int), mx_ex d 200 18 [l0, l1, l2] [(0, x)] S h n = mx_ex d 200 19 [l0, mx_nl l1, some (0, x)] [] S h n) ∧
  (∀ (d : Nat) (x : Int) (l1 l2 : Option mx_V) (S h : mx_H) (n : Int), mx_ex d 200 19 [some (2, x), l1, l2] [] S h n = mx_ex d 200 20 [some (2, x), l1, l2] [(2, x)] S h n) ∧
  (∀ (d : Nat) (a : Int) (l0 l1 l2 : Option mx_V) (S h : mx_H) (n : Int), mx_ex d 200 20 [l0, l1, l2] [(2, a)] S h n = mx_gd (13 ≤ S a (-2) ∧ S a (-2) ≤ 13) d 200 23 [l0, l1, l2] [(2, S a 13)] S h n) ∧
  (∀ (d : Nat) (x : Int) (l0 l2 : Option mx_V) (v0 : mx_V) (S h : mx_H) (n : Int), mx_ex d 200 23 [l0, some (0, x), l2] [v0] S h n = mx_ex d 200 24 [l0, some (0, x), l2] [(0, x), v0] S h n) ∧
  (∀ (d : Nat) (i a : Int) (l0 l1 l2 : Option mx_V) (S h : mx_H) (n : Int), mx_ex d 200 24 [l0, l1, l2] [(0, i), (2, a)] S h n = mx_gd ((S a (-2) = 20 ∨ S a (-2) = 24) ∧ 0 ≤ i ∧ i < S a (-1)) d 200 25 [l0, l1, l2] [(0, h a i)] S h n) ∧
  (∀ (d : Nat) (x : Int) (l0 l1 l2 : Option mx_V) (S h : mx_H) (n : Int), mx_ex d 200 25 [l0, l1, l2] [(0, x)] S h n = some (some (0, x), S, h, n)) :=
  ⟨by intros; exact rfl,
   by intros; exact eq_ld rfl rfl,
   by intros; exact eq_cs rfl (Nat.le_of_ble_eq_true rfl) rfl rfl rfl (Nat.le_of_ble_eq_true rfl),
   by intros; exact eq_if1 rfl,
   by intros; exact eq_push rfl,
   by intros; exact eq_ret rfl,
   by intros; exact eq_ld rfl rfl,
   by intros; exact eq_push rfl,
   by intros; exact eq_push rfl,
   by intros; exact eq_cv rfl (Nat.le_of_ble_eq_true rfl) rfl rfl rfl (Nat.le_of_ble_eq_true rfl),
   by intros; exact eq_st rfl (by decide) (Nat.le_of_ble_eq_true rfl) rfl,
   by intros; exact eq_ld rfl rfl,
   by intros; exact eq_gr rfl,
   by intros; exact eq_ld rfl rfl,
   by intros; exact eq_iald rfl,
   by intros; exact eq_ret rfl⟩
theorem rh_X12_sure_21 : ∀ (d : Nat) (x : Int) (l0 l1 l2 : Option mx_V) (S h : mx_H) (n : Int), mx_ex d 201 21 [l0, l1, l2, some (0, x)] [] S h n = mx_ex d 201 22 [l0, l1, l2, some (0, x)] [(0, x)] S h n := by intros; exact eq_ld rfl rfl
theorem rw_X12_sure :
  (∀ (d : Nat) (a0 a1 : Int) (S h : mx_H) (n : Int), mx_M d 201 [(2, a0), (0, a1)] S h n = mx_ex d 201 0 [some (2, a0), some (0, a1), none, none] [] S h n) ∧
  (∀ (d : Nat) (x : Int) (l0 l2 l3 : Option mx_V) (S h : mx_H) (n : Int), mx_ex d 201 0 [l0, some (0, x), l2, l3] [] S h n = mx_ex d 201 1 [l0, some (0, x), l2, l3] [(0, x)] S h n) ∧
  (∀ (d : Nat) (x0 : Int) (l0 l1 l2 l3 : Option mx_V) (S h : mx_H) (n : Int), mx_ex (d + 1) 201 1 [l0, l1, l2, l3] [(0, x0)] S h n = mx_rt (mx_M d 159 [(0, x0)] S h n) (d + 1) 201 4 [l0, l1, l2, l3] []) ∧
  (∀ (d : Nat) (a : Int) (l0 l1 l2 l3 : Option mx_V) (S h : mx_H) (n : Int), mx_ex d 201 4 [l0, l1, l2, l3] [(0, a)] S h n = mx_br (a = 0) d 201 7 9 [l0, l1, l2, l3] [] S h n) ∧
  (∀ (d : Nat) (l0 l1 l2 l3 : Option mx_V) (S h : mx_H) (n : Int), mx_ex d 201 7 [l0, l1, l2, l3] [] S h n = mx_ex d 201 8 [l0, l1, l2, l3] [(0, (-1))] S h n) ∧
  (∀ (d : Nat) (x : Int) (l0 l1 l2 l3 : Option mx_V) (S h : mx_H) (n : Int), mx_ex d 201 8 [l0, l1, l2, l3] [(0, x)] S h n = some (some (0, x), S, h, n)) ∧
  (∀ (d : Nat) (x : Int) (l1 l2 l3 : Option mx_V) (S h : mx_H) (n : Int), mx_ex d 201 9 [some (2, x), l1, l2, l3] [] S h n = mx_ex d 201 10 [some (2, x), l1, l2, l3] [(2, x)] S h n) ∧
  (∀ (d : Nat) (l0 l1 l2 l3 : Option mx_V) (v0 : mx_V) (S h : mx_H) (n : Int), mx_ex d 201 10 [l0, l1, l2, l3] [v0] S h n = mx_ex d 201 12 [l0, l1, l2, l3] [(0, 63), v0] S h n) ∧
  (∀ (d : Nat) (l0 l1 l2 l3 : Option mx_V) (v0 v1 : mx_V) (S h : mx_H) (n : Int), mx_ex d 201 12 [l0, l1, l2, l3] [v0, v1] S h n = mx_ex d 201 15 [l0, l1, l2, l3] [(0, 9999), v0, v1] S h n) ∧
  (∀ (d : Nat) (x0 x1 a : Int) (l0 l1 l2 l3 : Option mx_V) (S h : mx_H) (n : Int), mx_ex (d + 1) 201 15 [l0, l1, l2, l3] [(0, x0), (0, x1), (2, a)] S h n = mx_cl (S a (-2) = 13) d 195 [(2, a), (0, x1), (0, x0)] 201 18 [l0, l1, l2, l3] [] S h n) ∧
  (∀ (d : Nat) (x : Int) (l0 l1 l2 l3 : Option mx_V) (S h : mx_H) (n : Int), mx_ex d 201 18 [l0, l1, l2, l3] [(0, x)] S h n = mx_ex d 201 19 [l0, mx_nl l1, some (0, x), l3] [] S h n) ∧
  (∀ (d : Nat) (l0 l1 l2 l3 : Option mx_V) (S h : mx_H) (n : Int), mx_ex d 201 19 [l0, l1, l2, l3] [] S h n = mx_ex d 201 20 [l0, l1, l2, l3] [(0, 2)] S h n) ∧
  (∀ (d : Nat) (x : Int) (l0 l1 l2 l3 : Option mx_V) (S h : mx_H) (n : Int), mx_ex d 201 20 [l0, l1, l2, l3] [(0, x)] S h n = mx_ex d 201 21 [l0, l1, mx_nl l2, some (0, x)] [] S h n) ∧
  (∀ (d : Nat) (l0 l1 l2 l3 : Option mx_V) (v0 : mx_V) (S h : mx_H) (n : Int), mx_ex d 201 22 [l0, l1, l2, l3] [v0] S h n = mx_ex d 201 24 [l0, l1, l2, l3] [(0, 16), v0] S h n) ∧
  (∀ (d : Nat) (b a : Int) (l0 l1 l2 l3 : Option mx_V) (S h : mx_H) (n : Int), mx_ex d 201 24 [l0, l1, l2, l3] [(0, b), (0, a)] S h n = mx_br (b < a) d 201 47 27 [l0, l1, l2, l3] [] S h n) ∧
  (∀ (d : Nat) (x : Int) (l1 l2 l3 : Option mx_V) (S h : mx_H) (n : Int), mx_ex d 201 27 [some (2, x), l1, l2, l3] [] S h n = mx_ex d 201 28 [some (2, x), l1, l2, l3] [(2, x)] S h n) ∧
  (∀ (d : Nat) (a : Int) (l0 l1 l2 l3 : Option mx_V) (S h : mx_H) (n : Int), mx_ex d 201 28 [l0, l1, l2, l3] [(2, a)] S h n = mx_gd (13 ≤ S a (-2) ∧ S a (-2) ≤ 13) d 201 31 [l0, l1, l2, l3] [(2, S a 13)] S h n) ∧
  (∀ (d : Nat) (x : Int) (l0 l2 l3 : Option mx_V) (v0 : mx_V) (S h : mx_H) (n : Int), mx_ex d 201 31 [l0, some (0, x), l2, l3] [v0] S h n = mx_ex d 201 32 [l0, some (0, x), l2, l3] [(0, x), v0] S h n) ∧
  (∀ (d : Nat) (i a : Int) (l0 l1 l2 l3 : Option mx_V) (S h : mx_H) (n : Int), mx_ex d 201 32 [l0, l1, l2, l3] [(0, i), (2, a)] S h n = mx_gd ((S a (-2) = 20 ∨ S a (-2) = 24) ∧ 0 ≤ i ∧ i < S a (-1)) d 201 33 [l0, l1, l2, l3] [(0, h a i)] S h n) ∧
  (∀ (d : Nat) (l0 l1 l2 l3 : Option mx_V) (v0 : mx_V) (S h : mx_H) (n : Int), mx_ex d 201 33 [l0, l1, l2, l3] [v0] S h n = mx_ex d 201 34 [l0, l1, l2, l3] [(0, 1), v0] S h n) ∧
  (∀ (d : Nat) (x : Int) (l0 l1 l2 : Option mx_V) (v0 v1 : mx_V) (S h : mx_H) (n : Int), mx_ex d 201 34 [l0, l1, l2, some (0, x)] [v0, v1] S h n = mx_ex d 201 35 [l0, l1, l2, some (0, x)] [(0, x), v0, v1] S h n) ∧
  (∀ (d : Nat) (b a : Int) (l0 l1 l2 l3 : Option mx_V) (v2 : mx_V) (S h : mx_H) (n : Int), mx_ex d 201 35 [l0, l1, l2, l3] [(0, b), (0, a), v2] S h n = mx_ex d 201 36 [l0, l1, l2, l3] [(0, mx_shl a b), v2] S h n) ∧
  (∀ (d : Nat) (b a : Int) (l0 l1 l2 l3 : Option mx_V) (S h : mx_H) (n : Int), mx_ex d 201 36 [l0, l1, l2, l3] [(0, b), (0, a)] S h n = mx_br (a = b) d 201 39 41 [l0, l1, l2, l3] [] S h n) ∧
  (∀ (d : Nat) (x : Int) (l0 l1 l2 : Option mx_V) (S h : mx_H) (n : Int), mx_ex d 201 39 [l0, l1, l2, some (0, x)] [] S h n = mx_ex d 201 40 [l0, l1, l2, some (0, x)] [(0, x)] S h n) ∧
  (∀ (d : Nat) (x : Int) (l0 l1 l2 l3 : Option mx_V) (S h : mx_H) (n : Int), mx_ex d 201 40 [l0, l1, l2, l3] [(0, x)] S h n = some (some (0, x), S, h, n)) ∧
  (∀ (d : Nat) (x : Int) (l0 l1 l2 : Option mx_V) (S h : mx_H) (n : Int), mx_ex d 201 41 [l0, l1, l2, some (0, x)] [] S h n = mx_ex d 201 44 [l0, l1, mx_nl l2, some (0, mx_w (x + 1))] [] S h n) ∧
  (∀ (d : Nat) (l0 l1 l2 l3 : Option mx_V) (S h : mx_H) (n : Int), mx_ex d 201 44 [l0, l1, l2, l3] [] S h n = mx_ex d 201 21 [l0, l1, l2, l3] [] S h n) ∧
  (∀ (d : Nat) (l0 l1 l2 l3 : Option mx_V) (S h : mx_H) (n : Int), mx_ex d 201 47 [l0, l1, l2, l3] [] S h n = mx_ex d 201 49 [l0, l1, l2, l3] [(0, (-3))] S h n) ∧
  (∀ (d : Nat) (x : Int) (l0 l1 l2 l3 : Option mx_V) (S h : mx_H) (n : Int), mx_ex d 201 49 [l0, l1, l2, l3] [(0, x)] S h n = some (some (0, x), S, h, n)) :=
  ⟨by intros; exact rfl,
   by intros; exact eq_ld rfl rfl,
   by intros; exact eq_cs rfl (Nat.le_of_ble_eq_true rfl) rfl rfl rfl (Nat.le_of_ble_eq_true rfl),
   by intros; exact eq_if1 rfl,
   by intros; exact eq_push rfl,
   by intros; exact eq_ret rfl,
   by intros; exact eq_ld rfl rfl,
   by intros; exact eq_push rfl,
   by intros; exact eq_push rfl,
   by intros; exact eq_cv rfl (Nat.le_of_ble_eq_true rfl) rfl rfl rfl (Nat.le_of_ble_eq_true rfl),
   by intros; exact eq_st rfl (by decide) (Nat.le_of_ble_eq_true rfl) rfl,
   by intros; exact eq_push rfl,
   by intros; exact eq_st rfl (by decide) (Nat.le_of_ble_eq_true rfl) rfl,
   by intros; exact eq_push rfl,
   by intros; exact eq_ic4 rfl,
   by intros; exact eq_ld rfl rfl,
   by intros; exact eq_gr rfl,
   by intros; exact eq_ld rfl rfl,
   by intros; exact eq_iald rfl,
   by intros; exact eq_push rfl,
   by intros; exact eq_ld rfl rfl,
   by intros; exact eq_i2 (o := mx_shl) rfl,
   by intros; exact eq_ic1 rfl,
   by intros; exact eq_ld rfl rfl,
   by intros; exact eq_ret rfl,
   by intros; exact eq_inc rfl rfl rfl,
   by intros; exact eq_go rfl,
   by intros; exact eq_push rfl,
   by intros; exact eq_ret rfl⟩
theorem rw_X12_holds :
  (∀ (d : Nat) (a0 a1 a2 a3 a4 : Int) (S h : mx_H) (n : Int), mx_M d 202 [(2, a0), (0, a1), (0, a2), (0, a3), (0, a4)] S h n = mx_ex d 202 0 [some (2, a0), some (0, a1), some (0, a2), some (0, a3), some (0, a4)] [] S h n) ∧
  (∀ (d : Nat) (x : Int) (l1 l2 l3 l4 : Option mx_V) (S h : mx_H) (n : Int), mx_ex d 202 0 [some (2, x), l1, l2, l3, l4] [] S h n = mx_ex d 202 1 [some (2, x), l1, l2, l3, l4] [(2, x)] S h n) ∧
  (∀ (d : Nat) (x : Int) (l0 l2 l3 l4 : Option mx_V) (v0 : mx_V) (S h : mx_H) (n : Int), mx_ex d 202 1 [l0, some (0, x), l2, l3, l4] [v0] S h n = mx_ex d 202 2 [l0, some (0, x), l2, l3, l4] [(0, x), v0] S h n) ∧
  (∀ (d : Nat) (x0 a : Int) (l0 l1 l2 l3 l4 : Option mx_V) (S h : mx_H) (n : Int), mx_ex (d + 1) 202 2 [l0, l1, l2, l3, l4] [(0, x0), (2, a)] S h n = mx_cl (S a (-2) = 13) d 187 [(2, a), (0, x0)] 202 5 [l0, l1, l2, l3, l4] [] S h n) ∧
  (∀ (d : Nat) (a : Int) (l0 l1 l2 l3 l4 : Option mx_V) (S h : mx_H) (n : Int), mx_ex d 202 5 [l0, l1, l2, l3, l4] [(0, a)] S h n = mx_br (a = 0) d 202 30 8 [l0, l1, l2, l3, l4] [] S h n) ∧
  (∀ (d : Nat) (x : Int) (l0 l1 l3 l4 : Option mx_V) (S h : mx_H) (n : Int), mx_ex d 202 8 [l0, l1, some (0, x), l3, l4] [] S h n = mx_ex d 202 9 [l0, l1, some (0, x), l3, l4] [(0, x)] S h n) ∧
  (∀ (d : Nat) (x0 : Int) (l0 l1 l2 l3 l4 : Option mx_V) (S h : mx_H) (n : Int), mx_ex (d + 1) 202 9 [l0, l1, l2, l3, l4] [(0, x0)] S h n = mx_rt (mx_M d 160 [(0, x0)] S h n) (d + 1) 202 12 [l0, l1, l2, l3, l4] []) ∧
  (∀ (d : Nat) (a : Int) (l0 l1 l2 l3 l4 : Option mx_V) (S h : mx_H) (n : Int), mx_ex d 202 12 [l0, l1, l2, l3, l4] [(0, a)] S h n = mx_br (a = 0) d 202 30 15 [l0, l1, l2, l3, l4] [] S h n) ∧
  (∀ (d : Nat) (x : Int) (l0 l1 l2 l4 : Option mx_V) (S h : mx_H) (n : Int), mx_ex d 202 15 [l0, l1, l2, some (0, x), l4] [] S h n = mx_ex d 202 16 [l0, l1, l2, some (0, x), l4] [(0, x)] S h n) ∧
  (∀ (d : Nat) (x0 : Int) (l0 l1 l2 l3 l4 : Option mx_V) (S h : mx_H) (n : Int), mx_ex (d + 1) 202 16 [l0, l1, l2, l3, l4] [(0, x0)] S h n = mx_rt (mx_M d 160 [(0, x0)] S h n) (d + 1) 202 19 [l0, l1, l2, l3, l4] []) ∧
  (∀ (d : Nat) (a : Int) (l0 l1 l2 l3 l4 : Option mx_V) (S h : mx_H) (n : Int), mx_ex d 202 19 [l0, l1, l2, l3, l4] [(0, a)] S h n = mx_br (a = 0) d 202 30 22 [l0, l1, l2, l3, l4] [] S h n) ∧
  (∀ (d : Nat) (x : Int) (l0 l1 l2 l3 : Option mx_V) (S h : mx_H) (n : Int), mx_ex d 202 22 [l0, l1, l2, l3, some (0, x)] [] S h n = mx_ex d 202 24 [l0, l1, l2, l3, some (0, x)] [(0, x)] S h n) ∧
  (∀ (d : Nat) (x0 : Int) (l0 l1 l2 l3 l4 : Option mx_V) (S h : mx_H) (n : Int), mx_ex (d + 1) 202 24 [l0, l1, l2, l3, l4] [(0, x0)] S h n = mx_rt (mx_M d 160 [(0, x0)] S h n) (d + 1) 202 27 [l0, l1, l2, l3, l4] []) ∧
  (∀ (d : Nat) (a : Int) (l0 l1 l2 l3 l4 : Option mx_V) (S h : mx_H) (n : Int), mx_ex d 202 27 [l0, l1, l2, l3, l4] [(0, a)] S h n = mx_br (a = 0) d 202 30 32 [l0, l1, l2, l3, l4] [] S h n) ∧
  (∀ (d : Nat) (l0 l1 l2 l3 l4 : Option mx_V) (S h : mx_H) (n : Int), mx_ex d 202 30 [l0, l1, l2, l3, l4] [] S h n = mx_ex d 202 31 [l0, l1, l2, l3, l4] [(0, (-1))] S h n) ∧
  (∀ (d : Nat) (x : Int) (l0 l1 l2 l3 l4 : Option mx_V) (S h : mx_H) (n : Int), mx_ex d 202 31 [l0, l1, l2, l3, l4] [(0, x)] S h n = some (some (0, x), S, h, n)) ∧
  (∀ (d : Nat) (x : Int) (l1 l2 l3 l4 : Option mx_V) (S h : mx_H) (n : Int), mx_ex d 202 32 [some (2, x), l1, l2, l3, l4] [] S h n = mx_ex d 202 33 [some (2, x), l1, l2, l3, l4] [(2, x)] S h n) ∧
  (∀ (d : Nat) (a : Int) (l0 l1 l2 l3 l4 : Option mx_V) (S h : mx_H) (n : Int), mx_ex d 202 33 [l0, l1, l2, l3, l4] [(2, a)] S h n = mx_gd (13 ≤ S a (-2) ∧ S a (-2) ≤ 13) d 202 36 [l0, l1, l2, l3, l4] [(2, S a 11)] S h n) ∧
  (∀ (d : Nat) (l0 l1 l2 l3 l4 : Option mx_V) (v0 : mx_V) (S h : mx_H) (n : Int), mx_ex d 202 36 [l0, l1, l2, l3, l4] [v0] S h n = mx_ex d 202 37 [l0, l1, l2, l3, l4] [(0, 0), v0] S h n) ∧
  (∀ (d : Nat) (x : Int) (l0 l1 l3 l4 : Option mx_V) (v0 v1 : mx_V) (S h : mx_H) (n : Int), mx_ex d 202 37 [l0, l1, some (0, x), l3, l4] [v0, v1] S h n = mx_ex d 202 38 [l0, l1, some (0, x), l3, l4] [(0, x), v0, v1] S h n) ∧
  (∀ (d : Nat) (v i a : Int) (l0 l1 l2 l3 l4 : Option mx_V) (S h : mx_H) (n : Int), mx_ex d 202 38 [l0, l1, l2, l3, l4] [(0, v), (0, i), (2, a)] S h n = mx_gd (S a (-2) = 20 ∧ 0 ≤ i ∧ i < S a (-1)) d 202 39 [l0, l1, l2, l3, l4] [] S (mx_u h a i v) n) ∧
  (∀ (d : Nat) (x : Int) (l1 l2 l3 l4 : Option mx_V) (S h : mx_H) (n : Int), mx_ex d 202 39 [some (2, x), l1, l2, l3, l4] [] S h n = mx_ex d 202 40 [some (2, x), l1, l2, l3, l4] [(2, x)] S h n) ∧
  (∀ (d : Nat) (a : Int) (l0 l1 l2 l3 l4 : Option mx_V) (S h : mx_H) (n : Int), mx_ex d 202 40 [l0, l1, l2, l3, l4] [(2, a)] S h n = mx_gd (13 ≤ S a (-2) ∧ S a (-2) ≤ 13) d 202 43 [l0, l1, l2, l3, l4] [(2, S a 11)] S h n) ∧
  (∀ (d : Nat) (l0 l1 l2 l3 l4 : Option mx_V) (v0 : mx_V) (S h : mx_H) (n : Int), mx_ex d 202 43 [l0, l1, l2, l3, l4] [v0] S h n = mx_ex d 202 44 [l0, l1, l2, l3, l4] [(0, 1), v0] S h n) ∧
  (∀ (d : Nat) (x : Int) (l0 l1 l2 l4 : Option mx_V) (v0 v1 : mx_V) (S h : mx_H) (n : Int), mx_ex d 202 44 [l0, l1, l2, some (0, x), l4] [v0, v1] S h n = mx_ex d 202 45 [l0, l1, l2, some (0, x), l4] [(0, x), v0, v1] S h n) ∧
  (∀ (d : Nat) (v i a : Int) (l0 l1 l2 l3 l4 : Option mx_V) (S h : mx_H) (n : Int), mx_ex d 202 45 [l0, l1, l2, l3, l4] [(0, v), (0, i), (2, a)] S h n = mx_gd (S a (-2) = 20 ∧ 0 ≤ i ∧ i < S a (-1)) d 202 46 [l0, l1, l2, l3, l4] [] S (mx_u h a i v) n) ∧
  (∀ (d : Nat) (x : Int) (l1 l2 l3 l4 : Option mx_V) (S h : mx_H) (n : Int), mx_ex d 202 46 [some (2, x), l1, l2, l3, l4] [] S h n = mx_ex d 202 47 [some (2, x), l1, l2, l3, l4] [(2, x)] S h n) ∧
  (∀ (d : Nat) (a : Int) (l0 l1 l2 l3 l4 : Option mx_V) (S h : mx_H) (n : Int), mx_ex d 202 47 [l0, l1, l2, l3, l4] [(2, a)] S h n = mx_gd (13 ≤ S a (-2) ∧ S a (-2) ≤ 13) d 202 50 [l0, l1, l2, l3, l4] [(2, S a 11)] S h n) ∧
  (∀ (d : Nat) (l0 l1 l2 l3 l4 : Option mx_V) (v0 : mx_V) (S h : mx_H) (n : Int), mx_ex d 202 50 [l0, l1, l2, l3, l4] [v0] S h n = mx_ex d 202 51 [l0, l1, l2, l3, l4] [(0, 2), v0] S h n) ∧
  (∀ (d : Nat) (x : Int) (l0 l1 l2 l3 : Option mx_V) (v0 v1 : mx_V) (S h : mx_H) (n : Int), mx_ex d 202 51 [l0, l1, l2, l3, some (0, x)] [v0, v1] S h n = mx_ex d 202 53 [l0, l1, l2, l3, some (0, x)] [(0, x), v0, v1] S h n) ∧
  (∀ (d : Nat) (v i a : Int) (l0 l1 l2 l3 l4 : Option mx_V) (S h : mx_H) (n : Int), mx_ex d 202 53 [l0, l1, l2, l3, l4] [(0, v), (0, i), (2, a)] S h n = mx_gd (S a (-2) = 20 ∧ 0 ≤ i ∧ i < S a (-1)) d 202 54 [l0, l1, l2, l3, l4] [] S (mx_u h a i v) n) ∧
  (∀ (d : Nat) (x : Int) (l1 l2 l3 l4 : Option mx_V) (S h : mx_H) (n : Int), mx_ex d 202 54 [some (2, x), l1, l2, l3, l4] [] S h n = mx_ex d 202 55 [some (2, x), l1, l2, l3, l4] [(2, x)] S h n) ∧
  (∀ (d : Nat) (x : Int) (l0 l2 l3 l4 : Option mx_V) (v0 : mx_V) (S h : mx_H) (n : Int), mx_ex d 202 55 [l0, some (0, x), l2, l3, l4] [v0] S h n = mx_ex d 202 56 [l0, some (0, x), l2, l3, l4] [(0, x), v0] S h n) ∧
  (∀ (d : Nat) (x0 a : Int) (l0 l1 l2 l3 l4 : Option mx_V) (S h : mx_H) (n : Int), mx_ex (d + 1) 202 56 [l0, l1, l2, l3, l4] [(0, x0), (2, a)] S h n = mx_cl (S a (-2) = 13) d 192 [(2, a), (0, x0)] 202 59 [l0, l1, l2, l3, l4] [] S h n) ∧
  (∀ (d : Nat) (a : Int) (l0 l1 l2 l3 l4 : Option mx_V) (S h : mx_H) (n : Int), mx_ex d 202 59 [l0, l1, l2, l3, l4] [(0, a)] S h n = mx_br (a = 0) d 202 66 62 [l0, l1, l2, l3, l4] [] S h n) ∧
  (∀ (d : Nat) (l0 l1 l2 l3 l4 : Option mx_V) (S h : mx_H) (n : Int), mx_ex d 202 62 [l0, l1, l2, l3, l4] [] S h n = mx_ex d 202 63 [l0, l1, l2, l3, l4] [(0, 1)] S h n) ∧
  (∀ (d : Nat) (l0 l1 l2 l3 l4 : Option mx_V) (v0 : mx_V) (S h : mx_H) (n : Int), mx_ex d 202 63 [l0, l1, l2, l3, l4] [v0] S h n = mx_ex d 202 67 [l0, l1, l2, l3, l4] [v0] S h n) ∧
  (∀ (d : Nat) (l0 l1 l2 l3 l4 : Option mx_V) (S h : mx_H) (n : Int), mx_ex d 202 66 [l0, l1, l2, l3, l4] [] S h n = mx_ex d 202 67 [l0, l1, l2, l3, l4] [(0, 0)] S h n) ∧
  (∀ (d : Nat) (x : Int) (l0 l1 l2 l3 l4 : Option mx_V) (S h : mx_H) (n : Int), mx_ex d 202 67 [l0, l1, l2, l3, l4] [(0, x)] S h n = some (some (0, x), S, h, n)) :=
  ⟨by intros; exact rfl,
   by intros; exact eq_ld rfl rfl,
   by intros; exact eq_ld rfl rfl,
   by intros; exact eq_cv rfl (Nat.le_of_ble_eq_true rfl) rfl rfl rfl (Nat.le_of_ble_eq_true rfl),
   by intros; exact eq_if0 rfl,
   by intros; exact eq_ld rfl rfl,
   by intros; exact eq_cs rfl (Nat.le_of_ble_eq_true rfl) rfl rfl rfl (Nat.le_of_ble_eq_true rfl),
   by intros; exact eq_if0 rfl,
   by intros; exact eq_ld rfl rfl,
   by intros; exact eq_cs rfl (Nat.le_of_ble_eq_true rfl) rfl rfl rfl (Nat.le_of_ble_eq_true rfl),
   by intros; exact eq_if0 rfl,
   by intros; exact eq_ld rfl rfl,
   by intros; exact eq_cs rfl (Nat.le_of_ble_eq_true rfl) rfl rfl rfl (Nat.le_of_ble_eq_true rfl),
   by intros; exact eq_if1 rfl,
   by intros; exact eq_push rfl,
   by intros; exact eq_ret rfl,
   by intros; exact eq_ld rfl rfl,
   by intros; exact eq_gr rfl,
   by intros; exact eq_push rfl,
   by intros; exact eq_ld rfl rfl,
   by intros; exact eq_iast rfl,
   by intros; exact eq_ld rfl rfl,
   by intros; exact eq_gr rfl,
   by intros; exact eq_push rfl,
   by intros; exact eq_ld rfl rfl,
   by intros; exact eq_iast rfl,
   by intros; exact eq_ld rfl rfl,
   by intros; exact eq_gr rfl,
   by intros; exact eq_push rfl,
   by intros; exact eq_ld rfl rfl,
   by intros; exact eq_iast rfl,
   by intros; exact eq_ld rfl rfl,
   by intros; exact eq_ld rfl rfl,
   by intros; exact eq_cv rfl (Nat.le_of_ble_eq_true rfl) rfl rfl rfl (Nat.le_of_ble_eq_true rfl),
   by intros; exact eq_if0 rfl,
   by intros; exact eq_push rfl,
   by intros; exact eq_go rfl,
   by intros; exact eq_push rfl,
   by intros; exact eq_ret rfl⟩
theorem rh_X12_many_4 : ∀ (d : Nat) (x : Int) (l0 l1 l2 : Option mx_V) (S h : mx_H) (n : Int), mx_ex d 203 4 [l0, l1, l2, some (0, x)] [] S h n = mx_ex d 203 5 [l0, l1, l2, some (0, x)] [(0, x)] S h n := by intros; exact eq_ld rfl rfl
theorem rw_X12_many :
  (∀ (d : Nat) (a0 a1 : Int) (S h : mx_H) (n : Int), mx_M d 203 [(0, a0), (0, a1)] S h n = mx_ex d 203 0 [some (0, a0), some (0, a1), none, none] [] S h n) ∧
  (∀ (d : Nat) (l0 l1 l2 l3 : Option mx_V) (S h : mx_H) (n : Int), mx_ex d 203 0 [l0, l1, l2, l3] [] S h n = mx_ex d 203 1 [l0, l1, l2, l3] [(0, 0)] S h n) ∧
  (∀ (d : Nat) (x : Int) (l0 l1 l2 l3 : Option mx_V) (S h : mx_H) (n : Int), mx_ex d 203 1 [l0, l1, l2, l3] [(0, x)] S h n = mx_ex d 203 2 [l0, mx_nl l1, some (0, x), l3] [] S h n) ∧
  (∀ (d : Nat) (l0 l1 l2 l3 : Option mx_V) (S h : mx_H) (n : Int), mx_ex d 203 2 [l0, l1, l2, l3] [] S h n = mx_ex d 203 3 [l0, l1, l2, l3] [(0, 0)] S h n) ∧
  (∀ (d : Nat) (x : Int) (l0 l1 l2 l3 : Option mx_V) (S h : mx_H) (n : Int), mx_ex d 203 3 [l0, l1, l2, l3] [(0, x)] S h n = mx_ex d 203 4 [l0, l1, mx_nl l2, some (0, x)] [] S h n) ∧
  (∀ (d : Nat) (x : Int) (l0 l2 l3 : Option mx_V) (v0 : mx_V) (S h : mx_H) (n : Int), mx_ex d 203 5 [l0, some (0, x), l2, l3] [v0] S h n = mx_ex d 203 6 [l0, some (0, x), l2, l3] [(0, x), v0] S h n) ∧
  (∀ (d : Nat) (b a : Int) (l0 l1 l2 l3 : Option mx_V) (S h : mx_H) (n : Int), mx_ex d 203 6 [l0, l1, l2, l3] [(0, b), (0, a)] S h n = mx_br (a < b) d 203 9 23 [l0, l1, l2, l3] [] S h n) ∧
  (∀ (d : Nat) (x : Int) (l0 l1 l3 : Option mx_V) (S h : mx_H) (n : Int), mx_ex d 203 9 [l0, l1, some (0, x), l3] [] S h n = mx_ex d 203 10 [l0, l1, some (0, x), l3] [(0, x)] S h n) ∧
  (∀ (d : Nat) (x : Int) (l1 l2 l3 : Option mx_V) (v0 : mx_V) (S h : mx_H) (n : Int), mx_ex d 203 10 [some (0, x), l1, l2, l3] [v0] S h n = mx_ex d 203 11 [some (0, x), l1, l2, l3] [(0, x), v0] S h n) ∧
  (∀ (d : Nat) (x : Int) (l0 l1 l2 : Option mx_V) (v0 v1 : mx_V) (S h : mx_H) (n : Int), mx_ex d 203 11 [l0, l1, l2, some (0, x)] [v0, v1] S h n = mx_ex d 203 12 [l0, l1, l2, some (0, x)] [(0, x), v0, v1] S h n) ∧
  (∀ (d : Nat) (b a : Int) (l0 l1 l2 l3 : Option mx_V) (v2 : mx_V) (S h : mx_H) (n : Int), mx_ex d 203 12 [l0, l1, l2, l3] [(0, b), (0, a), v2] S h n = mx_ex d 203 13 [l0, l1, l2, l3] [(0, mx_shr a b), v2] S h n) ∧
  (∀ (d : Nat) (l0 l1 l2 l3 : Option mx_V) (v0 v1 : mx_V) (S h : mx_H) (n : Int), mx_ex d 203 13 [l0, l1, l2, l3] [v0, v1] S h n = mx_ex d 203 14 [l0, l1, l2, l3] [(0, 1), v0, v1] S h n) ∧
  (∀ (d : Nat) (b a : Int) (l0 l1 l2 l3 : Option mx_V) (v2 : mx_V) (S h : mx_H) (n : Int), mx_ex d 203 14 [l0, l1, l2, l3] [(0, b), (0, a), v2] S h n = mx_ex d 203 15 [l0, l1, l2, l3] [(0, mx_and a b), v2] S h n) ∧
  (∀ (d : Nat) (b a : Int) (l0 l1 l2 l3 : Option mx_V) (S h : mx_H) (n : Int), mx_ex d 203 15 [l0, l1, l2, l3] [(0, b), (0, a)] S h n = mx_ex d 203 16 [l0, l1, l2, l3] [(0, mx_w (a + b))] S h n) ∧
  (∀ (d : Nat) (x : Int) (l0 l1 l2 l3 : Option mx_V) (S h : mx_H) (n : Int), mx_ex d 203 16 [l0, l1, l2, l3] [(0, x)] S h n = mx_ex d 203 17 [l0, mx_nl l1, some (0, x), l3] [] S h n) ∧
  (∀ (d : Nat) (x : Int) (l0 l1 l2 : Option mx_V) (S h : mx_H) (n : Int), mx_ex d 203 17 [l0, l1, l2, some (0, x)] [] S h n = mx_ex d 203 20 [l0, l1, mx_nl l2, some (0, mx_w (x + 1))] [] S h n) ∧
  (∀ (d : Nat) (l0 l1 l2 l3 : Option mx_V) (S h : mx_H) (n : Int), mx_ex d 203 20 [l0, l1, l2, l3] [] S h n = mx_ex d 203 4 [l0, l1, l2, l3] [] S h n) ∧
  (∀ (d : Nat) (x : Int) (l0 l1 l3 : Option mx_V) (S h : mx_H) (n : Int), mx_ex d 203 23 [l0, l1, some (0, x), l3] [] S h n = mx_ex d 203 24 [l0, l1, some (0, x), l3] [(0, x)] S h n) ∧
  (∀ (d : Nat) (x : Int) (l0 l1 l2 l3 : Option mx_V) (S h : mx_H) (n : Int), mx_ex d 203 24 [l0, l1, l2, l3] [(0, x)] S h n = some (some (0, x), S, h, n)) :=
  ⟨by intros; exact rfl,
   by intros; exact eq_push rfl,
   by intros; exact eq_st rfl (by decide) (Nat.le_of_ble_eq_true rfl) rfl,
   by intros; exact eq_push rfl,
   by intros; exact eq_st rfl (by decide) (Nat.le_of_ble_eq_true rfl) rfl,
   by intros; exact eq_ld rfl rfl,
   by intros; exact eq_ic3 rfl,
   by intros; exact eq_ld rfl rfl,
   by intros; exact eq_ld rfl rfl,
   by intros; exact eq_ld rfl rfl,
   by intros; exact eq_i2 (o := mx_shr) rfl,
   by intros; exact eq_push rfl,
   by intros; exact eq_i2 (o := mx_and) rfl,
   by intros; exact eq_i2 (o := mx_add) rfl,
   by intros; exact eq_st rfl (by decide) (Nat.le_of_ble_eq_true rfl) rfl,
   by intros; exact eq_inc rfl rfl rfl,
   by intros; exact eq_go rfl,
   by intros; exact eq_ld rfl rfl,
   by intros; exact eq_ret rfl⟩
theorem rh_X12_proof_16 : ∀ (d : Nat) (x : Int) (l0 l1 l3 : Option mx_V) (S h : mx_H) (n : Int), mx_ex d 204 16 [l0, l1, some (0, x), l3] [] S h n = mx_ex d 204 17 [l0, l1, some (0, x), l3] [(0, x)] S h n := by intros; exact eq_ld rfl rfl
theorem rw_X12_proof :
  (∀ (d : Nat) (a0 : Int) (S h : mx_H) (n : Int), mx_M d 204 [(2, a0)] S h n = mx_ex d 204 0 [some (2, a0), none, none, none] [] S h n) ∧
  (∀ (d : Nat) (x : Int) (l1 l2 l3 : Option mx_V) (S h : mx_H) (n : Int), mx_ex d 204 0 [some (2, x), l1, l2, l3] [] S h n = mx_ex d 204 1 [some (2, x), l1, l2, l3] [(2, x)] S h n) ∧
  (∀ (d : Nat) (l0 l1 l2 l3 : Option mx_V) (v0 : mx_V) (S h : mx_H) (n : Int), mx_ex d 204 1 [l0, l1, l2, l3] [v0] S h n = mx_ex d 204 3 [l0, l1, l2, l3] [(0, 63), v0] S h n) ∧
  (∀ (d : Nat) (x0 a : Int) (l0 l1 l2 l3 : Option mx_V) (S h : mx_H) (n : Int), mx_ex (d + 1) 204 3 [l0, l1, l2, l3] [(0, x0), (2, a)] S h n = mx_cl (S a (-2) = 13) d 197 [(2, a), (0, x0)] 204 6 [l0, l1, l2, l3] [] S h n) ∧
  (∀ (d : Nat) (a : Int) (l0 l1 l2 l3 : Option mx_V) (S h : mx_H) (n : Int), mx_ex d 204 6 [l0, l1, l2, l3] [(0, a)] S h n = mx_br (a = 0) d 204 12 9 [l0, l1, l2, l3] [] S h n) ∧
  (∀ (d : Nat) (l0 l1 l2 l3 : Option mx_V) (S h : mx_H) (n : Int), mx_ex d 204 9 [l0, l1, l2, l3] [] S h n = mx_ex d 204 11 [l0, l1, l2, l3] [(0, (-3))] S h n) ∧
  (∀ (d : Nat) (x : Int) (l0 l1 l2 l3 : Option mx_V) (S h : mx_H) (n : Int), mx_ex d 204 11 [l0, l1, l2, l3] [(0, x)] S h n = some (some (0, x), S, h, n)) ∧
  (∀ (d : Nat) (l0 l1 l2 l3 : Option mx_V) (S h : mx_H) (n : Int), mx_ex d 204 12 [l0, l1, l2, l3] [] S h n = mx_ex d 204 13 [l0, l1, l2, l3] [(0, (-1))] S h n) ∧
  (∀ (d : Nat) (x : Int) (l0 l1 l2 l3 : Option mx_V) (S h : mx_H) (n : Int), mx_ex d 204 13 [l0, l1, l2, l3] [(0, x)] S h n = mx_ex d 204 14 [mx_nl l0, some (0, x), l2, l3] [] S h n) ∧
  (∀ (d : Nat) (l0 l1 l2 l3 : Option mx_V) (S h : mx_H) (n : Int), mx_ex d 204 14 [l0, l1, l2, l3] [] S h n = mx_ex d 204 15 [l0, l1, l2, l3] [(0, 0)] S h n) ∧
  (∀ (d : Nat) (x : Int) (l0 l1 l2 l3 : Option mx_V) (S h : mx_H) (n : Int), mx_ex d 204 15 [l0, l1, l2, l3] [(0, x)] S h n = mx_ex d 204 16 [l0, mx_nl l1, some (0, x), l3] [] S h n) ∧
  (∀ (d : Nat) (l0 l1 l2 l3 : Option mx_V) (v0 : mx_V) (S h : mx_H) (n : Int), mx_ex d 204 17 [l0, l1, l2, l3] [v0] S h n = mx_ex d 204 18 [l0, l1, l2, l3] [(0, 1), v0] S h n) ∧
  (∀ (d : Nat) (x : Int) (l1 l2 l3 : Option mx_V) (v0 v1 : mx_V) (S h : mx_H) (n : Int), mx_ex d 204 18 [some (2, x), l1, l2, l3] [v0, v1] S h n = mx_ex d 204 19 [some (2, x), l1, l2, l3] [(2, x), v0, v1] S h n) ∧
  (∀ (d : Nat) (a : Int) (l0 l1 l2 l3 : Option mx_V) (v1 v2 : mx_V) (S h : mx_H) (n : Int), mx_ex d 204 19 [l0, l1, l2, l3] [(2, a), v1, v2] S h n = mx_gd (13 ≤ S a (-2) ∧ S a (-2) ≤ 13) d 204 22 [l0, l1, l2, l3] [(2, S a 0), v1, v2] S h n) ∧
  (∀ (d : Nat) (l0 l1 l2 l3 : Option mx_V) (v0 v1 v2 : mx_V) (S h : mx_H) (n : Int), mx_ex d 204 22 [l0, l1, l2, l3] [v0, v1, v2] S h n = mx_ex d 204 23 [l0, l1, l2, l3] [(0, 1), v0, v1, v2] S h n) ∧
  (∀ (d : Nat) (i a : Int) (l0 l1 l2 l3 : Option mx_V) (v2 v3 : mx_V) (S h : mx_H) (n : Int), mx_ex d 204 23 [l0, l1, l2, l3] [(0, i), (2, a), v2, v3] S h n = mx_gd ((S a (-2) = 20 ∨ S a (-2) = 24) ∧ 0 ≤ i ∧ i < S a (-1)) d 204 24 [l0, l1, l2, l3] [(0, h a i), v2, v3] S h n) ∧
  (∀ (d : Nat) (b a : Int) (l0 l1 l2 l3 : Option mx_V) (v2 : mx_V) (S h : mx_H) (n : Int), mx_ex d 204 24 [l0, l1, l2, l3] [(0, b), (0, a), v2] S h n = mx_ex d 204 25 [l0, l1, l2, l3] [(0, mx_shl a b), v2] S h n) ∧
  (∀ (d : Nat) (b a : Int) (l0 l1 l2 l3 : Option mx_V) (S h : mx_H) (n : Int), mx_ex d 204 25 [l0, l1, l2, l3] [(0, b), (0, a)] S h n = mx_br (a < b) d 204 28 77 [l0, l1, l2, l3] [] S h n) ∧
  (∀ (d : Nat) (x : Int) (l0 l2 l3 : Option mx_V) (S h : mx_H) (n : Int), mx_ex d 204 28 [l0, some (0, x), l2, l3] [] S h n = mx_ex d 204 29 [l0, some (0, x), l2, l3] [(0, x)] S h n) ∧
  (∀ (d : Nat) (a : Int) (l0 l1 l2 l3 : Option mx_V) (S h : mx_H) (n : Int), mx_ex d 204 29 [l0, l1, l2, l3] [(0, a)] S h n = mx_br (a < 0) d 204 47 32 [l0, l1, l2, l3] [] S h n) ∧
  (∀ (d : Nat) (x : Int) (l0 l1 l3 : Option mx_V) (S h : mx_H) (n : Int), mx_ex d 204 32 [l0, l1, some (0, x), l3] [] S h n = mx_ex d 204 33 [l0, l1, some (0, x), l3] [(0, x)] S h n) ∧
  (∀ (d : Nat) (l0 l1 l2 l3 : Option mx_V) (v0 : mx_V) (S h : mx_H) (n : Int), mx_ex d 204 33 [l0, l1, l2, l3] [v0] S h n = mx_ex d 204 35 [l0, l1, l2, l3] [(0, 6), v0] S h n) ∧
  (∀ (d : Nat) (x0 x1 : Int) (l0 l1 l2 l3 : Option mx_V) (S h : mx_H) (n : Int), mx_ex (d + 1) 204 35 [l0, l1, l2, l3] [(0, x0), (0, x1)] S h n = mx_rt (mx_M d 203 [(0, x1), (0, x0)] S h n) (d + 1) 204 38 [l0, l1, l2, l3] []) ∧
  (∀ (d : Nat) (x : Int) (l0 l2 l3 : Option mx_V) (v0 : mx_V) (S h : mx_H) (n : Int), mx_ex d 204 38 [l0, some (0, x), l2, l3] [v0] S h n = mx_ex d 204 39 [l0, some (0, x), l2, l3] [(0, x), v0] S h n) ∧
  (∀ (d : Nat) (l0 l1 l2 l3 : Option mx_V) (v0 v1 : mx_V) (S h : mx_H) (n : Int), mx_ex d 204 39 [l0, l1, l2, l3] [v0, v1] S h n = mx_ex d 204 41 [l0, l1, l2, l3] [(0, 6), v0, v1] S h n) ∧
  (∀ (d : Nat) (x0 x1 : Int) (l0 l1 l2 l3 : Option mx_V) (v2 : mx_V) (S h : mx_H) (n : Int), mx_ex (d + 1) 204 41 [l0, l1, l2, l3] [(0, x0), (0, x1), v2] S h n = mx_rt (mx_M d 203 [(0, x1), (0, x0)] S h n) (d + 1) 204 44 [l0, l1, l2, l3] [v2]) ∧
  (∀ (d : Nat) (b a : Int) (l0 l1 l2 l3 : Option mx_V) (S h : mx_H) (n : Int), mx_ex d 204 44 [l0, l1, l2, l3] [(0, b), (0, a)] S h n = mx_br (a < b) d 204 47 51 [l0, l1, l2, l3] [] S h n) ∧
  (∀ (d : Nat) (l0 l1 l2 l3 : Option mx_V) (S h : mx_H) (n : Int), mx_ex d 204 47 [l0, l1, l2, l3] [] S h n = mx_ex d 204 48 [l0, l1, l2, l3] [(0, 1)] S h n) ∧
  (∀ (d : Nat) (l0 l1 l2 l3 : Option mx_V) (v0 : mx_V) (S h : mx_H) (n : Int), mx_ex d 204 48 [l0, l1, l2, l3] [v0] S h n = mx_ex d 204 52 [l0, l1, l2, l3] [v0] S h n) ∧
  (∀ (d : Nat) (l0 l1 l2 l3 : Option mx_V) (S h : mx_H) (n : Int), mx_ex d 204 51 [l0, l1, l2, l3] [] S h n = mx_ex d 204 52 [l0, l1, l2, l3] [(0, 0)] S h n) ∧
  (∀ (d : Nat) (x : Int) (l0 l1 l2 l3 : Option mx_V) (S h : mx_H) (n : Int), mx_ex d 204 52 [l0, l1, l2, l3] [(0, x)] S h n = mx_ex d 204 53 [l0, l1, mx_nl l2, some (0, x)] [] S h n) ∧
  (∀ (d : Nat) (x : Int) (l0 l1 l2 : Option mx_V) (S h : mx_H) (n : Int), mx_ex d 204 53 [l0, l1, l2, some (0, x)] [] S h n = mx_ex d 204 54 [l0, l1, l2, some (0, x)] [(0, x)] S h n) ∧
  (∀ (d : Nat) (a : Int) (l0 l1 l2 l3 : Option mx_V) (S h : mx_H) (n : Int), mx_ex d 204 54 [l0, l1, l2, l3] [(0, a)] S h n = mx_br (a = 0) d 204 69 57 [l0, l1, l2, l3] [] S h n) ∧
  (∀ (d : Nat) (x : Int) (l1 l2 l3 : Option mx_V) (S h : mx_H) (n : Int), mx_ex d 204 57 [some (2, x), l1, l2, l3] [] S h n = mx_ex d 204 58 [some (2, x), l1, l2, l3] [(2, x)] S h n) ∧
  (∀ (d : Nat) (x : Int) (l0 l1 l3 : Option mx_V) (v0 : mx_V) (S h : mx_H) (n : Int), mx_ex d 204 58 [l0, l1, some (0, x), l3] [v0] S h n = mx_ex d 204 59 [l0, l1, some (0, x), l3] [(0, x), v0] S h n) ∧
  (∀ (d : Nat) (x0 a : Int) (l0 l1 l2 l3 : Option mx_V) (S h : mx_H) (n : Int), mx_ex (d + 1) 204 59 [l0, l1, l2, l3] [(0, x0), (2, a)] S h n = mx_cl (S a (-2) = 13) d 197 [(2, a), (0, x0)] 204 62 [l0, l1, l2, l3] [] S h n) ∧
  (∀ (d : Nat) (a : Int) (l0 l1 l2 l3 : Option mx_V) (S h : mx_H) (n : Int), mx_ex d 204 62 [l0, l1, l2, l3] [(0, a)] S h n = mx_br (a = 0) d 204 65 69 [l0, l1, l2, l3] [] S h n) ∧
  (∀ (d : Nat) (x : Int) (l0 l1 l3 : Option mx_V) (S h : mx_H) (n : Int), mx_ex d 204 65 [l0, l1, some (0, x), l3] [] S h n = mx_ex d 204 66 [l0, l1, some (0, x), l3] [(0, x)] S h n) ∧
  (∀ (d : Nat) (l0 l1 l2 l3 : Option mx_V) (v0 : mx_V) (S h : mx_H) (n : Int), mx_ex d 204 66 [l0, l1, l2, l3] [v0] S h n = mx_ex d 204 70 [l0, l1, l2, l3] [v0] S h n) ∧
  (∀ (d : Nat) (x : Int) (l0 l2 l3 : Option mx_V) (S h : mx_H) (n : Int), mx_ex d 204 69 [l0, some (0, x), l2, l3] [] S h n = mx_ex d 204 70 [l0, some (0, x), l2, l3] [(0, x)] S h n) ∧
  (∀ (d : Nat) (x : Int) (l0 l1 l2 l3 : Option mx_V) (S h : mx_H) (n : Int), mx_ex d 204 70 [l0, l1, l2, l3] [(0, x)] S h n = mx_ex d 204 71 [mx_nl l0, some (0, x), l2, l3] [] S h n) ∧
  (∀ (d : Nat) (x : Int) (l0 l1 l3 : Option mx_V) (S h : mx_H) (n : Int), mx_ex d 204 71 [l0, l1, some (0, x), l3] [] S h n = mx_ex d 204 74 [l0, mx_nl l1, some (0, mx_w (x + 1)), l3] [] S h n) ∧
  (∀ (d : Nat) (l0 l1 l2 l3 : Option mx_V) (S h : mx_H) (n : Int), mx_ex d 204 74 [l0, l1, l2, l3] [] S h n = mx_ex d 204 16 [l0, l1, l2, l3] [] S h n) ∧
  (∀ (d : Nat) (x : Int) (l0 l2 l3 : Option mx_V) (S h : mx_H) (n : Int), mx_ex d 204 77 [l0, some (0, x), l2, l3] [] S h n = mx_ex d 204 78 [l0, some (0, x), l2, l3] [(0, x)] S h n) ∧
  (∀ (d : Nat) (x : Int) (l0 l1 l2 l3 : Option mx_V) (S h : mx_H) (n : Int), mx_ex d 204 78 [l0, l1, l2, l3] [(0, x)] S h n = some (some (0, x), S, h, n)) :=
  ⟨by intros; exact rfl,
   by intros; exact eq_ld rfl rfl,
   by intros; exact eq_push rfl,
   by intros; exact eq_cv rfl (Nat.le_of_ble_eq_true rfl) rfl rfl rfl (Nat.le_of_ble_eq_true rfl),
   by intros; exact eq_if0 rfl,
   by intros; exact eq_push rfl,
   by intros; exact eq_ret rfl,
   by intros; exact eq_push rfl,
   by intros; exact eq_st rfl (by decide) (Nat.le_of_ble_eq_true rfl) rfl,
   by intros; exact eq_push rfl,
   by intros; exact eq_st rfl (by decide) (Nat.le_of_ble_eq_true rfl) rfl,
   by intros; exact eq_push rfl,
   by intros; exact eq_ld rfl rfl,
   by intros; exact eq_gr rfl,
   by intros; exact eq_push rfl,
   by intros; exact eq_iald rfl,
   by intros; exact eq_i2 (o := mx_shl) rfl,
   by intros; exact eq_ic3 rfl,
   by intros; exact eq_ld rfl rfl,
   by intros; exact eq_if2 rfl,
   by intros; exact eq_ld rfl rfl,
   by intros; exact eq_push rfl,
   by intros; exact eq_cs rfl (Nat.le_of_ble_eq_true rfl) rfl rfl rfl (Nat.le_of_ble_eq_true rfl),
   by intros; exact eq_ld rfl rfl,
   by intros; exact eq_push rfl,
   by intros; exact eq_cs rfl (Nat.le_of_ble_eq_true rfl) rfl rfl rfl (Nat.le_of_ble_eq_true rfl),
   by intros; exact eq_ic3 rfl,
   by intros; exact eq_push rfl,
   by intros; exact eq_go rfl,
   by intros; exact eq_push rfl,
   by intros; exact eq_st rfl (by decide) (Nat.le_of_ble_eq_true rfl) rfl,
   by intros; exact eq_ld rfl rfl,
   by intros; exact eq_if0 rfl,
   by intros; exact eq_ld rfl rfl,
   by intros; exact eq_ld rfl rfl,
   by intros; exact eq_cv rfl (Nat.le_of_ble_eq_true rfl) rfl rfl rfl (Nat.le_of_ble_eq_true rfl),
   by intros; exact eq_if1 rfl,
   by intros; exact eq_ld rfl rfl,
   by intros; exact eq_go rfl,
   by intros; exact eq_ld rfl rfl,
   by intros; exact eq_st rfl (by decide) (Nat.le_of_ble_eq_true rfl) rfl,
   by intros; exact eq_inc rfl rfl rfl,
   by intros; exact eq_go rfl,
   by intros; exact eq_ld rfl rfl,
   by intros; exact eq_ret rfl⟩
theorem rh_X12_mended_25 : ∀ (d : Nat) (x : Int) (l0 l1 l3 l4 l5 l6 l7 l8 : Option mx_V) (S h : mx_H) (n : Int), mx_ex d 205 25 [l0, l1, some (0, x), l3, l4, l5, l6, l7, l8] [] S h n = mx_ex d 205 26 [l0, l1, some (0, x), l3, l4, l5, l6, l7, l8] [(0, x)] S h n := by intros; exact eq_ld rfl rfl
theorem rw_X12_mended :
  (∀ (d : Nat) (a0 a1 : Int) (S h : mx_H) (n : Int), mx_M d 205 [(2, a0), (0, a1)] S h n = mx_ex d 205 0 [some (2, a0), some (0, a1), none, none, none, none, none, none, none] [] S h n) ∧
  (∀ (d : Nat) (x : Int) (l0 l2 l3 l4 l5 l6 l7 l8 : Option mx_V) (S h : mx_H) (n : Int), mx_ex d 205 0 [l0, some (0, x), l2, l3, l4, l5, l6, l7, l8] [] S h n = mx_ex d 205 1 [l0, some (0, x), l2, l3, l4, l5, l6, l7, l8] [(0, x)] S h n) ∧
  (∀ (d : Nat) (l0 l1 l2 l3 l4 l5 l6 l7 l8 : Option mx_V) (v0 : mx_V) (S h : mx_H) (n : Int), mx_ex d 205 1 [l0, l1, l2, l3, l4, l5, l6, l7, l8] [v0] S h n = mx_ex d 205 2 [l0, l1, l2, l3, l4, l5, l6, l7, l8] [(0, 0), v0] S h n) ∧
  (∀ (d : Nat) (l0 l1 l2 l3 l4 l5 l6 l7 l8 : Option mx_V) (v0 v1 : mx_V) (S h : mx_H) (n : Int), mx_ex d 205 2 [l0, l1, l2, l3, l4, l5, l6, l7, l8] [v0, v1] S h n = mx_ex d 205 3 [l0, l1, l2, l3, l4, l5, l6, l7, l8] [(0, 2), v0, v1] S h n) ∧
  (∀ (d : Nat) (x0 x1 x2 : Int) (l0 l1 l2 l3 l4 l5 l6 l7 l8 : Option mx_V) (S h : mx_H) (n : Int), mx_ex (d + 1) 205 3 [l0, l1, l2, l3, l4, l5, l6, l7, l8] [(0, x0), (0, x1), (0, x2)] S h n = mx_rt (mx_M d 157 [(0, x2), (0, x1), (0, x0)] S h n) (d + 1) 205 6 [l0, l1, l2, l3, l4, l5, l6, l7, l8] []) ∧
  (∀ (d : Nat) (a : Int) (l0 l1 l2 l3 l4 l5 l6 l7 l8 : Option mx_V) (S h : mx_H) (n : Int), mx_ex d 205 6 [l0, l1, l2, l3, l4, l5, l6, l7, l8] [(0, a)] S h n = mx_br (a = 0) d 205 9 11 [l0, l1, l2, l3, l4, l5, l6, l7, l8] [] S h n) ∧
  (∀ (d : Nat) (l0 l1 l2 l3 l4 l5 l6 l7 l8 : Option mx_V) (S h : mx_H) (n : Int), mx_ex d 205 9 [l0, l1, l2, l3, l4, l5, l6, l7, l8] [] S h n = mx_ex d 205 10 [l0, l1, l2, l3, l4, l5, l6, l7, l8] [(0, (-1))] S h n) ∧
  (∀ (d : Nat) (x : Int) (l0 l1 l2 l3 l4 l5 l6 l7 l8 : Option mx_V) (S h : mx_H) (n : Int), mx_ex d 205 10 [l0, l1, l2, l3, l4, l5, l6, l7, l8] [(0, x)] S h n = some (some (0, x), S, h, n)) ∧
  (∀ (d : Nat) (x : Int) (l1 l2 l3 l4 l5 l6 l7 l8 : Option mx_V) (S h : mx_H) (n : Int), mx_ex d 205 11 [some (2, x), l1, l2, l3, l4, l5, l6, l7, l8] [] S h n = mx_ex d 205 12 [some (2, x), l1, l2, l3, l4, l5, l6, l7, l8] [(2, x)] S h n) ∧
  (∀ (d : Nat) (l0 l1 l2 l3 l4 l5 l6 l7 l8 : Option mx_V) (v0 : mx_V) (S h : mx_H) (n : Int), mx_ex d 205 12 [l0, l1, l2, l3, l4, l5, l6, l7, l8] [v0] S h n = mx_ex d 205 14 [l0, l1, l2, l3, l4, l5, l6, l7, l8] [(0, 63), v0] S h n) ∧
  (∀ (d : Nat) (x0 a : Int) (l0 l1 l2 l3 l4 l5 l6 l7 l8 : Option mx_V) (S h : mx_H) (n : Int), mx_ex (d + 1) 205 14 [l0, l1, l2, l3, l4, l5, l6, l7, l8] [(0, x0), (2, a)] S h n = mx_cl (S a (-2) = 13) d 197 [(2, a), (0, x0)] 205 17 [l0, l1, l2, l3, l4, l5, l6, l7, l8] [] S h n) ∧
  (∀ (d : Nat) (a : Int) (l0 l1 l2 l3 l4 l5 l6 l7 l8 : Option mx_V) (S h : mx_H) (n : Int), mx_ex d 205 17 [l0, l1, l2, l3, l4, l5, l6, l7, l8] [(0, a)] S h n = mx_br (a = 0) d 205 23 20 [l0, l1, l2, l3, l4, l5, l6, l7, l8] [] S h n) ∧
  (∀ (d : Nat) (l0 l1 l2 l3 l4 l5 l6 l7 l8 : Option mx_V) (S h : mx_H) (n : Int), mx_ex d 205 20 [l0, l1, l2, l3, l4, l5, l6, l7, l8] [] S h n = mx_ex d 205 22 [l0, l1, l2, l3, l4, l5, l6, l7, l8] [(0, (-4))] S h n) ∧
  (∀ (d : Nat) (x : Int) (l0 l1 l2 l3 l4 l5 l6 l7 l8 : Option mx_V) (S h : mx_H) (n : Int), mx_ex d 205 22 [l0, l1, l2, l3, l4, l5, l6, l7, l8] [(0, x)] S h n = some (some (0, x), S, h, n)) ∧
  (∀ (d : Nat) (l0 l1 l2 l3 l4 l5 l6 l7 l8 : Option mx_V) (S h : mx_H) (n : Int), mx_ex d 205 23 [l0, l1, l2, l3, l4, l5, l6, l7, l8] [] S h n = mx_ex d 205 24 [l0, l1, l2, l3, l4, l5, l6, l7, l8] [(0, 0)] S h n) ∧
  (∀ (d : Nat) (x : Int) (l0 l1 l2 l3 l4 l5 l6 l7 l8 : Option mx_V) (S h : mx_H) (n : Int), mx_ex d 205 24 [l0, l1, l2, l3, l4, l5, l6, l7, l8] [(0, x)] S h n = mx_ex d 205 25 [l0, mx_nl l1, some (0, x), l3, l4, l5, l6, l7, l8] [] S h n) ∧
  (∀ (d : Nat) (x : Int) (l1 l2 l3 l4 l5 l6 l7 l8 : Option mx_V) (v0 : mx_V) (S h : mx_H) (n : Int), mx_ex d 205 26 [some (2, x), l1, l2, l3, l4, l5, l6, l7, l8] [v0] S h n = mx_ex d 205 27 [some (2, x), l1, l2, l3, l4, l5, l6, l7, l8] [(2, x), v0] S h n) ∧
  (∀ (d : Nat) (a : Int) (l0 l1 l2 l3 l4 l5 l6 l7 l8 : Option mx_V) (v1 : mx_V) (S h : mx_H) (n : Int), mx_ex d 205 27 [l0, l1, l2, l3, l4, l5, l6, l7, l8] [(2, a), v1] S h n = mx_gd (13 ≤ S a (-2) ∧ S a (-2) ≤ 13) d 205 30 [l0, l1, l2, l3, l4, l5, l6, l7, l8] [(2, S a 0), v1] S h n) ∧
  (∀ (d : Nat) (l0 l1 l2 l3 l4 l5 l6 l7 l8 : Option mx_V) (v0 v1 : mx_V) (S h : mx_H) (n : Int), mx_ex d 205 30 [l0, l1, l2, l3, l4, l5, l6, l7, l8] [v0, v1] S h n = mx_ex d 205 31 [l0, l1, l2, l3, l4, l5, l6, l7, l8] [(0, 0), v0, v1] S h n) ∧
  (∀ (d : Nat) (i a : Int) (l0 l1 l2 l3 l4 l5 l6 l7 l8 : Option mx_V) (v2 : mx_V) (S h : mx_H) (n : Int), mx_ex d 205 31 [l0, l1, l2, l3, l4, l5, l6, l7, l8] [(0, i), (2, a), v2] S h n = mx_gd ((S a (-2) = 20 ∨ S a (-2) = 24) ∧ 0 ≤ i ∧ i < S a (-1)) d 205 32 [l0, l1, l2, l3, l4, l5, l6, l7, l8] [(0, h a i), v2] S h n) ∧
  (∀ (d : Nat) (l0 l1 l2 l3 l4 l5 l6 l7 l8 : Option mx_V) (v0 v1 : mx_V) (S h : mx_H) (n : Int), mx_ex d 205 32 [l0, l1, l2, l3, l4, l5, l6, l7, l8] [v0, v1] S h n = mx_ex d 205 34 [l0, l1, l2, l3, l4, l5, l6, l7, l8] [(0, 6), v0, v1] S h n) ∧
  (∀ (d : Nat) (b a : Int) (l0 l1 l2 l3 l4 l5 l6 l7 l8 : Option mx_V) (v2 : mx_V) (S h : mx_H) (n : Int), mx_ex d 205 34 [l0, l1, l2, l3, l4, l5, l6, l7, l8] [(0, b), (0, a), v2] S h n = mx_ex d 205 35 [l0, l1, l2, l3, l4, l5, l6, l7, l8] [(0, mx_w (a * b)), v2] S h n) ∧
  (∀ (d : Nat) (l0 l1 l2 l3 l4 l5 l6 l7 l8 : Option mx_V) (v0 v1 : mx_V) (S h : mx_H) (n : Int), mx_ex d 205 35 [l0, l1, l2, l3, l4, l5, l6, l7, l8] [v0, v1] S h n = mx_ex d 205 37 [l0, l1, l2, l3, l4, l5, l6, l7, l8] [(0, 16), v0, v1] S h n) ∧
  (∀ (d : Nat) (b a : Int) (l0 l1 l2 l3 l4 l5 l6 l7 l8 : Option mx_V) (v2 : mx_V) (S h : mx_H) (n : Int), mx_ex d 205 37 [l0, l1, l2, l3, l4, l5, l6, l7, l8] [(0, b), (0, a), v2] S h n = mx_ex d 205 38 [l0, l1, l2, l3, l4, l5, l6, l7, l8] [(0, mx_w (a * b)), v2] S h n) ∧
  (∀ (d : Nat) (b a : Int) (l0 l1 l2 l3 l4 l5 l6 l7 l8 : Option mx_V) (S h : mx_H) (n : Int), mx_ex d 205 38 [l0, l1, l2, l3, l4, l5, l6, l7, l8] [(0, b), (0, a)] S h n = mx_br (a < b) d 205 41 147 [l0, l1, l2, l3, l4, l5, l6, l7, l8] [] S h n) ∧
  (∀ (d : Nat) (x : Int) (l0 l1 l3 l4 l5 l6 l7 l8 : Option mx_V) (S h : mx_H) (n : Int), mx_ex d 205 41 [l0, l1, some (0, x), l3, l4, l5, l6, l7, l8] [] S h n = mx_ex d 205 42 [l0, l1, some (0, x), l3, l4, l5, l6, l7, l8] [(0, x)] S h n) ∧
  (∀ (d : Nat) (l0 l1 l2 l3 l4 l5 l6 l7 l8 : Option mx_V) (v0 : mx_V) (S h : mx_H) (n : Int), mx_ex d 205 42 [l0, l1, l2, l3, l4, l5, l6, l7, l8] [v0] S h n = mx_ex d 205 44 [l0, l1, l2, l3, l4, l5, l6, l7, l8] [(0, 96), v0] S h n) ∧
  (∀ (d : Nat) (b a : Int) (l0 l1 l2 l3 l4 l5 l6 l7 l8 : Option mx_V) (S h : mx_H) (n : Int), mx_ex d 205 44 [l0, l1, l2, l3, l4, l5, l6, l7, l8] [(0, b), (0, a)] S h n = mx_gd (¬ b = 0) d 205 45 [l0, l1, l2, l3, l4, l5, l6, l7, l8] [(0, mx_w (Int.tdiv a b))] S h n) ∧
  (∀ (d : Nat) (x : Int) (l0 l1 l2 l3 l4 l5 l6 l7 l8 : Option mx_V) (S h : mx_H) (n : Int), mx_ex d 205 45 [l0, l1, l2, l3, l4, l5, l6, l7, l8] [(0, x)] S h n = mx_ex d 205 46 [l0, l1, mx_nl l2, some (0, x), l4, l5, l6, l7, l8] [] S h n) ∧
  (∀ (d : Nat) (x : Int) (l0 l1 l3 l4 l5 l6 l7 l8 : Option mx_V) (S h : mx_H) (n : Int), mx_ex d 205 46 [l0, l1, some (0, x), l3, l4, l5, l6, l7, l8] [] S h n = mx_ex d 205 47 [l0, l1, some (0, x), l3, l4, l5, l6, l7, l8] [(0, x)] S h n) ∧
  (∀ (d : Nat) (l0 l1 l2 l3 l4 l5 l6 l7 l8 : Option mx_V) (v0 : mx_V) (S h : mx_H) (n : Int), mx_ex d 205 47 [l0, l1, l2, l3, l4, l5, l6, l7, l8] [v0] S h n = mx_ex d 205 49 [l0, l1, l2, l3, l4, l5, l6, l7, l8] [(0, 16), v0] S h n) ∧
  (∀ (d : Nat) (b a : Int) (l0 l1 l2 l3 l4 l5 l6 l7 l8 : Option mx_V) (S h : mx_H) (n : Int), mx_ex d 205 49 [l0, l1, l2, l3, l4, l5, l6, l7, l8] [(0, b), (0, a)] S h n = mx_gd (¬ b = 0) d 205 50 [l0, l1, l2, l3, l4, l5, l6, l7, l8] [(0, mx_w (Int.tdiv a b))] S h n) ∧
  (∀ (d : Nat) (l0 l1 l2 l3 l4 l5 l6 l7 l8 : Option mx_V) (v0 : mx_V) (S h : mx_H) (n : Int), mx_ex d 205 50 [l0, l1, l2, l3, l4, l5, l6, l7, l8] [v0] S h n = mx_ex d 205 52 [l0, l1, l2, l3, l4, l5, l6, l7, l8] [(0, 6), v0] S h n) ∧
  (∀ (d : Nat) (b a : Int) (l0 l1 l2 l3 l4 l5 l6 l7 l8 : Option mx_V) (S h : mx_H) (n : Int), mx_ex d 205 52 [l0, l1, l2, l3, l4, l5, l6, l7, l8] [(0, b), (0, a)] S h n = mx_gd (¬ b = 0) d 205 53 [l0, l1, l2, l3, l4, l5, l6, l7, l8] [(0, Int.tmod a b)] S h n) ∧
  (∀ (d : Nat) (x : Int) (l0 l1 l2 l3 l4 l5 l6 l7 l8 : Option mx_V) (S h : mx_H) (n : Int), mx_ex d 205 53 [l0, l1, l2, l3, l4, l5, l6, l7, l8] [(0, x)] S h n = mx_ex d 205 55 [l0, l1, l2, mx_nl l3, some (0, x), l5, l6, l7, l8] [] S h n) ∧
  (∀ (d : Nat) (x : Int) (l0 l1 l3 l4 l5 l6 l7 l8 : Option mx_V) (S h : mx_H) (n : Int), mx_ex d 205 55 [l0, l1, some (0, x), l3, l4, l5, l6, l7, l8] [] S h n = mx_ex d 205 56 [l0, l1, some (0, x), l3, l4, l5, l6, l7, l8] [(0, x)] S h n) ∧
  (∀ (d : Nat) (l0 l1 l2 l3 l4 l5 l6 l7 l8 : Option mx_V) (v0 : mx_V) (S h : mx_H) (n : Int), mx_ex d 205 56 [l0, l1, l2, l3, l4, l5, l6, l7, l8] [v0] S h n = mx_ex d 205 58 [l0, l1, l2, l3, l4, l5, l6, l7, l8] [(0, 16), v0] S h n) ∧
  (∀ (d : Nat) (b a : Int) (l0 l1 l2 l3 l4 l5 l6 l7 l8 : Option mx_V) (S h : mx_H) (n : Int), mx_ex d 205 58 [l0, l1, l2, l3, l4, l5, l6, l7, l8] [(0, b), (0, a)] S h n = mx_gd (¬ b = 0) d 205 59 [l0, l1, l2, l3, l4, l5, l6, l7, l8] [(0, Int.tmod a b)] S h n) ∧
  (∀ (d : Nat) (x : Int) (l0 l1 l2 l3 l4 l5 l6 l7 l8 : Option mx_V) (S h : mx_H) (n : Int), mx_ex d 205 59 [l0, l1, l2, l3, l4, l5, l6, l7, l8] [(0, x)] S h n = mx_ex d 205 61 [l0, l1, l2, l3, mx_nl l4, some (0, x), l6, l7, l8] [] S h n) ∧
  (∀ (d : Nat) (x : Int) (l1 l2 l3 l4 l5 l6 l7 l8 : Option mx_V) (S h : mx_H) (n : Int), mx_ex d 205 61 [some (2, x), l1, l2, l3, l4, l5, l6, l7, l8] [] S h n = mx_ex d 205 62 [some (2, x), l1, l2, l3, l4, l5, l6, l7, l8] [(2, x)] S h n) ∧
  (∀ (d : Nat) (x : Int) (l0 l1 l2 l4 l5 l6 l7 l8 : Option mx_V) (v0 : mx_V) (S h : mx_H) (n : Int), mx_ex d 205 62 [l0, l1, l2, some (0, x), l4, l5, l6, l7, l8] [v0] S h n = mx_ex d 205 63 [l0, l1, l2, some (0, x), l4, l5, l6, l7, l8] [(0, x), v0] S h n) ∧
  (∀ (d : Nat) (x : Int) (l0 l1 l2 l3 l5 l6 l7 l8 : Option mx_V) (v0 v1 : mx_V) (S h : mx_H) (n : Int), mx_ex d 205 63 [l0, l1, l2, l3, some (0, x), l5, l6, l7, l8] [v0, v1] S h n = mx_ex d 205 65 [l0, l1, l2, l3, some (0, x), l5, l6, l7, l8] [(0, x), v0, v1] S h n) ∧
  (∀ (d : Nat) (x0 x1 a : Int) (l0 l1 l2 l3 l4 l5 l6 l7 l8 : Option mx_V) (S h : mx_H) (n : Int), mx_ex (d + 1) 205 65 [l0, l1, l2, l3, l4, l5, l6, l7, l8] [(0, x0), (0, x1), (2, a)] S h n = mx_cl (S a (-2) = 13) d 179 [(2, a), (0, x1), (0, x0)] 205 68 [l0, l1, l2, l3, l4, l5, l6, l7, l8] [] S h n) ∧
  (∀ (d : Nat) (a : Int) (l0 l1 l2 l3 l4 l5 l6 l7 l8 : Option mx_V) (S h : mx_H) (n : Int), mx_ex d 205 68 [l0, l1, l2, l3, l4, l5, l6, l7, l8] [(0, a)] S h n = mx_br (a = 0) d 205 141 71 [l0, l1, l2, l3, l4, l5, l6, l7, l8] [] S h n) ∧
  (∀ (d : Nat) (x : Int) (l1 l2 l3 l4 l5 l6 l7 l8 : Option mx_V) (S h : mx_H) (n : Int), mx_ex d 205 71 [some (2, x), l1, l2, l3, l4, l5, l6, l7, l8] [] S h n = mx_ex d 205 72 [some (2, x), l1, l2, l3, l4, l5, l6, l7, l8] [(2, x)] S h n) ∧
  (∀ (d : Nat) (x : Int) (l0 l1 l2 l4 l5 l6 l7 l8 : Option mx_V) (v0 : mx_V) (S h : mx_H) (n : Int), mx_ex d 205 72 [l0, l1, l2, some (0, x), l4, l5, l6, l7, l8] [v0] S h n = mx_ex d 205 73 [l0, l1, l2, some (0, x), l4, l5, l6, l7, l8] [(0, x), v0] S h n) ∧
  (∀ (d : Nat) (l0 l1 l2 l3 l4 l5 l6 l7 l8 : Option mx_V) (v0 v1 : mx_V) (S h : mx_H) (n : Int), mx_ex d 205 73 [l0, l1, l2, l3, l4, l5, l6, l7, l8] [v0, v1] S h n = mx_ex d 205 74 [l0, l1, l2, l3, l4, l5, l6, l7, l8] [(0, 4), v0, v1] S h n) ∧
  (∀ (d : Nat) (x : Int) (l0 l1 l2 l3 l5 l6 l7 l8 : Option mx_V) (v0 v1 v2 : mx_V) (S h : mx_H) (n : Int), mx_ex d 205 74 [l0, l1, l2, l3, some (0, x), l5, l6, l7, l8] [v0, v1, v2] S h n = mx_ex d 205 76 [l0, l1, l2, l3, some (0, x), l5, l6, l7, l8] [(0, x), v0, v1, v2] S h n) ∧
  (∀ (d : Nat) (b a : Int) (l0 l1 l2 l3 l4 l5 l6 l7 l8 : Option mx_V) (v2 v3 : mx_V) (S h : mx_H) (n : Int), mx_ex d 205 76 [l0, l1, l2, l3, l4, l5, l6, l7, l8] [(0, b), (0, a), v2, v3] S h n = mx_ex d 205 77 [l0, l1, l2, l3, l4, l5, l6, l7, l8] [(0, mx_w (a + b)), v2, v3] S h n) ∧
  (∀ (d : Nat) (x0 x1 a : Int) (l0 l1 l2 l3 l4 l5 l6 l7 l8 : Option mx_V) (S h : mx_H) (n : Int), mx_ex (d + 1) 205 77 [l0, l1, l2, l3, l4, l5, l6, l7, l8] [(0, x0), (0, x1), (2, a)] S h n = mx_cl (S a (-2) = 13) d 161 [(2, a), (0, x1), (0, x0)] 205 80 [l0, l1, l2, l3, l4, l5, l6, l7, l8] [] S h n) ∧
  (∀ (d : Nat) (x : Int) (l0 l1 l2 l3 l4 l6 l7 l8 : Option mx_V) (v0 : mx_V) (S h : mx_H) (n : Int), mx_ex d 205 80 [l0, l1, l2, l3, l4, some (0, x), l6, l7, l8] [v0] S h n = mx_ex d 205 82 [l0, l1, l2, l3, l4, some (0, x), l6, l7, l8] [(0, x), v0] S h n) ∧
  (∀ (d : Nat) (b a : Int) (l0 l1 l2 l3 l4 l5 l6 l7 l8 : Option mx_V) (S h : mx_H) (n : Int), mx_ex d 205 82 [l0, l1, l2, l3, l4, l5, l6, l7, l8] [(0, b), (0, a)] S h n = mx_br (a = b) d 205 141 85 [l0, l1, l2, l3, l4, l5, l6, l7, l8] [] S h n) ∧
  (∀ (d : Nat) (x : Int) (l1 l2 l3 l4 l5 l6 l7 l8 : Option mx_V) (S h : mx_H) (n : Int), mx_ex d 205 85 [some (2, x), l1, l2, l3, l4, l5, l6, l7, l8] [] S h n = mx_ex d 205 86 [some (2, x), l1, l2, l3, l4, l5, l6, l7, l8] [(2, x)] S h n) ∧
  (∀ (d : Nat) (x : Int) (l0 l1 l2 l4 l5 l6 l7 l8 : Option mx_V) (v0 : mx_V) (S h : mx_H) (n : Int), mx_ex d 205 86 [l0, l1, l2, some (0, x), l4, l5, l6, l7, l8] [v0] S h n = mx_ex d 205 87 [l0, l1, l2, some (0, x), l4, l5, l6, l7, l8] [(0, x), v0] S h n) ∧
  (∀ (d : Nat) (x : Int) (l0 l1 l2 l3 l5 l6 l7 l8 : Option mx_V) (v0 v1 : mx_V) (S h : mx_H) (n : Int), mx_ex d 205 87 [l0, l1, l2, l3, some (0, x), l5, l6, l7, l8] [v0, v1] S h n = mx_ex d 205 89 [l0, l1, l2, l3, some (0, x), l5, l6, l7, l8] [(0, x), v0, v1] S h n) ∧
  (∀ (d : Nat) (x : Int) (l0 l1 l2 l3 l4 l6 l7 l8 : Option mx_V) (v0 v1 v2 : mx_V) (S h : mx_H) (n : Int), mx_ex d 205 89 [l0, l1, l2, l3, l4, some (0, x), l6, l7, l8] [v0, v1, v2] S h n = mx_ex d 205 91 [l0, l1, l2, l3, l4, some (0, x), l6, l7, l8] [(0, x), v0, v1, v2] S h n) ∧
  (∀ (d : Nat) (x0 x1 x2 a : Int) (l0 l1 l2 l3 l4 l5 l6 l7 l8 : Option mx_V) (S h : mx_H) (n : Int), mx_ex (d + 1) 205 91 [l0, l1, l2, l3, l4, l5, l6, l7, l8] [(0, x0), (0, x1), (0, x2), (2, a)] S h n = mx_cl (S a (-2) = 13) d 180 [(2, a), (0, x2), (0, x1), (0, x0)] 205 94 [l0, l1, l2, l3, l4, l5, l6, l7, l8] [] S h n) ∧
  (∀ (d : Nat) (x : Int) (l0 l1 l2 l3 l4 l5 l6 l7 l8 : Option mx_V) (S h : mx_H) (n : Int), mx_ex d 205 94 [l0, l1, l2, l3, l4, l5, l6, l7, l8] [(0, x)] S h n = mx_ex d 205 96 [l0, l1, l2, l3, l4, mx_nl l5, some (0, x), l7, l8] [] S h n) ∧
  (∀ (d : Nat) (x : Int) (l1 l2 l3 l4 l5 l6 l7 l8 : Option mx_V) (S h : mx_H) (n : Int), mx_ex d 205 96 [some (2, x), l1, l2, l3, l4, l5, l6, l7, l8] [] S h n = mx_ex d 205 97 [some (2, x), l1, l2, l3, l4, l5, l6, l7, l8] [(2, x)] S h n) ∧
  (∀ (d : Nat) (l0 l1 l2 l3 l4 l5 l6 l7 l8 : Option mx_V) (v0 : mx_V) (S h : mx_H) (n : Int), mx_ex d 205 97 [l0, l1, l2, l3, l4, l5, l6, l7, l8] [v0] S h n = mx_ex d 205 99 [l0, l1, l2, l3, l4, l5, l6, l7, l8] [(0, 63), v0] S h n) ∧
  (∀ (d : Nat) (x0 a : Int) (l0 l1 l2 l3 l4 l5 l6 l7 l8 : Option mx_V) (S h : mx_H) (n : Int), mx_ex (d + 1) 205 99 [l0, l1, l2, l3, l4, l5, l6, l7, l8] [(0, x0), (2, a)] S h n = mx_cl (S a (-2) = 13) d 197 [(2, a), (0, x0)] 205 102 [l0, l1, l2, l3, l4, l5, l6, l7, l8] [] S h n) ∧
  (∀ (d : Nat) (x : Int) (l0 l1 l2 l3 l4 l5 l6 l7 l8 : Option mx_V) (S h : mx_H) (n : Int), mx_ex d 205 102 [l0, l1, l2, l3, l4, l5, l6, l7, l8] [(0, x)] S h n = mx_ex d 205 104 [l0, l1, l2, l3, l4, l5, mx_nl l6, some (0, x), l8] [] S h n) ∧
  (∀ (d : Nat) (x : Int) (l1 l2 l3 l4 l5 l6 l7 l8 : Option mx_V) (S h : mx_H) (n : Int), mx_ex d 205 104 [some (2, x), l1, l2, l3, l4, l5, l6, l7, l8] [] S h n = mx_ex d 205 105 [some (2, x), l1, l2, l3, l4, l5, l6, l7, l8] [(2, x)] S h n) ∧
  (∀ (d : Nat) (x : Int) (l0 l1 l2 l4 l5 l6 l7 l8 : Option mx_V) (v0 : mx_V) (S h : mx_H) (n : Int), mx_ex d 205 105 [l0, l1, l2, some (0, x), l4, l5, l6, l7, l8] [v0] S h n = mx_ex d 205 106 [l0, l1, l2, some (0, x), l4, l5, l6, l7, l8] [(0, x), v0] S h n) ∧
  (∀ (d : Nat) (x : Int) (l0 l1 l2 l3 l5 l6 l7 l8 : Option mx_V) (v0 v1 : mx_V) (S h : mx_H) (n : Int), mx_ex d 205 106 [l0, l1, l2, l3, some (0, x), l5, l6, l7, l8] [v0, v1] S h n = mx_ex d 205 108 [l0, l1, l2, l3, some (0, x), l5, l6, l7, l8] [(0, x), v0, v1] S h n) ∧
  (∀ (d : Nat) (x : Int) (l0 l1 l2 l3 l4 l5 l7 l8 : Option mx_V) (v0 v1 v2 : mx_V) (S h : mx_H) (n : Int), mx_ex d 205 108 [l0, l1, l2, l3, l4, l5, some (0, x), l7, l8] [v0, v1, v2] S h n = mx_ex d 205 110 [l0, l1, l2, l3, l4, l5, some (0, x), l7, l8] [(0, x), v0, v1, v2] S h n) ∧
  (∀ (d : Nat) (x0 x1 x2 a : Int) (l0 l1 l2 l3 l4 l5 l6 l7 l8 : Option mx_V) (S h : mx_H) (n : Int), mx_ex (d + 1) 205 110 [l0, l1, l2, l3, l4, l5, l6, l7, l8] [(0, x0), (0, x1), (0, x2), (2, a)] S h n = mx_cl (S a (-2) = 13) d 180 [(2, a), (0, x2), (0, x1), (0, x0)] 205 113 [l0, l1, l2, l3, l4, l5, l6, l7, l8] [] S h n) ∧
  (∀ (d : Nat) (x : Int) (l0 l1 l2 l3 l4 l5 l6 l7 l8 : Option mx_V) (S h : mx_H) (n : Int), mx_ex d 205 113 [l0, l1, l2, l3, l4, l5, l6, l7, l8] [(0, x)] S h n = mx_ex d 205 115 [l0, l1, l2, l3, l4, l5, l6, mx_nl l7, some (0, x)] [] S h n) ∧
  (∀ (d : Nat) (x : Int) (l0 l1 l2 l3 l4 l5 l6 l8 : Option mx_V) (S h : mx_H) (n : Int), mx_ex d 205 115 [l0, l1, l2, l3, l4, l5, l6, some (0, x), l8] [] S h n = mx_ex d 205 117 [l0, l1, l2, l3, l4, l5, l6, some (0, x), l8] [(0, x)] S h n) ∧
  (∀ (d : Nat) (a : Int) (l0 l1 l2 l3 l4 l5 l6 l7 l8 : Option mx_V) (S h : mx_H) (n : Int), mx_ex d 205 117 [l0, l1, l2, l3, l4, l5, l6, l7, l8] [(0, a)] S h n = mx_br (a = 0) d 205 141 120 [l0, l1, l2, l3, l4, l5, l6, l7, l8] [] S h n) :=
  ⟨by intros; exact rfl,
   by intros; exact eq_ld rfl rfl,
   by intros; exact eq_push rfl,
   by intros; exact eq_push rfl,
   by intros; exact eq_cs rfl (Nat.le_of_ble_eq_true rfl) rfl rfl rfl (Nat.le_of_ble_eq_true rfl),
   by intros; exact eq_if1 rfl,
   by intros; exact eq_push rfl,
   by intros; exact eq_ret rfl,
   by intros; exact eq_ld rfl rfl,
   by intros; exact eq_push rfl,
   by intros; exact eq_cv rfl (Nat.le_of_ble_eq_true rfl) rfl rfl rfl (Nat.le_of_ble_eq_true rfl),
   by intros; exact eq_if0 rfl,
   by intros; exact eq_push rfl,
   by intros; exact eq_ret rfl,
   by intros; exact eq_push rfl,
   by intros; exact eq_st rfl (by decide) (Nat.le_of_ble_eq_true rfl) rfl,
   by intros; exact eq_ld rfl rfl,
   by intros; exact eq_gr rfl,
   by intros; exact eq_push rfl,
   by intros; exact eq_iald rfl,
   by intros; exact eq_push rfl,
   by intros; exact eq_i2 (o := mx_mul) rfl,
   by intros; exact eq_push rfl,
   by intros; exact eq_i2 (o := mx_mul) rfl,
   by intros; exact eq_ic3 rfl,
   by intros; exact eq_ld rfl rfl,
   by intros; exact eq_push rfl,
   by intros; exact eq_i2d (o := mx_div) rfl,
   by intros; exact eq_st rfl (by decide) (Nat.le_of_ble_eq_true rfl) rfl,
   by intros; exact eq_ld rfl rfl,
   by intros; exact eq_push rfl,
   by intros; exact eq_i2d (o := mx_div) rfl,
   by intros; exact eq_push rfl,
   by intros; exact eq_i2d (o := mx_rem) rfl,
   by intros; exact eq_st rfl (by decide) (Nat.le_of_ble_eq_true rfl) rfl,
   by intros; exact eq_ld rfl rfl,
   by intros; exact eq_push rfl,
   by intros; exact eq_i2d (o := mx_rem) rfl,
   by intros; exact eq_st rfl (by decide) (Nat.le_of_ble_eq_true rfl) rfl,
   by intros; exact eq_ld rfl rfl,
   by intros; exact eq_ld rfl rfl,
   by intros; exact eq_ld rfl rfl,
   by intros; exact eq_cv rfl (Nat.le_of_ble_eq_true rfl) rfl rfl rfl (Nat.le_of_ble_eq_true rfl),
   by intros; exact eq_if0 rfl,
   by intros; exact eq_ld rfl rfl,
   by intros; exact eq_ld rfl rfl,
   by intros; exact eq_push rfl,
   by intros; exact eq_ld rfl rfl,
   by intros; exact eq_i2 (o := mx_add) rfl,
   by intros; exact eq_cv rfl (Nat.le_of_ble_eq_true rfl) rfl rfl rfl (Nat.le_of_ble_eq_true rfl),
   by intros; exact eq_ld rfl rfl,
   by intros; exact eq_ic0 rfl,
   by intros; exact eq_ld rfl rfl,
   by intros; exact eq_ld rfl rfl,
   by intros; exact eq_ld rfl rfl,
   by intros; exact eq_ld rfl rfl,
   by intros; exact eq_cv rfl (Nat.le_of_ble_eq_true rfl) rfl rfl rfl (Nat.le_of_ble_eq_true rfl),
   by intros; exact eq_st rfl (by decide) (Nat.le_of_ble_eq_true rfl) rfl,
   by intros; exact eq_ld rfl rfl,
   by intros; exact eq_push rfl,
   by intros; exact eq_cv rfl (Nat.le_of_ble_eq_true rfl) rfl rfl rfl (Nat.le_of_ble_eq_true rfl),
   by intros; exact eq_st rfl (by decide) (Nat.le_of_ble_eq_true rfl) rfl,
   by intros; exact eq_ld rfl rfl,
   by intros; exact eq_ld rfl rfl,
   by intros; exact eq_ld rfl rfl,
   by intros; exact eq_ld rfl rfl,
   by intros; exact eq_cv rfl (Nat.le_of_ble_eq_true rfl) rfl rfl rfl (Nat.le_of_ble_eq_true rfl),
   by intros; exact eq_st rfl (by decide) (Nat.le_of_ble_eq_true rfl) rfl,
   by intros; exact eq_ld rfl rfl,
   by intros; exact eq_if0 rfl⟩
theorem rw_X12_mended_1 :
  (∀ (d : Nat) (x : Int) (l0 l2 l3 l4 l5 l6 l7 l8 : Option mx_V) (S h : mx_H) (n : Int), mx_ex d 205 120 [l0, some (0, x), l2, l3, l4, l5, l6, l7, l8] [] S h n = mx_ex d 205 121 [l0, some (0, x), l2, l3, l4, l5, l6, l7, l8] [(0, x)] S h n) ∧
  (∀ (d : Nat) (a : Int) (l0 l1 l2 l3 l4 l5 l6 l7 l8 : Option mx_V) (S h : mx_H) (n : Int), mx_ex d 205 121 [l0, l1, l2, l3, l4, l5, l6, l7, l8] [(0, a)] S h n = mx_br (a = 0) d 205 124 128 [l0, l1, l2, l3, l4, l5, l6, l7, l8] [] S h n) ∧
  (∀ (d : Nat) (x : Int) (l0 l1 l2 l4 l5 l6 l7 l8 : Option mx_V) (S h : mx_H) (n : Int), mx_ex d 205 124 [l0, l1, l2, some (0, x), l4, l5, l6, l7, l8] [] S h n = mx_ex d 205 125 [l0, l1, l2, some (0, x), l4, l5, l6, l7, l8] [(0, x)] S h n) ∧
  (∀ (d : Nat) (l0 l1 l2 l3 l4 l5 l6 l7 l8 : Option mx_V) (v0 : mx_V) (S h : mx_H) (n : Int), mx_ex d 205 125 [l0, l1, l2, l3, l4, l5, l6, l7, l8] [v0] S h n = mx_ex d 205 140 [l0, l1, l2, l3, l4, l5, l6, l7, l8] [v0] S h n) ∧
  (∀ (d : Nat) (x : Int) (l0 l2 l3 l4 l5 l6 l7 l8 : Option mx_V) (S h : mx_H) (n : Int), mx_ex d 205 128 [l0, some (0, x), l2, l3, l4, l5, l6, l7, l8] [] S h n = mx_ex d 205 129 [l0, some (0, x), l2, l3, l4, l5, l6, l7, l8] [(0, x)] S h n) ∧
  (∀ (d : Nat) (l0 l1 l2 l3 l4 l5 l6 l7 l8 : Option mx_V) (v0 : mx_V) (S h : mx_H) (n : Int), mx_ex d 205 129 [l0, l1, l2, l3, l4, l5, l6, l7, l8] [v0] S h n = mx_ex d 205 130 [l0, l1, l2, l3, l4, l5, l6, l7, l8] [(0, 1), v0] S h n) ∧
  (∀ (d : Nat) (b a : Int) (l0 l1 l2 l3 l4 l5 l6 l7 l8 : Option mx_V) (S h : mx_H) (n : Int), mx_ex d 205 130 [l0, l1, l2, l3, l4, l5, l6, l7, l8] [(0, b), (0, a)] S h n = mx_br (a = b) d 205 133 138 [l0, l1, l2, l3, l4, l5, l6, l7, l8] [] S h n) ∧
  (∀ (d : Nat) (x : Int) (l0 l1 l2 l3 l5 l6 l7 l8 : Option mx_V) (S h : mx_H) (n : Int), mx_ex d 205 133 [l0, l1, l2, l3, some (0, x), l5, l6, l7, l8] [] S h n = mx_ex d 205 135 [l0, l1, l2, l3, some (0, x), l5, l6, l7, l8] [(0, x)] S h n) ∧
  (∀ (d : Nat) (l0 l1 l2 l3 l4 l5 l6 l7 l8 : Option mx_V) (v0 : mx_V) (S h : mx_H) (n : Int), mx_ex d 205 135 [l0, l1, l2, l3, l4, l5, l6, l7, l8] [v0] S h n = mx_ex d 205 140 [l0, l1, l2, l3, l4, l5, l6, l7, l8] [v0] S h n) ∧
  (∀ (d : Nat) (x : Int) (l0 l1 l2 l3 l4 l6 l7 l8 : Option mx_V) (S h : mx_H) (n : Int), mx_ex d 205 138 [l0, l1, l2, l3, l4, some (0, x), l6, l7, l8] [] S h n = mx_ex d 205 140 [l0, l1, l2, l3, l4, some (0, x), l6, l7, l8] [(0, x)] S h n) ∧
  (∀ (d : Nat) (x : Int) (l0 l1 l2 l3 l4 l5 l6 l7 l8 : Option mx_V) (S h : mx_H) (n : Int), mx_ex d 205 140 [l0, l1, l2, l3, l4, l5, l6, l7, l8] [(0, x)] S h n = some (some (0, x), S, h, n)) ∧
  (∀ (d : Nat) (x : Int) (l0 l1 l3 l4 l5 l6 l7 l8 : Option mx_V) (S h : mx_H) (n : Int), mx_ex d 205 141 [l0, l1, some (0, x), l3, l4, l5, l6, l7, l8] [] S h n = mx_ex d 205 144 [l0, mx_nl l1, some (0, mx_w (x + 1)), l3, l4, l5, l6, l7, l8] [] S h n) ∧
  (∀ (d : Nat) (l0 l1 l2 l3 l4 l5 l6 l7 l8 : Option mx_V) (S h : mx_H) (n : Int), mx_ex d 205 144 [l0, l1, l2, l3, l4, l5, l6, l7, l8] [] S h n = mx_ex d 205 25 [l0, l1, l2, l3, l4, l5, l6, l7, l8] [] S h n) ∧
  (∀ (d : Nat) (l0 l1 l2 l3 l4 l5 l6 l7 l8 : Option mx_V) (S h : mx_H) (n : Int), mx_ex d 205 147 [l0, l1, l2, l3, l4, l5, l6, l7, l8] [] S h n = mx_ex d 205 149 [l0, l1, l2, l3, l4, l5, l6, l7, l8] [(0, (-3))] S h n) ∧
  (∀ (d : Nat) (x : Int) (l0 l1 l2 l3 l4 l5 l6 l7 l8 : Option mx_V) (S h : mx_H) (n : Int), mx_ex d 205 149 [l0, l1, l2, l3, l4, l5, l6, l7, l8] [(0, x)] S h n = some (some (0, x), S, h, n)) :=
  ⟨by intros; exact eq_ld rfl rfl,
   by intros; exact eq_if1 rfl,
   by intros; exact eq_ld rfl rfl,
   by intros; exact eq_go rfl,
   by intros; exact eq_ld rfl rfl,
   by intros; exact eq_push rfl,
   by intros; exact eq_ic1 rfl,
   by intros; exact eq_ld rfl rfl,
   by intros; exact eq_go rfl,
   by intros; exact eq_ld rfl rfl,
   by intros; exact eq_ret rfl,
   by intros; exact eq_inc rfl rfl rfl,
   by intros; exact eq_go rfl,
   by intros; exact eq_push rfl,
   by intros; exact eq_ret rfl⟩
theorem rh_X12_which_22 : ∀ (d : Nat) (x : Int) (l0 l1 l2 l3 l5 : Option mx_V) (S h : mx_H) (n : Int), mx_ex d 206 22 [l0, l1, l2, l3, some (0, x), l5] [] S h n = mx_ex d 206 24 [l0, l1, l2, l3, some (0, x), l5] [(0, x)] S h n := by intros; exact eq_ld rfl rfl
theorem rw_X12_which :
  (∀ (d : Nat) (a0 a1 : Int) (S h : mx_H) (n : Int), mx_M d 206 [(2, a0), (0, a1)] S h n = mx_ex d 206 0 [some (2, a0), some (0, a1), none, none, none, none] [] S h n) ∧
  (∀ (d : Nat) (x : Int) (l1 l2 l3 l4 l5 : Option mx_V) (S h : mx_H) (n : Int), mx_ex d 206 0 [some (2, x), l1, l2, l3, l4, l5] [] S h n = mx_ex d 206 1 [some (2, x), l1, l2, l3, l4, l5] [(2, x)] S h n) ∧
  (∀ (d : Nat) (x : Int) (l0 l2 l3 l4 l5 : Option mx_V) (v0 : mx_V) (S h : mx_H) (n : Int), mx_ex d 206 1 [l0, some (0, x), l2, l3, l4, l5] [v0] S h n = mx_ex d 206 2 [l0, some (0, x), l2, l3, l4, l5] [(0, x), v0] S h n) ∧
  (∀ (d : Nat) (x0 a : Int) (l0 l1 l2 l3 l4 l5 : Option mx_V) (S h : mx_H) (n : Int), mx_ex (d + 1) 206 2 [l0, l1, l2, l3, l4, l5] [(0, x0), (2, a)] S h n = mx_cl (S a (-2) = 13) d 158 [(2, a), (0, x0)] 206 5 [l0, l1, l2, l3, l4, l5] [] S h n) ∧
  (∀ (d : Nat) (a : Int) (l0 l1 l2 l3 l4 l5 : Option mx_V) (S h : mx_H) (n : Int), mx_ex d 206 5 [l0, l1, l2, l3, l4, l5] [(0, a)] S h n = mx_br (a = 0) d 206 8 10 [l0, l1, l2, l3, l4, l5] [] S h n) ∧
  (∀ (d : Nat) (l0 l1 l2 l3 l4 l5 : Option mx_V) (S h : mx_H) (n : Int), mx_ex d 206 8 [l0, l1, l2, l3, l4, l5] [] S h n = mx_ex d 206 9 [l0, l1, l2, l3, l4, l5] [(0, (-1))] S h n) ∧
  (∀ (d : Nat) (x : Int) (l0 l1 l2 l3 l4 l5 : Option mx_V) (S h : mx_H) (n : Int), mx_ex d 206 9 [l0, l1, l2, l3, l4, l5] [(0, x)] S h n = some (some (0, x), S, h, n)) ∧
  (∀ (d : Nat) (x : Int) (l1 l2 l3 l4 l5 : Option mx_V) (S h : mx_H) (n : Int), mx_ex d 206 10 [some (2, x), l1, l2, l3, l4, l5] [] S h n = mx_ex d 206 11 [some (2, x), l1, l2, l3, l4, l5] [(2, x)] S h n) ∧
  (∀ (d : Nat) (x : Int) (l0 l2 l3 l4 l5 : Option mx_V) (v0 : mx_V) (S h : mx_H) (n : Int), mx_ex d 206 11 [l0, some (0, x), l2, l3, l4, l5] [v0] S h n = mx_ex d 206 12 [l0, some (0, x), l2, l3, l4, l5] [(0, x), v0] S h n) ∧
  (∀ (d : Nat) (l0 l1 l2 l3 l4 l5 : Option mx_V) (v0 v1 : mx_V) (S h : mx_H) (n : Int), mx_ex d 206 12 [l0, l1, l2, l3, l4, l5] [v0, v1] S h n = mx_ex d 206 13 [l0, l1, l2, l3, l4, l5] [(0, 1), v0, v1] S h n) ∧
  (∀ (d : Nat) (x0 x1 a : Int) (l0 l1 l2 l3 l4 l5 : Option mx_V) (S h : mx_H) (n : Int), mx_ex (d + 1) 206 13 [l0, l1, l2, l3, l4, l5] [(0, x0), (0, x1), (2, a)] S h n = mx_cl (S a (-2) = 13) d 161 [(2, a), (0, x1), (0, x0)] 206 16 [l0, l1, l2, l3, l4, l5] [] S h n) ∧
  (∀ (d : Nat) (x : Int) (l0 l1 l2 l3 l4 l5 : Option mx_V) (S h : mx_H) (n : Int), mx_ex d 206 16 [l0, l1, l2, l3, l4, l5] [(0, x)] S h n = mx_ex d 206 17 [l0, mx_nl l1, some (0, x), l3, l4, l5] [] S h n) ∧
  (∀ (d : Nat) (l0 l1 l2 l3 l4 l5 : Option mx_V) (S h : mx_H) (n : Int), mx_ex d 206 17 [l0, l1, l2, l3, l4, l5] [] S h n = mx_ex d 206 18 [l0, l1, l2, l3, l4, l5] [(0, 0)] S h n) ∧
  (∀ (d : Nat) (x : Int) (l0 l1 l2 l3 l4 l5 : Option mx_V) (S h : mx_H) (n : Int), mx_ex d 206 18 [l0, l1, l2, l3, l4, l5] [(0, x)] S h n = mx_ex d 206 19 [l0, l1, mx_nl l2, some (0, x), l4, l5] [] S h n) ∧
  (∀ (d : Nat) (l0 l1 l2 l3 l4 l5 : Option mx_V) (S h : mx_H) (n : Int), mx_ex d 206 19 [l0, l1, l2, l3, l4, l5] [] S h n = mx_ex d 206 20 [l0, l1, l2, l3, l4, l5] [(0, 0)] S h n) ∧
  (∀ (d : Nat) (x : Int) (l0 l1 l2 l3 l4 l5 : Option mx_V) (S h : mx_H) (n : Int), mx_ex d 206 20 [l0, l1, l2, l3, l4, l5] [(0, x)] S h n = mx_ex d 206 22 [l0, l1, l2, mx_nl l3, some (0, x), l5] [] S h n) ∧
  (∀ (d : Nat) (l0 l1 l2 l3 l4 l5 : Option mx_V) (v0 : mx_V) (S h : mx_H) (n : Int), mx_ex d 206 24 [l0, l1, l2, l3, l4, l5] [v0] S h n = mx_ex d 206 25 [l0, l1, l2, l3, l4, l5] [(0, 3), v0] S h n) ∧
  (∀ (d : Nat) (b a : Int) (l0 l1 l2 l3 l4 l5 : Option mx_V) (S h : mx_H) (n : Int), mx_ex d 206 25 [l0, l1, l2, l3, l4, l5] [(0, b), (0, a)] S h n = mx_br (a < b) d 206 28 63 [l0, l1, l2, l3, l4, l5] [] S h n) ∧
  (∀ (d : Nat) (x : Int) (l1 l2 l3 l4 l5 : Option mx_V) (S h : mx_H) (n : Int), mx_ex d 206 28 [some (2, x), l1, l2, l3, l4, l5] [] S h n = mx_ex d 206 29 [some (2, x), l1, l2, l3, l4, l5] [(2, x)] S h n) ∧
  (∀ (d : Nat) (x : Int) (l0 l2 l3 l4 l5 : Option mx_V) (v0 : mx_V) (S h : mx_H) (n : Int), mx_ex d 206 29 [l0, some (0, x), l2, l3, l4, l5] [v0] S h n = mx_ex d 206 30 [l0, some (0, x), l2, l3, l4, l5] [(0, x), v0] S h n) ∧
  (∀ (d : Nat) (x : Int) (l0 l1 l2 l3 l5 : Option mx_V) (v0 v1 : mx_V) (S h : mx_H) (n : Int), mx_ex d 206 30 [l0, l1, l2, l3, some (0, x), l5] [v0, v1] S h n = mx_ex d 206 32 [l0, l1, l2, l3, some (0, x), l5] [(0, x), v0, v1] S h n) ∧
  (∀ (d : Nat) (x0 x1 a : Int) (l0 l1 l2 l3 l4 l5 : Option mx_V) (S h : mx_H) (n : Int), mx_ex (d + 1) 206 32 [l0, l1, l2, l3, l4, l5] [(0, x0), (0, x1), (2, a)] S h n = mx_cl (S a (-2) = 13) d 181 [(2, a), (0, x1), (0, x0)] 206 35 [l0, l1, l2, l3, l4, l5] [] S h n) ∧
  (∀ (d : Nat) (x : Int) (l0 l1 l2 l3 l4 l5 : Option mx_V) (S h : mx_H) (n : Int), mx_ex d 206 35 [l0, l1, l2, l3, l4, l5] [(0, x)] S h n = mx_ex d 206 37 [l0, l1, l2, l3, mx_nl l4, some (0, x)] [] S h n) ∧
  (∀ (d : Nat) (x : Int) (l0 l1 l2 l4 l5 : Option mx_V) (S h : mx_H) (n : Int), mx_ex d 206 37 [l0, l1, l2, some (0, x), l4, l5] [] S h n = mx_ex d 206 38 [l0, l1, l2, some (0, x), l4, l5] [(0, x)] S h n) ∧
  (∀ (d : Nat) (x : Int) (l1 l2 l3 l4 l5 : Option mx_V) (v0 : mx_V) (S h : mx_H) (n : Int), mx_ex d 206 38 [some (2, x), l1, l2, l3, l4, l5] [v0] S h n = mx_ex d 206 39 [some (2, x), l1, l2, l3, l4, l5] [(2, x), v0] S h n) ∧
  (∀ (d : Nat) (l0 l1 l2 l3 l4 l5 : Option mx_V) (v0 v1 : mx_V) (S h : mx_H) (n : Int), mx_ex d 206 39 [l0, l1, l2, l3, l4, l5] [v0, v1] S h n = mx_ex d 206 41 [l0, l1, l2, l3, l4, l5] [(0, 63), v0, v1] S h n) ∧
  (∀ (d : Nat) (x0 a : Int) (l0 l1 l2 l3 l4 l5 : Option mx_V) (v2 : mx_V) (S h : mx_H) (n : Int), mx_ex (d + 1) 206 41 [l0, l1, l2, l3, l4, l5] [(0, x0), (2, a), v2] S h n = mx_cl (S a (-2) = 13) d 197 [(2, a), (0, x0)] 206 44 [l0, l1, l2, l3, l4, l5] [v2] S h n) ∧
  (∀ (d : Nat) (a : Int) (l0 l1 l2 l3 l4 l5 : Option mx_V) (v1 : mx_V) (S h : mx_H) (n : Int), mx_ex d 206 44 [l0, l1, l2, l3, l4, l5] [(0, a), v1] S h n = mx_br (a = 0) d 206 54 47 [l0, l1, l2, l3, l4, l5] [v1] S h n) ∧
  (∀ (d : Nat) (l0 l1 l2 l3 l4 l5 : Option mx_V) (v0 : mx_V) (S h : mx_H) (n : Int), mx_ex d 206 47 [l0, l1, l2, l3, l4, l5] [v0] S h n = mx_ex d 206 48 [l0, l1, l2, l3, l4, l5] [(0, 1), v0] S h n) ∧
  (∀ (d : Nat) (x : Int) (l0 l1 l2 l3 l5 : Option mx_V) (v0 v1 : mx_V) (S h : mx_H) (n : Int), mx_ex d 206 48 [l0, l1, l2, l3, some (0, x), l5] [v0, v1] S h n = mx_ex d 206 50 [l0, l1, l2, l3, some (0, x), l5] [(0, x), v0, v1] S h n) ∧
  (∀ (d : Nat) (b a : Int) (l0 l1 l2 l3 l4 l5 : Option mx_V) (v2 : mx_V) (S h : mx_H) (n : Int), mx_ex d 206 50 [l0, l1, l2, l3, l4, l5] [(0, b), (0, a), v2] S h n = mx_ex d 206 51 [l0, l1, l2, l3, l4, l5] [(0, mx_shl a b), v2] S h n) ∧
  (∀ (d : Nat) (l0 l1 l2 l3 l4 l5 : Option mx_V) (v0 v1 : mx_V) (S h : mx_H) (n : Int), mx_ex d 206 51 [l0, l1, l2, l3, l4, l5] [v0, v1] S h n = mx_ex d 206 55 [l0, l1, l2, l3, l4, l5] [v0, v1] S h n) ∧
  (∀ (d : Nat) (l0 l1 l2 l3 l4 l5 : Option mx_V) (v0 : mx_V) (S h : mx_H) (n : Int), mx_ex d 206 54 [l0, l1, l2, l3, l4, l5] [v0] S h n = mx_ex d 206 55 [l0, l1, l2, l3, l4, l5] [(0, 0), v0] S h n) ∧
  (∀ (d : Nat) (b a : Int) (l0 l1 l2 l3 l4 l5 : Option mx_V) (S h : mx_H) (n : Int), mx_ex d 206 55 [l0, l1, l2, l3, l4, l5] [(0, b), (0, a)] S h n = mx_ex d 206 56 [l0, l1, l2, l3, l4, l5] [(0, mx_or a b)] S h n) ∧
  (∀ (d : Nat) (x : Int) (l0 l1 l2 l3 l4 l5 : Option mx_V) (S h : mx_H) (n : Int), mx_ex d 206 56 [l0, l1, l2, l3, l4, l5] [(0, x)] S h n = mx_ex d 206 57 [l0, l1, mx_nl l2, some (0, x), l4, l5] [] S h n) ∧
  (∀ (d : Nat) (x : Int) (l0 l1 l2 l3 l5 : Option mx_V) (S h : mx_H) (n : Int), mx_ex d 206 57 [l0, l1, l2, l3, some (0, x), l5] [] S h n = mx_ex d 206 60 [l0, l1, l2, mx_nl l3, some (0, mx_w (x + 1)), l5] [] S h n) ∧
  (∀ (d : Nat) (l0 l1 l2 l3 l4 l5 : Option mx_V) (S h : mx_H) (n : Int), mx_ex d 206 60 [l0, l1, l2, l3, l4, l5] [] S h n = mx_ex d 206 22 [l0, l1, l2, l3, l4, l5] [] S h n) ∧
  (∀ (d : Nat) (x : Int) (l1 l2 l3 l4 l5 : Option mx_V) (S h : mx_H) (n : Int), mx_ex d 206 63 [some (2, x), l1, l2, l3, l4, l5] [] S h n = mx_ex d 206 64 [some (2, x), l1, l2, l3, l4, l5] [(2, x)] S h n) ∧
  (∀ (d : Nat) (x : Int) (l0 l2 l3 l4 l5 : Option mx_V) (v0 : mx_V) (S h : mx_H) (n : Int), mx_ex d 206 64 [l0, some (0, x), l2, l3, l4, l5] [v0] S h n = mx_ex d 206 65 [l0, some (0, x), l2, l3, l4, l5] [(0, x), v0] S h n) ∧
  (∀ (d : Nat) (x : Int) (l0 l1 l3 l4 l5 : Option mx_V) (v0 v1 : mx_V) (S h : mx_H) (n : Int), mx_ex d 206 65 [l0, l1, some (0, x), l3, l4, l5] [v0, v1] S h n = mx_ex d 206 66 [l0, l1, some (0, x), l3, l4, l5] [(0, x), v0, v1] S h n) ∧
  (∀ (d : Nat) (x0 x1 a : Int) (l0 l1 l2 l3 l4 l5 : Option mx_V) (S h : mx_H) (n : Int), mx_ex (d + 1) 206 66 [l0, l1, l2, l3, l4, l5] [(0, x0), (0, x1), (2, a)] S h n = mx_cl (S a (-2) = 13) d 181 [(2, a), (0, x1), (0, x0)] 206 69 [l0, l1, l2, l3, l4, l5] [] S h n) ∧
  (∀ (d : Nat) (x : Int) (l0 l1 l2 l3 l4 l5 : Option mx_V) (S h : mx_H) (n : Int), mx_ex d 206 69 [l0, l1, l2, l3, l4, l5] [(0, x)] S h n = mx_ex d 206 71 [l0, l1, l2, mx_nl l3, some (0, x), l5] [] S h n) ∧
  (∀ (d : Nat) (x : Int) (l0 l1 l2 l4 l5 : Option mx_V) (S h : mx_H) (n : Int), mx_ex d 206 71 [l0, l1, l2, some (0, x), l4, l5] [] S h n = mx_ex d 206 72 [l0, l1, l2, some (0, x), l4, l5] [(0, x)] S h n) ∧
  (∀ (d : Nat) (x : Int) (l0 l1 l2 l3 l4 l5 : Option mx_V) (S h : mx_H) (n : Int), mx_ex d 206 72 [l0, l1, l2, l3, l4, l5] [(0, x)] S h n = some (some (0, x), S, h, n)) :=
  ⟨by intros; exact rfl,
   by intros; exact eq_ld rfl rfl,
   by intros; exact eq_ld rfl rfl,
   by intros; exact eq_cv rfl (Nat.le_of_ble_eq_true rfl) rfl rfl rfl (Nat.le_of_ble_eq_true rfl),
   by intros; exact eq_if1 rfl,
   by intros; exact eq_push rfl,
   by intros; exact eq_ret rfl,
   by intros; exact eq_ld rfl rfl,
   by intros; exact eq_ld rfl rfl,
   by intros; exact eq_push rfl,
   by intros; exact eq_cv rfl (Nat.le_of_ble_eq_true rfl) rfl rfl rfl (Nat.le_of_ble_eq_true rfl),
   by intros; exact eq_st rfl (by decide) (Nat.le_of_ble_eq_true rfl) rfl,
   by intros; exact eq_push rfl,
   by intros; exact eq_st rfl (by decide) (Nat.le_of_ble_eq_true rfl) rfl,
   by intros; exact eq_push rfl,
   by intros; exact eq_st rfl (by decide) (Nat.le_of_ble_eq_true rfl) rfl,
   by intros; exact eq_push rfl,
   by intros; exact eq_ic3 rfl,
   by intros; exact eq_ld rfl rfl,
   by intros; exact eq_ld rfl rfl,
   by intros; exact eq_ld rfl rfl,
   by intros; exact eq_cv rfl (Nat.le_of_ble_eq_true rfl) rfl rfl rfl (Nat.le_of_ble_eq_true rfl),
   by intros; exact eq_st rfl (by decide) (Nat.le_of_ble_eq_true rfl) rfl,
   by intros; exact eq_ld rfl rfl,
   by intros; exact eq_ld rfl rfl,
   by intros; exact eq_push rfl,
   by intros; exact eq_cv rfl (Nat.le_of_ble_eq_true rfl) rfl rfl rfl (Nat.le_of_ble_eq_true rfl),
   by intros; exact eq_if0 rfl,
   by intros; exact eq_push rfl,
   by intros; exact eq_ld rfl rfl,
   by intros; exact eq_i2 (o := mx_shl) rfl,
   by intros; exact eq_go rfl,
   by intros; exact eq_push rfl,
   by intros; exact eq_i2 (o := mx_or) rfl,
   by intros; exact eq_st rfl (by decide) (Nat.le_of_ble_eq_true rfl) rfl,
   by intros; exact eq_inc rfl rfl rfl,
   by intros; exact eq_go rfl,
   by intros; exact eq_ld rfl rfl,
   by intros; exact eq_ld rfl rfl,
   by intros; exact eq_ld rfl rfl,
   by intros; exact eq_cv rfl (Nat.le_of_ble_eq_true rfl) rfl rfl rfl (Nat.le_of_ble_eq_true rfl),
   by intros; exact eq_st rfl (by decide) (Nat.le_of_ble_eq_true rfl) rfl,
   by intros; exact eq_ld rfl rfl,
   by intros; exact eq_ret rfl⟩
theorem rw_X12_gain :
  (∀ (d : Nat) (a0 a1 a2 a3 : Int) (S h : mx_H) (n : Int), mx_M d 207 [(2, a0), (0, a1), (0, a2), (0, a3)] S h n = mx_ex d 207 0 [some (2, a0), some (0, a1), some (0, a2), some (0, a3)] [] S h n) ∧
  (∀ (d : Nat) (x : Int) (l1 l2 l3 : Option mx_V) (S h : mx_H) (n : Int), mx_ex d 207 0 [some (2, x), l1, l2, l3] [] S h n = mx_ex d 207 1 [some (2, x), l1, l2, l3] [(2, x)] S h n) ∧
  (∀ (d : Nat) (x : Int) (l0 l2 l3 : Option mx_V) (v0 : mx_V) (S h : mx_H) (n : Int), mx_ex d 207 1 [l0, some (0, x), l2, l3] [v0] S h n = mx_ex d 207 2 [l0, some (0, x), l2, l3] [(0, x), v0] S h n) ∧
  (∀ (d : Nat) (x0 a : Int) (l0 l1 l2 l3 : Option mx_V) (S h : mx_H) (n : Int), mx_ex (d + 1) 207 2 [l0, l1, l2, l3] [(0, x0), (2, a)] S h n = mx_cl (S a (-2) = 13) d 158 [(2, a), (0, x0)] 207 5 [l0, l1, l2, l3] [] S h n) ∧
  (∀ (d : Nat) (a : Int) (l0 l1 l2 l3 : Option mx_V) (S h : mx_H) (n : Int), mx_ex d 207 5 [l0, l1, l2, l3] [(0, a)] S h n = mx_br (a = 0) d 207 38 8 [l0, l1, l2, l3] [] S h n) ∧
  (∀ (d : Nat) (x : Int) (l0 l1 l3 : Option mx_V) (S h : mx_H) (n : Int), mx_ex d 207 8 [l0, l1, some (0, x), l3] [] S h n = mx_ex d 207 9 [l0, l1, some (0, x), l3] [(0, x)] S h n) ∧
  (∀ (d : Nat) (x0 : Int) (l0 l1 l2 l3 : Option mx_V) (S h : mx_H) (n : Int), mx_ex (d + 1) 207 9 [l0, l1, l2, l3] [(0, x0)] S h n = mx_rt (mx_M d 160 [(0, x0)] S h n) (d + 1) 207 12 [l0, l1, l2, l3] []) ∧
  (∀ (d : Nat) (a : Int) (l0 l1 l2 l3 : Option mx_V) (S h : mx_H) (n : Int), mx_ex d 207 12 [l0, l1, l2, l3] [(0, a)] S h n = mx_br (a = 0) d 207 38 15 [l0, l1, l2, l3] [] S h n) ∧
  (∀ (d : Nat) (x : Int) (l0 l1 l2 : Option mx_V) (S h : mx_H) (n : Int), mx_ex d 207 15 [l0, l1, l2, some (0, x)] [] S h n = mx_ex d 207 16 [l0, l1, l2, some (0, x)] [(0, x)] S h n) ∧
  (∀ (d : Nat) (x0 : Int) (l0 l1 l2 l3 : Option mx_V) (S h : mx_H) (n : Int), mx_ex (d + 1) 207 16 [l0, l1, l2, l3] [(0, x0)] S h n = mx_rt (mx_M d 160 [(0, x0)] S h n) (d + 1) 207 19 [l0, l1, l2, l3] []) ∧
  (∀ (d : Nat) (a : Int) (l0 l1 l2 l3 : Option mx_V) (S h : mx_H) (n : Int), mx_ex d 207 19 [l0, l1, l2, l3] [(0, a)] S h n = mx_br (a = 0) d 207 38 22 [l0, l1, l2, l3] [] S h n) ∧
  (∀ (d : Nat) (x : Int) (l1 l2 l3 : Option mx_V) (S h : mx_H) (n : Int), mx_ex d 207 22 [some (2, x), l1, l2, l3] [] S h n = mx_ex d 207 23 [some (2, x), l1, l2, l3] [(2, x)] S h n) ∧
  (∀ (d : Nat) (x : Int) (l0 l2 l3 : Option mx_V) (v0 : mx_V) (S h : mx_H) (n : Int), mx_ex d 207 23 [l0, some (0, x), l2, l3] [v0] S h n = mx_ex d 207 24 [l0, some (0, x), l2, l3] [(0, x), v0] S h n) ∧
  (∀ (d : Nat) (x : Int) (l0 l1 l2 : Option mx_V) (v0 v1 : mx_V) (S h : mx_H) (n : Int), mx_ex d 207 24 [l0, l1, l2, some (0, x)] [v0, v1] S h n = mx_ex d 207 25 [l0, l1, l2, some (0, x)] [(0, x), v0, v1] S h n) ∧
  (∀ (d : Nat) (x0 x1 a : Int) (l0 l1 l2 l3 : Option mx_V) (S h : mx_H) (n : Int), mx_ex (d + 1) 207 25 [l0, l1, l2, l3] [(0, x0), (0, x1), (2, a)] S h n = mx_cl (S a (-2) = 13) d 183 [(2, a), (0, x1), (0, x0)] 207 28 [l0, l1, l2, l3] [] S h n) ∧
  (∀ (d : Nat) (x : Int) (l1 l2 l3 : Option mx_V) (v0 : mx_V) (S h : mx_H) (n : Int), mx_ex d 207 28 [some (2, x), l1, l2, l3] [v0] S h n = mx_ex d 207 29 [some (2, x), l1, l2, l3] [(2, x), v0] S h n) ∧
  (∀ (d : Nat) (x : Int) (l0 l2 l3 : Option mx_V) (v0 v1 : mx_V) (S h : mx_H) (n : Int), mx_ex d 207 29 [l0, some (0, x), l2, l3] [v0, v1] S h n = mx_ex d 207 30 [l0, some (0, x), l2, l3] [(0, x), v0, v1] S h n) ∧
  (∀ (d : Nat) (x : Int) (l0 l1 l3 : Option mx_V) (v0 v1 v2 : mx_V) (S h : mx_H) (n : Int), mx_ex d 207 30 [l0, l1, some (0, x), l3] [v0, v1, v2] S h n = mx_ex d 207 31 [l0, l1, some (0, x), l3] [(0, x), v0, v1, v2] S h n) ∧
  (∀ (d : Nat) (x0 x1 a : Int) (l0 l1 l2 l3 : Option mx_V) (v3 : mx_V) (S h : mx_H) (n : Int), mx_ex (d + 1) 207 31 [l0, l1, l2, l3] [(0, x0), (0, x1), (2, a), v3] S h n = mx_cl (S a (-2) = 13) d 183 [(2, a), (0, x1), (0, x0)] 207 34 [l0, l1, l2, l3] [v3] S h n) ∧
  (∀ (d : Nat) (b a : Int) (l0 l1 l2 l3 : Option mx_V) (S h : mx_H) (n : Int), mx_ex d 207 34 [l0, l1, l2, l3] [(1, b), (1, a)] S h n = mx_ex d 207 35 [l0, l1, l2, l3] [(1, mx_l (a - b))] S h n) ∧
  (∀ (d : Nat) (l0 l1 l2 l3 : Option mx_V) (v0 : mx_V) (S h : mx_H) (n : Int), mx_ex d 207 35 [l0, l1, l2, l3] [v0] S h n = mx_ex d 207 41 [l0, l1, l2, l3] [v0] S h n) ∧
  (∀ (d : Nat) (l0 l1 l2 l3 : Option mx_V) (S h : mx_H) (n : Int), mx_ex d 207 38 [l0, l1, l2, l3] [] S h n = mx_ex d 207 41 [l0, l1, l2, l3] [(1, (-1000000000000))] S h n) ∧
  (∀ (d : Nat) (x : Int) (l0 l1 l2 l3 : Option mx_V) (S h : mx_H) (n : Int), mx_ex d 207 41 [l0, l1, l2, l3] [(1, x)] S h n = some (some (1, x), S, h, n)) :=
  ⟨by intros; exact rfl,
   by intros; exact eq_ld rfl rfl,
   by intros; exact eq_ld rfl rfl,
   by intros; exact eq_cv rfl (Nat.le_of_ble_eq_true rfl) rfl rfl rfl (Nat.le_of_ble_eq_true rfl),
   by intros; exact eq_if0 rfl,
   by intros; exact eq_ld rfl rfl,
   by intros; exact eq_cs rfl (Nat.le_of_ble_eq_true rfl) rfl rfl rfl (Nat.le_of_ble_eq_true rfl),
   by intros; exact eq_if0 rfl,
   by intros; exact eq_ld rfl rfl,
   by intros; exact eq_cs rfl (Nat.le_of_ble_eq_true rfl) rfl rfl rfl (Nat.le_of_ble_eq_true rfl),
   by intros; exact eq_if0 rfl,
   by intros; exact eq_ld rfl rfl,
   by intros; exact eq_ld rfl rfl,
   by intros; exact eq_ld rfl rfl,
   by intros; exact eq_cv rfl (Nat.le_of_ble_eq_true rfl) rfl rfl rfl (Nat.le_of_ble_eq_true rfl),
   by intros; exact eq_ld rfl rfl,
   by intros; exact eq_ld rfl rfl,
   by intros; exact eq_ld rfl rfl,
   by intros; exact eq_cv rfl (Nat.le_of_ble_eq_true rfl) rfl rfl rfl (Nat.le_of_ble_eq_true rfl),
   by intros; exact eq_l2 (o := ml_sub) rfl,
   by intros; exact eq_go rfl,
   by intros; exact eq_push rfl,
   by intros; exact eq_ret rfl⟩
theorem rh_X12_signsOf_6 : ∀ (d : Nat) (x : Int) (l0 l1 l2 : Option mx_V) (S h : mx_H) (n : Int), mx_ex d 208 6 [l0, l1, l2, some (0, x)] [] S h n = mx_ex d 208 7 [l0, l1, l2, some (0, x)] [(0, x)] S h n := by intros; exact eq_ld rfl rfl
theorem rw_X12_signsOf :
  (∀ (d : Nat) (a0 a1 : Int) (S h : mx_H) (n : Int), mx_M d 208 [(0, a0), (0, a1)] S h n = mx_ex d 208 0 [some (0, a0), some (0, a1), none, none] [] S h n) ∧
  (∀ (d : Nat) (l0 l1 l2 l3 : Option mx_V) (S h : mx_H) (n : Int), mx_ex d 208 0 [l0, l1, l2, l3] [] S h n = mx_ex d 208 1 [l0, l1, l2, l3] [(0, 1)] S h n) ∧
  (∀ (d : Nat) (x : Int) (l0 l1 l2 l3 : Option mx_V) (S h : mx_H) (n : Int), mx_ex d 208 1 [l0, l1, l2, l3] [(0, x)] S h n = mx_ex d 208 2 [l0, mx_nl l1, some (0, x), l3] [] S h n) ∧
  (∀ (d : Nat) (x : Int) (l1 l2 l3 : Option mx_V) (S h : mx_H) (n : Int), mx_ex d 208 2 [some (0, x), l1, l2, l3] [] S h n = mx_ex d 208 3 [some (0, x), l1, l2, l3] [(0, x)] S h n) ∧
  (∀ (d : Nat) (x : Int) (l0 l2 l3 : Option mx_V) (v0 : mx_V) (S h : mx_H) (n : Int), mx_ex d 208 3 [l0, some (0, x), l2, l3] [v0] S h n = mx_ex d 208 4 [l0, some (0, x), l2, l3] [(0, x), v0] S h n) ∧
  (∀ (d : Nat) (b a : Int) (l0 l1 l2 l3 : Option mx_V) (S h : mx_H) (n : Int), mx_ex d 208 4 [l0, l1, l2, l3] [(0, b), (0, a)] S h n = mx_gd (¬ b = 0) d 208 5 [l0, l1, l2, l3] [(0, mx_w (Int.tdiv a b))] S h n) ∧
  (∀ (d : Nat) (x : Int) (l0 l1 l2 l3 : Option mx_V) (S h : mx_H) (n : Int), mx_ex d 208 5 [l0, l1, l2, l3] [(0, x)] S h n = mx_ex d 208 6 [l0, l1, mx_nl l2, some (0, x)] [] S h n) ∧
  (∀ (d : Nat) (a : Int) (l0 l1 l2 l3 : Option mx_V) (S h : mx_H) (n : Int), mx_ex d 208 7 [l0, l1, l2, l3] [(0, a)] S h n = mx_br (0 < a) d 208 10 20 [l0, l1, l2, l3] [] S h n) ∧
  (∀ (d : Nat) (x : Int) (l0 l1 l3 : Option mx_V) (S h : mx_H) (n : Int), mx_ex d 208 10 [l0, l1, some (0, x), l3] [] S h n = mx_ex d 208 13 [l0, mx_nl l1, some (0, mx_w (x + 1)), l3] [] S h n) ∧
  (∀ (d : Nat) (x : Int) (l0 l1 l2 : Option mx_V) (S h : mx_H) (n : Int), mx_ex d 208 13 [l0, l1, l2, some (0, x)] [] S h n = mx_ex d 208 14 [l0, l1, l2, some (0, x)] [(0, x)] S h n) ∧
  (∀ (d : Nat) (x : Int) (l0 l2 l3 : Option mx_V) (v0 : mx_V) (S h : mx_H) (n : Int), mx_ex d 208 14 [l0, some (0, x), l2, l3] [v0] S h n = mx_ex d 208 15 [l0, some (0, x), l2, l3] [(0, x), v0] S h n) ∧
  (∀ (d : Nat) (b a : Int) (l0 l1 l2 l3 : Option mx_V) (S h : mx_H) (n : Int), mx_ex d 208 15 [l0, l1, l2, l3] [(0, b), (0, a)] S h n = mx_gd (¬ b = 0) d 208 16 [l0, l1, l2, l3] [(0, mx_w (Int.tdiv a b))] S h n) ∧
  (∀ (d : Nat) (x : Int) (l0 l1 l2 l3 : Option mx_V) (S h : mx_H) (n : Int), mx_ex d 208 16 [l0, l1, l2, l3] [(0, x)] S h n = mx_ex d 208 17 [l0, l1, mx_nl l2, some (0, x)] [] S h n) ∧
  (∀ (d : Nat) (l0 l1 l2 l3 : Option mx_V) (S h : mx_H) (n : Int), mx_ex d 208 17 [l0, l1, l2, l3] [] S h n = mx_ex d 208 6 [l0, l1, l2, l3] [] S h n) ∧
  (∀ (d : Nat) (x : Int) (l0 l1 l3 : Option mx_V) (S h : mx_H) (n : Int), mx_ex d 208 20 [l0, l1, some (0, x), l3] [] S h n = mx_ex d 208 21 [l0, l1, some (0, x), l3] [(0, x)] S h n) ∧
  (∀ (d : Nat) (x : Int) (l0 l1 l2 l3 : Option mx_V) (S h : mx_H) (n : Int), mx_ex d 208 21 [l0, l1, l2, l3] [(0, x)] S h n = some (some (0, x), S, h, n)) :=
  ⟨by intros; exact rfl,
   by intros; exact eq_push rfl,
   by intros; exact eq_st rfl (by decide) (Nat.le_of_ble_eq_true rfl) rfl,
   by intros; exact eq_ld rfl rfl,
   by intros; exact eq_ld rfl rfl,
   by intros; exact eq_i2d (o := mx_div) rfl,
   by intros; exact eq_st rfl (by decide) (Nat.le_of_ble_eq_true rfl) rfl,
   by intros; exact eq_if5 rfl,
   by intros; exact eq_inc rfl rfl rfl,
   by intros; exact eq_ld rfl rfl,
   by intros; exact eq_ld rfl rfl,
   by intros; exact eq_i2d (o := mx_div) rfl,
   by intros; exact eq_st rfl (by decide) (Nat.le_of_ble_eq_true rfl) rfl,
   by intros; exact eq_go rfl,
   by intros; exact eq_ld rfl rfl,
   by intros; exact eq_ret rfl⟩
theorem rh_X12_signFromEnd_5 : ∀ (d : Nat) (x : Int) (l0 l1 l2 l3 : Option mx_V) (S h : mx_H) (n : Int), mx_ex d 209 5 [l0, l1, l2, l3, some (0, x)] [] S h n = mx_ex d 209 7 [l0, l1, l2, l3, some (0, x)] [(0, x)] S h n := by intros; exact eq_ld rfl rfl
theorem rw_X12_signFromEnd :
  (∀ (d : Nat) (a0 a1 a2 : Int) (S h : mx_H) (n : Int), mx_M d 209 [(0, a0), (0, a1), (0, a2)] S h n = mx_ex d 209 0 [some (0, a0), some (0, a1), some (0, a2), none, none] [] S h n) ∧
  (∀ (d : Nat) (x : Int) (l1 l2 l3 l4 : Option mx_V) (S h : mx_H) (n : Int), mx_ex d 209 0 [some (0, x), l1, l2, l3, l4] [] S h n = mx_ex d 209 1 [some (0, x), l1, l2, l3, l4] [(0, x)] S h n) ∧
  (∀ (d : Nat) (x : Int) (l0 l1 l2 l3 l4 : Option mx_V) (S h : mx_H) (n : Int), mx_ex d 209 1 [l0, l1, l2, l3, l4] [(0, x)] S h n = mx_ex d 209 2 [l0, l1, mx_nl l2, some (0, x), l4] [] S h n) ∧
  (∀ (d : Nat) (l0 l1 l2 l3 l4 : Option mx_V) (S h : mx_H) (n : Int), mx_ex d 209 2 [l0, l1, l2, l3, l4] [] S h n = mx_ex d 209 3 [l0, l1, l2, l3, l4] [(0, 0)] S h n) ∧
  (∀ (d : Nat) (x : Int) (l0 l1 l2 l3 l4 : Option mx_V) (S h : mx_H) (n : Int), mx_ex d 209 3 [l0, l1, l2, l3, l4] [(0, x)] S h n = mx_ex d 209 5 [l0, l1, l2, mx_nl l3, some (0, x)] [] S h n) ∧
  (∀ (d : Nat) (x : Int) (l0 l1 l3 l4 : Option mx_V) (v0 : mx_V) (S h : mx_H) (n : Int), mx_ex d 209 7 [l0, l1, some (0, x), l3, l4] [v0] S h n = mx_ex d 209 8 [l0, l1, some (0, x), l3, l4] [(0, x), v0] S h n) ∧
  (∀ (d : Nat) (b a : Int) (l0 l1 l2 l3 l4 : Option mx_V) (S h : mx_H) (n : Int), mx_ex d 209 8 [l0, l1, l2, l3, l4] [(0, b), (0, a)] S h n = mx_br (a < b) d 209 11 21 [l0, l1, l2, l3, l4] [] S h n) ∧
  (∀ (d : Nat) (x : Int) (l0 l1 l2 l4 : Option mx_V) (S h : mx_H) (n : Int), mx_ex d 209 11 [l0, l1, l2, some (0, x), l4] [] S h n = mx_ex d 209 12 [l0, l1, l2, some (0, x), l4] [(0, x)] S h n) ∧
  (∀ (d : Nat) (x : Int) (l0 l2 l3 l4 : Option mx_V) (v0 : mx_V) (S h : mx_H) (n : Int), mx_ex d 209 12 [l0, some (0, x), l2, l3, l4] [v0] S h n = mx_ex d 209 13 [l0, some (0, x), l2, l3, l4] [(0, x), v0] S h n) ∧
  (∀ (d : Nat) (b a : Int) (l0 l1 l2 l3 l4 : Option mx_V) (S h : mx_H) (n : Int), mx_ex d 209 13 [l0, l1, l2, l3, l4] [(0, b), (0, a)] S h n = mx_gd (¬ b = 0) d 209 14 [l0, l1, l2, l3, l4] [(0, mx_w (Int.tdiv a b))] S h n) ∧
  (∀ (d : Nat) (x : Int) (l0 l1 l2 l3 l4 : Option mx_V) (S h : mx_H) (n : Int), mx_ex d 209 14 [l0, l1, l2, l3, l4] [(0, x)] S h n = mx_ex d 209 15 [l0, l1, mx_nl l2, some (0, x), l4] [] S h n) ∧
  (∀ (d : Nat) (x : Int) (l0 l1 l2 l3 : Option mx_V) (S h : mx_H) (n : Int), mx_ex d 209 15 [l0, l1, l2, l3, some (0, x)] [] S h n = mx_ex d 209 18 [l0, l1, l2, mx_nl l3, some (0, mx_w (x + 1))] [] S h n) ∧
  (∀ (d : Nat) (l0 l1 l2 l3 l4 : Option mx_V) (S h : mx_H) (n : Int), mx_ex d 209 18 [l0, l1, l2, l3, l4] [] S h n = mx_ex d 209 5 [l0, l1, l2, l3, l4] [] S h n) ∧
  (∀ (d : Nat) (x : Int) (l0 l1 l2 l4 : Option mx_V) (S h : mx_H) (n : Int), mx_ex d 209 21 [l0, l1, l2, some (0, x), l4] [] S h n = mx_ex d 209 22 [l0, l1, l2, some (0, x), l4] [(0, x)] S h n) ∧
  (∀ (d : Nat) (x : Int) (l0 l2 l3 l4 : Option mx_V) (v0 : mx_V) (S h : mx_H) (n : Int), mx_ex d 209 22 [l0, some (0, x), l2, l3, l4] [v0] S h n = mx_ex d 209 23 [l0, some (0, x), l2, l3, l4] [(0, x), v0] S h n) ∧
  (∀ (d : Nat) (b a : Int) (l0 l1 l2 l3 l4 : Option mx_V) (S h : mx_H) (n : Int), mx_ex d 209 23 [l0, l1, l2, l3, l4] [(0, b), (0, a)] S h n = mx_gd (¬ b = 0) d 209 24 [l0, l1, l2, l3, l4] [(0, Int.tmod a b)] S h n) ∧
  (∀ (d : Nat) (x : Int) (l0 l1 l2 l3 l4 : Option mx_V) (S h : mx_H) (n : Int), mx_ex d 209 24 [l0, l1, l2, l3, l4] [(0, x)] S h n = some (some (0, x), S, h, n)) :=
  ⟨by intros; exact rfl,
   by intros; exact eq_ld rfl rfl,
   by intros; exact eq_st rfl (by decide) (Nat.le_of_ble_eq_true rfl) rfl,
   by intros; exact eq_push rfl,
   by intros; exact eq_st rfl (by decide) (Nat.le_of_ble_eq_true rfl) rfl,
   by intros; exact eq_ld rfl rfl,
   by intros; exact eq_ic3 rfl,
   by intros; exact eq_ld rfl rfl,
   by intros; exact eq_ld rfl rfl,
   by intros; exact eq_i2d (o := mx_div) rfl,
   by intros; exact eq_st rfl (by decide) (Nat.le_of_ble_eq_true rfl) rfl,
   by intros; exact eq_inc rfl rfl rfl,
   by intros; exact eq_go rfl,
   by intros; exact eq_ld rfl rfl,
   by intros; exact eq_ld rfl rfl,
   by intros; exact eq_i2d (o := mx_rem) rfl,
   by intros; exact eq_ret rfl⟩
theorem rw_X12_written :
  (∀ (d : Nat) (a0 a1 a2 a3 : Int) (S h : mx_H) (n : Int), mx_M d 210 [(2, a0), (0, a1), (0, a2), (0, a3)] S h n = mx_ex d 210 0 [some (2, a0), some (0, a1), some (0, a2), some (0, a3), none] [] S h n) ∧
  (∀ (d : Nat) (x : Int) (l0 l2 l3 l4 : Option mx_V) (S h : mx_H) (n : Int), mx_ex d 210 0 [l0, some (0, x), l2, l3, l4] [] S h n = mx_ex d 210 1 [l0, some (0, x), l2, l3, l4] [(0, x)] S h n) ∧
  (∀ (d : Nat) (l0 l1 l2 l3 l4 : Option mx_V) (v0 : mx_V) (S h : mx_H) (n : Int), mx_ex d 210 1 [l0, l1, l2, l3, l4] [v0] S h n = mx_ex d 210 2 [l0, l1, l2, l3, l4] [(0, 0), v0] S h n) ∧
  (∀ (d : Nat) (l0 l1 l2 l3 l4 : Option mx_V) (v0 v1 : mx_V) (S h : mx_H) (n : Int), mx_ex d 210 2 [l0, l1, l2, l3, l4] [v0, v1] S h n = mx_ex d 210 5 [l0, l1, l2, l3, l4] [(0, 9999), v0, v1] S h n) ∧
  (∀ (d : Nat) (x0 x1 x2 : Int) (l0 l1 l2 l3 l4 : Option mx_V) (S h : mx_H) (n : Int), mx_ex (d + 1) 210 5 [l0, l1, l2, l3, l4] [(0, x0), (0, x1), (0, x2)] S h n = mx_rt (mx_M d 157 [(0, x2), (0, x1), (0, x0)] S h n) (d + 1) 210 8 [l0, l1, l2, l3, l4] []) ∧
  (∀ (d : Nat) (a : Int) (l0 l1 l2 l3 l4 : Option mx_V) (S h : mx_H) (n : Int), mx_ex d 210 8 [l0, l1, l2, l3, l4] [(0, a)] S h n = mx_br (a = 0) d 210 23 11 [l0, l1, l2, l3, l4] [] S h n) ∧
  (∀ (d : Nat) (x : Int) (l0 l1 l3 l4 : Option mx_V) (S h : mx_H) (n : Int), mx_ex d 210 11 [l0, l1, some (0, x), l3, l4] [] S h n = mx_ex d 210 12 [l0, l1, some (0, x), l3, l4] [(0, x)] S h n) ∧
  (∀ (d : Nat) (x0 : Int) (l0 l1 l2 l3 l4 : Option mx_V) (S h : mx_H) (n : Int), mx_ex (d + 1) 210 12 [l0, l1, l2, l3, l4] [(0, x0)] S h n = mx_rt (mx_M d 160 [(0, x0)] S h n) (d + 1) 210 15 [l0, l1, l2, l3, l4] []) ∧
  (∀ (d : Nat) (a : Int) (l0 l1 l2 l3 l4 : Option mx_V) (S h : mx_H) (n : Int), mx_ex d 210 15 [l0, l1, l2, l3, l4] [(0, a)] S h n = mx_br (a = 0) d 210 23 18 [l0, l1, l2, l3, l4] [] S h n) ∧
  (∀ (d : Nat) (x : Int) (l0 l1 l2 l4 : Option mx_V) (S h : mx_H) (n : Int), mx_ex d 210 18 [l0, l1, l2, some (0, x), l4] [] S h n = mx_ex d 210 19 [l0, l1, l2, some (0, x), l4] [(0, x)] S h n) ∧
  (∀ (d : Nat) (l0 l1 l2 l3 l4 : Option mx_V) (v0 : mx_V) (S h : mx_H) (n : Int), mx_ex d 210 19 [l0, l1, l2, l3, l4] [v0] S h n = mx_ex d 210 20 [l0, l1, l2, l3, l4] [(0, (-1)), v0] S h n) ∧
  (∀ (d : Nat) (b a : Int) (l0 l1 l2 l3 l4 : Option mx_V) (S h : mx_H) (n : Int), mx_ex d 210 20 [l0, l1, l2, l3, l4] [(0, b), (0, a)] S h n = mx_br (a < b) d 210 23 25 [l0, l1, l2, l3, l4] [] S h n) ∧
  (∀ (d : Nat) (l0 l1 l2 l3 l4 : Option mx_V) (S h : mx_H) (n : Int), mx_ex d 210 23 [l0, l1, l2, l3, l4] [] S h n = mx_ex d 210 24 [l0, l1, l2, l3, l4] [(0, (-1))] S h n) ∧
  (∀ (d : Nat) (x : Int) (l0 l1 l2 l3 l4 : Option mx_V) (S h : mx_H) (n : Int), mx_ex d 210 24 [l0, l1, l2, l3, l4] [(0, x)] S h n = some (some (0, x), S, h, n)) ∧
  (∀ (d : Nat) (x : Int) (l0 l2 l3 l4 : Option mx_V) (S h : mx_H) (n : Int), mx_ex d 210 25 [l0, some (0, x), l2, l3, l4] [] S h n = mx_ex d 210 26 [l0, some (0, x), l2, l3, l4] [(0, x)] S h n) ∧
  (∀ (d : Nat) (x : Int) (l0 l1 l3 l4 : Option mx_V) (v0 : mx_V) (S h : mx_H) (n : Int), mx_ex d 210 26 [l0, l1, some (0, x), l3, l4] [v0] S h n = mx_ex d 210 27 [l0, l1, some (0, x), l3, l4] [(0, x), v0] S h n) ∧
  (∀ (d : Nat) (x0 x1 : Int) (l0 l1 l2 l3 l4 : Option mx_V) (S h : mx_H) (n : Int), mx_ex (d + 1) 210 27 [l0, l1, l2, l3, l4] [(0, x0), (0, x1)] S h n = mx_rt (mx_M d 208 [(0, x1), (0, x0)] S h n) (d + 1) 210 30 [l0, l1, l2, l3, l4] []) ∧
  (∀ (d : Nat) (x : Int) (l0 l1 l2 l3 l4 : Option mx_V) (S h : mx_H) (n : Int), mx_ex d 210 30 [l0, l1, l2, l3, l4] [(0, x)] S h n = mx_ex d 210 32 [l0, l1, l2, mx_nl l3, some (0, x)] [] S h n) ∧
  (∀ (d : Nat) (x : Int) (l0 l1 l2 l4 : Option mx_V) (S h : mx_H) (n : Int), mx_ex d 210 32 [l0, l1, l2, some (0, x), l4] [] S h n = mx_ex d 210 33 [l0, l1, l2, some (0, x), l4] [(0, x)] S h n) ∧
  (∀ (d : Nat) (a : Int) (l0 l1 l2 l3 l4 : Option mx_V) (S h : mx_H) (n : Int), mx_ex d 210 33 [l0, l1, l2, l3, l4] [(0, a)] S h n = mx_br (a < 0) d 210 36 41 [l0, l1, l2, l3, l4] [] S h n) ∧
  (∀ (d : Nat) (x : Int) (l0 l1 l2 l3 : Option mx_V) (S h : mx_H) (n : Int), mx_ex d 210 36 [l0, l1, l2, l3, some (0, x)] [] S h n = mx_ex d 210 38 [l0, l1, l2, l3, some (0, x)] [(0, x)] S h n) ∧
  (∀ (d : Nat) (l0 l1 l2 l3 l4 : Option mx_V) (v0 : mx_V) (S h : mx_H) (n : Int), mx_ex d 210 38 [l0, l1, l2, l3, l4] [v0] S h n = mx_ex d 210 63 [l0, l1, l2, l3, l4] [v0] S h n) ∧
  (∀ (d : Nat) (x : Int) (l0 l1 l2 l4 : Option mx_V) (S h : mx_H) (n : Int), mx_ex d 210 41 [l0, l1, l2, some (0, x), l4] [] S h n = mx_ex d 210 42 [l0, l1, l2, some (0, x), l4] [(0, x)] S h n) ∧
  (∀ (d : Nat) (x : Int) (l0 l1 l2 l3 : Option mx_V) (v0 : mx_V) (S h : mx_H) (n : Int), mx_ex d 210 42 [l0, l1, l2, l3, some (0, x)] [v0] S h n = mx_ex d 210 44 [l0, l1, l2, l3, some (0, x)] [(0, x), v0] S h n) ∧
  (∀ (d : Nat) (b a : Int) (l0 l1 l2 l3 l4 : Option mx_V) (S h : mx_H) (n : Int), mx_ex d 210 44 [l0, l1, l2, l3, l4] [(0, b), (0, a)] S h n = mx_br (a < b) d 210 47 61 [l0, l1, l2, l3, l4] [] S h n) ∧
  (∀ (d : Nat) (x : Int) (l0 l2 l3 l4 : Option mx_V) (S h : mx_H) (n : Int), mx_ex d 210 47 [l0, some (0, x), l2, l3, l4] [] S h n = mx_ex d 210 48 [l0, some (0, x), l2, l3, l4] [(0, x)] S h n) ∧
  (∀ (d : Nat) (x : Int) (l0 l1 l3 l4 : Option mx_V) (v0 : mx_V) (S h : mx_H) (n : Int), mx_ex d 210 48 [l0, l1, some (0, x), l3, l4] [v0] S h n = mx_ex d 210 49 [l0, l1, some (0, x), l3, l4] [(0, x), v0] S h n) ∧
  (∀ (d : Nat) (x : Int) (l0 l1 l2 l3 : Option mx_V) (v0 v1 : mx_V) (S h : mx_H) (n : Int), mx_ex d 210 49 [l0, l1, l2, l3, some (0, x)] [v0, v1] S h n = mx_ex d 210 51 [l0, l1, l2, l3, some (0, x)] [(0, x), v0, v1] S h n) ∧
  (∀ (d : Nat) (l0 l1 l2 l3 l4 : Option mx_V) (v0 v1 v2 : mx_V) (S h : mx_H) (n : Int), mx_ex d 210 51 [l0, l1, l2, l3, l4] [v0, v1, v2] S h n = mx_ex d 210 52 [l0, l1, l2, l3, l4] [(0, 1), v0, v1, v2] S h n) ∧
  (∀ (d : Nat) (b a : Int) (l0 l1 l2 l3 l4 : Option mx_V) (v2 v3 : mx_V) (S h : mx_H) (n : Int), mx_ex d 210 52 [l0, l1, l2, l3, l4] [(0, b), (0, a), v2, v3] S h n = mx_ex d 210 53 [l0, l1, l2, l3, l4] [(0, mx_w (a - b)), v2, v3] S h n) ∧
  (∀ (d : Nat) (x : Int) (l0 l1 l2 l4 : Option mx_V) (v0 v1 v2 : mx_V) (S h : mx_H) (n : Int), mx_ex d 210 53 [l0, l1, l2, some (0, x), l4] [v0, v1, v2] S h n = mx_ex d 210 54 [l0, l1, l2, some (0, x), l4] [(0, x), v0, v1, v2] S h n) ∧
  (∀ (d : Nat) (b a : Int) (l0 l1 l2 l3 l4 : Option mx_V) (v2 v3 : mx_V) (S h : mx_H) (n : Int), mx_ex d 210 54 [l0, l1, l2, l3, l4] [(0, b), (0, a), v2, v3] S h n = mx_ex d 210 55 [l0, l1, l2, l3, l4] [(0, mx_w (a - b)), v2, v3] S h n) ∧
  (∀ (d : Nat) (x0 x1 x2 : Int) (l0 l1 l2 l3 l4 : Option mx_V) (S h : mx_H) (n : Int), mx_ex (d + 1) 210 55 [l0, l1, l2, l3, l4] [(0, x0), (0, x1), (0, x2)] S h n = mx_rt (mx_M d 209 [(0, x2), (0, x1), (0, x0)] S h n) (d + 1) 210 58 [l0, l1, l2, l3, l4] []) ∧
  (∀ (d : Nat) (l0 l1 l2 l3 l4 : Option mx_V) (v0 : mx_V) (S h : mx_H) (n : Int), mx_ex d 210 58 [l0, l1, l2, l3, l4] [v0] S h n = mx_ex d 210 63 [l0, l1, l2, l3, l4] [v0] S h n) ∧
  (∀ (d : Nat) (l0 l1 l2 l3 l4 : Option mx_V) (S h : mx_H) (n : Int), mx_ex d 210 61 [l0, l1, l2, l3, l4] [] S h n = mx_ex d 210 63 [l0, l1, l2, l3, l4] [(0, (-3))] S h n) ∧
  (∀ (d : Nat) (x : Int) (l0 l1 l2 l3 l4 : Option mx_V) (S h : mx_H) (n : Int), mx_ex d 210 63 [l0, l1, l2, l3, l4] [(0, x)] S h n = some (some (0, x), S, h, n)) :=
  ⟨by intros; exact rfl,
   by intros; exact eq_ld rfl rfl,
   by intros; exact eq_push rfl,
   by intros; exact eq_push rfl,
   by intros; exact eq_cs rfl (Nat.le_of_ble_eq_true rfl) rfl rfl rfl (Nat.le_of_ble_eq_true rfl),
   by intros; exact eq_if0 rfl,
   by intros; exact eq_ld rfl rfl,
   by intros; exact eq_cs rfl (Nat.le_of_ble_eq_true rfl) rfl rfl rfl (Nat.le_of_ble_eq_true rfl),
   by intros; exact eq_if0 rfl,
   by intros; exact eq_ld rfl rfl,
   by intros; exact eq_push rfl,
   by intros; exact eq_ic3 rfl,
   by intros; exact eq_push rfl,
   by intros; exact eq_ret rfl,
   by intros; exact eq_ld rfl rfl,
   by intros; exact eq_ld rfl rfl,
   by intros; exact eq_cs rfl (Nat.le_of_ble_eq_true rfl) rfl rfl rfl (Nat.le_of_ble_eq_true rfl),
   by intros; exact eq_st rfl (by decide) (Nat.le_of_ble_eq_true rfl) rfl,
   by intros; exact eq_ld rfl rfl,
   by intros; exact eq_if3 rfl,
   by intros; exact eq_ld rfl rfl,
   by intros; exact eq_go rfl,
   by intros; exact eq_ld rfl rfl,
   by intros; exact eq_ld rfl rfl,
   by intros; exact eq_ic3 rfl,
   by intros; exact eq_ld rfl rfl,
   by intros; exact eq_ld rfl rfl,
   by intros; exact eq_ld rfl rfl,
   by intros; exact eq_push rfl,
   by intros; exact eq_i2 (o := mx_sub) rfl,
   by intros; exact eq_ld rfl rfl,
   by intros; exact eq_i2 (o := mx_sub) rfl,
   by intros; exact eq_cs rfl (Nat.le_of_ble_eq_true rfl) rfl rfl rfl (Nat.le_of_ble_eq_true rfl),
   by intros; exact eq_go rfl,
   by intros; exact eq_push rfl,
   by intros; exact eq_ret rfl⟩
theorem rw_X12_areBases :
  (∀ (d : Nat) (a0 : Int) (S h : mx_H) (n : Int), mx_M d 211 [(0, a0)] S h n = mx_ex d 211 0 [some (0, a0)] [] S h n) ∧
  (∀ (d : Nat) (x : Int) (S h : mx_H) (n : Int), mx_ex d 211 0 [some (0, x)] [] S h n = mx_ex d 211 1 [some (0, x)] [(0, x)] S h n) ∧
  (∀ (d : Nat) (a : Int) (l0 : Option mx_V) (S h : mx_H) (n : Int), mx_ex d 211 1 [l0] [(0, a)] S h n = mx_br (0 < a) d 211 4 20 [l0] [] S h n) ∧
  (∀ (d : Nat) (x : Int) (S h : mx_H) (n : Int), mx_ex d 211 4 [some (0, x)] [] S h n = mx_ex d 211 5 [some (0, x)] [(0, x)] S h n) ∧
  (∀ (d : Nat) (l0 : Option mx_V) (v0 : mx_V) (S h : mx_H) (n : Int), mx_ex d 211 5 [l0] [v0] S h n = mx_ex d 211 7 [l0] [(0, 131072), v0] S h n) ∧
  (∀ (d : Nat) (b a : Int) (l0 : Option mx_V) (S h : mx_H) (n : Int), mx_ex d 211 7 [l0] [(0, b), (0, a)] S h n = mx_br (a < b) d 211 10 20 [l0] [] S h n) ∧
  (∀ (d : Nat) (x : Int) (S h : mx_H) (n : Int), mx_ex d 211 10 [some (0, x)] [] S h n = mx_ex d 211 11 [some (0, x)] [(0, x)] S h n) ∧
  (∀ (d : Nat) (l0 : Option mx_V) (v0 : mx_V) (S h : mx_H) (n : Int), mx_ex d 211 11 [l0] [v0] S h n = mx_ex d 211 12 [l0] [(0, 3), v0] S h n) ∧
  (∀ (d : Nat) (b a : Int) (l0 : Option mx_V) (S h : mx_H) (n : Int), mx_ex d 211 12 [l0] [(0, b), (0, a)] S h n = mx_ex d 211 13 [l0] [(0, mx_and a b)] S h n) ∧
  (∀ (d : Nat) (a : Int) (l0 : Option mx_V) (S h : mx_H) (n : Int), mx_ex d 211 13 [l0] [(0, a)] S h n = mx_br (a = 0) d 211 16 20 [l0] [] S h n) ∧
  (∀ (d : Nat) (l0 : Option mx_V) (S h : mx_H) (n : Int), mx_ex d 211 16 [l0] [] S h n = mx_ex d 211 17 [l0] [(0, 1)] S h n) ∧
  (∀ (d : Nat) (l0 : Option mx_V) (v0 : mx_V) (S h : mx_H) (n : Int), mx_ex d 211 17 [l0] [v0] S h n = mx_ex d 211 21 [l0] [v0] S h n) ∧
  (∀ (d : Nat) (l0 : Option mx_V) (S h : mx_H) (n : Int), mx_ex d 211 20 [l0] [] S h n = mx_ex d 211 21 [l0] [(0, 0)] S h n) ∧
  (∀ (d : Nat) (x : Int) (l0 : Option mx_V) (S h : mx_H) (n : Int), mx_ex d 211 21 [l0] [(0, x)] S h n = mx_re (0 ≤ x ∧ x ≤ 1) (some (0, x)) S h n) :=
  ⟨by intros; exact rfl,
   by intros; exact eq_ld rfl rfl,
   by intros; exact eq_if5 rfl,
   by intros; exact eq_ld rfl rfl,
   by intros; exact eq_push rfl,
   by intros; exact eq_ic3 rfl,
   by intros; exact eq_ld rfl rfl,
   by intros; exact eq_push rfl,
   by intros; exact eq_i2 (o := mx_and) rfl,
   by intros; exact eq_if1 rfl,
   by intros; exact eq_push rfl,
   by intros; exact eq_go rfl,
   by intros; exact eq_push rfl,
   by intros; exact eq_rr rfl⟩
theorem rh_X12_isAlike_4 : ∀ (d : Nat) (x : Int) (l0 l1 l2 l4 : Option mx_V) (S h : mx_H) (n : Int), mx_ex d 212 4 [l0, l1, l2, some (0, x), l4] [] S h n = mx_ex d 212 5 [l0, l1, l2, some (0, x), l4] [(0, x)] S h n := by intros; exact eq_ld rfl rfl
theorem rh_X12_isAlike_47 : ∀ (d : Nat) (x : Int) (l0 l1 l2 l3 : Option mx_V) (S h : mx_H) (n : Int), mx_ex d 212 47 [l0, l1, l2, l3, some (0, x)] [] S h n = mx_ex d 212 49 [l0, l1, l2, l3, some (0, x)] [(0, x)] S h n := by intros; exact eq_ld rfl rfl
theorem rw_X12_isAlike :
  (∀ (d : Nat) (a0 a1 : Int) (S h : mx_H) (n : Int), mx_M d 212 [(0, a0), (0, a1)] S h n = mx_ex d 212 0 [some (0, a0), some (0, a1), none, none, none] [] S h n) ∧
  (∀ (d : Nat) (l0 l1 l2 l3 l4 : Option mx_V) (S h : mx_H) (n : Int), mx_ex d 212 0 [l0, l1, l2, l3, l4] [] S h n = mx_ex d 212 1 [l0, l1, l2, l3, l4] [(0, 0)] S h n) ∧
  (∀ (d : Nat) (x : Int) (l0 l1 l2 l3 l4 : Option mx_V) (S h : mx_H) (n : Int), mx_ex d 212 1 [l0, l1, l2, l3, l4] [(0, x)] S h n = mx_ex d 212 2 [l0, mx_nl l1, some (0, x), l3, l4] [] S h n) ∧
  (∀ (d : Nat) (l0 l1 l2 l3 l4 : Option mx_V) (S h : mx_H) (n : Int), mx_ex d 212 2 [l0, l1, l2, l3, l4] [] S h n = mx_ex d 212 3 [l0, l1, l2, l3, l4] [(0, 2)] S h n) ∧
  (∀ (d : Nat) (x : Int) (l0 l1 l2 l3 l4 : Option mx_V) (S h : mx_H) (n : Int), mx_ex d 212 3 [l0, l1, l2, l3, l4] [(0, x)] S h n = mx_ex d 212 4 [l0, l1, mx_nl l2, some (0, x), l4] [] S h n) ∧
  (∀ (d : Nat) (l0 l1 l2 l3 l4 : Option mx_V) (v0 : mx_V) (S h : mx_H) (n : Int), mx_ex d 212 5 [l0, l1, l2, l3, l4] [v0] S h n = mx_ex d 212 7 [l0, l1, l2, l3, l4] [(0, 16), v0] S h n) ∧
  (∀ (d : Nat) (b a : Int) (l0 l1 l2 l3 l4 : Option mx_V) (S h : mx_H) (n : Int), mx_ex d 212 7 [l0, l1, l2, l3, l4] [(0, b), (0, a)] S h n = mx_br (b < a) d 212 88 10 [l0, l1, l2, l3, l4] [] S h n) ∧
  (∀ (d : Nat) (x : Int) (l0 l2 l3 l4 : Option mx_V) (S h : mx_H) (n : Int), mx_ex d 212 10 [l0, some (0, x), l2, l3, l4] [] S h n = mx_ex d 212 11 [l0, some (0, x), l2, l3, l4] [(0, x)] S h n) ∧
  (∀ (d : Nat) (x : Int) (l0 l1 l2 l4 : Option mx_V) (v0 : mx_V) (S h : mx_H) (n : Int), mx_ex d 212 11 [l0, l1, l2, some (0, x), l4] [v0] S h n = mx_ex d 212 12 [l0, l1, l2, some (0, x), l4] [(0, x), v0] S h n) ∧
  (∀ (d : Nat) (b a : Int) (l0 l1 l2 l3 l4 : Option mx_V) (S h : mx_H) (n : Int), mx_ex d 212 12 [l0, l1, l2, l3, l4] [(0, b), (0, a)] S h n = mx_ex d 212 13 [l0, l1, l2, l3, l4] [(0, mx_shr a b)] S h n) ∧
  (∀ (d : Nat) (l0 l1 l2 l3 l4 : Option mx_V) (v0 : mx_V) (S h : mx_H) (n : Int), mx_ex d 212 13 [l0, l1, l2, l3, l4] [v0] S h n = mx_ex d 212 14 [l0, l1, l2, l3, l4] [(0, 1), v0] S h n) ∧
  (∀ (d : Nat) (b a : Int) (l0 l1 l2 l3 l4 : Option mx_V) (S h : mx_H) (n : Int), mx_ex d 212 14 [l0, l1, l2, l3, l4] [(0, b), (0, a)] S h n = mx_ex d 212 15 [l0, l1, l2, l3, l4] [(0, mx_and a b)] S h n) ∧
  (∀ (d : Nat) (l0 l1 l2 l3 l4 : Option mx_V) (v0 : mx_V) (S h : mx_H) (n : Int), mx_ex d 212 15 [l0, l1, l2, l3, l4] [v0] S h n = mx_ex d 212 16 [l0, l1, l2, l3, l4] [(0, 1), v0] S h n) ∧
  (∀ (d : Nat) (b a : Int) (l0 l1 l2 l3 l4 : Option mx_V) (S h : mx_H) (n : Int), mx_ex d 212 16 [l0, l1, l2, l3, l4] [(0, b), (0, a)] S h n = mx_br (a = b) d 212 19 82 [l0, l1, l2, l3, l4] [] S h n) ∧
  (∀ (d : Nat) (x : Int) (l0 l1 l3 l4 : Option mx_V) (S h : mx_H) (n : Int), mx_ex d 212 19 [l0, l1, some (0, x), l3, l4] [] S h n = mx_ex d 212 20 [l0, l1, some (0, x), l3, l4] [(0, x)] S h n) ∧
  (∀ (d : Nat) (a : Int) (l0 l1 l2 l3 l4 : Option mx_V) (S h : mx_H) (n : Int), mx_ex d 212 20 [l0, l1, l2, l3, l4] [(0, a)] S h n = mx_br (a = 0) d 212 23 27 [l0, l1, l2, l3, l4] [] S h n) ∧
  (∀ (d : Nat) (x : Int) (l0 l1 l2 l4 : Option mx_V) (S h : mx_H) (n : Int), mx_ex d 212 23 [l0, l1, l2, some (0, x), l4] [] S h n = mx_ex d 212 24 [l0, l1, l2, some (0, x), l4] [(0, x)] S h n) ∧
  (∀ (d : Nat) (l0 l1 l2 l3 l4 : Option mx_V) (v0 : mx_V) (S h : mx_H) (n : Int), mx_ex d 212 24 [l0, l1, l2, l3, l4] [v0] S h n = mx_ex d 212 28 [l0, l1, l2, l3, l4] [v0] S h n) ∧
  (∀ (d : Nat) (x : Int) (l0 l1 l3 l4 : Option mx_V) (S h : mx_H) (n : Int), mx_ex d 212 27 [l0, l1, some (0, x), l3, l4] [] S h n = mx_ex d 212 28 [l0, l1, some (0, x), l3, l4] [(0, x)] S h n) ∧
  (∀ (d : Nat) (x : Int) (l0 l1 l2 l3 l4 : Option mx_V) (S h : mx_H) (n : Int), mx_ex d 212 28 [l0, l1, l2, l3, l4] [(0, x)] S h n = mx_ex d 212 29 [l0, mx_nl l1, some (0, x), l3, l4] [] S h n) ∧
  (∀ (d : Nat) (x : Int) (l1 l2 l3 l4 : Option mx_V) (S h : mx_H) (n : Int), mx_ex d 212 29 [some (0, x), l1, l2, l3, l4] [] S h n = mx_ex d 212 30 [some (0, x), l1, l2, l3, l4] [(0, x)] S h n) ∧
  (∀ (d : Nat) (x : Int) (l0 l1 l2 l4 : Option mx_V) (v0 : mx_V) (S h : mx_H) (n : Int), mx_ex d 212 30 [l0, l1, l2, some (0, x), l4] [v0] S h n = mx_ex d 212 31 [l0, l1, l2, some (0, x), l4] [(0, x), v0] S h n) ∧
  (∀ (d : Nat) (x0 x1 : Int) (l0 l1 l2 l3 l4 : Option mx_V) (S h : mx_H) (n : Int), mx_ex (d + 1) 212 31 [l0, l1, l2, l3, l4] [(0, x0), (0, x1)] S h n = mx_rt (mx_M d 208 [(0, x1), (0, x0)] S h n) (d + 1) 212 34 [l0, l1, l2, l3, l4] []) ∧
  (∀ (d : Nat) (x : Int) (l1 l2 l3 l4 : Option mx_V) (v0 : mx_V) (S h : mx_H) (n : Int), mx_ex d 212 34 [some (0, x), l1, l2, l3, l4] [v0] S h n = mx_ex d 212 35 [some (0, x), l1, l2, l3, l4] [(0, x), v0] S h n) ∧
  (∀ (d : Nat) (x : Int) (l0 l1 l3 l4 : Option mx_V) (v0 v1 : mx_V) (S h : mx_H) (n : Int), mx_ex d 212 35 [l0, l1, some (0, x), l3, l4] [v0, v1] S h n = mx_ex d 212 36 [l0, l1, some (0, x), l3, l4] [(0, x), v0, v1] S h n) ∧
  (∀ (d : Nat) (x0 x1 : Int) (l0 l1 l2 l3 l4 : Option mx_V) (v2 : mx_V) (S h : mx_H) (n : Int), mx_ex (d + 1) 212 36 [l0, l1, l2, l3, l4] [(0, x0), (0, x1), v2] S h n = mx_rt (mx_M d 208 [(0, x1), (0, x0)] S h n) (d + 1) 212 39 [l0, l1, l2, l3, l4] [v2]) ∧
  (∀ (d : Nat) (b a : Int) (l0 l1 l2 l3 l4 : Option mx_V) (S h : mx_H) (n : Int), mx_ex d 212 39 [l0, l1, l2, l3, l4] [(0, b), (0, a)] S h n = mx_br (a = b) d 212 44 42 [l0, l1, l2, l3, l4] [] S h n) ∧
  (∀ (d : Nat) (l0 l1 l2 l3 l4 : Option mx_V) (S h : mx_H) (n : Int), mx_ex d 212 42 [l0, l1, l2, l3, l4] [] S h n = mx_ex d 212 43 [l0, l1, l2, l3, l4] [(0, 0)] S h n) ∧
  (∀ (d : Nat) (x : Int) (l0 l1 l2 l3 l4 : Option mx_V) (S h : mx_H) (n : Int), mx_ex d 212 43 [l0, l1, l2, l3, l4] [(0, x)] S h n = mx_re (0 ≤ x ∧ x ≤ 1) (some (0, x)) S h n) ∧
  (∀ (d : Nat) (l0 l1 l2 l3 l4 : Option mx_V) (S h : mx_H) (n : Int), mx_ex d 212 44 [l0, l1, l2, l3, l4] [] S h n = mx_ex d 212 45 [l0, l1, l2, l3, l4] [(0, 0)] S h n) ∧
  (∀ (d : Nat) (x : Int) (l0 l1 l2 l3 l4 : Option mx_V) (S h : mx_H) (n : Int), mx_ex d 212 45 [l0, l1, l2, l3, l4] [(0, x)] S h n = mx_ex d 212 47 [l0, l1, l2, mx_nl l3, some (0, x)] [] S h n) ∧
  (∀ (d : Nat) (x : Int) (l1 l2 l3 l4 : Option mx_V) (v0 : mx_V) (S h : mx_H) (n : Int), mx_ex d 212 49 [some (0, x), l1, l2, l3, l4] [v0] S h n = mx_ex d 212 50 [some (0, x), l1, l2, l3, l4] [(0, x), v0] S h n) ∧
  (∀ (d : Nat) (x : Int) (l0 l1 l2 l4 : Option mx_V) (v0 v1 : mx_V) (S h : mx_H) (n : Int), mx_ex d 212 50 [l0, l1, l2, some (0, x), l4] [v0, v1] S h n = mx_ex d 212 51 [l0, l1, l2, some (0, x), l4] [(0, x), v0, v1] S h n) ∧
  (∀ (d : Nat) (x0 x1 : Int) (l0 l1 l2 l3 l4 : Option mx_V) (v2 : mx_V) (S h : mx_H) (n : Int), mx_ex (d + 1) 212 51 [l0, l1, l2, l3, l4] [(0, x0), (0, x1), v2] S h n = mx_rt (mx_M d 208 [(0, x1), (0, x0)] S h n) (d + 1) 212 54 [l0, l1, l2, l3, l4] [v2]) ∧
  (∀ (d : Nat) (b a : Int) (l0 l1 l2 l3 l4 : Option mx_V) (S h : mx_H) (n : Int), mx_ex d 212 54 [l0, l1, l2, l3, l4] [(0, b), (0, a)] S h n = mx_br (a < b) d 212 57 82 [l0, l1, l2, l3, l4] [] S h n) ∧
  (∀ (d : Nat) (x : Int) (l1 l2 l3 l4 : Option mx_V) (S h : mx_H) (n : Int), mx_ex d 212 57 [some (0, x), l1, l2, l3, l4] [] S h n = mx_ex d 212 58 [some (0, x), l1, l2, l3, l4] [(0, x)] S h n) ∧
  (∀ (d : Nat) (x : Int) (l0 l1 l2 l4 : Option mx_V) (v0 : mx_V) (S h : mx_H) (n : Int), mx_ex d 212 58 [l0, l1, l2, some (0, x), l4] [v0] S h n = mx_ex d 212 59 [l0, l1, l2, some (0, x), l4] [(0, x), v0] S h n) ∧
  (∀ (d : Nat) (x : Int) (l0 l1 l2 l3 : Option mx_V) (v0 v1 : mx_V) (S h : mx_H) (n : Int), mx_ex d 212 59 [l0, l1, l2, l3, some (0, x)] [v0, v1] S h n = mx_ex d 212 61 [l0, l1, l2, l3, some (0, x)] [(0, x), v0, v1] S h n) ∧
  (∀ (d : Nat) (x0 x1 x2 : Int) (l0 l1 l2 l3 l4 : Option mx_V) (S h : mx_H) (n : Int), mx_ex (d + 1) 212 61 [l0, l1, l2, l3, l4] [(0, x0), (0, x1), (0, x2)] S h n = mx_rt (mx_M d 209 [(0, x2), (0, x1), (0, x0)] S h n) (d + 1) 212 64 [l0, l1, l2, l3, l4] []) ∧
  (∀ (d : Nat) (x : Int) (l1 l2 l3 l4 : Option mx_V) (v0 : mx_V) (S h : mx_H) (n : Int), mx_ex d 212 64 [some (0, x), l1, l2, l3, l4] [v0] S h n = mx_ex d 212 65 [some (0, x), l1, l2, l3, l4] [(0, x), v0] S h n) ∧
  (∀ (d : Nat) (x : Int) (l0 l1 l3 l4 : Option mx_V) (v0 v1 : mx_V) (S h : mx_H) (n : Int), mx_ex d 212 65 [l0, l1, some (0, x), l3, l4] [v0, v1] S h n = mx_ex d 212 66 [l0, l1, some (0, x), l3, l4] [(0, x), v0, v1] S h n) ∧
  (∀ (d : Nat) (x : Int) (l0 l1 l2 l3 : Option mx_V) (v0 v1 v2 : mx_V) (S h : mx_H) (n : Int), mx_ex d 212 66 [l0, l1, l2, l3, some (0, x)] [v0, v1, v2] S h n = mx_ex d 212 68 [l0, l1, l2, l3, some (0, x)] [(0, x), v0, v1, v2] S h n) ∧
  (∀ (d : Nat) (x0 x1 x2 : Int) (l0 l1 l2 l3 l4 : Option mx_V) (v3 : mx_V) (S h : mx_H) (n : Int), mx_ex (d + 1) 212 68 [l0, l1, l2, l3, l4] [(0, x0), (0, x1), (0, x2), v3] S h n = mx_rt (mx_M d 209 [(0, x2), (0, x1), (0, x0)] S h n) (d + 1) 212 71 [l0, l1, l2, l3, l4] [v3]) ∧
  (∀ (d : Nat) (b a : Int) (l0 l1 l2 l3 l4 : Option mx_V) (S h : mx_H) (n : Int), mx_ex d 212 71 [l0, l1, l2, l3, l4] [(0, b), (0, a)] S h n = mx_br (a = b) d 212 76 74 [l0, l1, l2, l3, l4] [] S h n) ∧
  (∀ (d : Nat) (l0 l1 l2 l3 l4 : Option mx_V) (S h : mx_H) (n : Int), mx_ex d 212 74 [l0, l1, l2, l3, l4] [] S h n = mx_ex d 212 75 [l0, l1, l2, l3, l4] [(0, 0)] S h n) ∧
  (∀ (d : Nat) (x : Int) (l0 l1 l2 l3 l4 : Option mx_V) (S h : mx_H) (n : Int), mx_ex d 212 75 [l0, l1, l2, l3, l4] [(0, x)] S h n = mx_re (0 ≤ x ∧ x ≤ 1) (some (0, x)) S h n) ∧
  (∀ (d : Nat) (x : Int) (l0 l1 l2 l3 : Option mx_V) (S h : mx_H) (n : Int), mx_ex d 212 76 [l0, l1, l2, l3, some (0, x)] [] S h n = mx_ex d 212 79 [l0, l1, l2, mx_nl l3, some (0, mx_w (x + 1))] [] S h n) ∧
  (∀ (d : Nat) (l0 l1 l2 l3 l4 : Option mx_V) (S h : mx_H) (n : Int), mx_ex d 212 79 [l0, l1, l2, l3, l4] [] S h n = mx_ex d 212 47 [l0, l1, l2, l3, l4] [] S h n) ∧
  (∀ (d : Nat) (x : Int) (l0 l1 l2 l4 : Option mx_V) (S h : mx_H) (n : Int), mx_ex d 212 82 [l0, l1, l2, some (0, x), l4] [] S h n = mx_ex d 212 85 [l0, l1, mx_nl l2, some (0, mx_w (x + 1)), l4] [] S h n) ∧
  (∀ (d : Nat) (l0 l1 l2 l3 l4 : Option mx_V) (S h : mx_H) (n : Int), mx_ex d 212 85 [l0, l1, l2, l3, l4] [] S h n = mx_ex d 212 4 [l0, l1, l2, l3, l4] [] S h n) ∧
  (∀ (d : Nat) (l0 l1 l2 l3 l4 : Option mx_V) (S h : mx_H) (n : Int), mx_ex d 212 88 [l0, l1, l2, l3, l4] [] S h n = mx_ex d 212 89 [l0, l1, l2, l3, l4] [(0, 1)] S h n) ∧
  (∀ (d : Nat) (x : Int) (l0 l1 l2 l3 l4 : Option mx_V) (S h : mx_H) (n : Int), mx_ex d 212 89 [l0, l1, l2, l3, l4] [(0, x)] S h n = mx_re (0 ≤ x ∧ x ≤ 1) (some (0, x)) S h n) :=
  ⟨by intros; exact rfl,
   by intros; exact eq_push rfl,
   by intros; exact eq_st rfl (by decide) (Nat.le_of_ble_eq_true rfl) rfl,
   by intros; exact eq_push rfl,
   by intros; exact eq_st rfl (by decide) (Nat.le_of_ble_eq_true rfl) rfl,
   by intros; exact eq_push rfl,
   by intros; exact eq_ic4 rfl,
   by intros; exact eq_ld rfl rfl,
   by intros; exact eq_ld rfl rfl,
   by intros; exact eq_i2 (o := mx_shr) rfl,
   by intros; exact eq_push rfl,
   by intros; exact eq_i2 (o := mx_and) rfl,
   by intros; exact eq_push rfl,
   by intros; exact eq_ic1 rfl,
   by intros; exact eq_ld rfl rfl,
   by intros; exact eq_if1 rfl,
   by intros; exact eq_ld rfl rfl,
   by intros; exact eq_go rfl,
   by intros; exact eq_ld rfl rfl,
   by intros; exact eq_st rfl (by decide) (Nat.le_of_ble_eq_true rfl) rfl,
   by intros; exact eq_ld rfl rfl,
   by intros; exact eq_ld rfl rfl,
   by intros; exact eq_cs rfl (Nat.le_of_ble_eq_true rfl) rfl rfl rfl (Nat.le_of_ble_eq_true rfl),
   by intros; exact eq_ld rfl rfl,
   by intros; exact eq_ld rfl rfl,
   by intros; exact eq_cs rfl (Nat.le_of_ble_eq_true rfl) rfl rfl rfl (Nat.le_of_ble_eq_true rfl),
   by intros; exact eq_ic0 rfl,
   by intros; exact eq_push rfl,
   by intros; exact eq_rr rfl,
   by intros; exact eq_push rfl,
   by intros; exact eq_st rfl (by decide) (Nat.le_of_ble_eq_true rfl) rfl,
   by intros; exact eq_ld rfl rfl,
   by intros; exact eq_ld rfl rfl,
   by intros; exact eq_cs rfl (Nat.le_of_ble_eq_true rfl) rfl rfl rfl (Nat.le_of_ble_eq_true rfl),
   by intros; exact eq_ic3 rfl,
   by intros; exact eq_ld rfl rfl,
   by intros; exact eq_ld rfl rfl,
   by intros; exact eq_ld rfl rfl,
   by intros; exact eq_cs rfl (Nat.le_of_ble_eq_true rfl) rfl rfl rfl (Nat.le_of_ble_eq_true rfl),
   by intros; exact eq_ld rfl rfl,
   by intros; exact eq_ld rfl rfl,
   by intros; exact eq_ld rfl rfl,
   by intros; exact eq_cs rfl (Nat.le_of_ble_eq_true rfl) rfl rfl rfl (Nat.le_of_ble_eq_true rfl),
   by intros; exact eq_ic0 rfl,
   by intros; exact eq_push rfl,
   by intros; exact eq_rr rfl,
   by intros; exact eq_inc rfl rfl rfl,
   by intros; exact eq_go rfl,
   by intros; exact eq_inc rfl rfl rfl,
   by intros; exact eq_go rfl,
   by intros; exact eq_push rfl,
   by intros; exact eq_rr rfl⟩
theorem rh_X12_alike_22 : ∀ (d : Nat) (x : Int) (l0 l1 l2 : Option mx_V) (S h : mx_H) (n : Int), mx_ex d 213 22 [l0, l1, l2, some (0, x)] [] S h n = mx_ex d 213 23 [l0, l1, l2, some (0, x)] [(0, x)] S h n := by intros; exact eq_ld rfl rfl
theorem rw_X12_alike :
  (∀ (d : Nat) (a0 a1 a2 : Int) (S h : mx_H) (n : Int), mx_M d 213 [(2, a0), (0, a1), (0, a2)] S h n = mx_ex d 213 0 [some (2, a0), some (0, a1), some (0, a2), none] [] S h n) ∧
  (∀ (d : Nat) (x : Int) (l0 l2 l3 : Option mx_V) (S h : mx_H) (n : Int), mx_ex d 213 0 [l0, some (0, x), l2, l3] [] S h n = mx_ex d 213 1 [l0, some (0, x), l2, l3] [(0, x)] S h n) ∧
  (∀ (d : Nat) (x0 : Int) (l0 l1 l2 l3 : Option mx_V) (S h : mx_H) (n : Int), mx_ex (d + 1) 213 1 [l0, l1, l2, l3] [(0, x0)] S h n = mx_rt (mx_M d 211 [(0, x0)] S h n) (d + 1) 213 4 [l0, l1, l2, l3] []) ∧
  (∀ (d : Nat) (a : Int) (l0 l1 l2 l3 : Option mx_V) (S h : mx_H) (n : Int), mx_ex d 213 4 [l0, l1, l2, l3] [(0, a)] S h n = mx_br (a = 0) d 213 18 7 [l0, l1, l2, l3] [] S h n) ∧
  (∀ (d : Nat) (x : Int) (l0 l1 l3 : Option mx_V) (S h : mx_H) (n : Int), mx_ex d 213 7 [l0, l1, some (0, x), l3] [] S h n = mx_ex d 213 8 [l0, l1, some (0, x), l3] [(0, x)] S h n) ∧
  (∀ (d : Nat) (l0 l1 l2 l3 : Option mx_V) (v0 : mx_V) (S h : mx_H) (n : Int), mx_ex d 213 8 [l0, l1, l2, l3] [v0] S h n = mx_ex d 213 9 [l0, l1, l2, l3] [(0, 0), v0] S h n) ∧
  (∀ (d : Nat) (l0 l1 l2 l3 : Option mx_V) (v0 v1 : mx_V) (S h : mx_H) (n : Int), mx_ex d 213 9 [l0, l1, l2, l3] [v0, v1] S h n = mx_ex d 213 12 [l0, l1, l2, l3] [(0, 9999), v0, v1] S h n) ∧
  (∀ (d : Nat) (x0 x1 x2 : Int) (l0 l1 l2 l3 : Option mx_V) (S h : mx_H) (n : Int), mx_ex (d + 1) 213 12 [l0, l1, l2, l3] [(0, x0), (0, x1), (0, x2)] S h n = mx_rt (mx_M d 157 [(0, x2), (0, x1), (0, x0)] S h n) (d + 1) 213 15 [l0, l1, l2, l3] []) ∧
  (∀ (d : Nat) (a : Int) (l0 l1 l2 l3 : Option mx_V) (S h : mx_H) (n : Int), mx_ex d 213 15 [l0, l1, l2, l3] [(0, a)] S h n = mx_br (a = 0) d 213 18 20 [l0, l1, l2, l3] [] S h n) ∧
  (∀ (d : Nat) (l0 l1 l2 l3 : Option mx_V) (S h : mx_H) (n : Int), mx_ex d 213 18 [l0, l1, l2, l3] [] S h n = mx_ex d 213 19 [l0, l1, l2, l3] [(0, (-1))] S h n) ∧
  (∀ (d : Nat) (x : Int) (l0 l1 l2 l3 : Option mx_V) (S h : mx_H) (n : Int), mx_ex d 213 19 [l0, l1, l2, l3] [(0, x)] S h n = some (some (0, x), S, h, n)) ∧
  (∀ (d : Nat) (x : Int) (l0 l1 l3 : Option mx_V) (S h : mx_H) (n : Int), mx_ex d 213 20 [l0, l1, some (0, x), l3] [] S h n = mx_ex d 213 21 [l0, l1, some (0, x), l3] [(0, x)] S h n) ∧
  (∀ (d : Nat) (x : Int) (l0 l1 l2 l3 : Option mx_V) (S h : mx_H) (n : Int), mx_ex d 213 21 [l0, l1, l2, l3] [(0, x)] S h n = mx_ex d 213 22 [l0, l1, mx_nl l2, some (0, x)] [] S h n) ∧
  (∀ (d : Nat) (l0 l1 l2 l3 : Option mx_V) (v0 : mx_V) (S h : mx_H) (n : Int), mx_ex d 213 23 [l0, l1, l2, l3] [v0] S h n = mx_ex d 213 26 [l0, l1, l2, l3] [(0, 9999), v0] S h n) ∧
  (∀ (d : Nat) (b a : Int) (l0 l1 l2 l3 : Option mx_V) (S h : mx_H) (n : Int), mx_ex d 213 26 [l0, l1, l2, l3] [(0, b), (0, a)] S h n = mx_br (b < a) d 213 45 29 [l0, l1, l2, l3] [] S h n) ∧
  (∀ (d : Nat) (x : Int) (l0 l1 l2 : Option mx_V) (S h : mx_H) (n : Int), mx_ex d 213 29 [l0, l1, l2, some (0, x)] [] S h n = mx_ex d 213 30 [l0, l1, l2, some (0, x)] [(0, x)] S h n) ∧
  (∀ (d : Nat) (x : Int) (l0 l2 l3 : Option mx_V) (v0 : mx_V) (S h : mx_H) (n : Int), mx_ex d 213 30 [l0, some (0, x), l2, l3] [v0] S h n = mx_ex d 213 31 [l0, some (0, x), l2, l3] [(0, x), v0] S h n) ∧
  (∀ (d : Nat) (x0 x1 : Int) (l0 l1 l2 l3 : Option mx_V) (S h : mx_H) (n : Int), mx_ex (d + 1) 213 31 [l0, l1, l2, l3] [(0, x0), (0, x1)] S h n = mx_rt (mx_M d 212 [(0, x1), (0, x0)] S h n) (d + 1) 213 34 [l0, l1, l2, l3] []) ∧
  (∀ (d : Nat) (a : Int) (l0 l1 l2 l3 : Option mx_V) (S h : mx_H) (n : Int), mx_ex d 213 34 [l0, l1, l2, l3] [(0, a)] S h n = mx_br (a = 0) d 213 39 37 [l0, l1, l2, l3] [] S h n) ∧
  (∀ (d : Nat) (x : Int) (l0 l1 l2 : Option mx_V) (S h : mx_H) (n : Int), mx_ex d 213 37 [l0, l1, l2, some (0, x)] [] S h n = mx_ex d 213 38 [l0, l1, l2, some (0, x)] [(0, x)] S h n) ∧
  (∀ (d : Nat) (x : Int) (l0 l1 l2 l3 : Option mx_V) (S h : mx_H) (n : Int), mx_ex d 213 38 [l0, l1, l2, l3] [(0, x)] S h n = some (some (0, x), S, h, n)) ∧
  (∀ (d : Nat) (x : Int) (l0 l1 l2 : Option mx_V) (S h : mx_H) (n : Int), mx_ex d 213 39 [l0, l1, l2, some (0, x)] [] S h n = mx_ex d 213 42 [l0, l1, mx_nl l2, some (0, mx_w (x + 1))] [] S h n) ∧
  (∀ (d : Nat) (l0 l1 l2 l3 : Option mx_V) (S h : mx_H) (n : Int), mx_ex d 213 42 [l0, l1, l2, l3] [] S h n = mx_ex d 213 22 [l0, l1, l2, l3] [] S h n) ∧
  (∀ (d : Nat) (l0 l1 l2 l3 : Option mx_V) (S h : mx_H) (n : Int), mx_ex d 213 45 [l0, l1, l2, l3] [] S h n = mx_ex d 213 47 [l0, l1, l2, l3] [(0, (-3))] S h n) ∧
  (∀ (d : Nat) (x : Int) (l0 l1 l2 l3 : Option mx_V) (S h : mx_H) (n : Int), mx_ex d 213 47 [l0, l1, l2, l3] [(0, x)] S h n = some (some (0, x), S, h, n)) :=
  ⟨by intros; exact rfl,
   by intros; exact eq_ld rfl rfl,
   by intros; exact eq_cs rfl (Nat.le_of_ble_eq_true rfl) rfl rfl rfl (Nat.le_of_ble_eq_true rfl),
   by intros; exact eq_if0 rfl,
   by intros; exact eq_ld rfl rfl,
   by intros; exact eq_push rfl,
   by intros; exact eq_push rfl,
   by intros; exact eq_cs rfl (Nat.le_of_ble_eq_true rfl) rfl rfl rfl (Nat.le_of_ble_eq_true rfl),
   by intros; exact eq_if1 rfl,
   by intros; exact eq_push rfl,
   by intros; exact eq_ret rfl,
   by intros; exact eq_ld rfl rfl,
   by intros; exact eq_st rfl (by decide) (Nat.le_of_ble_eq_true rfl) rfl,
   by intros; exact eq_push rfl,
   by intros; exact eq_ic4 rfl,
   by intros; exact eq_ld rfl rfl,
   by intros; exact eq_ld rfl rfl,
   by intros; exact eq_cs rfl (Nat.le_of_ble_eq_true rfl) rfl rfl rfl (Nat.le_of_ble_eq_true rfl),
   by intros; exact eq_if0 rfl,
   by intros; exact eq_ld rfl rfl,
   by intros; exact eq_ret rfl,
   by intros; exact eq_inc rfl rfl rfl,
   by intros; exact eq_go rfl,
   by intros; exact eq_push rfl,
   by intros; exact eq_ret rfl⟩
theorem rh_X12_shortest_25 : ∀ (d : Nat) (x : Int) (l0 l1 l2 l3 l5 : Option mx_V) (S h : mx_H) (n : Int), mx_ex d 214 25 [l0, l1, l2, l3, some (0, x), l5] [] S h n = mx_ex d 214 27 [l0, l1, l2, l3, some (0, x), l5] [(0, x)] S h n := by intros; exact eq_ld rfl rfl
theorem rw_X12_shortest :
  (∀ (d : Nat) (a0 a1 a2 : Int) (S h : mx_H) (n : Int), mx_M d 214 [(2, a0), (0, a1), (0, a2)] S h n = mx_ex d 214 0 [some (2, a0), some (0, a1), some (0, a2), none, none, none] [] S h n) ∧
  (∀ (d : Nat) (x : Int) (l0 l2 l3 l4 l5 : Option mx_V) (S h : mx_H) (n : Int), mx_ex d 214 0 [l0, some (0, x), l2, l3, l4, l5] [] S h n = mx_ex d 214 1 [l0, some (0, x), l2, l3, l4, l5] [(0, x)] S h n) ∧
  (∀ (d : Nat) (l0 l1 l2 l3 l4 l5 : Option mx_V) (v0 : mx_V) (S h : mx_H) (n : Int), mx_ex d 214 1 [l0, l1, l2, l3, l4, l5] [v0] S h n = mx_ex d 214 2 [l0, l1, l2, l3, l4, l5] [(0, 0), v0] S h n) ∧
  (∀ (d : Nat) (l0 l1 l2 l3 l4 l5 : Option mx_V) (v0 v1 : mx_V) (S h : mx_H) (n : Int), mx_ex d 214 2 [l0, l1, l2, l3, l4, l5] [v0, v1] S h n = mx_ex d 214 5 [l0, l1, l2, l3, l4, l5] [(0, 9999), v0, v1] S h n) ∧
  (∀ (d : Nat) (x0 x1 x2 : Int) (l0 l1 l2 l3 l4 l5 : Option mx_V) (S h : mx_H) (n : Int), mx_ex (d + 1) 214 5 [l0, l1, l2, l3, l4, l5] [(0, x0), (0, x1), (0, x2)] S h n = mx_rt (mx_M d 157 [(0, x2), (0, x1), (0, x0)] S h n) (d + 1) 214 8 [l0, l1, l2, l3, l4, l5] []) ∧
  (∀ (d : Nat) (a : Int) (l0 l1 l2 l3 l4 l5 : Option mx_V) (S h : mx_H) (n : Int), mx_ex d 214 8 [l0, l1, l2, l3, l4, l5] [(0, a)] S h n = mx_br (a = 0) d 214 18 11 [l0, l1, l2, l3, l4, l5] [] S h n) ∧
  (∀ (d : Nat) (x : Int) (l0 l1 l3 l4 l5 : Option mx_V) (S h : mx_H) (n : Int), mx_ex d 214 11 [l0, l1, some (0, x), l3, l4, l5] [] S h n = mx_ex d 214 12 [l0, l1, some (0, x), l3, l4, l5] [(0, x)] S h n) ∧
  (∀ (d : Nat) (x0 : Int) (l0 l1 l2 l3 l4 l5 : Option mx_V) (S h : mx_H) (n : Int), mx_ex (d + 1) 214 12 [l0, l1, l2, l3, l4, l5] [(0, x0)] S h n = mx_rt (mx_M d 211 [(0, x0)] S h n) (d + 1) 214 15 [l0, l1, l2, l3, l4, l5] []) ∧
  (∀ (d : Nat) (a : Int) (l0 l1 l2 l3 l4 l5 : Option mx_V) (S h : mx_H) (n : Int), mx_ex d 214 15 [l0, l1, l2, l3, l4, l5] [(0, a)] S h n = mx_br (a = 0) d 214 18 20 [l0, l1, l2, l3, l4, l5] [] S h n) ∧
  (∀ (d : Nat) (l0 l1 l2 l3 l4 l5 : Option mx_V) (S h : mx_H) (n : Int), mx_ex d 214 18 [l0, l1, l2, l3, l4, l5] [] S h n = mx_ex d 214 19 [l0, l1, l2, l3, l4, l5] [(0, (-1))] S h n) ∧
  (∀ (d : Nat) (x : Int) (l0 l1 l2 l3 l4 l5 : Option mx_V) (S h : mx_H) (n : Int), mx_ex d 214 19 [l0, l1, l2, l3, l4, l5] [(0, x)] S h n = some (some (0, x), S, h, n)) ∧
  (∀ (d : Nat) (l0 l1 l2 l3 l4 l5 : Option mx_V) (S h : mx_H) (n : Int), mx_ex d 214 20 [l0, l1, l2, l3, l4, l5] [] S h n = mx_ex d 214 21 [l0, l1, l2, l3, l4, l5] [(0, 0)] S h n) ∧
  (∀ (d : Nat) (x : Int) (l0 l1 l2 l3 l4 l5 : Option mx_V) (S h : mx_H) (n : Int), mx_ex d 214 21 [l0, l1, l2, l3, l4, l5] [(0, x)] S h n = mx_ex d 214 22 [l0, l1, mx_nl l2, some (0, x), l4, l5] [] S h n) ∧
  (∀ (d : Nat) (l0 l1 l2 l3 l4 l5 : Option mx_V) (S h : mx_H) (n : Int), mx_ex d 214 22 [l0, l1, l2, l3, l4, l5] [] S h n = mx_ex d 214 23 [l0, l1, l2, l3, l4, l5] [(0, 2)] S h n) ∧
  (∀ (d : Nat) (x : Int) (l0 l1 l2 l3 l4 l5 : Option mx_V) (S h : mx_H) (n : Int), mx_ex d 214 23 [l0, l1, l2, l3, l4, l5] [(0, x)] S h n = mx_ex d 214 25 [l0, l1, l2, mx_nl l3, some (0, x), l5] [] S h n) ∧
  (∀ (d : Nat) (l0 l1 l2 l3 l4 l5 : Option mx_V) (v0 : mx_V) (S h : mx_H) (n : Int), mx_ex d 214 27 [l0, l1, l2, l3, l4, l5] [v0] S h n = mx_ex d 214 29 [l0, l1, l2, l3, l4, l5] [(0, 16), v0] S h n) ∧
  (∀ (d : Nat) (b a : Int) (l0 l1 l2 l3 l4 l5 : Option mx_V) (S h : mx_H) (n : Int), mx_ex d 214 29 [l0, l1, l2, l3, l4, l5] [(0, b), (0, a)] S h n = mx_br (b < a) d 214 85 32 [l0, l1, l2, l3, l4, l5] [] S h n) ∧
  (∀ (d : Nat) (x : Int) (l0 l1 l3 l4 l5 : Option mx_V) (S h : mx_H) (n : Int), mx_ex d 214 32 [l0, l1, some (0, x), l3, l4, l5] [] S h n = mx_ex d 214 33 [l0, l1, some (0, x), l3, l4, l5] [(0, x)] S h n) ∧
  (∀ (d : Nat) (x : Int) (l0 l1 l2 l3 l5 : Option mx_V) (v0 : mx_V) (S h : mx_H) (n : Int), mx_ex d 214 33 [l0, l1, l2, l3, some (0, x), l5] [v0] S h n = mx_ex d 214 35 [l0, l1, l2, l3, some (0, x), l5] [(0, x), v0] S h n) ∧
  (∀ (d : Nat) (b a : Int) (l0 l1 l2 l3 l4 l5 : Option mx_V) (S h : mx_H) (n : Int), mx_ex d 214 35 [l0, l1, l2, l3, l4, l5] [(0, b), (0, a)] S h n = mx_ex d 214 36 [l0, l1, l2, l3, l4, l5] [(0, mx_shr a b)] S h n) ∧
  (∀ (d : Nat) (l0 l1 l2 l3 l4 l5 : Option mx_V) (v0 : mx_V) (S h : mx_H) (n : Int), mx_ex d 214 36 [l0, l1, l2, l3, l4, l5] [v0] S h n = mx_ex d 214 37 [l0, l1, l2, l3, l4, l5] [(0, 1), v0] S h n) ∧
  (∀ (d : Nat) (b a : Int) (l0 l1 l2 l3 l4 l5 : Option mx_V) (S h : mx_H) (n : Int), mx_ex d 214 37 [l0, l1, l2, l3, l4, l5] [(0, b), (0, a)] S h n = mx_ex d 214 38 [l0, l1, l2, l3, l4, l5] [(0, mx_and a b)] S h n) ∧
  (∀ (d : Nat) (l0 l1 l2 l3 l4 l5 : Option mx_V) (v0 : mx_V) (S h : mx_H) (n : Int), mx_ex d 214 38 [l0, l1, l2, l3, l4, l5] [v0] S h n = mx_ex d 214 39 [l0, l1, l2, l3, l4, l5] [(0, 1), v0] S h n) ∧
  (∀ (d : Nat) (b a : Int) (l0 l1 l2 l3 l4 l5 : Option mx_V) (S h : mx_H) (n : Int), mx_ex d 214 39 [l0, l1, l2, l3, l4, l5] [(0, b), (0, a)] S h n = mx_br (a = b) d 214 42 64 [l0, l1, l2, l3, l4, l5] [] S h n) ∧
  (∀ (d : Nat) (x : Int) (l0 l1 l2 l4 l5 : Option mx_V) (S h : mx_H) (n : Int), mx_ex d 214 42 [l0, l1, l2, some (0, x), l4, l5] [] S h n = mx_ex d 214 43 [l0, l1, l2, some (0, x), l4, l5] [(0, x)] S h n) ∧
  (∀ (d : Nat) (a : Int) (l0 l1 l2 l3 l4 l5 : Option mx_V) (S h : mx_H) (n : Int), mx_ex d 214 43 [l0, l1, l2, l3, l4, l5] [(0, a)] S h n = mx_br (a = 0) d 214 60 46 [l0, l1, l2, l3, l4, l5] [] S h n) ∧
  (∀ (d : Nat) (x : Int) (l0 l2 l3 l4 l5 : Option mx_V) (S h : mx_H) (n : Int), mx_ex d 214 46 [l0, some (0, x), l2, l3, l4, l5] [] S h n = mx_ex d 214 47 [l0, some (0, x), l2, l3, l4, l5] [(0, x)] S h n) ∧
  (∀ (d : Nat) (x : Int) (l0 l1 l2 l3 l5 : Option mx_V) (v0 : mx_V) (S h : mx_H) (n : Int), mx_ex d 214 47 [l0, l1, l2, l3, some (0, x), l5] [v0] S h n = mx_ex d 214 49 [l0, l1, l2, l3, some (0, x), l5] [(0, x), v0] S h n) ∧
  (∀ (d : Nat) (x0 x1 : Int) (l0 l1 l2 l3 l4 l5 : Option mx_V) (S h : mx_H) (n : Int), mx_ex (d + 1) 214 49 [l0, l1, l2, l3, l4, l5] [(0, x0), (0, x1)] S h n = mx_rt (mx_M d 208 [(0, x1), (0, x0)] S h n) (d + 1) 214 52 [l0, l1, l2, l3, l4, l5] []) ∧
  (∀ (d : Nat) (x : Int) (l0 l2 l3 l4 l5 : Option mx_V) (v0 : mx_V) (S h : mx_H) (n : Int), mx_ex d 214 52 [l0, some (0, x), l2, l3, l4, l5] [v0] S h n = mx_ex d 214 53 [l0, some (0, x), l2, l3, l4, l5] [(0, x), v0] S h n) ∧
  (∀ (d : Nat) (x : Int) (l0 l1 l2 l4 l5 : Option mx_V) (v0 v1 : mx_V) (S h : mx_H) (n : Int), mx_ex d 214 53 [l0, l1, l2, some (0, x), l4, l5] [v0, v1] S h n = mx_ex d 214 54 [l0, l1, l2, some (0, x), l4, l5] [(0, x), v0, v1] S h n) ∧
  (∀ (d : Nat) (x0 x1 : Int) (l0 l1 l2 l3 l4 l5 : Option mx_V) (v2 : mx_V) (S h : mx_H) (n : Int), mx_ex (d + 1) 214 54 [l0, l1, l2, l3, l4, l5] [(0, x0), (0, x1), v2] S h n = mx_rt (mx_M d 208 [(0, x1), (0, x0)] S h n) (d + 1) 214 57 [l0, l1, l2, l3, l4, l5] [v2]) ∧
  (∀ (d : Nat) (b a : Int) (l0 l1 l2 l3 l4 l5 : Option mx_V) (S h : mx_H) (n : Int), mx_ex d 214 57 [l0, l1, l2, l3, l4, l5] [(0, b), (0, a)] S h n = mx_br (a < b) d 214 60 64 [l0, l1, l2, l3, l4, l5] [] S h n) ∧
  (∀ (d : Nat) (l0 l1 l2 l3 l4 l5 : Option mx_V) (S h : mx_H) (n : Int), mx_ex d 214 60 [l0, l1, l2, l3, l4, l5] [] S h n = mx_ex d 214 61 [l0, l1, l2, l3, l4, l5] [(0, 1)] S h n) ∧
  (∀ (d : Nat) (l0 l1 l2 l3 l4 l5 : Option mx_V) (v0 : mx_V) (S h : mx_H) (n : Int), mx_ex d 214 61 [l0, l1, l2, l3, l4, l5] [v0] S h n = mx_ex d 214 65 [l0, l1, l2, l3, l4, l5] [v0] S h n) ∧
  (∀ (d : Nat) (l0 l1 l2 l3 l4 l5 : Option mx_V) (S h : mx_H) (n : Int), mx_ex d 214 64 [l0, l1, l2, l3, l4, l5] [] S h n = mx_ex d 214 65 [l0, l1, l2, l3, l4, l5] [(0, 0)] S h n) ∧
  (∀ (d : Nat) (x : Int) (l0 l1 l2 l3 l4 l5 : Option mx_V) (S h : mx_H) (n : Int), mx_ex d 214 65 [l0, l1, l2, l3, l4, l5] [(0, x)] S h n = mx_ex d 214 67 [l0, l1, l2, l3, mx_nl l4, some (0, x)] [] S h n) ∧
  (∀ (d : Nat) (x : Int) (l0 l1 l2 l3 l4 : Option mx_V) (S h : mx_H) (n : Int), mx_ex d 214 67 [l0, l1, l2, l3, l4, some (0, x)] [] S h n = mx_ex d 214 69 [l0, l1, l2, l3, l4, some (0, x)] [(0, x)] S h n) ∧
  (∀ (d : Nat) (a : Int) (l0 l1 l2 l3 l4 l5 : Option mx_V) (S h : mx_H) (n : Int), mx_ex d 214 69 [l0, l1, l2, l3, l4, l5] [(0, a)] S h n = mx_br (a = 0) d 214 77 72 [l0, l1, l2, l3, l4, l5] [] S h n) ∧
  (∀ (d : Nat) (x : Int) (l0 l1 l2 l3 l5 : Option mx_V) (S h : mx_H) (n : Int), mx_ex d 214 72 [l0, l1, l2, l3, some (0, x), l5] [] S h n = mx_ex d 214 74 [l0, l1, l2, l3, some (0, x), l5] [(0, x)] S h n) ∧
  (∀ (d : Nat) (l0 l1 l2 l3 l4 l5 : Option mx_V) (v0 : mx_V) (S h : mx_H) (n : Int), mx_ex d 214 74 [l0, l1, l2, l3, l4, l5] [v0] S h n = mx_ex d 214 78 [l0, l1, l2, l3, l4, l5] [v0] S h n) ∧
  (∀ (d : Nat) (x : Int) (l0 l1 l2 l4 l5 : Option mx_V) (S h : mx_H) (n : Int), mx_ex d 214 77 [l0, l1, l2, some (0, x), l4, l5] [] S h n = mx_ex d 214 78 [l0, l1, l2, some (0, x), l4, l5] [(0, x)] S h n) ∧
  (∀ (d : Nat) (x : Int) (l0 l1 l2 l3 l4 l5 : Option mx_V) (S h : mx_H) (n : Int), mx_ex d 214 78 [l0, l1, l2, l3, l4, l5] [(0, x)] S h n = mx_ex d 214 79 [l0, l1, mx_nl l2, some (0, x), l4, l5] [] S h n) ∧
  (∀ (d : Nat) (x : Int) (l0 l1 l2 l3 l5 : Option mx_V) (S h : mx_H) (n : Int), mx_ex d 214 79 [l0, l1, l2, l3, some (0, x), l5] [] S h n = mx_ex d 214 82 [l0, l1, l2, mx_nl l3, some (0, mx_w (x + 1)), l5] [] S h n) ∧
  (∀ (d : Nat) (l0 l1 l2 l3 l4 l5 : Option mx_V) (S h : mx_H) (n : Int), mx_ex d 214 82 [l0, l1, l2, l3, l4, l5] [] S h n = mx_ex d 214 25 [l0, l1, l2, l3, l4, l5] [] S h n) ∧
  (∀ (d : Nat) (x : Int) (l0 l1 l2 l4 l5 : Option mx_V) (S h : mx_H) (n : Int), mx_ex d 214 85 [l0, l1, l2, some (0, x), l4, l5] [] S h n = mx_ex d 214 86 [l0, l1, l2, some (0, x), l4, l5] [(0, x)] S h n) ∧
  (∀ (d : Nat) (x : Int) (l0 l1 l2 l3 l4 l5 : Option mx_V) (S h : mx_H) (n : Int), mx_ex d 214 86 [l0, l1, l2, l3, l4, l5] [(0, x)] S h n = some (some (0, x), S, h, n)) :=
  ⟨by intros; exact rfl,
   by intros; exact eq_ld rfl rfl,
   by intros; exact eq_push rfl,
   by intros; exact eq_push rfl,
   by intros; exact eq_cs rfl (Nat.le_of_ble_eq_true rfl) rfl rfl rfl (Nat.le_of_ble_eq_true rfl),
   by intros; exact eq_if0 rfl,
   by intros; exact eq_ld rfl rfl,
   by intros; exact eq_cs rfl (Nat.le_of_ble_eq_true rfl) rfl rfl rfl (Nat.le_of_ble_eq_true rfl),
   by intros; exact eq_if1 rfl,
   by intros; exact eq_push rfl,
   by intros; exact eq_ret rfl,
   by intros; exact eq_push rfl,
   by intros; exact eq_st rfl (by decide) (Nat.le_of_ble_eq_true rfl) rfl,
   by intros; exact eq_push rfl,
   by intros; exact eq_st rfl (by decide) (Nat.le_of_ble_eq_true rfl) rfl,
   by intros; exact eq_push rfl,
   by intros; exact eq_ic4 rfl,
   by intros; exact eq_ld rfl rfl,
   by intros; exact eq_ld rfl rfl,
   by intros; exact eq_i2 (o := mx_shr) rfl,
   by intros; exact eq_push rfl,
   by intros; exact eq_i2 (o := mx_and) rfl,
   by intros; exact eq_push rfl,
   by intros; exact eq_ic1 rfl,
   by intros; exact eq_ld rfl rfl,
   by intros; exact eq_if0 rfl,
   by intros; exact eq_ld rfl rfl,
   by intros; exact eq_ld rfl rfl,
   by intros; exact eq_cs rfl (Nat.le_of_ble_eq_true rfl) rfl rfl rfl (Nat.le_of_ble_eq_true rfl),
   by intros; exact eq_ld rfl rfl,
   by intros; exact eq_ld rfl rfl,
   by intros; exact eq_cs rfl (Nat.le_of_ble_eq_true rfl) rfl rfl rfl (Nat.le_of_ble_eq_true rfl),
   by intros; exact eq_ic3 rfl,
   by intros; exact eq_push rfl,
   by intros; exact eq_go rfl,
   by intros; exact eq_push rfl,
   by intros; exact eq_st rfl (by decide) (Nat.le_of_ble_eq_true rfl) rfl,
   by intros; exact eq_ld rfl rfl,
   by intros; exact eq_if0 rfl,
   by intros; exact eq_ld rfl rfl,
   by intros; exact eq_go rfl,
   by intros; exact eq_ld rfl rfl,
   by intros; exact eq_st rfl (by decide) (Nat.le_of_ble_eq_true rfl) rfl,
   by intros; exact eq_inc rfl rfl rfl,
   by intros; exact eq_go rfl,
   by intros; exact eq_ld rfl rfl,
   by intros; exact eq_ret rfl⟩
theorem rw_X12_fromEnd :
  (∀ (d : Nat) (a0 a1 a2 : Int) (S h : mx_H) (n : Int), mx_M d 215 [(2, a0), (0, a1), (0, a2)] S h n = mx_ex d 215 0 [some (2, a0), some (0, a1), some (0, a2), none] [] S h n) ∧
  (∀ (d : Nat) (x : Int) (l1 l2 l3 : Option mx_V) (S h : mx_H) (n : Int), mx_ex d 215 0 [some (2, x), l1, l2, l3] [] S h n = mx_ex d 215 1 [some (2, x), l1, l2, l3] [(2, x)] S h n) ∧
  (∀ (d : Nat) (x : Int) (l0 l2 l3 : Option mx_V) (v0 : mx_V) (S h : mx_H) (n : Int), mx_ex d 215 1 [l0, some (0, x), l2, l3] [v0] S h n = mx_ex d 215 2 [l0, some (0, x), l2, l3] [(0, x), v0] S h n) ∧
  (∀ (d : Nat) (l0 l1 l2 l3 : Option mx_V) (v0 v1 : mx_V) (S h : mx_H) (n : Int), mx_ex d 215 2 [l0, l1, l2, l3] [v0, v1] S h n = mx_ex d 215 3 [l0, l1, l2, l3] [(0, 3), v0, v1] S h n) ∧
  (∀ (d : Nat) (x0 x1 a : Int) (l0 l1 l2 l3 : Option mx_V) (S h : mx_H) (n : Int), mx_ex (d + 1) 215 3 [l0, l1, l2, l3] [(0, x0), (0, x1), (2, a)] S h n = mx_cl (S a (-2) = 13) d 161 [(2, a), (0, x1), (0, x0)] 215 6 [l0, l1, l2, l3] [] S h n) ∧
  (∀ (d : Nat) (l0 l1 l2 l3 : Option mx_V) (v0 : mx_V) (S h : mx_H) (n : Int), mx_ex d 215 6 [l0, l1, l2, l3] [v0] S h n = mx_ex d 215 7 [l0, l1, l2, l3] [(0, 1), v0] S h n) ∧
  (∀ (d : Nat) (b a : Int) (l0 l1 l2 l3 : Option mx_V) (S h : mx_H) (n : Int), mx_ex d 215 7 [l0, l1, l2, l3] [(0, b), (0, a)] S h n = mx_ex d 215 8 [l0, l1, l2, l3] [(0, mx_w (a - b))] S h n) ∧
  (∀ (d : Nat) (x : Int) (l0 l1 l3 : Option mx_V) (v0 : mx_V) (S h : mx_H) (n : Int), mx_ex d 215 8 [l0, l1, some (0, x), l3] [v0] S h n = mx_ex d 215 9 [l0, l1, some (0, x), l3] [(0, x), v0] S h n) ∧
  (∀ (d : Nat) (b a : Int) (l0 l1 l2 l3 : Option mx_V) (S h : mx_H) (n : Int), mx_ex d 215 9 [l0, l1, l2, l3] [(0, b), (0, a)] S h n = mx_ex d 215 10 [l0, l1, l2, l3] [(0, mx_w (a - b))] S h n) ∧
  (∀ (d : Nat) (x : Int) (l0 l1 l2 l3 : Option mx_V) (S h : mx_H) (n : Int), mx_ex d 215 10 [l0, l1, l2, l3] [(0, x)] S h n = mx_ex d 215 11 [l0, l1, mx_nl l2, some (0, x)] [] S h n) ∧
  (∀ (d : Nat) (x : Int) (l0 l1 l2 : Option mx_V) (S h : mx_H) (n : Int), mx_ex d 215 11 [l0, l1, l2, some (0, x)] [] S h n = mx_ex d 215 12 [l0, l1, l2, some (0, x)] [(0, x)] S h n) ∧
  (∀ (d : Nat) (a : Int) (l0 l1 l2 l3 : Option mx_V) (S h : mx_H) (n : Int), mx_ex d 215 12 [l0, l1, l2, l3] [(0, a)] S h n = mx_br (a < 0) d 215 15 19 [l0, l1, l2, l3] [] S h n) ∧
  (∀ (d : Nat) (l0 l1 l2 l3 : Option mx_V) (S h : mx_H) (n : Int), mx_ex d 215 15 [l0, l1, l2, l3] [] S h n = mx_ex d 215 16 [l0, l1, l2, l3] [(0, 0)] S h n) ∧
  (∀ (d : Nat) (l0 l1 l2 l3 : Option mx_V) (v0 : mx_V) (S h : mx_H) (n : Int), mx_ex d 215 16 [l0, l1, l2, l3] [v0] S h n = mx_ex d 215 27 [l0, l1, l2, l3] [v0] S h n) ∧
  (∀ (d : Nat) (x : Int) (l1 l2 l3 : Option mx_V) (S h : mx_H) (n : Int), mx_ex d 215 19 [some (2, x), l1, l2, l3] [] S h n = mx_ex d 215 20 [some (2, x), l1, l2, l3] [(2, x)] S h n) ∧
  (∀ (d : Nat) (x : Int) (l0 l2 l3 : Option mx_V) (v0 : mx_V) (S h : mx_H) (n : Int), mx_ex d 215 20 [l0, some (0, x), l2, l3] [v0] S h n = mx_ex d 215 21 [l0, some (0, x), l2, l3] [(0, x), v0] S h n) ∧
  (∀ (d : Nat) (l0 l1 l2 l3 : Option mx_V) (v0 v1 : mx_V) (S h : mx_H) (n : Int), mx_ex d 215 21 [l0, l1, l2, l3] [v0, v1] S h n = mx_ex d 215 22 [l0, l1, l2, l3] [(0, 4), v0, v1] S h n) ∧
  (∀ (d : Nat) (x : Int) (l0 l1 l2 : Option mx_V) (v0 v1 v2 : mx_V) (S h : mx_H) (n : Int), mx_ex d 215 22 [l0, l1, l2, some (0, x)] [v0, v1, v2] S h n = mx_ex d 215 23 [l0, l1, l2, some (0, x)] [(0, x), v0, v1, v2] S h n) ∧
  (∀ (d : Nat) (b a : Int) (l0 l1 l2 l3 : Option mx_V) (v2 v3 : mx_V) (S h : mx_H) (n : Int), mx_ex d 215 23 [l0, l1, l2, l3] [(0, b), (0, a), v2, v3] S h n = mx_ex d 215 24 [l0, l1, l2, l3] [(0, mx_w (a + b)), v2, v3] S h n) ∧
  (∀ (d : Nat) (x0 x1 a : Int) (l0 l1 l2 l3 : Option mx_V) (S h : mx_H) (n : Int), mx_ex (d + 1) 215 24 [l0, l1, l2, l3] [(0, x0), (0, x1), (2, a)] S h n = mx_cl (S a (-2) = 13) d 161 [(2, a), (0, x1), (0, x0)] 215 27 [l0, l1, l2, l3] [] S h n) ∧
  (∀ (d : Nat) (x : Int) (l0 l1 l2 l3 : Option mx_V) (S h : mx_H) (n : Int), mx_ex d 215 27 [l0, l1, l2, l3] [(0, x)] S h n = some (some (0, x), S, h, n)) :=
  ⟨by intros; exact rfl,
   by intros; exact eq_ld rfl rfl,
   by intros; exact eq_ld rfl rfl,
   by intros; exact eq_push rfl,
   by intros; exact eq_cv rfl (Nat.le_of_ble_eq_true rfl) rfl rfl rfl (Nat.le_of_ble_eq_true rfl),
   by intros; exact eq_push rfl,
   by intros; exact eq_i2 (o := mx_sub) rfl,
   by intros; exact eq_ld rfl rfl,
   by intros; exact eq_i2 (o := mx_sub) rfl,
   by intros; exact eq_st rfl (by decide) (Nat.le_of_ble_eq_true rfl) rfl,
   by intros; exact eq_ld rfl rfl,
   by intros; exact eq_if3 rfl,
   by intros; exact eq_push rfl,
   by intros; exact eq_go rfl,
   by intros; exact eq_ld rfl rfl,
   by intros; exact eq_ld rfl rfl,
   by intros; exact eq_push rfl,
   by intros; exact eq_ld rfl rfl,
   by intros; exact eq_i2 (o := mx_add) rfl,
   by intros; exact eq_cv rfl (Nat.le_of_ble_eq_true rfl) rfl rfl rfl (Nat.le_of_ble_eq_true rfl),
   by intros; exact eq_ret rfl⟩
theorem rh_X12_add_78 : ∀ (d : Nat) (x : Int) (l0 l1 l2 l3 l4 l6 : Option mx_V) (S h : mx_H) (n : Int), mx_ex d 216 78 [l0, l1, l2, l3, l4, some (0, x), l6] [] S h n = mx_ex d 216 80 [l0, l1, l2, l3, l4, some (0, x), l6] [(0, x)] S h n := by intros; exact eq_ld rfl rfl
theorem rw_X12_add :
  (∀ (d : Nat) (a0 a1 a2 : Int) (S h : mx_H) (n : Int), mx_M d 216 [(2, a0), (0, a1), (0, a2)] S h n = mx_ex d 216 0 [some (2, a0), some (0, a1), some (0, a2), none, none, none, none] [] S h n) ∧
  (∀ (d : Nat) (x : Int) (l1 l2 l3 l4 l5 l6 : Option mx_V) (S h : mx_H) (n : Int), mx_ex d 216 0 [some (2, x), l1, l2, l3, l4, l5, l6] [] S h n = mx_ex d 216 1 [some (2, x), l1, l2, l3, l4, l5, l6] [(2, x)] S h n) ∧
  (∀ (d : Nat) (x : Int) (l0 l2 l3 l4 l5 l6 : Option mx_V) (v0 : mx_V) (S h : mx_H) (n : Int), mx_ex d 216 1 [l0, some (0, x), l2, l3, l4, l5, l6] [v0] S h n = mx_ex d 216 2 [l0, some (0, x), l2, l3, l4, l5, l6] [(0, x), v0] S h n) ∧
  (∀ (d : Nat) (x0 a : Int) (l0 l1 l2 l3 l4 l5 l6 : Option mx_V) (S h : mx_H) (n : Int), mx_ex (d + 1) 216 2 [l0, l1, l2, l3, l4, l5, l6] [(0, x0), (2, a)] S h n = mx_cl (S a (-2) = 13) d 158 [(2, a), (0, x0)] 216 5 [l0, l1, l2, l3, l4, l5, l6] [] S h n) ∧
  (∀ (d : Nat) (a : Int) (l0 l1 l2 l3 l4 l5 l6 : Option mx_V) (S h : mx_H) (n : Int), mx_ex d 216 5 [l0, l1, l2, l3, l4, l5, l6] [(0, a)] S h n = mx_br (a = 0) d 216 16 8 [l0, l1, l2, l3, l4, l5, l6] [] S h n) ∧
  (∀ (d : Nat) (x : Int) (l1 l2 l3 l4 l5 l6 : Option mx_V) (S h : mx_H) (n : Int), mx_ex d 216 8 [some (2, x), l1, l2, l3, l4, l5, l6] [] S h n = mx_ex d 216 9 [some (2, x), l1, l2, l3, l4, l5, l6] [(2, x)] S h n) ∧
  (∀ (d : Nat) (x : Int) (l0 l1 l3 l4 l5 l6 : Option mx_V) (v0 : mx_V) (S h : mx_H) (n : Int), mx_ex d 216 9 [l0, l1, some (0, x), l3, l4, l5, l6] [v0] S h n = mx_ex d 216 10 [l0, l1, some (0, x), l3, l4, l5, l6] [(0, x), v0] S h n) ∧
  (∀ (d : Nat) (x0 a : Int) (l0 l1 l2 l3 l4 l5 l6 : Option mx_V) (S h : mx_H) (n : Int), mx_ex (d + 1) 216 10 [l0, l1, l2, l3, l4, l5, l6] [(0, x0), (2, a)] S h n = mx_cl (S a (-2) = 13) d 158 [(2, a), (0, x0)] 216 13 [l0, l1, l2, l3, l4, l5, l6] [] S h n) ∧
  (∀ (d : Nat) (a : Int) (l0 l1 l2 l3 l4 l5 l6 : Option mx_V) (S h : mx_H) (n : Int), mx_ex d 216 13 [l0, l1, l2, l3, l4, l5, l6] [(0, a)] S h n = mx_br (a = 0) d 216 16 18 [l0, l1, l2, l3, l4, l5, l6] [] S h n) ∧
  (∀ (d : Nat) (l0 l1 l2 l3 l4 l5 l6 : Option mx_V) (S h : mx_H) (n : Int), mx_ex d 216 16 [l0, l1, l2, l3, l4, l5, l6] [] S h n = mx_ex d 216 17 [l0, l1, l2, l3, l4, l5, l6] [(0, (-1))] S h n) ∧
  (∀ (d : Nat) (x : Int) (l0 l1 l2 l3 l4 l5 l6 : Option mx_V) (S h : mx_H) (n : Int), mx_ex d 216 17 [l0, l1, l2, l3, l4, l5, l6] [(0, x)] S h n = some (some (0, x), S, h, n)) ∧
  (∀ (d : Nat) (x : Int) (l1 l2 l3 l4 l5 l6 : Option mx_V) (S h : mx_H) (n : Int), mx_ex d 216 18 [some (2, x), l1, l2, l3, l4, l5, l6] [] S h n = mx_ex d 216 19 [some (2, x), l1, l2, l3, l4, l5, l6] [(2, x)] S h n) ∧
  (∀ (d : Nat) (x : Int) (l0 l2 l3 l4 l5 l6 : Option mx_V) (v0 : mx_V) (S h : mx_H) (n : Int), mx_ex d 216 19 [l0, some (0, x), l2, l3, l4, l5, l6] [v0] S h n = mx_ex d 216 20 [l0, some (0, x), l2, l3, l4, l5, l6] [(0, x), v0] S h n) ∧
  (∀ (d : Nat) (l0 l1 l2 l3 l4 l5 l6 : Option mx_V) (v0 v1 : mx_V) (S h : mx_H) (n : Int), mx_ex d 216 20 [l0, l1, l2, l3, l4, l5, l6] [v0, v1] S h n = mx_ex d 216 21 [l0, l1, l2, l3, l4, l5, l6] [(0, 0), v0, v1] S h n) ∧
  (∀ (d : Nat) (x0 x1 a : Int) (l0 l1 l2 l3 l4 l5 l6 : Option mx_V) (S h : mx_H) (n : Int), mx_ex (d + 1) 216 21 [l0, l1, l2, l3, l4, l5, l6] [(0, x0), (0, x1), (2, a)] S h n = mx_cl (S a (-2) = 13) d 161 [(2, a), (0, x1), (0, x0)] 216 24 [l0, l1, l2, l3, l4, l5, l6] [] S h n) ∧
  (∀ (d : Nat) (a : Int) (l0 l1 l2 l3 l4 l5 l6 : Option mx_V) (S h : mx_H) (n : Int), mx_ex d 216 24 [l0, l1, l2, l3, l4, l5, l6] [(0, a)] S h n = mx_br (a = 0) d 216 27 36 [l0, l1, l2, l3, l4, l5, l6] [] S h n) ∧
  (∀ (d : Nat) (x : Int) (l1 l2 l3 l4 l5 l6 : Option mx_V) (S h : mx_H) (n : Int), mx_ex d 216 27 [some (2, x), l1, l2, l3, l4, l5, l6] [] S h n = mx_ex d 216 28 [some (2, x), l1, l2, l3, l4, l5, l6] [(2, x)] S h n) ∧
  (∀ (d : Nat) (x : Int) (l0 l1 l3 l4 l5 l6 : Option mx_V) (v0 : mx_V) (S h : mx_H) (n : Int), mx_ex d 216 28 [l0, l1, some (0, x), l3, l4, l5, l6] [v0] S h n = mx_ex d 216 29 [l0, l1, some (0, x), l3, l4, l5, l6] [(0, x), v0] S h n) ∧
  (∀ (d : Nat) (l0 l1 l2 l3 l4 l5 l6 : Option mx_V) (v0 v1 : mx_V) (S h : mx_H) (n : Int), mx_ex d 216 29 [l0, l1, l2, l3, l4, l5, l6] [v0, v1] S h n = mx_ex d 216 30 [l0, l1, l2, l3, l4, l5, l6] [(0, 0), v0, v1] S h n) ∧
  (∀ (d : Nat) (x0 x1 a : Int) (l0 l1 l2 l3 l4 l5 l6 : Option mx_V) (S h : mx_H) (n : Int), mx_ex (d + 1) 216 30 [l0, l1, l2, l3, l4, l5, l6] [(0, x0), (0, x1), (2, a)] S h n = mx_cl (S a (-2) = 13) d 161 [(2, a), (0, x1), (0, x0)] 216 33 [l0, l1, l2, l3, l4, l5, l6] [] S h n) ∧
  (∀ (d : Nat) (a : Int) (l0 l1 l2 l3 l4 l5 l6 : Option mx_V) (S h : mx_H) (n : Int), mx_ex d 216 33 [l0, l1, l2, l3, l4, l5, l6] [(0, a)] S h n = mx_br (a = 0) d 216 39 36 [l0, l1, l2, l3, l4, l5, l6] [] S h n) ∧
  (∀ (d : Nat) (l0 l1 l2 l3 l4 l5 l6 : Option mx_V) (S h : mx_H) (n : Int), mx_ex d 216 36 [l0, l1, l2, l3, l4, l5, l6] [] S h n = mx_ex d 216 38 [l0, l1, l2, l3, l4, l5, l6] [(0, (-4))] S h n) ∧
  (∀ (d : Nat) (x : Int) (l0 l1 l2 l3 l4 l5 l6 : Option mx_V) (S h : mx_H) (n : Int), mx_ex d 216 38 [l0, l1, l2, l3, l4, l5, l6] [(0, x)] S h n = some (some (0, x), S, h, n)) ∧
  (∀ (d : Nat) (x : Int) (l1 l2 l3 l4 l5 l6 : Option mx_V) (S h : mx_H) (n : Int), mx_ex d 216 39 [some (2, x), l1, l2, l3, l4, l5, l6] [] S h n = mx_ex d 216 40 [some (2, x), l1, l2, l3, l4, l5, l6] [(2, x)] S h n) ∧
  (∀ (d : Nat) (x : Int) (l0 l2 l3 l4 l5 l6 : Option mx_V) (v0 : mx_V) (S h : mx_H) (n : Int), mx_ex d 216 40 [l0, some (0, x), l2, l3, l4, l5, l6] [v0] S h n = mx_ex d 216 41 [l0, some (0, x), l2, l3, l4, l5, l6] [(0, x), v0] S h n) ∧
  (∀ (d : Nat) (l0 l1 l2 l3 l4 l5 l6 : Option mx_V) (v0 v1 : mx_V) (S h : mx_H) (n : Int), mx_ex d 216 41 [l0, l1, l2, l3, l4, l5, l6] [v0, v1] S h n = mx_ex d 216 42 [l0, l1, l2, l3, l4, l5, l6] [(0, 3), v0, v1] S h n) ∧
  (∀ (d : Nat) (x0 x1 a : Int) (l0 l1 l2 l3 l4 l5 l6 : Option mx_V) (S h : mx_H) (n : Int), mx_ex (d + 1) 216 42 [l0, l1, l2, l3, l4, l5, l6] [(0, x0), (0, x1), (2, a)] S h n = mx_cl (S a (-2) = 13) d 161 [(2, a), (0, x1), (0, x0)] 216 45 [l0, l1, l2, l3, l4, l5, l6] [] S h n) ∧
  (∀ (d : Nat) (x : Int) (l1 l2 l3 l4 l5 l6 : Option mx_V) (v0 : mx_V) (S h : mx_H) (n : Int), mx_ex d 216 45 [some (2, x), l1, l2, l3, l4, l5, l6] [v0] S h n = mx_ex d 216 46 [some (2, x), l1, l2, l3, l4, l5, l6] [(2, x), v0] S h n) ∧
  (∀ (d : Nat) (x : Int) (l0 l1 l3 l4 l5 l6 : Option mx_V) (v0 v1 : mx_V) (S h : mx_H) (n : Int), mx_ex d 216 46 [l0, l1, some (0, x), l3, l4, l5, l6] [v0, v1] S h n = mx_ex d 216 47 [l0, l1, some (0, x), l3, l4, l5, l6] [(0, x), v0, v1] S h n) ∧
  (∀ (d : Nat) (l0 l1 l2 l3 l4 l5 l6 : Option mx_V) (v0 v1 v2 : mx_V) (S h : mx_H) (n : Int), mx_ex d 216 47 [l0, l1, l2, l3, l4, l5, l6] [v0, v1, v2] S h n = mx_ex d 216 48 [l0, l1, l2, l3, l4, l5, l6] [(0, 3), v0, v1, v2] S h n) ∧
  (∀ (d : Nat) (x0 x1 a : Int) (l0 l1 l2 l3 l4 l5 l6 : Option mx_V) (v3 : mx_V) (S h : mx_H) (n : Int), mx_ex (d + 1) 216 48 [l0, l1, l2, l3, l4, l5, l6] [(0, x0), (0, x1), (2, a), v3] S h n = mx_cl (S a (-2) = 13) d 161 [(2, a), (0, x1), (0, x0)] 216 51 [l0, l1, l2, l3, l4, l5, l6] [v3] S h n) ∧
  (∀ (d : Nat) (b a : Int) (l0 l1 l2 l3 l4 l5 l6 : Option mx_V) (S h : mx_H) (n : Int), mx_ex d 216 51 [l0, l1, l2, l3, l4, l5, l6] [(0, b), (0, a)] S h n = mx_br (b < a) d 216 54 63 [l0, l1, l2, l3, l4, l5, l6] [] S h n) ∧
  (∀ (d : Nat) (x : Int) (l1 l2 l3 l4 l5 l6 : Option mx_V) (S h : mx_H) (n : Int), mx_ex d 216 54 [some (2, x), l1, l2, l3, l4, l5, l6] [] S h n = mx_ex d 216 55 [some (2, x), l1, l2, l3, l4, l5, l6] [(2, x)] S h n) ∧
  (∀ (d : Nat) (x : Int) (l0 l2 l3 l4 l5 l6 : Option mx_V) (v0 : mx_V) (S h : mx_H) (n : Int), mx_ex d 216 55 [l0, some (0, x), l2, l3, l4, l5, l6] [v0] S h n = mx_ex d 216 56 [l0, some (0, x), l2, l3, l4, l5, l6] [(0, x), v0] S h n) ∧
  (∀ (d : Nat) (l0 l1 l2 l3 l4 l5 l6 : Option mx_V) (v0 v1 : mx_V) (S h : mx_H) (n : Int), mx_ex d 216 56 [l0, l1, l2, l3, l4, l5, l6] [v0, v1] S h n = mx_ex d 216 57 [l0, l1, l2, l3, l4, l5, l6] [(0, 3), v0, v1] S h n) ∧
  (∀ (d : Nat) (x0 x1 a : Int) (l0 l1 l2 l3 l4 l5 l6 : Option mx_V) (S h : mx_H) (n : Int), mx_ex (d + 1) 216 57 [l0, l1, l2, l3, l4, l5, l6] [(0, x0), (0, x1), (2, a)] S h n = mx_cl (S a (-2) = 13) d 161 [(2, a), (0, x1), (0, x0)] 216 60 [l0, l1, l2, l3, l4, l5, l6] [] S h n) ∧
  (∀ (d : Nat) (l0 l1 l2 l3 l4 l5 l6 : Option mx_V) (v0 : mx_V) (S h : mx_H) (n : Int), mx_ex d 216 60 [l0, l1, l2, l3, l4, l5, l6] [v0] S h n = mx_ex d 216 69 [l0, l1, l2, l3, l4, l5, l6] [v0] S h n) ∧
  (∀ (d : Nat) (x : Int) (l1 l2 l3 l4 l5 l6 : Option mx_V) (S h : mx_H) (n : Int), mx_ex d 216 63 [some (2, x), l1, l2, l3, l4, l5, l6] [] S h n = mx_ex d 216 64 [some (2, x), l1, l2, l3, l4, l5, l6] [(2, x)] S h n) ∧
  (∀ (d : Nat) (x : Int) (l0 l1 l3 l4 l5 l6 : Option mx_V) (v0 : mx_V) (S h : mx_H) (n : Int), mx_ex d 216 64 [l0, l1, some (0, x), l3, l4, l5, l6] [v0] S h n = mx_ex d 216 65 [l0, l1, some (0, x), l3, l4, l5, l6] [(0, x), v0] S h n) ∧
  (∀ (d : Nat) (l0 l1 l2 l3 l4 l5 l6 : Option mx_V) (v0 v1 : mx_V) (S h : mx_H) (n : Int), mx_ex d 216 65 [l0, l1, l2, l3, l4, l5, l6] [v0, v1] S h n = mx_ex d 216 66 [l0, l1, l2, l3, l4, l5, l6] [(0, 3), v0, v1] S h n) ∧
  (∀ (d : Nat) (x0 x1 a : Int) (l0 l1 l2 l3 l4 l5 l6 : Option mx_V) (S h : mx_H) (n : Int), mx_ex (d + 1) 216 66 [l0, l1, l2, l3, l4, l5, l6] [(0, x0), (0, x1), (2, a)] S h n = mx_cl (S a (-2) = 13) d 161 [(2, a), (0, x1), (0, x0)] 216 69 [l0, l1, l2, l3, l4, l5, l6] [] S h n) ∧
  (∀ (d : Nat) (x : Int) (l0 l1 l2 l3 l4 l5 l6 : Option mx_V) (S h : mx_H) (n : Int), mx_ex d 216 69 [l0, l1, l2, l3, l4, l5, l6] [(0, x)] S h n = mx_ex d 216 70 [l0, l1, mx_nl l2, some (0, x), l4, l5, l6] [] S h n) ∧
  (∀ (d : Nat) (l0 l1 l2 l3 l4 l5 l6 : Option mx_V) (S h : mx_H) (n : Int), mx_ex d 216 70 [l0, l1, l2, l3, l4, l5, l6] [] S h n = mx_ex d 216 71 [l0, l1, l2, l3, l4, l5, l6] [(0, 0)] S h n) ∧
  (∀ (d : Nat) (x : Int) (l0 l1 l2 l3 l4 l5 l6 : Option mx_V) (S h : mx_H) (n : Int), mx_ex d 216 71 [l0, l1, l2, l3, l4, l5, l6] [(0, x)] S h n = mx_ex d 216 73 [l0, l1, l2, mx_nl l3, some (0, x), l5, l6] [] S h n) ∧
  (∀ (d : Nat) (x : Int) (l0 l1 l2 l4 l5 l6 : Option mx_V) (S h : mx_H) (n : Int), mx_ex d 216 73 [l0, l1, l2, some (0, x), l4, l5, l6] [] S h n = mx_ex d 216 74 [l0, l1, l2, some (0, x), l4, l5, l6] [(0, x)] S h n) ∧
  (∀ (d : Nat) (l0 l1 l2 l3 l4 l5 l6 : Option mx_V) (v0 : mx_V) (S h : mx_H) (n : Int), mx_ex d 216 74 [l0, l1, l2, l3, l4, l5, l6] [v0] S h n = mx_ex d 216 75 [l0, l1, l2, l3, l4, l5, l6] [(0, 1), v0] S h n) ∧
  (∀ (d : Nat) (b a : Int) (l0 l1 l2 l3 l4 l5 l6 : Option mx_V) (S h : mx_H) (n : Int), mx_ex d 216 75 [l0, l1, l2, l3, l4, l5, l6] [(0, b), (0, a)] S h n = mx_ex d 216 76 [l0, l1, l2, l3, l4, l5, l6] [(0, mx_w (a - b))] S h n) ∧
  (∀ (d : Nat) (x : Int) (l0 l1 l2 l3 l4 l5 l6 : Option mx_V) (S h : mx_H) (n : Int), mx_ex d 216 76 [l0, l1, l2, l3, l4, l5, l6] [(0, x)] S h n = mx_ex d 216 78 [l0, l1, l2, l3, mx_nl l4, some (0, x), l6] [] S h n) ∧
  (∀ (d : Nat) (a : Int) (l0 l1 l2 l3 l4 l5 l6 : Option mx_V) (S h : mx_H) (n : Int), mx_ex d 216 80 [l0, l1, l2, l3, l4, l5, l6] [(0, a)] S h n = mx_br (a < 0) d 216 125 83 [l0, l1, l2, l3, l4, l5, l6] [] S h n) ∧
  (∀ (d : Nat) (x : Int) (l1 l2 l3 l4 l5 l6 : Option mx_V) (S h : mx_H) (n : Int), mx_ex d 216 83 [some (2, x), l1, l2, l3, l4, l5, l6] [] S h n = mx_ex d 216 84 [some (2, x), l1, l2, l3, l4, l5, l6] [(2, x)] S h n) ∧
  (∀ (d : Nat) (x : Int) (l0 l2 l3 l4 l5 l6 : Option mx_V) (v0 : mx_V) (S h : mx_H) (n : Int), mx_ex d 216 84 [l0, some (0, x), l2, l3, l4, l5, l6] [v0] S h n = mx_ex d 216 85 [l0, some (0, x), l2, l3, l4, l5, l6] [(0, x), v0] S h n) ∧
  (∀ (d : Nat) (x : Int) (l0 l1 l2 l3 l4 l6 : Option mx_V) (v0 v1 : mx_V) (S h : mx_H) (n : Int), mx_ex d 216 85 [l0, l1, l2, l3, l4, some (0, x), l6] [v0, v1] S h n = mx_ex d 216 87 [l0, l1, l2, l3, l4, some (0, x), l6] [(0, x), v0, v1] S h n) ∧
  (∀ (d : Nat) (x0 x1 a : Int) (l0 l1 l2 l3 l4 l5 l6 : Option mx_V) (S h : mx_H) (n : Int), mx_ex (d + 1) 216 87 [l0, l1, l2, l3, l4, l5, l6] [(0, x0), (0, x1), (2, a)] S h n = mx_cl (S a (-2) = 13) d 215 [(2, a), (0, x1), (0, x0)] 216 90 [l0, l1, l2, l3, l4, l5, l6] [] S h n) ∧
  (∀ (d : Nat) (x : Int) (l1 l2 l3 l4 l5 l6 : Option mx_V) (v0 : mx_V) (S h : mx_H) (n : Int), mx_ex d 216 90 [some (2, x), l1, l2, l3, l4, l5, l6] [v0] S h n = mx_ex d 216 91 [some (2, x), l1, l2, l3, l4, l5, l6] [(2, x), v0] S h n) ∧
  (∀ (d : Nat) (x : Int) (l0 l1 l3 l4 l5 l6 : Option mx_V) (v0 v1 : mx_V) (S h : mx_H) (n : Int), mx_ex d 216 91 [l0, l1, some (0, x), l3, l4, l5, l6] [v0, v1] S h n = mx_ex d 216 92 [l0, l1, some (0, x), l3, l4, l5, l6] [(0, x), v0, v1] S h n) ∧
  (∀ (d : Nat) (x : Int) (l0 l1 l2 l3 l4 l6 : Option mx_V) (v0 v1 v2 : mx_V) (S h : mx_H) (n : Int), mx_ex d 216 92 [l0, l1, l2, l3, l4, some (0, x), l6] [v0, v1, v2] S h n = mx_ex d 216 94 [l0, l1, l2, l3, l4, some (0, x), l6] [(0, x), v0, v1, v2] S h n) ∧
  (∀ (d : Nat) (x0 x1 a : Int) (l0 l1 l2 l3 l4 l5 l6 : Option mx_V) (v3 : mx_V) (S h : mx_H) (n : Int), mx_ex (d + 1) 216 94 [l0, l1, l2, l3, l4, l5, l6] [(0, x0), (0, x1), (2, a), v3] S h n = mx_cl (S a (-2) = 13) d 215 [(2, a), (0, x1), (0, x0)] 216 97 [l0, l1, l2, l3, l4, l5, l6] [v3] S h n) ∧
  (∀ (d : Nat) (b a : Int) (l0 l1 l2 l3 l4 l5 l6 : Option mx_V) (S h : mx_H) (n : Int), mx_ex d 216 97 [l0, l1, l2, l3, l4, l5, l6] [(0, b), (0, a)] S h n = mx_ex d 216 98 [l0, l1, l2, l3, l4, l5, l6] [(0, mx_w (a + b))] S h n) ∧
  (∀ (d : Nat) (x : Int) (l0 l1 l2 l3 l4 l5 l6 : Option mx_V) (S h : mx_H) (n : Int), mx_ex d 216 98 [l0, l1, l2, l3, l4, l5, l6] [(0, x)] S h n = mx_ex d 216 100 [l0, l1, l2, l3, l4, mx_nl l5, some (0, x)] [] S h n) ∧
  (∀ (d : Nat) (x : Int) (l0 l1 l2 l3 l4 l5 : Option mx_V) (S h : mx_H) (n : Int), mx_ex d 216 100 [l0, l1, l2, l3, l4, l5, some (0, x)] [] S h n = mx_ex d 216 102 [l0, l1, l2, l3, l4, l5, some (0, x)] [(0, x)] S h n) ∧
  (∀ (d : Nat) (l0 l1 l2 l3 l4 l5 l6 : Option mx_V) (v0 : mx_V) (S h : mx_H) (n : Int), mx_ex d 216 102 [l0, l1, l2, l3, l4, l5, l6] [v0] S h n = mx_ex d 216 104 [l0, l1, l2, l3, l4, l5, l6] [(0, 15), v0] S h n) ∧
  (∀ (d : Nat) (b a : Int) (l0 l1 l2 l3 l4 l5 l6 : Option mx_V) (S h : mx_H) (n : Int), mx_ex d 216 104 [l0, l1, l2, l3, l4, l5, l6] [(0, b), (0, a)] S h n = mx_br (b < a) d 216 107 110 [l0, l1, l2, l3, l4, l5, l6] [] S h n) ∧
  (∀ (d : Nat) (l0 l1 l2 l3 l4 l5 l6 : Option mx_V) (S h : mx_H) (n : Int), mx_ex d 216 107 [l0, l1, l2, l3, l4, l5, l6] [] S h n = mx_ex d 216 109 [l0, l1, l2, l3, l4, l5, l6] [(0, (-4))] S h n) ∧
  (∀ (d : Nat) (x : Int) (l0 l1 l2 l3 l4 l5 l6 : Option mx_V) (S h : mx_H) (n : Int), mx_ex d 216 109 [l0, l1, l2, l3, l4, l5, l6] [(0, x)] S h n = some (some (0, x), S, h, n)) ∧
  (∀ (d : Nat) (x : Int) (l0 l1 l2 l3 l5 l6 : Option mx_V) (S h : mx_H) (n : Int), mx_ex d 216 110 [l0, l1, l2, l3, some (0, x), l5, l6] [] S h n = mx_ex d 216 112 [l0, l1, l2, l3, some (0, x), l5, l6] [(0, x)] S h n) ∧
  (∀ (d : Nat) (l0 l1 l2 l3 l4 l5 l6 : Option mx_V) (v0 : mx_V) (S h : mx_H) (n : Int), mx_ex d 216 112 [l0, l1, l2, l3, l4, l5, l6] [v0] S h n = mx_ex d 216 113 [l0, l1, l2, l3, l4, l5, l6] [(0, 4), v0] S h n) ∧
  (∀ (d : Nat) (b a : Int) (l0 l1 l2 l3 l4 l5 l6 : Option mx_V) (S h : mx_H) (n : Int), mx_ex d 216 113 [l0, l1, l2, l3, l4, l5, l6] [(0, b), (0, a)] S h n = mx_ex d 216 114 [l0, l1, l2, l3, l4, l5, l6] [(0, mx_shl a b)] S h n) ∧
  (∀ (d : Nat) (x : Int) (l0 l1 l2 l3 l4 l5 : Option mx_V) (v0 : mx_V) (S h : mx_H) (n : Int), mx_ex d 216 114 [l0, l1, l2, l3, l4, l5, some (0, x)] [v0] S h n = mx_ex d 216 116 [l0, l1, l2, l3, l4, l5, some (0, x)] [(0, x), v0] S h n) ∧
  (∀ (d : Nat) (b a : Int) (l0 l1 l2 l3 l4 l5 l6 : Option mx_V) (S h : mx_H) (n : Int), mx_ex d 216 116 [l0, l1, l2, l3, l4, l5, l6] [(0, b), (0, a)] S h n = mx_ex d 216 117 [l0, l1, l2, l3, l4, l5, l6] [(0, mx_or a b)] S h n) ∧
  (∀ (d : Nat) (x : Int) (l0 l1 l2 l3 l4 l5 l6 : Option mx_V) (S h : mx_H) (n : Int), mx_ex d 216 117 [l0, l1, l2, l3, l4, l5, l6] [(0, x)] S h n = mx_ex d 216 119 [l0, l1, l2, mx_nl l3, some (0, x), l5, l6] [] S h n) :=
  ⟨by intros; exact rfl,
   by intros; exact eq_ld rfl rfl,
   by intros; exact eq_ld rfl rfl,
   by intros; exact eq_cv rfl (Nat.le_of_ble_eq_true rfl) rfl rfl rfl (Nat.le_of_ble_eq_true rfl),
   by intros; exact eq_if0 rfl,
   by intros; exact eq_ld rfl rfl,
   by intros; exact eq_ld rfl rfl,
   by intros; exact eq_cv rfl (Nat.le_of_ble_eq_true rfl) rfl rfl rfl (Nat.le_of_ble_eq_true rfl),
   by intros; exact eq_if1 rfl,
   by intros; exact eq_push rfl,
   by intros; exact eq_ret rfl,
   by intros; exact eq_ld rfl rfl,
   by intros; exact eq_ld rfl rfl,
   by intros; exact eq_push rfl,
   by intros; exact eq_cv rfl (Nat.le_of_ble_eq_true rfl) rfl rfl rfl (Nat.le_of_ble_eq_true rfl),
   by intros; exact eq_if1 rfl,
   by intros; exact eq_ld rfl rfl,
   by intros; exact eq_ld rfl rfl,
   by intros; exact eq_push rfl,
   by intros; exact eq_cv rfl (Nat.le_of_ble_eq_true rfl) rfl rfl rfl (Nat.le_of_ble_eq_true rfl),
   by intros; exact eq_if0 rfl,
   by intros; exact eq_push rfl,
   by intros; exact eq_ret rfl,
   by intros; exact eq_ld rfl rfl,
   by intros; exact eq_ld rfl rfl,
   by intros; exact eq_push rfl,
   by intros; exact eq_cv rfl (Nat.le_of_ble_eq_true rfl) rfl rfl rfl (Nat.le_of_ble_eq_true rfl),
   by intros; exact eq_ld rfl rfl,
   by intros; exact eq_ld rfl rfl,
   by intros; exact eq_push rfl,
   by intros; exact eq_cv rfl (Nat.le_of_ble_eq_true rfl) rfl rfl rfl (Nat.le_of_ble_eq_true rfl),
   by intros; exact eq_ic5 rfl,
   by intros; exact eq_ld rfl rfl,
   by intros; exact eq_ld rfl rfl,
   by intros; exact eq_push rfl,
   by intros; exact eq_cv rfl (Nat.le_of_ble_eq_true rfl) rfl rfl rfl (Nat.le_of_ble_eq_true rfl),
   by intros; exact eq_go rfl,
   by intros; exact eq_ld rfl rfl,
   by intros; exact eq_ld rfl rfl,
   by intros; exact eq_push rfl,
   by intros; exact eq_cv rfl (Nat.le_of_ble_eq_true rfl) rfl rfl rfl (Nat.le_of_ble_eq_true rfl),
   by intros; exact eq_st rfl (by decide) (Nat.le_of_ble_eq_true rfl) rfl,
   by intros; exact eq_push rfl,
   by intros; exact eq_st rfl (by decide) (Nat.le_of_ble_eq_true rfl) rfl,
   by intros; exact eq_ld rfl rfl,
   by intros; exact eq_push rfl,
   by intros; exact eq_i2 (o := mx_sub) rfl,
   by intros; exact eq_st rfl (by decide) (Nat.le_of_ble_eq_true rfl) rfl,
   by intros; exact eq_if2 rfl,
   by intros; exact eq_ld rfl rfl,
   by intros; exact eq_ld rfl rfl,
   by intros; exact eq_ld rfl rfl,
   by intros; exact eq_cv rfl (Nat.le_of_ble_eq_true rfl) rfl rfl rfl (Nat.le_of_ble_eq_true rfl),
   by intros; exact eq_ld rfl rfl,
   by intros; exact eq_ld rfl rfl,
   by intros; exact eq_ld rfl rfl,
   by intros; exact eq_cv rfl (Nat.le_of_ble_eq_true rfl) rfl rfl rfl (Nat.le_of_ble_eq_true rfl),
   by intros; exact eq_i2 (o := mx_add) rfl,
   by intros; exact eq_st rfl (by decide) (Nat.le_of_ble_eq_true rfl) rfl,
   by intros; exact eq_ld rfl rfl,
   by intros; exact eq_push rfl,
   by intros; exact eq_ic5 rfl,
   by intros; exact eq_push rfl,
   by intros; exact eq_ret rfl,
   by intros; exact eq_ld rfl rfl,
   by intros; exact eq_push rfl,
   by intros; exact eq_i2 (o := mx_shl) rfl,
   by intros; exact eq_ld rfl rfl,
   by intros; exact eq_i2 (o := mx_or) rfl,
   by intros; exact eq_st rfl (by decide) (Nat.le_of_ble_eq_true rfl) rfl⟩
theorem rw_X12_add_1 :
  (∀ (d : Nat) (x : Int) (l0 l1 l2 l3 l4 l6 : Option mx_V) (S h : mx_H) (n : Int), mx_ex d 216 119 [l0, l1, l2, l3, l4, some (0, x), l6] [] S h n = mx_ex d 216 122 [l0, l1, l2, l3, mx_nl l4, some (0, mx_w (x + (-1))), l6] [] S h n) ∧
  (∀ (d : Nat) (l0 l1 l2 l3 l4 l5 l6 : Option mx_V) (S h : mx_H) (n : Int), mx_ex d 216 122 [l0, l1, l2, l3, l4, l5, l6] [] S h n = mx_ex d 216 78 [l0, l1, l2, l3, l4, l5, l6] [] S h n) ∧
  (∀ (d : Nat) (x : Int) (l1 l2 l3 l4 l5 l6 : Option mx_V) (S h : mx_H) (n : Int), mx_ex d 216 125 [some (2, x), l1, l2, l3, l4, l5, l6] [] S h n = mx_ex d 216 126 [some (2, x), l1, l2, l3, l4, l5, l6] [(2, x)] S h n) ∧
  (∀ (d : Nat) (l0 l1 l2 l3 l4 l5 l6 : Option mx_V) (v0 : mx_V) (S h : mx_H) (n : Int), mx_ex d 216 126 [l0, l1, l2, l3, l4, l5, l6] [v0] S h n = mx_ex d 216 127 [l0, l1, l2, l3, l4, l5, l6] [(0, 0), v0] S h n) ∧
  (∀ (d : Nat) (x : Int) (l1 l2 l3 l4 l5 l6 : Option mx_V) (v0 v1 : mx_V) (S h : mx_H) (n : Int), mx_ex d 216 127 [some (2, x), l1, l2, l3, l4, l5, l6] [v0, v1] S h n = mx_ex d 216 128 [some (2, x), l1, l2, l3, l4, l5, l6] [(2, x), v0, v1] S h n) ∧
  (∀ (d : Nat) (x : Int) (l0 l2 l3 l4 l5 l6 : Option mx_V) (v0 v1 v2 : mx_V) (S h : mx_H) (n : Int), mx_ex d 216 128 [l0, some (0, x), l2, l3, l4, l5, l6] [v0, v1, v2] S h n = mx_ex d 216 129 [l0, some (0, x), l2, l3, l4, l5, l6] [(0, x), v0, v1, v2] S h n) ∧
  (∀ (d : Nat) (l0 l1 l2 l3 l4 l5 l6 : Option mx_V) (v0 v1 v2 v3 : mx_V) (S h : mx_H) (n : Int), mx_ex d 216 129 [l0, l1, l2, l3, l4, l5, l6] [v0, v1, v2, v3] S h n = mx_ex d 216 130 [l0, l1, l2, l3, l4, l5, l6] [(0, 1), v0, v1, v2, v3] S h n) ∧
  (∀ (d : Nat) (x0 x1 a : Int) (l0 l1 l2 l3 l4 l5 l6 : Option mx_V) (v3 v4 : mx_V) (S h : mx_H) (n : Int), mx_ex (d + 1) 216 130 [l0, l1, l2, l3, l4, l5, l6] [(0, x0), (0, x1), (2, a), v3, v4] S h n = mx_cl (S a (-2) = 13) d 161 [(2, a), (0, x1), (0, x0)] 216 133 [l0, l1, l2, l3, l4, l5, l6] [v3, v4] S h n) ∧
  (∀ (d : Nat) (l0 l1 l2 l3 l4 l5 l6 : Option mx_V) (v0 v1 v2 : mx_V) (S h : mx_H) (n : Int), mx_ex d 216 133 [l0, l1, l2, l3, l4, l5, l6] [v0, v1, v2] S h n = mx_ex d 216 134 [l0, l1, l2, l3, l4, l5, l6] [(0, 0), v0, v1, v2] S h n) ∧
  (∀ (d : Nat) (x : Int) (l0 l1 l2 l4 l5 l6 : Option mx_V) (v0 v1 v2 v3 : mx_V) (S h : mx_H) (n : Int), mx_ex d 216 134 [l0, l1, l2, some (0, x), l4, l5, l6] [v0, v1, v2, v3] S h n = mx_ex d 216 135 [l0, l1, l2, some (0, x), l4, l5, l6] [(0, x), v0, v1, v2, v3] S h n) ∧
  (∀ (d : Nat) (x : Int) (l0 l1 l2 l3 l5 l6 : Option mx_V) (v0 v1 v2 v3 v4 : mx_V) (S h : mx_H) (n : Int), mx_ex d 216 135 [l0, l1, l2, l3, some (0, x), l5, l6] [v0, v1, v2, v3, v4] S h n = mx_ex d 216 137 [l0, l1, l2, l3, some (0, x), l5, l6] [(0, x), v0, v1, v2, v3, v4] S h n) ∧
  (∀ (d : Nat) (x0 x1 x2 x3 x4 a : Int) (l0 l1 l2 l3 l4 l5 l6 : Option mx_V) (S h : mx_H) (n : Int), mx_ex (d + 1) 216 137 [l0, l1, l2, l3, l4, l5, l6] [(0, x0), (0, x1), (0, x2), (0, x3), (0, x4), (2, a)] S h n = mx_cl (S a (-2) = 13) d 177 [(2, a), (0, x4), (0, x3), (0, x2), (0, x1), (0, x0)] 216 140 [l0, l1, l2, l3, l4, l5, l6] [] S h n) ∧
  (∀ (d : Nat) (x : Int) (l0 l1 l2 l3 l4 l5 l6 : Option mx_V) (S h : mx_H) (n : Int), mx_ex d 216 140 [l0, l1, l2, l3, l4, l5, l6] [(0, x)] S h n = some (some (0, x), S, h, n)) :=
  ⟨by intros; exact eq_inc rfl rfl rfl,
   by intros; exact eq_go rfl,
   by intros; exact eq_ld rfl rfl,
   by intros; exact eq_push rfl,
   by intros; exact eq_ld rfl rfl,
   by intros; exact eq_ld rfl rfl,
   by intros; exact eq_push rfl,
   by intros; exact eq_cv rfl (Nat.le_of_ble_eq_true rfl) rfl rfl rfl (Nat.le_of_ble_eq_true rfl),
   by intros; exact eq_push rfl,
   by intros; exact eq_ld rfl rfl,
   by intros; exact eq_ld rfl rfl,
   by intros; exact eq_cv rfl (Nat.le_of_ble_eq_true rfl) rfl rfl rfl (Nat.le_of_ble_eq_true rfl),
   by intros; exact eq_ret rfl⟩
theorem rw_X12_seed :
  (∀ (d : Nat) (a0 a1 : Int) (S h : mx_H) (n : Int), mx_M d 217 [(2, a0), (0, a1)] S h n = mx_ex d 217 0 [some (2, a0), some (0, a1), none] [] S h n) ∧
  (∀ (d : Nat) (x : Int) (l1 l2 : Option mx_V) (S h : mx_H) (n : Int), mx_ex d 217 0 [some (2, x), l1, l2] [] S h n = mx_ex d 217 1 [some (2, x), l1, l2] [(2, x)] S h n) ∧
  (∀ (d : Nat) (a : Int) (l0 l1 l2 : Option mx_V) (S h : mx_H) (n : Int), mx_ex d 217 1 [l0, l1, l2] [(2, a)] S h n = mx_gd (13 ≤ S a (-2) ∧ S a (-2) ≤ 13) d 217 4 [l0, l1, l2] [(2, S a 0)] S h n) ∧
  (∀ (d : Nat) (l0 l1 l2 : Option mx_V) (v0 : mx_V) (S h : mx_H) (n : Int), mx_ex d 217 4 [l0, l1, l2] [v0] S h n = mx_ex d 217 5 [l0, l1, l2] [(0, 2), v0] S h n) ∧
  (∀ (d : Nat) (i a : Int) (l0 l1 l2 : Option mx_V) (S h : mx_H) (n : Int), mx_ex d 217 5 [l0, l1, l2] [(0, i), (2, a)] S h n = mx_gd ((S a (-2) = 20 ∨ S a (-2) = 24) ∧ 0 ≤ i ∧ i < S a (-1)) d 217 6 [l0, l1, l2] [(0, h a i)] S h n) ∧
  (∀ (d : Nat) (x : Int) (l0 l1 l2 : Option mx_V) (S h : mx_H) (n : Int), mx_ex d 217 6 [l0, l1, l2] [(0, x)] S h n = mx_ex d 217 7 [l0, mx_nl l1, some (0, x)] [] S h n) ∧
  (∀ (d : Nat) (x : Int) (l1 l2 : Option mx_V) (S h : mx_H) (n : Int), mx_ex d 217 7 [some (2, x), l1, l2] [] S h n = mx_ex d 217 8 [some (2, x), l1, l2] [(2, x)] S h n) ∧
  (∀ (d : Nat) (a : Int) (l0 l1 l2 : Option mx_V) (S h : mx_H) (n : Int), mx_ex d 217 8 [l0, l1, l2] [(2, a)] S h n = mx_gd (13 ≤ S a (-2) ∧ S a (-2) ≤ 13) d 217 11 [l0, l1, l2] [(2, S a 0)] S h n) ∧
  (∀ (d : Nat) (l0 l1 l2 : Option mx_V) (v0 : mx_V) (S h : mx_H) (n : Int), mx_ex d 217 11 [l0, l1, l2] [v0] S h n = mx_ex d 217 12 [l0, l1, l2] [(0, 2), v0] S h n) ∧
  (∀ (d : Nat) (x : Int) (l0 l2 : Option mx_V) (v0 v1 : mx_V) (S h : mx_H) (n : Int), mx_ex d 217 12 [l0, some (0, x), l2] [v0, v1] S h n = mx_ex d 217 13 [l0, some (0, x), l2] [(0, x), v0, v1] S h n) ∧
  (∀ (d : Nat) (v i a : Int) (l0 l1 l2 : Option mx_V) (S h : mx_H) (n : Int), mx_ex d 217 13 [l0, l1, l2] [(0, v), (0, i), (2, a)] S h n = mx_gd (S a (-2) = 20 ∧ 0 ≤ i ∧ i < S a (-1)) d 217 14 [l0, l1, l2] [] S (mx_u h a i v) n) ∧
  (∀ (d : Nat) (x : Int) (l0 l1 : Option mx_V) (S h : mx_H) (n : Int), mx_ex d 217 14 [l0, l1, some (0, x)] [] S h n = mx_ex d 217 15 [l0, l1, some (0, x)] [(0, x)] S h n) ∧
  (∀ (d : Nat) (x : Int) (l0 l1 l2 : Option mx_V) (S h : mx_H) (n : Int), mx_ex d 217 15 [l0, l1, l2] [(0, x)] S h n = some (some (0, x), S, h, n)) :=
  ⟨by intros; exact rfl,
   by intros; exact eq_ld rfl rfl,
   by intros; exact eq_gr rfl,
   by intros; exact eq_push rfl,
   by intros; exact eq_iald rfl,
   by intros; exact eq_st rfl (by decide) (Nat.le_of_ble_eq_true rfl) rfl,
   by intros; exact eq_ld rfl rfl,
   by intros; exact eq_gr rfl,
   by intros; exact eq_push rfl,
   by intros; exact eq_ld rfl rfl,
   by intros; exact eq_iast rfl,
   by intros; exact eq_ld rfl rfl,
   by intros; exact eq_ret rfl⟩
theorem rw_X12_guess :
  (∀ (d : Nat) (a0 : Int) (S h : mx_H) (n : Int), mx_M d 218 [(2, a0)] S h n = mx_ex d 218 0 [some (2, a0), none] [] S h n) ∧
  (∀ (d : Nat) (x : Int) (l1 : Option mx_V) (S h : mx_H) (n : Int), mx_ex d 218 0 [some (2, x), l1] [] S h n = mx_ex d 218 1 [some (2, x), l1] [(2, x)] S h n) ∧
  (∀ (d : Nat) (l0 l1 : Option mx_V) (v0 : mx_V) (S h : mx_H) (n : Int), mx_ex d 218 1 [l0, l1] [v0] S h n = mx_ex d 218 3 [l0, l1] [(0, 63), v0] S h n) ∧
  (∀ (d : Nat) (l0 l1 : Option mx_V) (v0 v1 : mx_V) (S h : mx_H) (n : Int), mx_ex d 218 3 [l0, l1] [v0, v1] S h n = mx_ex d 218 6 [l0, l1] [(0, 9999), v0, v1] S h n) ∧
  (∀ (d : Nat) (x0 x1 a : Int) (l0 l1 : Option mx_V) (S h : mx_H) (n : Int), mx_ex (d + 1) 218 6 [l0, l1] [(0, x0), (0, x1), (2, a)] S h n = mx_cl (S a (-2) = 13) d 195 [(2, a), (0, x1), (0, x0)] 218 9 [l0, l1] [] S h n) ∧
  (∀ (d : Nat) (x : Int) (l0 l1 : Option mx_V) (S h : mx_H) (n : Int), mx_ex d 218 9 [l0, l1] [(0, x)] S h n = mx_ex d 218 10 [mx_nl l0, some (0, x)] [] S h n) ∧
  (∀ (d : Nat) (x : Int) (l0 : Option mx_V) (S h : mx_H) (n : Int), mx_ex d 218 10 [l0, some (0, x)] [] S h n = mx_ex d 218 11 [l0, some (0, x)] [(0, x)] S h n) ∧
  (∀ (d : Nat) (a : Int) (l0 l1 : Option mx_V) (S h : mx_H) (n : Int), mx_ex d 218 11 [l0, l1] [(0, a)] S h n = mx_br (a = 0) d 218 14 17 [l0, l1] [] S h n) ∧
  (∀ (d : Nat) (l0 l1 : Option mx_V) (S h : mx_H) (n : Int), mx_ex d 218 14 [l0, l1] [] S h n = mx_ex d 218 16 [l0, l1] [(0, (-3))] S h n) ∧
  (∀ (d : Nat) (x : Int) (l0 l1 : Option mx_V) (S h : mx_H) (n : Int), mx_ex d 218 16 [l0, l1] [(0, x)] S h n = some (some (0, x), S, h, n)) ∧
  (∀ (d : Nat) (x : Int) (l1 : Option mx_V) (S h : mx_H) (n : Int), mx_ex d 218 17 [some (2, x), l1] [] S h n = mx_ex d 218 18 [some (2, x), l1] [(2, x)] S h n) ∧
  (∀ (d : Nat) (a : Int) (l0 l1 : Option mx_V) (S h : mx_H) (n : Int), mx_ex d 218 18 [l0, l1] [(2, a)] S h n = mx_gd (13 ≤ S a (-2) ∧ S a (-2) ≤ 13) d 218 21 [l0, l1] [(2, S a 0)] S h n) ∧
  (∀ (d : Nat) (l0 l1 : Option mx_V) (v0 : mx_V) (S h : mx_H) (n : Int), mx_ex d 218 21 [l0, l1] [v0] S h n = mx_ex d 218 22 [l0, l1] [(0, 2), v0] S h n) ∧
  (∀ (d : Nat) (x : Int) (l1 : Option mx_V) (v0 v1 : mx_V) (S h : mx_H) (n : Int), mx_ex d 218 22 [some (2, x), l1] [v0, v1] S h n = mx_ex d 218 23 [some (2, x), l1] [(2, x), v0, v1] S h n) ∧
  (∀ (d : Nat) (a : Int) (l0 l1 : Option mx_V) (v1 v2 : mx_V) (S h : mx_H) (n : Int), mx_ex d 218 23 [l0, l1] [(2, a), v1, v2] S h n = mx_gd (13 ≤ S a (-2) ∧ S a (-2) ≤ 13) d 218 26 [l0, l1] [(2, S a 0), v1, v2] S h n) ∧
  (∀ (d : Nat) (l0 l1 : Option mx_V) (v0 v1 v2 : mx_V) (S h : mx_H) (n : Int), mx_ex d 218 26 [l0, l1] [v0, v1, v2] S h n = mx_ex d 218 27 [l0, l1] [(0, 2), v0, v1, v2] S h n) ∧
  (∀ (d : Nat) (i a : Int) (l0 l1 : Option mx_V) (v2 v3 : mx_V) (S h : mx_H) (n : Int), mx_ex d 218 27 [l0, l1] [(0, i), (2, a), v2, v3] S h n = mx_gd ((S a (-2) = 20 ∨ S a (-2) = 24) ∧ 0 ≤ i ∧ i < S a (-1)) d 218 28 [l0, l1] [(0, h a i), v2, v3] S h n) ∧
  (∀ (d : Nat) (l0 l1 : Option mx_V) (v0 v1 v2 : mx_V) (S h : mx_H) (n : Int), mx_ex d 218 28 [l0, l1] [v0, v1, v2] S h n = mx_ex d 218 30 [l0, l1] [(0, 1103515245), v0, v1, v2] S h n) ∧
  (∀ (d : Nat) (b a : Int) (l0 l1 : Option mx_V) (v2 v3 : mx_V) (S h : mx_H) (n : Int), mx_ex d 218 30 [l0, l1] [(0, b), (0, a), v2, v3] S h n = mx_ex d 218 31 [l0, l1] [(0, mx_w (a * b)), v2, v3] S h n) ∧
  (∀ (d : Nat) (l0 l1 : Option mx_V) (v0 v1 v2 : mx_V) (S h : mx_H) (n : Int), mx_ex d 218 31 [l0, l1] [v0, v1, v2] S h n = mx_ex d 218 34 [l0, l1] [(0, 12345), v0, v1, v2] S h n) ∧
  (∀ (d : Nat) (b a : Int) (l0 l1 : Option mx_V) (v2 v3 : mx_V) (S h : mx_H) (n : Int), mx_ex d 218 34 [l0, l1] [(0, b), (0, a), v2, v3] S h n = mx_ex d 218 35 [l0, l1] [(0, mx_w (a + b)), v2, v3] S h n) ∧
  (∀ (d : Nat) (v i a : Int) (l0 l1 : Option mx_V) (S h : mx_H) (n : Int), mx_ex d 218 35 [l0, l1] [(0, v), (0, i), (2, a)] S h n = mx_gd (S a (-2) = 20 ∧ 0 ≤ i ∧ i < S a (-1)) d 218 36 [l0, l1] [] S (mx_u h a i v) n) ∧
  (∀ (d : Nat) (x : Int) (l1 : Option mx_V) (S h : mx_H) (n : Int), mx_ex d 218 36 [some (2, x), l1] [] S h n = mx_ex d 218 37 [some (2, x), l1] [(2, x)] S h n) ∧
  (∀ (d : Nat) (a : Int) (l0 l1 : Option mx_V) (S h : mx_H) (n : Int), mx_ex d 218 37 [l0, l1] [(2, a)] S h n = mx_gd (13 ≤ S a (-2) ∧ S a (-2) ≤ 13) d 218 40 [l0, l1] [(2, S a 0)] S h n) ∧
  (∀ (d : Nat) (l0 l1 : Option mx_V) (v0 : mx_V) (S h : mx_H) (n : Int), mx_ex d 218 40 [l0, l1] [v0] S h n = mx_ex d 218 41 [l0, l1] [(0, 2), v0] S h n) ∧
  (∀ (d : Nat) (i a : Int) (l0 l1 : Option mx_V) (S h : mx_H) (n : Int), mx_ex d 218 41 [l0, l1] [(0, i), (2, a)] S h n = mx_gd ((S a (-2) = 20 ∨ S a (-2) = 24) ∧ 0 ≤ i ∧ i < S a (-1)) d 218 42 [l0, l1] [(0, h a i)] S h n) ∧
  (∀ (d : Nat) (l0 l1 : Option mx_V) (v0 : mx_V) (S h : mx_H) (n : Int), mx_ex d 218 42 [l0, l1] [v0] S h n = mx_ex d 218 44 [l0, l1] [(0, 16), v0] S h n) ∧
  (∀ (d : Nat) (b a : Int) (l0 l1 : Option mx_V) (S h : mx_H) (n : Int), mx_ex d 218 44 [l0, l1] [(0, b), (0, a)] S h n = mx_ex d 218 45 [l0, l1] [(0, mx_ush a b)] S h n) ∧
  (∀ (d : Nat) (x : Int) (l0 : Option mx_V) (v0 : mx_V) (S h : mx_H) (n : Int), mx_ex d 218 45 [l0, some (0, x)] [v0] S h n = mx_ex d 218 46 [l0, some (0, x)] [(0, x), v0] S h n) ∧
  (∀ (d : Nat) (b a : Int) (l0 l1 : Option mx_V) (S h : mx_H) (n : Int), mx_ex d 218 46 [l0, l1] [(0, b), (0, a)] S h n = mx_gd (¬ b = 0) d 218 47 [l0, l1] [(0, Int.tmod a b)] S h n) ∧
  (∀ (d : Nat) (x : Int) (l0 l1 : Option mx_V) (S h : mx_H) (n : Int), mx_ex d 218 47 [l0, l1] [(0, x)] S h n = some (some (0, x), S, h, n)) :=
  ⟨by intros; exact rfl,
   by intros; exact eq_ld rfl rfl,
   by intros; exact eq_push rfl,
   by intros; exact eq_push rfl,
   by intros; exact eq_cv rfl (Nat.le_of_ble_eq_true rfl) rfl rfl rfl (Nat.le_of_ble_eq_true rfl),
   by intros; exact eq_st rfl (by decide) (Nat.le_of_ble_eq_true rfl) rfl,
   by intros; exact eq_ld rfl rfl,
   by intros; exact eq_if1 rfl,
   by intros; exact eq_push rfl,
   by intros; exact eq_ret rfl,
   by intros; exact eq_ld rfl rfl,
   by intros; exact eq_gr rfl,
   by intros; exact eq_push rfl,
   by intros; exact eq_ld rfl rfl,
   by intros; exact eq_gr rfl,
   by intros; exact eq_push rfl,
   by intros; exact eq_iald rfl,
   by intros; exact eq_push rfl,
   by intros; exact eq_i2 (o := mx_mul) rfl,
   by intros; exact eq_push rfl,
   by intros; exact eq_i2 (o := mx_add) rfl,
   by intros; exact eq_iast rfl,
   by intros; exact eq_ld rfl rfl,
   by intros; exact eq_gr rfl,
   by intros; exact eq_push rfl,
   by intros; exact eq_iald rfl,
   by intros; exact eq_push rfl,
   by intros; exact eq_i2 (o := mx_ush) rfl,
   by intros; exact eq_ld rfl rfl,
   by intros; exact eq_i2d (o := mx_rem) rfl,
   by intros; exact eq_ret rfl⟩
theorem rh_X12_prove_23 : ∀ (d : Nat) (x : Int) (l0 l1 : Option mx_V) (S h : mx_H) (n : Int), mx_ex d 219 23 [l0, l1, some (0, x)] [] S h n = mx_ex d 219 24 [l0, l1, some (0, x)] [(0, x)] S h n := by intros; exact eq_ld rfl rfl
theorem rw_X12_prove :
  (∀ (d : Nat) (a0 a1 : Int) (S h : mx_H) (n : Int), mx_M d 219 [(2, a0), (0, a1)] S h n = mx_ex d 219 0 [some (2, a0), some (0, a1), none] [] S h n) ∧
  (∀ (d : Nat) (x : Int) (l1 l2 : Option mx_V) (S h : mx_H) (n : Int), mx_ex d 219 0 [some (2, x), l1, l2] [] S h n = mx_ex d 219 1 [some (2, x), l1, l2] [(2, x)] S h n) ∧
  (∀ (d : Nat) (x : Int) (l0 l2 : Option mx_V) (v0 : mx_V) (S h : mx_H) (n : Int), mx_ex d 219 1 [l0, some (0, x), l2] [v0] S h n = mx_ex d 219 2 [l0, some (0, x), l2] [(0, x), v0] S h n) ∧
  (∀ (d : Nat) (x0 a : Int) (l0 l1 l2 : Option mx_V) (S h : mx_H) (n : Int), mx_ex (d + 1) 219 2 [l0, l1, l2] [(0, x0), (2, a)] S h n = mx_cl (S a (-2) = 13) d 198 [(2, a), (0, x0)] 219 5 [l0, l1, l2] [] S h n) ∧
  (∀ (d : Nat) (a : Int) (l0 l1 l2 : Option mx_V) (S h : mx_H) (n : Int), mx_ex d 219 5 [l0, l1, l2] [(0, a)] S h n = mx_br (a = 0) d 219 8 11 [l0, l1, l2] [] S h n) ∧
  (∀ (d : Nat) (l0 l1 l2 : Option mx_V) (S h : mx_H) (n : Int), mx_ex d 219 8 [l0, l1, l2] [] S h n = mx_ex d 219 10 [l0, l1, l2] [(0, (-3))] S h n) ∧
  (∀ (d : Nat) (x : Int) (l0 l1 l2 : Option mx_V) (S h : mx_H) (n : Int), mx_ex d 219 10 [l0, l1, l2] [(0, x)] S h n = some (some (0, x), S, h, n)) ∧
  (∀ (d : Nat) (x : Int) (l1 l2 : Option mx_V) (S h : mx_H) (n : Int), mx_ex d 219 11 [some (2, x), l1, l2] [] S h n = mx_ex d 219 12 [some (2, x), l1, l2] [(2, x)] S h n) ∧
  (∀ (d : Nat) (x : Int) (l1 l2 : Option mx_V) (v0 : mx_V) (S h : mx_H) (n : Int), mx_ex d 219 12 [some (2, x), l1, l2] [v0] S h n = mx_ex d 219 13 [some (2, x), l1, l2] [(2, x), v0] S h n) ∧
  (∀ (d : Nat) (a : Int) (l0 l1 l2 : Option mx_V) (v1 : mx_V) (S h : mx_H) (n : Int), mx_ex d 219 13 [l0, l1, l2] [(2, a), v1] S h n = mx_gd (13 ≤ S a (-2) ∧ S a (-2) ≤ 13) d 219 16 [l0, l1, l2] [(2, S a 0), v1] S h n) ∧
  (∀ (d : Nat) (l0 l1 l2 : Option mx_V) (v0 v1 : mx_V) (S h : mx_H) (n : Int), mx_ex d 219 16 [l0, l1, l2] [v0, v1] S h n = mx_ex d 219 17 [l0, l1, l2] [(0, 0), v0, v1] S h n) ∧
  (∀ (d : Nat) (i a : Int) (l0 l1 l2 : Option mx_V) (v2 : mx_V) (S h : mx_H) (n : Int), mx_ex d 219 17 [l0, l1, l2] [(0, i), (2, a), v2] S h n = mx_gd ((S a (-2) = 20 ∨ S a (-2) = 24) ∧ 0 ≤ i ∧ i < S a (-1)) d 219 18 [l0, l1, l2] [(0, h a i), v2] S h n) ∧
  (∀ (d : Nat) (v a : Int) (l0 l1 l2 : Option mx_V) (S h : mx_H) (n : Int), mx_ex d 219 18 [l0, l1, l2] [(0, v), (2, a)] S h n = mx_gd (13 ≤ S a (-2) ∧ S a (-2) ≤ 13) d 219 21 [l0, l1, l2] [] S (mx_u h a 15 v) n) ∧
  (∀ (d : Nat) (l0 l1 l2 : Option mx_V) (S h : mx_H) (n : Int), mx_ex d 219 21 [l0, l1, l2] [] S h n = mx_ex d 219 22 [l0, l1, l2] [(0, 0)] S h n) ∧
  (∀ (d : Nat) (x : Int) (l0 l1 l2 : Option mx_V) (S h : mx_H) (n : Int), mx_ex d 219 22 [l0, l1, l2] [(0, x)] S h n = mx_ex d 219 23 [l0, mx_nl l1, some (0, x)] [] S h n) ∧
  (∀ (d : Nat) (x : Int) (l1 l2 : Option mx_V) (v0 : mx_V) (S h : mx_H) (n : Int), mx_ex d 219 24 [some (2, x), l1, l2] [v0] S h n = mx_ex d 219 25 [some (2, x), l1, l2] [(2, x), v0] S h n) ∧
  (∀ (d : Nat) (a : Int) (l0 l1 l2 : Option mx_V) (v1 : mx_V) (S h : mx_H) (n : Int), mx_ex d 219 25 [l0, l1, l2] [(2, a), v1] S h n = mx_gd (13 ≤ S a (-2) ∧ S a (-2) ≤ 13) d 219 28 [l0, l1, l2] [(0, h a 15), v1] S h n) ∧
  (∀ (d : Nat) (b a : Int) (l0 l1 l2 : Option mx_V) (S h : mx_H) (n : Int), mx_ex d 219 28 [l0, l1, l2] [(0, b), (0, a)] S h n = mx_br (a < b) d 219 31 84 [l0, l1, l2] [] S h n) ∧
  (∀ (d : Nat) (x : Int) (l1 l2 : Option mx_V) (S h : mx_H) (n : Int), mx_ex d 219 31 [some (2, x), l1, l2] [] S h n = mx_ex d 219 32 [some (2, x), l1, l2] [(2, x)] S h n) ∧
  (∀ (d : Nat) (a : Int) (l0 l1 l2 : Option mx_V) (S h : mx_H) (n : Int), mx_ex d 219 32 [l0, l1, l2] [(2, a)] S h n = mx_gd (13 ≤ S a (-2) ∧ S a (-2) ≤ 13) d 219 35 [l0, l1, l2] [(2, S a 14)] S h n) ∧
  (∀ (d : Nat) (l0 l1 l2 : Option mx_V) (v0 : mx_V) (S h : mx_H) (n : Int), mx_ex d 219 35 [l0, l1, l2] [v0] S h n = mx_ex d 219 36 [l0, l1, l2] [(0, 3), v0] S h n) ∧
  (∀ (d : Nat) (x : Int) (l0 l1 : Option mx_V) (v0 v1 : mx_V) (S h : mx_H) (n : Int), mx_ex d 219 36 [l0, l1, some (0, x)] [v0, v1] S h n = mx_ex d 219 37 [l0, l1, some (0, x)] [(0, x), v0, v1] S h n) ∧
  (∀ (d : Nat) (b a : Int) (l0 l1 l2 : Option mx_V) (v2 : mx_V) (S h : mx_H) (n : Int), mx_ex d 219 37 [l0, l1, l2] [(0, b), (0, a), v2] S h n = mx_ex d 219 38 [l0, l1, l2] [(0, mx_w (a * b)), v2] S h n) ∧
  (∀ (d : Nat) (x : Int) (l0 l1 : Option mx_V) (v0 v1 : mx_V) (S h : mx_H) (n : Int), mx_ex d 219 38 [l0, l1, some (0, x)] [v0, v1] S h n = mx_ex d 219 39 [l0, l1, some (0, x)] [(0, x), v0, v1] S h n) ∧
  (∀ (d : Nat) (a : Int) (l0 l1 l2 : Option mx_V) (v1 v2 : mx_V) (S h : mx_H) (n : Int), mx_ex d 219 39 [l0, l1, l2] [(0, a), v1, v2] S h n = mx_ex d 219 40 [l0, l1, l2] [(1, a), v1, v2] S h n) ∧
  (∀ (d : Nat) (v i a : Int) (l0 l1 l2 : Option mx_V) (S h : mx_H) (n : Int), mx_ex d 219 40 [l0, l1, l2] [(1, v), (0, i), (2, a)] S h n = mx_gd (S a (-2) = 21 ∧ 0 ≤ i ∧ i < S a (-1)) d 219 41 [l0, l1, l2] [] S (mx_u h a i v) n) ∧
  (∀ (d : Nat) (x : Int) (l1 l2 : Option mx_V) (S h : mx_H) (n : Int), mx_ex d 219 41 [some (2, x), l1, l2] [] S h n = mx_ex d 219 42 [some (2, x), l1, l2] [(2, x)] S h n) ∧
  (∀ (d : Nat) (a : Int) (l0 l1 l2 : Option mx_V) (S h : mx_H) (n : Int), mx_ex d 219 42 [l0, l1, l2] [(2, a)] S h n = mx_gd (13 ≤ S a (-2) ∧ S a (-2) ≤ 13) d 219 45 [l0, l1, l2] [(2, S a 14)] S h n) ∧
  (∀ (d : Nat) (l0 l1 l2 : Option mx_V) (v0 : mx_V) (S h : mx_H) (n : Int), mx_ex d 219 45 [l0, l1, l2] [v0] S h n = mx_ex d 219 46 [l0, l1, l2] [(0, 3), v0] S h n) ∧
  (∀ (d : Nat) (x : Int) (l0 l1 : Option mx_V) (v0 v1 : mx_V) (S h : mx_H) (n : Int), mx_ex d 219 46 [l0, l1, some (0, x)] [v0, v1] S h n = mx_ex d 219 47 [l0, l1, some (0, x)] [(0, x), v0, v1] S h n) ∧
  (∀ (d : Nat) (b a : Int) (l0 l1 l2 : Option mx_V) (v2 : mx_V) (S h : mx_H) (n : Int), mx_ex d 219 47 [l0, l1, l2] [(0, b), (0, a), v2] S h n = mx_ex d 219 48 [l0, l1, l2] [(0, mx_w (a * b)), v2] S h n) ∧
  (∀ (d : Nat) (l0 l1 l2 : Option mx_V) (v0 v1 : mx_V) (S h : mx_H) (n : Int), mx_ex d 219 48 [l0, l1, l2] [v0, v1] S h n = mx_ex d 219 49 [l0, l1, l2] [(0, 1), v0, v1] S h n) ∧
  (∀ (d : Nat) (b a : Int) (l0 l1 l2 : Option mx_V) (v2 : mx_V) (S h : mx_H) (n : Int), mx_ex d 219 49 [l0, l1, l2] [(0, b), (0, a), v2] S h n = mx_ex d 219 50 [l0, l1, l2] [(0, mx_w (a + b)), v2] S h n) ∧
  (∀ (d : Nat) (x : Int) (l1 l2 : Option mx_V) (v0 v1 : mx_V) (S h : mx_H) (n : Int), mx_ex d 219 50 [some (2, x), l1, l2] [v0, v1] S h n = mx_ex d 219 51 [some (2, x), l1, l2] [(2, x), v0, v1] S h n) ∧
  (∀ (d : Nat) (a : Int) (l0 l1 l2 : Option mx_V) (v1 v2 : mx_V) (S h : mx_H) (n : Int), mx_ex d 219 51 [l0, l1, l2] [(2, a), v1, v2] S h n = mx_gd (13 ≤ S a (-2) ∧ S a (-2) ≤ 13) d 219 54 [l0, l1, l2] [(2, S a 11), v1, v2] S h n) ∧
  (∀ (d : Nat) (x : Int) (l1 l2 : Option mx_V) (v0 v1 v2 : mx_V) (S h : mx_H) (n : Int), mx_ex d 219 54 [some (2, x), l1, l2] [v0, v1, v2] S h n = mx_ex d 219 55 [some (2, x), l1, l2] [(2, x), v0, v1, v2] S h n) ∧
  (∀ (d : Nat) (x : Int) (l0 l1 : Option mx_V) (v0 v1 v2 v3 : mx_V) (S h : mx_H) (n : Int), mx_ex d 219 55 [l0, l1, some (0, x)] [v0, v1, v2, v3] S h n = mx_ex d 219 56 [l0, l1, some (0, x)] [(0, x), v0, v1, v2, v3] S h n) ∧
  (∀ (d : Nat) (l0 l1 l2 : Option mx_V) (v0 v1 v2 v3 v4 : mx_V) (S h : mx_H) (n : Int), mx_ex d 219 56 [l0, l1, l2] [v0, v1, v2, v3, v4] S h n = mx_ex d 219 57 [l0, l1, l2] [(0, 1), v0, v1, v2, v3, v4] S h n) ∧
  (∀ (d : Nat) (x0 x1 a : Int) (l0 l1 l2 : Option mx_V) (v3 v4 v5 : mx_V) (S h : mx_H) (n : Int), mx_ex (d + 1) 219 57 [l0, l1, l2] [(0, x0), (0, x1), (2, a), v3, v4, v5] S h n = mx_cl (S a (-2) = 13) d 161 [(2, a), (0, x1), (0, x0)] 219 60 [l0, l1, l2] [v3, v4, v5] S h n) ∧
  (∀ (d : Nat) (i a : Int) (l0 l1 l2 : Option mx_V) (v2 v3 : mx_V) (S h : mx_H) (n : Int), mx_ex d 219 60 [l0, l1, l2] [(0, i), (2, a), v2, v3] S h n = mx_gd ((S a (-2) = 20 ∨ S a (-2) = 24) ∧ 0 ≤ i ∧ i < S a (-1)) d 219 61 [l0, l1, l2] [(0, h a i), v2, v3] S h n) ∧
  (∀ (d : Nat) (a : Int) (l0 l1 l2 : Option mx_V) (v1 v2 : mx_V) (S h : mx_H) (n : Int), mx_ex d 219 61 [l0, l1, l2] [(0, a), v1, v2] S h n = mx_ex d 219 62 [l0, l1, l2] [(1, a), v1, v2] S h n) ∧
  (∀ (d : Nat) (v i a : Int) (l0 l1 l2 : Option mx_V) (S h : mx_H) (n : Int), mx_ex d 219 62 [l0, l1, l2] [(1, v), (0, i), (2, a)] S h n = mx_gd (S a (-2) = 21 ∧ 0 ≤ i ∧ i < S a (-1)) d 219 63 [l0, l1, l2] [] S (mx_u h a i v) n) ∧
  (∀ (d : Nat) (x : Int) (l1 l2 : Option mx_V) (S h : mx_H) (n : Int), mx_ex d 219 63 [some (2, x), l1, l2] [] S h n = mx_ex d 219 64 [some (2, x), l1, l2] [(2, x)] S h n) ∧
  (∀ (d : Nat) (a : Int) (l0 l1 l2 : Option mx_V) (S h : mx_H) (n : Int), mx_ex d 219 64 [l0, l1, l2] [(2, a)] S h n = mx_gd (13 ≤ S a (-2) ∧ S a (-2) ≤ 13) d 219 67 [l0, l1, l2] [(2, S a 14)] S h n) ∧
  (∀ (d : Nat) (l0 l1 l2 : Option mx_V) (v0 : mx_V) (S h : mx_H) (n : Int), mx_ex d 219 67 [l0, l1, l2] [v0] S h n = mx_ex d 219 68 [l0, l1, l2] [(0, 3), v0] S h n) ∧
  (∀ (d : Nat) (x : Int) (l0 l1 : Option mx_V) (v0 v1 : mx_V) (S h : mx_H) (n : Int), mx_ex d 219 68 [l0, l1, some (0, x)] [v0, v1] S h n = mx_ex d 219 69 [l0, l1, some (0, x)] [(0, x), v0, v1] S h n) ∧
  (∀ (d : Nat) (b a : Int) (l0 l1 l2 : Option mx_V) (v2 : mx_V) (S h : mx_H) (n : Int), mx_ex d 219 69 [l0, l1, l2] [(0, b), (0, a), v2] S h n = mx_ex d 219 70 [l0, l1, l2] [(0, mx_w (a * b)), v2] S h n) ∧
  (∀ (d : Nat) (l0 l1 l2 : Option mx_V) (v0 v1 : mx_V) (S h : mx_H) (n : Int), mx_ex d 219 70 [l0, l1, l2] [v0, v1] S h n = mx_ex d 219 71 [l0, l1, l2] [(0, 2), v0, v1] S h n) ∧
  (∀ (d : Nat) (b a : Int) (l0 l1 l2 : Option mx_V) (v2 : mx_V) (S h : mx_H) (n : Int), mx_ex d 219 71 [l0, l1, l2] [(0, b), (0, a), v2] S h n = mx_ex d 219 72 [l0, l1, l2] [(0, mx_w (a + b)), v2] S h n) ∧
  (∀ (d : Nat) (x : Int) (l1 l2 : Option mx_V) (v0 v1 : mx_V) (S h : mx_H) (n : Int), mx_ex d 219 72 [some (2, x), l1, l2] [v0, v1] S h n = mx_ex d 219 73 [some (2, x), l1, l2] [(2, x), v0, v1] S h n) ∧
  (∀ (d : Nat) (x : Int) (l0 l1 : Option mx_V) (v0 v1 v2 : mx_V) (S h : mx_H) (n : Int), mx_ex d 219 73 [l0, l1, some (0, x)] [v0, v1, v2] S h n = mx_ex d 219 74 [l0, l1, some (0, x)] [(0, x), v0, v1, v2] S h n) ∧
  (∀ (d : Nat) (x0 a : Int) (l0 l1 l2 : Option mx_V) (v2 v3 : mx_V) (S h : mx_H) (n : Int), mx_ex (d + 1) 219 74 [l0, l1, l2] [(0, x0), (2, a), v2, v3] S h n = mx_cl (S a (-2) = 13) d 191 [(2, a), (0, x0)] 219 77 [l0, l1, l2] [v2, v3] S h n) ∧
  (∀ (d : Nat) (v i a : Int) (l0 l1 l2 : Option mx_V) (S h : mx_H) (n : Int), mx_ex d 219 77 [l0, l1, l2] [(1, v), (0, i), (2, a)] S h n = mx_gd (S a (-2) = 21 ∧ 0 ≤ i ∧ i < S a (-1)) d 219 78 [l0, l1, l2] [] S (mx_u h a i v) n) ∧
  (∀ (d : Nat) (x : Int) (l0 l1 : Option mx_V) (S h : mx_H) (n : Int), mx_ex d 219 78 [l0, l1, some (0, x)] [] S h n = mx_ex d 219 81 [l0, mx_nl l1, some (0, mx_w (x + 1))] [] S h n) ∧
  (∀ (d : Nat) (l0 l1 l2 : Option mx_V) (S h : mx_H) (n : Int), mx_ex d 219 81 [l0, l1, l2] [] S h n = mx_ex d 219 23 [l0, l1, l2] [] S h n) ∧
  (∀ (d : Nat) (x : Int) (l1 l2 : Option mx_V) (S h : mx_H) (n : Int), mx_ex d 219 84 [some (2, x), l1, l2] [] S h n = mx_ex d 219 85 [some (2, x), l1, l2] [(2, x)] S h n) ∧
  (∀ (d : Nat) (a : Int) (l0 l1 l2 : Option mx_V) (S h : mx_H) (n : Int), mx_ex d 219 85 [l0, l1, l2] [(2, a)] S h n = mx_gd (13 ≤ S a (-2) ∧ S a (-2) ≤ 13) d 219 88 [l0, l1, l2] [(0, h a 15)] S h n) ∧
  (∀ (d : Nat) (x : Int) (l0 l1 l2 : Option mx_V) (S h : mx_H) (n : Int), mx_ex d 219 88 [l0, l1, l2] [(0, x)] S h n = some (some (0, x), S, h, n)) :=
  ⟨by intros; exact rfl,
   by intros; exact eq_ld rfl rfl,
   by intros; exact eq_ld rfl rfl,
   by intros; exact eq_cv rfl (Nat.le_of_ble_eq_true rfl) rfl rfl rfl (Nat.le_of_ble_eq_true rfl),
   by intros; exact eq_if1 rfl,
   by intros; exact eq_push rfl,
   by intros; exact eq_ret rfl,
   by intros; exact eq_ld rfl rfl,
   by intros; exact eq_ld rfl rfl,
   by intros; exact eq_gr rfl,
   by intros; exact eq_push rfl,
   by intros; exact eq_iald rfl,
   by intros; exact eq_pi rfl,
   by intros; exact eq_push rfl,
   by intros; exact eq_st rfl (by decide) (Nat.le_of_ble_eq_true rfl) rfl,
   by intros; exact eq_ld rfl rfl,
   by intros; exact eq_gi rfl,
   by intros; exact eq_ic3 rfl,
   by intros; exact eq_ld rfl rfl,
   by intros; exact eq_gr rfl,
   by intros; exact eq_push rfl,
   by intros; exact eq_ld rfl rfl,
   by intros; exact eq_i2 (o := mx_mul) rfl,
   by intros; exact eq_ld rfl rfl,
   by intros; exact eq_i2l rfl,
   by intros; exact eq_last rfl,
   by intros; exact eq_ld rfl rfl,
   by intros; exact eq_gr rfl,
   by intros; exact eq_push rfl,
   by intros; exact eq_ld rfl rfl,
   by intros; exact eq_i2 (o := mx_mul) rfl,
   by intros; exact eq_push rfl,
   by intros; exact eq_i2 (o := mx_add) rfl,
   by intros; exact eq_ld rfl rfl,
   by intros; exact eq_gr rfl,
   by intros; exact eq_ld rfl rfl,
   by intros; exact eq_ld rfl rfl,
   by intros; exact eq_push rfl,
   by intros; exact eq_cv rfl (Nat.le_of_ble_eq_true rfl) rfl rfl rfl (Nat.le_of_ble_eq_true rfl),
   by intros; exact eq_iald rfl,
   by intros; exact eq_i2l rfl,
   by intros; exact eq_last rfl,
   by intros; exact eq_ld rfl rfl,
   by intros; exact eq_gr rfl,
   by intros; exact eq_push rfl,
   by intros; exact eq_ld rfl rfl,
   by intros; exact eq_i2 (o := mx_mul) rfl,
   by intros; exact eq_push rfl,
   by intros; exact eq_i2 (o := mx_add) rfl,
   by intros; exact eq_ld rfl rfl,
   by intros; exact eq_ld rfl rfl,
   by intros; exact eq_cv rfl (Nat.le_of_ble_eq_true rfl) rfl rfl rfl (Nat.le_of_ble_eq_true rfl),
   by intros; exact eq_last rfl,
   by intros; exact eq_inc rfl rfl rfl,
   by intros; exact eq_go rfl,
   by intros; exact eq_ld rfl rfl,
   by intros; exact eq_gi rfl,
   by intros; exact eq_ret rfl⟩
theorem rw_X12_isRow :
  (∀ (d : Nat) (a0 a1 a2 : Int) (S h : mx_H) (n : Int), mx_M d 220 [(2, a0), (0, a1), (0, a2)] S h n = mx_ex d 220 0 [some (2, a0), some (0, a1), some (0, a2)] [] S h n) ∧
  (∀ (d : Nat) (x : Int) (l0 l2 : Option mx_V) (S h : mx_H) (n : Int), mx_ex d 220 0 [l0, some (0, x), l2] [] S h n = mx_ex d 220 1 [l0, some (0, x), l2] [(0, x)] S h n) ∧
  (∀ (d : Nat) (l0 l1 l2 : Option mx_V) (v0 : mx_V) (S h : mx_H) (n : Int), mx_ex d 220 1 [l0, l1, l2] [v0] S h n = mx_ex d 220 2 [l0, l1, l2] [(0, 0), v0] S h n) ∧
  (∀ (d : Nat) (x : Int) (l1 l2 : Option mx_V) (v0 v1 : mx_V) (S h : mx_H) (n : Int), mx_ex d 220 2 [some (2, x), l1, l2] [v0, v1] S h n = mx_ex d 220 3 [some (2, x), l1, l2] [(2, x), v0, v1] S h n) ∧
  (∀ (d : Nat) (a : Int) (l0 l1 l2 : Option mx_V) (v1 v2 : mx_V) (S h : mx_H) (n : Int), mx_ex d 220 3 [l0, l1, l2] [(2, a), v1, v2] S h n = mx_gd (13 ≤ S a (-2) ∧ S a (-2) ≤ 13) d 220 6 [l0, l1, l2] [(0, h a 15), v1, v2] S h n) ∧
  (∀ (d : Nat) (l0 l1 l2 : Option mx_V) (v0 v1 v2 : mx_V) (S h : mx_H) (n : Int), mx_ex d 220 6 [l0, l1, l2] [v0, v1, v2] S h n = mx_ex d 220 7 [l0, l1, l2] [(0, 1), v0, v1, v2] S h n) ∧
  (∀ (d : Nat) (b a : Int) (l0 l1 l2 : Option mx_V) (v2 v3 : mx_V) (S h : mx_H) (n : Int), mx_ex d 220 7 [l0, l1, l2] [(0, b), (0, a), v2, v3] S h n = mx_ex d 220 8 [l0, l1, l2] [(0, mx_w (a - b)), v2, v3] S h n) ∧
  (∀ (d : Nat) (x0 x1 x2 : Int) (l0 l1 l2 : Option mx_V) (S h : mx_H) (n : Int), mx_ex (d + 1) 220 8 [l0, l1, l2] [(0, x0), (0, x1), (0, x2)] S h n = mx_rt (mx_M d 157 [(0, x2), (0, x1), (0, x0)] S h n) (d + 1) 220 11 [l0, l1, l2] []) ∧
  (∀ (d : Nat) (a : Int) (l0 l1 l2 : Option mx_V) (S h : mx_H) (n : Int), mx_ex d 220 11 [l0, l1, l2] [(0, a)] S h n = mx_br (a = 0) d 220 27 14 [l0, l1, l2] [] S h n) ∧
  (∀ (d : Nat) (x : Int) (l0 l1 : Option mx_V) (S h : mx_H) (n : Int), mx_ex d 220 14 [l0, l1, some (0, x)] [] S h n = mx_ex d 220 15 [l0, l1, some (0, x)] [(0, x)] S h n) ∧
  (∀ (d : Nat) (l0 l1 l2 : Option mx_V) (v0 : mx_V) (S h : mx_H) (n : Int), mx_ex d 220 15 [l0, l1, l2] [v0] S h n = mx_ex d 220 16 [l0, l1, l2] [(0, 0), v0] S h n) ∧
  (∀ (d : Nat) (l0 l1 l2 : Option mx_V) (v0 v1 : mx_V) (S h : mx_H) (n : Int), mx_ex d 220 16 [l0, l1, l2] [v0, v1] S h n = mx_ex d 220 17 [l0, l1, l2] [(0, 2), v0, v1] S h n) ∧
  (∀ (d : Nat) (x0 x1 x2 : Int) (l0 l1 l2 : Option mx_V) (S h : mx_H) (n : Int), mx_ex (d + 1) 220 17 [l0, l1, l2] [(0, x0), (0, x1), (0, x2)] S h n = mx_rt (mx_M d 157 [(0, x2), (0, x1), (0, x0)] S h n) (d + 1) 220 20 [l0, l1, l2] []) ∧
  (∀ (d : Nat) (a : Int) (l0 l1 l2 : Option mx_V) (S h : mx_H) (n : Int), mx_ex d 220 20 [l0, l1, l2] [(0, a)] S h n = mx_br (a = 0) d 220 27 23 [l0, l1, l2] [] S h n) ∧
  (∀ (d : Nat) (l0 l1 l2 : Option mx_V) (S h : mx_H) (n : Int), mx_ex d 220 23 [l0, l1, l2] [] S h n = mx_ex d 220 24 [l0, l1, l2] [(0, 1)] S h n) ∧
  (∀ (d : Nat) (l0 l1 l2 : Option mx_V) (v0 : mx_V) (S h : mx_H) (n : Int), mx_ex d 220 24 [l0, l1, l2] [v0] S h n = mx_ex d 220 28 [l0, l1, l2] [v0] S h n) ∧
  (∀ (d : Nat) (l0 l1 l2 : Option mx_V) (S h : mx_H) (n : Int), mx_ex d 220 27 [l0, l1, l2] [] S h n = mx_ex d 220 28 [l0, l1, l2] [(0, 0)] S h n) ∧
  (∀ (d : Nat) (x : Int) (l0 l1 l2 : Option mx_V) (S h : mx_H) (n : Int), mx_ex d 220 28 [l0, l1, l2] [(0, x)] S h n = mx_re (0 ≤ x ∧ x ≤ 1) (some (0, x)) S h n) :=
  ⟨by intros; exact rfl,
   by intros; exact eq_ld rfl rfl,
   by intros; exact eq_push rfl,
   by intros; exact eq_ld rfl rfl,
   by intros; exact eq_gi rfl,
   by intros; exact eq_push rfl,
   by intros; exact eq_i2 (o := mx_sub) rfl,
   by intros; exact eq_cs rfl (Nat.le_of_ble_eq_true rfl) rfl rfl rfl (Nat.le_of_ble_eq_true rfl),
   by intros; exact eq_if0 rfl,
   by intros; exact eq_ld rfl rfl,
   by intros; exact eq_push rfl,
   by intros; exact eq_push rfl,
   by intros; exact eq_cs rfl (Nat.le_of_ble_eq_true rfl) rfl rfl rfl (Nat.le_of_ble_eq_true rfl),
   by intros; exact eq_if0 rfl,
   by intros; exact eq_push rfl,
   by intros; exact eq_go rfl,
   by intros; exact eq_push rfl,
   by intros; exact eq_rr rfl⟩
theorem rw_X12_row :
  (∀ (d : Nat) (a0 a1 a2 : Int) (S h : mx_H) (n : Int), mx_M d 221 [(2, a0), (0, a1), (0, a2)] S h n = mx_ex d 221 0 [some (2, a0), some (0, a1), some (0, a2)] [] S h n) ∧
  (∀ (d : Nat) (x : Int) (l1 l2 : Option mx_V) (S h : mx_H) (n : Int), mx_ex d 221 0 [some (2, x), l1, l2] [] S h n = mx_ex d 221 1 [some (2, x), l1, l2] [(2, x)] S h n) ∧
  (∀ (d : Nat) (x : Int) (l0 l2 : Option mx_V) (v0 : mx_V) (S h : mx_H) (n : Int), mx_ex d 221 1 [l0, some (0, x), l2] [v0] S h n = mx_ex d 221 2 [l0, some (0, x), l2] [(0, x), v0] S h n) ∧
  (∀ (d : Nat) (x : Int) (l0 l1 : Option mx_V) (v0 v1 : mx_V) (S h : mx_H) (n : Int), mx_ex d 221 2 [l0, l1, some (0, x)] [v0, v1] S h n = mx_ex d 221 3 [l0, l1, some (0, x)] [(0, x), v0, v1] S h n) ∧
  (∀ (d : Nat) (x0 x1 a : Int) (l0 l1 l2 : Option mx_V) (S h : mx_H) (n : Int), mx_ex (d + 1) 221 3 [l0, l1, l2] [(0, x0), (0, x1), (2, a)] S h n = mx_cl (S a (-2) = 13) d 220 [(2, a), (0, x1), (0, x0)] 221 6 [l0, l1, l2] [] S h n) ∧
  (∀ (d : Nat) (a : Int) (l0 l1 l2 : Option mx_V) (S h : mx_H) (n : Int), mx_ex d 221 6 [l0, l1, l2] [(0, a)] S h n = mx_br (a = 0) d 221 22 9 [l0, l1, l2] [] S h n) ∧
  (∀ (d : Nat) (x : Int) (l1 l2 : Option mx_V) (S h : mx_H) (n : Int), mx_ex d 221 9 [some (2, x), l1, l2] [] S h n = mx_ex d 221 10 [some (2, x), l1, l2] [(2, x)] S h n) ∧
  (∀ (d : Nat) (a : Int) (l0 l1 l2 : Option mx_V) (S h : mx_H) (n : Int), mx_ex d 221 10 [l0, l1, l2] [(2, a)] S h n = mx_gd (13 ≤ S a (-2) ∧ S a (-2) ≤ 13) d 221 13 [l0, l1, l2] [(2, S a 14)] S h n) ∧
  (∀ (d : Nat) (l0 l1 l2 : Option mx_V) (v0 : mx_V) (S h : mx_H) (n : Int), mx_ex d 221 13 [l0, l1, l2] [v0] S h n = mx_ex d 221 14 [l0, l1, l2] [(0, 3), v0] S h n) ∧
  (∀ (d : Nat) (x : Int) (l0 l2 : Option mx_V) (v0 v1 : mx_V) (S h : mx_H) (n : Int), mx_ex d 221 14 [l0, some (0, x), l2] [v0, v1] S h n = mx_ex d 221 15 [l0, some (0, x), l2] [(0, x), v0, v1] S h n) ∧
  (∀ (d : Nat) (b a : Int) (l0 l1 l2 : Option mx_V) (v2 : mx_V) (S h : mx_H) (n : Int), mx_ex d 221 15 [l0, l1, l2] [(0, b), (0, a), v2] S h n = mx_ex d 221 16 [l0, l1, l2] [(0, mx_w (a * b)), v2] S h n) ∧
  (∀ (d : Nat) (x : Int) (l0 l1 : Option mx_V) (v0 v1 : mx_V) (S h : mx_H) (n : Int), mx_ex d 221 16 [l0, l1, some (0, x)] [v0, v1] S h n = mx_ex d 221 17 [l0, l1, some (0, x)] [(0, x), v0, v1] S h n) ∧
  (∀ (d : Nat) (b a : Int) (l0 l1 l2 : Option mx_V) (v2 : mx_V) (S h : mx_H) (n : Int), mx_ex d 221 17 [l0, l1, l2] [(0, b), (0, a), v2] S h n = mx_ex d 221 18 [l0, l1, l2] [(0, mx_w (a + b)), v2] S h n) ∧
  (∀ (d : Nat) (i a : Int) (l0 l1 l2 : Option mx_V) (S h : mx_H) (n : Int), mx_ex d 221 18 [l0, l1, l2] [(0, i), (2, a)] S h n = mx_gd (S a (-2) = 21 ∧ 0 ≤ i ∧ i < S a (-1)) d 221 19 [l0, l1, l2] [(1, h a i)] S h n) ∧
  (∀ (d : Nat) (l0 l1 l2 : Option mx_V) (v0 : mx_V) (S h : mx_H) (n : Int), mx_ex d 221 19 [l0, l1, l2] [v0] S h n = mx_ex d 221 25 [l0, l1, l2] [v0] S h n) ∧
  (∀ (d : Nat) (l0 l1 l2 : Option mx_V) (S h : mx_H) (n : Int), mx_ex d 221 22 [l0, l1, l2] [] S h n = mx_ex d 221 25 [l0, l1, l2] [(1, (-1000000000000))] S h n) ∧
  (∀ (d : Nat) (x : Int) (l0 l1 l2 : Option mx_V) (S h : mx_H) (n : Int), mx_ex d 221 25 [l0, l1, l2] [(1, x)] S h n = some (some (1, x), S, h, n)) :=
  ⟨by intros; exact rfl,
   by intros; exact eq_ld rfl rfl,
   by intros; exact eq_ld rfl rfl,
   by intros; exact eq_ld rfl rfl,
   by intros; exact eq_cv rfl (Nat.le_of_ble_eq_true rfl) rfl rfl rfl (Nat.le_of_ble_eq_true rfl),
   by intros; exact eq_if0 rfl,
   by intros; exact eq_ld rfl rfl,
   by intros; exact eq_gr rfl,
   by intros; exact eq_push rfl,
   by intros; exact eq_ld rfl rfl,
   by intros; exact eq_i2 (o := mx_mul) rfl,
   by intros; exact eq_ld rfl rfl,
   by intros; exact eq_i2 (o := mx_add) rfl,
   by intros; exact eq_lald rfl,
   by intros; exact eq_go rfl,
   by intros; exact eq_push rfl,
   by intros; exact eq_ret rfl⟩
theorem rw_X12_alterRow :
  (∀ (d : Nat) (a0 a1 a2 a3 : Int) (S h : mx_H) (n : Int), mx_M d 222 [(2, a0), (0, a1), (0, a2), (1, a3)] S h n = mx_ex d 222 0 [some (2, a0), some (0, a1), some (0, a2), some (1, a3), none, none, none] [] S h n) ∧
  (∀ (d : Nat) (x : Int) (l1 l2 l3 l4 l5 l6 : Option mx_V) (S h : mx_H) (n : Int), mx_ex d 222 0 [some (2, x), l1, l2, l3, l4, l5, l6] [] S h n = mx_ex d 222 1 [some (2, x), l1, l2, l3, l4, l5, l6] [(2, x)] S h n) ∧
  (∀ (d : Nat) (x : Int) (l0 l2 l3 l4 l5 l6 : Option mx_V) (v0 : mx_V) (S h : mx_H) (n : Int), mx_ex d 222 1 [l0, some (0, x), l2, l3, l4, l5, l6] [v0] S h n = mx_ex d 222 2 [l0, some (0, x), l2, l3, l4, l5, l6] [(0, x), v0] S h n) ∧
  (∀ (d : Nat) (x : Int) (l0 l1 l3 l4 l5 l6 : Option mx_V) (v0 v1 : mx_V) (S h : mx_H) (n : Int), mx_ex d 222 2 [l0, l1, some (0, x), l3, l4, l5, l6] [v0, v1] S h n = mx_ex d 222 3 [l0, l1, some (0, x), l3, l4, l5, l6] [(0, x), v0, v1] S h n) ∧
  (∀ (d : Nat) (x0 x1 a : Int) (l0 l1 l2 l3 l4 l5 l6 : Option mx_V) (S h : mx_H) (n : Int), mx_ex (d + 1) 222 3 [l0, l1, l2, l3, l4, l5, l6] [(0, x0), (0, x1), (2, a)] S h n = mx_cl (S a (-2) = 13) d 220 [(2, a), (0, x1), (0, x0)] 222 6 [l0, l1, l2, l3, l4, l5, l6] [] S h n) ∧
  (∀ (d : Nat) (a : Int) (l0 l1 l2 l3 l4 l5 l6 : Option mx_V) (S h : mx_H) (n : Int), mx_ex d 222 6 [l0, l1, l2, l3, l4, l5, l6] [(0, a)] S h n = mx_br (a = 0) d 222 9 13 [l0, l1, l2, l3, l4, l5, l6] [] S h n) ∧
  (∀ (d : Nat) (l0 l1 l2 l3 l4 l5 l6 : Option mx_V) (S h : mx_H) (n : Int), mx_ex d 222 9 [l0, l1, l2, l3, l4, l5, l6] [] S h n = mx_ex d 222 12 [l0, l1, l2, l3, l4, l5, l6] [(1, (-1000000000000))] S h n) ∧
  (∀ (d : Nat) (x : Int) (l0 l1 l2 l3 l4 l5 l6 : Option mx_V) (S h : mx_H) (n : Int), mx_ex d 222 12 [l0, l1, l2, l3, l4, l5, l6] [(1, x)] S h n = some (some (1, x), S, h, n)) ∧
  (∀ (d : Nat) (x : Int) (l1 l2 l3 l4 l5 l6 : Option mx_V) (S h : mx_H) (n : Int), mx_ex d 222 13 [some (2, x), l1, l2, l3, l4, l5, l6] [] S h n = mx_ex d 222 14 [some (2, x), l1, l2, l3, l4, l5, l6] [(2, x)] S h n) ∧
  (∀ (d : Nat) (a : Int) (l0 l1 l2 l3 l4 l5 l6 : Option mx_V) (S h : mx_H) (n : Int), mx_ex d 222 14 [l0, l1, l2, l3, l4, l5, l6] [(2, a)] S h n = mx_gd (13 ≤ S a (-2) ∧ S a (-2) ≤ 13) d 222 17 [l0, l1, l2, l3, l4, l5, l6] [(2, S a 14)] S h n) ∧
  (∀ (d : Nat) (l0 l1 l2 l3 l4 l5 l6 : Option mx_V) (v0 : mx_V) (S h : mx_H) (n : Int), mx_ex d 222 17 [l0, l1, l2, l3, l4, l5, l6] [v0] S h n = mx_ex d 222 18 [l0, l1, l2, l3, l4, l5, l6] [(0, 3), v0] S h n) ∧
  (∀ (d : Nat) (x : Int) (l0 l2 l3 l4 l5 l6 : Option mx_V) (v0 v1 : mx_V) (S h : mx_H) (n : Int), mx_ex d 222 18 [l0, some (0, x), l2, l3, l4, l5, l6] [v0, v1] S h n = mx_ex d 222 19 [l0, some (0, x), l2, l3, l4, l5, l6] [(0, x), v0, v1] S h n) ∧
  (∀ (d : Nat) (b a : Int) (l0 l1 l2 l3 l4 l5 l6 : Option mx_V) (v2 : mx_V) (S h : mx_H) (n : Int), mx_ex d 222 19 [l0, l1, l2, l3, l4, l5, l6] [(0, b), (0, a), v2] S h n = mx_ex d 222 20 [l0, l1, l2, l3, l4, l5, l6] [(0, mx_w (a * b)), v2] S h n) ∧
  (∀ (d : Nat) (x : Int) (l0 l1 l3 l4 l5 l6 : Option mx_V) (v0 v1 : mx_V) (S h : mx_H) (n : Int), mx_ex d 222 20 [l0, l1, some (0, x), l3, l4, l5, l6] [v0, v1] S h n = mx_ex d 222 21 [l0, l1, some (0, x), l3, l4, l5, l6] [(0, x), v0, v1] S h n) ∧
  (∀ (d : Nat) (b a : Int) (l0 l1 l2 l3 l4 l5 l6 : Option mx_V) (v2 : mx_V) (S h : mx_H) (n : Int), mx_ex d 222 21 [l0, l1, l2, l3, l4, l5, l6] [(0, b), (0, a), v2] S h n = mx_ex d 222 22 [l0, l1, l2, l3, l4, l5, l6] [(0, mx_w (a + b)), v2] S h n) ∧
  (∀ (d : Nat) (i a : Int) (l0 l1 l2 l3 l4 l5 l6 : Option mx_V) (S h : mx_H) (n : Int), mx_ex d 222 22 [l0, l1, l2, l3, l4, l5, l6] [(0, i), (2, a)] S h n = mx_gd (S a (-2) = 21 ∧ 0 ≤ i ∧ i < S a (-1)) d 222 23 [l0, l1, l2, l3, l4, l5, l6] [(1, h a i)] S h n) ∧
  (∀ (d : Nat) (x : Int) (l0 l1 l2 l3 l4 l5 l6 : Option mx_V) (S h : mx_H) (n : Int), mx_ex d 222 23 [l0, l1, l2, l3, l4, l5, l6] [(1, x)] S h n = mx_ex d 222 25 [l0, l1, l2, l3, mx_nl l4, some (1, x), none] [] S h n) ∧
  (∀ (d : Nat) (x : Int) (l1 l2 l3 l4 l5 l6 : Option mx_V) (S h : mx_H) (n : Int), mx_ex d 222 25 [some (2, x), l1, l2, l3, l4, l5, l6] [] S h n = mx_ex d 222 26 [some (2, x), l1, l2, l3, l4, l5, l6] [(2, x)] S h n) ∧
  (∀ (d : Nat) (a : Int) (l0 l1 l2 l3 l4 l5 l6 : Option mx_V) (S h : mx_H) (n : Int), mx_ex d 222 26 [l0, l1, l2, l3, l4, l5, l6] [(2, a)] S h n = mx_gd (13 ≤ S a (-2) ∧ S a (-2) ≤ 13) d 222 29 [l0, l1, l2, l3, l4, l5, l6] [(2, S a 14)] S h n) ∧
  (∀ (d : Nat) (l0 l1 l2 l3 l4 l5 l6 : Option mx_V) (v0 : mx_V) (S h : mx_H) (n : Int), mx_ex d 222 29 [l0, l1, l2, l3, l4, l5, l6] [v0] S h n = mx_ex d 222 30 [l0, l1, l2, l3, l4, l5, l6] [(0, 3), v0] S h n) ∧
  (∀ (d : Nat) (x : Int) (l0 l2 l3 l4 l5 l6 : Option mx_V) (v0 v1 : mx_V) (S h : mx_H) (n : Int), mx_ex d 222 30 [l0, some (0, x), l2, l3, l4, l5, l6] [v0, v1] S h n = mx_ex d 222 31 [l0, some (0, x), l2, l3, l4, l5, l6] [(0, x), v0, v1] S h n) ∧
  (∀ (d : Nat) (b a : Int) (l0 l1 l2 l3 l4 l5 l6 : Option mx_V) (v2 : mx_V) (S h : mx_H) (n : Int), mx_ex d 222 31 [l0, l1, l2, l3, l4, l5, l6] [(0, b), (0, a), v2] S h n = mx_ex d 222 32 [l0, l1, l2, l3, l4, l5, l6] [(0, mx_w (a * b)), v2] S h n) ∧
  (∀ (d : Nat) (x : Int) (l0 l1 l3 l4 l5 l6 : Option mx_V) (v0 v1 : mx_V) (S h : mx_H) (n : Int), mx_ex d 222 32 [l0, l1, some (0, x), l3, l4, l5, l6] [v0, v1] S h n = mx_ex d 222 33 [l0, l1, some (0, x), l3, l4, l5, l6] [(0, x), v0, v1] S h n) ∧
  (∀ (d : Nat) (b a : Int) (l0 l1 l2 l3 l4 l5 l6 : Option mx_V) (v2 : mx_V) (S h : mx_H) (n : Int), mx_ex d 222 33 [l0, l1, l2, l3, l4, l5, l6] [(0, b), (0, a), v2] S h n = mx_ex d 222 34 [l0, l1, l2, l3, l4, l5, l6] [(0, mx_w (a + b)), v2] S h n) ∧
  (∀ (d : Nat) (x : Int) (l0 l1 l2 l4 l5 l6 : Option mx_V) (v0 v1 : mx_V) (S h : mx_H) (n : Int), mx_ex d 222 34 [l0, l1, l2, some (1, x), l4, l5, l6] [v0, v1] S h n = mx_ex d 222 35 [l0, l1, l2, some (1, x), l4, l5, l6] [(1, x), v0, v1] S h n) ∧
  (∀ (d : Nat) (v i a : Int) (l0 l1 l2 l3 l4 l5 l6 : Option mx_V) (S h : mx_H) (n : Int), mx_ex d 222 35 [l0, l1, l2, l3, l4, l5, l6] [(1, v), (0, i), (2, a)] S h n = mx_gd (S a (-2) = 21 ∧ 0 ≤ i ∧ i < S a (-1)) d 222 36 [l0, l1, l2, l3, l4, l5, l6] [] S (mx_u h a i v) n) ∧
  (∀ (d : Nat) (x : Int) (l0 l1 l2 l3 l4 l6 : Option mx_V) (S h : mx_H) (n : Int), mx_ex d 222 36 [l0, l1, l2, l3, l4, some (1, x), l6] [] S h n = mx_ex d 222 38 [l0, l1, l2, l3, l4, some (1, x), l6] [(1, x)] S h n) ∧
  (∀ (d : Nat) (x : Int) (l0 l1 l2 l3 l4 l5 l6 : Option mx_V) (S h : mx_H) (n : Int), mx_ex d 222 38 [l0, l1, l2, l3, l4, l5, l6] [(1, x)] S h n = some (some (1, x), S, h, n)) :=
  ⟨by intros; exact rfl,
   by intros; exact eq_ld rfl rfl,
   by intros; exact eq_ld rfl rfl,
   by intros; exact eq_ld rfl rfl,
   by intros; exact eq_cv rfl (Nat.le_of_ble_eq_true rfl) rfl rfl rfl (Nat.le_of_ble_eq_true rfl),
   by intros; exact eq_if1 rfl,
   by intros; exact eq_push rfl,
   by intros; exact eq_ret rfl,
   by intros; exact eq_ld rfl rfl,
   by intros; exact eq_gr rfl,
   by intros; exact eq_push rfl,
   by intros; exact eq_ld rfl rfl,
   by intros; exact eq_i2 (o := mx_mul) rfl,
   by intros; exact eq_ld rfl rfl,
   by intros; exact eq_i2 (o := mx_add) rfl,
   by intros; exact eq_lald rfl,
   by intros; exact eq_st2 rfl (Nat.le_of_ble_eq_true rfl) rfl,
   by intros; exact eq_ld rfl rfl,
   by intros; exact eq_gr rfl,
   by intros; exact eq_push rfl,
   by intros; exact eq_ld rfl rfl,
   by intros; exact eq_i2 (o := mx_mul) rfl,
   by intros; exact eq_ld rfl rfl,
   by intros; exact eq_i2 (o := mx_add) rfl,
   by intros; exact eq_ld rfl rfl,
   by intros; exact eq_last rfl,
   by intros; exact eq_ld rfl rfl,
   by intros; exact eq_ret rfl⟩
theorem rw_X12_isRight :
  (∀ (d : Nat) (a0 a1 : Int) (S h : mx_H) (n : Int), mx_M d 223 [(2, a0), (0, a1)] S h n = mx_ex d 223 0 [some (2, a0), some (0, a1), none, none, none] [] S h n) ∧
  (∀ (d : Nat) (x : Int) (l1 l2 l3 l4 : Option mx_V) (S h : mx_H) (n : Int), mx_ex d 223 0 [some (2, x), l1, l2, l3, l4] [] S h n = mx_ex d 223 1 [some (2, x), l1, l2, l3, l4] [(2, x)] S h n) ∧
  (∀ (d : Nat) (x : Int) (l0 l2 l3 l4 : Option mx_V) (v0 : mx_V) (S h : mx_H) (n : Int), mx_ex d 223 1 [l0, some (0, x), l2, l3, l4] [v0] S h n = mx_ex d 223 2 [l0, some (0, x), l2, l3, l4] [(0, x), v0] S h n) ∧
  (∀ (d : Nat) (x0 a : Int) (l0 l1 l2 l3 l4 : Option mx_V) (S h : mx_H) (n : Int), mx_ex (d + 1) 223 2 [l0, l1, l2, l3, l4] [(0, x0), (2, a)] S h n = mx_cl (S a (-2) = 13) d 158 [(2, a), (0, x0)] 223 5 [l0, l1, l2, l3, l4] [] S h n) ∧
  (∀ (d : Nat) (a : Int) (l0 l1 l2 l3 l4 : Option mx_V) (S h : mx_H) (n : Int), mx_ex d 223 5 [l0, l1, l2, l3, l4] [(0, a)] S h n = mx_br (a = 0) d 223 56 8 [l0, l1, l2, l3, l4] [] S h n) ∧
  (∀ (d : Nat) (x : Int) (l1 l2 l3 l4 : Option mx_V) (S h : mx_H) (n : Int), mx_ex d 223 8 [some (2, x), l1, l2, l3, l4] [] S h n = mx_ex d 223 9 [some (2, x), l1, l2, l3, l4] [(2, x)] S h n) ∧
  (∀ (d : Nat) (a : Int) (l0 l1 l2 l3 l4 : Option mx_V) (S h : mx_H) (n : Int), mx_ex d 223 9 [l0, l1, l2, l3, l4] [(2, a)] S h n = mx_gd (13 ≤ S a (-2) ∧ S a (-2) ≤ 13) d 223 12 [l0, l1, l2, l3, l4] [(2, S a 14)] S h n) ∧
  (∀ (d : Nat) (l0 l1 l2 l3 l4 : Option mx_V) (v0 : mx_V) (S h : mx_H) (n : Int), mx_ex d 223 12 [l0, l1, l2, l3, l4] [v0] S h n = mx_ex d 223 13 [l0, l1, l2, l3, l4] [(0, 3), v0] S h n) ∧
  (∀ (d : Nat) (x : Int) (l0 l2 l3 l4 : Option mx_V) (v0 v1 : mx_V) (S h : mx_H) (n : Int), mx_ex d 223 13 [l0, some (0, x), l2, l3, l4] [v0, v1] S h n = mx_ex d 223 14 [l0, some (0, x), l2, l3, l4] [(0, x), v0, v1] S h n) ∧
  (∀ (d : Nat) (b a : Int) (l0 l1 l2 l3 l4 : Option mx_V) (v2 : mx_V) (S h : mx_H) (n : Int), mx_ex d 223 14 [l0, l1, l2, l3, l4] [(0, b), (0, a), v2] S h n = mx_ex d 223 15 [l0, l1, l2, l3, l4] [(0, mx_w (a * b)), v2] S h n) ∧
  (∀ (d : Nat) (i a : Int) (l0 l1 l2 l3 l4 : Option mx_V) (S h : mx_H) (n : Int), mx_ex d 223 15 [l0, l1, l2, l3, l4] [(0, i), (2, a)] S h n = mx_gd (S a (-2) = 21 ∧ 0 ≤ i ∧ i < S a (-1)) d 223 16 [l0, l1, l2, l3, l4] [(1, h a i)] S h n) ∧
  (∀ (d : Nat) (x : Int) (l0 l2 l3 l4 : Option mx_V) (v0 : mx_V) (S h : mx_H) (n : Int), mx_ex d 223 16 [l0, some (0, x), l2, l3, l4] [v0] S h n = mx_ex d 223 17 [l0, some (0, x), l2, l3, l4] [(0, x), v0] S h n) ∧
  (∀ (d : Nat) (a : Int) (l0 l1 l2 l3 l4 : Option mx_V) (v1 : mx_V) (S h : mx_H) (n : Int), mx_ex d 223 17 [l0, l1, l2, l3, l4] [(0, a), v1] S h n = mx_ex d 223 18 [l0, l1, l2, l3, l4] [(1, a), v1] S h n) ∧
  (∀ (d : Nat) (b a : Int) (l0 l1 l2 l3 l4 : Option mx_V) (S h : mx_H) (n : Int), mx_ex d 223 18 [l0, l1, l2, l3, l4] [(1, b), (1, a)] S h n = mx_ex d 223 19 [l0, l1, l2, l3, l4] [(0, mx_cmp a b)] S h n) ∧
  (∀ (d : Nat) (a : Int) (l0 l1 l2 l3 l4 : Option mx_V) (S h : mx_H) (n : Int), mx_ex d 223 19 [l0, l1, l2, l3, l4] [(0, a)] S h n = mx_br (a = 0) d 223 22 56 [l0, l1, l2, l3, l4] [] S h n) ∧
  (∀ (d : Nat) (x : Int) (l1 l2 l3 l4 : Option mx_V) (S h : mx_H) (n : Int), mx_ex d 223 22 [some (2, x), l1, l2, l3, l4] [] S h n = mx_ex d 223 23 [some (2, x), l1, l2, l3, l4] [(2, x)] S h n) ∧
  (∀ (d : Nat) (a : Int) (l0 l1 l2 l3 l4 : Option mx_V) (S h : mx_H) (n : Int), mx_ex d 223 23 [l0, l1, l2, l3, l4] [(2, a)] S h n = mx_gd (13 ≤ S a (-2) ∧ S a (-2) ≤ 13) d 223 26 [l0, l1, l2, l3, l4] [(2, S a 14)] S h n) ∧
  (∀ (d : Nat) (l0 l1 l2 l3 l4 : Option mx_V) (v0 : mx_V) (S h : mx_H) (n : Int), mx_ex d 223 26 [l0, l1, l2, l3, l4] [v0] S h n = mx_ex d 223 27 [l0, l1, l2, l3, l4] [(0, 3), v0] S h n) ∧
  (∀ (d : Nat) (x : Int) (l0 l2 l3 l4 : Option mx_V) (v0 v1 : mx_V) (S h : mx_H) (n : Int), mx_ex d 223 27 [l0, some (0, x), l2, l3, l4] [v0, v1] S h n = mx_ex d 223 28 [l0, some (0, x), l2, l3, l4] [(0, x), v0, v1] S h n) ∧
  (∀ (d : Nat) (b a : Int) (l0 l1 l2 l3 l4 : Option mx_V) (v2 : mx_V) (S h : mx_H) (n : Int), mx_ex d 223 28 [l0, l1, l2, l3, l4] [(0, b), (0, a), v2] S h n = mx_ex d 223 29 [l0, l1, l2, l3, l4] [(0, mx_w (a * b)), v2] S h n) ∧
  (∀ (d : Nat) (l0 l1 l2 l3 l4 : Option mx_V) (v0 v1 : mx_V) (S h : mx_H) (n : Int), mx_ex d 223 29 [l0, l1, l2, l3, l4] [v0, v1] S h n = mx_ex d 223 30 [l0, l1, l2, l3, l4] [(0, 1), v0, v1] S h n) ∧
  (∀ (d : Nat) (b a : Int) (l0 l1 l2 l3 l4 : Option mx_V) (v2 : mx_V) (S h : mx_H) (n : Int), mx_ex d 223 30 [l0, l1, l2, l3, l4] [(0, b), (0, a), v2] S h n = mx_ex d 223 31 [l0, l1, l2, l3, l4] [(0, mx_w (a + b)), v2] S h n) ∧
  (∀ (d : Nat) (i a : Int) (l0 l1 l2 l3 l4 : Option mx_V) (S h : mx_H) (n : Int), mx_ex d 223 31 [l0, l1, l2, l3, l4] [(0, i), (2, a)] S h n = mx_gd (S a (-2) = 21 ∧ 0 ≤ i ∧ i < S a (-1)) d 223 32 [l0, l1, l2, l3, l4] [(1, h a i)] S h n) ∧
  (∀ (d : Nat) (l0 l1 l2 l3 l4 : Option mx_V) (v0 : mx_V) (S h : mx_H) (n : Int), mx_ex d 223 32 [l0, l1, l2, l3, l4] [v0] S h n = mx_ex d 223 35 [l0, l1, l2, l3, l4] [(1, 2), v0] S h n) ∧
  (∀ (d : Nat) (b a : Int) (l0 l1 l2 l3 l4 : Option mx_V) (S h : mx_H) (n : Int), mx_ex d 223 35 [l0, l1, l2, l3, l4] [(1, b), (1, a)] S h n = mx_ex d 223 36 [l0, l1, l2, l3, l4] [(0, mx_cmp a b)] S h n) ∧
  (∀ (d : Nat) (a : Int) (l0 l1 l2 l3 l4 : Option mx_V) (S h : mx_H) (n : Int), mx_ex d 223 36 [l0, l1, l2, l3, l4] [(0, a)] S h n = mx_br (a < 0) d 223 56 39 [l0, l1, l2, l3, l4] [] S h n) ∧
  (∀ (d : Nat) (x : Int) (l1 l2 l3 l4 : Option mx_V) (S h : mx_H) (n : Int), mx_ex d 223 39 [some (2, x), l1, l2, l3, l4] [] S h n = mx_ex d 223 40 [some (2, x), l1, l2, l3, l4] [(2, x)] S h n) ∧
  (∀ (d : Nat) (a : Int) (l0 l1 l2 l3 l4 : Option mx_V) (S h : mx_H) (n : Int), mx_ex d 223 40 [l0, l1, l2, l3, l4] [(2, a)] S h n = mx_gd (13 ≤ S a (-2) ∧ S a (-2) ≤ 13) d 223 43 [l0, l1, l2, l3, l4] [(2, S a 14)] S h n) ∧
  (∀ (d : Nat) (l0 l1 l2 l3 l4 : Option mx_V) (v0 : mx_V) (S h : mx_H) (n : Int), mx_ex d 223 43 [l0, l1, l2, l3, l4] [v0] S h n = mx_ex d 223 44 [l0, l1, l2, l3, l4] [(0, 3), v0] S h n) ∧
  (∀ (d : Nat) (x : Int) (l0 l2 l3 l4 : Option mx_V) (v0 v1 : mx_V) (S h : mx_H) (n : Int), mx_ex d 223 44 [l0, some (0, x), l2, l3, l4] [v0, v1] S h n = mx_ex d 223 45 [l0, some (0, x), l2, l3, l4] [(0, x), v0, v1] S h n) ∧
  (∀ (d : Nat) (b a : Int) (l0 l1 l2 l3 l4 : Option mx_V) (v2 : mx_V) (S h : mx_H) (n : Int), mx_ex d 223 45 [l0, l1, l2, l3, l4] [(0, b), (0, a), v2] S h n = mx_ex d 223 46 [l0, l1, l2, l3, l4] [(0, mx_w (a * b)), v2] S h n) ∧
  (∀ (d : Nat) (l0 l1 l2 l3 l4 : Option mx_V) (v0 v1 : mx_V) (S h : mx_H) (n : Int), mx_ex d 223 46 [l0, l1, l2, l3, l4] [v0, v1] S h n = mx_ex d 223 47 [l0, l1, l2, l3, l4] [(0, 1), v0, v1] S h n) ∧
  (∀ (d : Nat) (b a : Int) (l0 l1 l2 l3 l4 : Option mx_V) (v2 : mx_V) (S h : mx_H) (n : Int), mx_ex d 223 47 [l0, l1, l2, l3, l4] [(0, b), (0, a), v2] S h n = mx_ex d 223 48 [l0, l1, l2, l3, l4] [(0, mx_w (a + b)), v2] S h n) ∧
  (∀ (d : Nat) (i a : Int) (l0 l1 l2 l3 l4 : Option mx_V) (S h : mx_H) (n : Int), mx_ex d 223 48 [l0, l1, l2, l3, l4] [(0, i), (2, a)] S h n = mx_gd (S a (-2) = 21 ∧ 0 ≤ i ∧ i < S a (-1)) d 223 49 [l0, l1, l2, l3, l4] [(1, h a i)] S h n) ∧
  (∀ (d : Nat) (l0 l1 l2 l3 l4 : Option mx_V) (v0 : mx_V) (S h : mx_H) (n : Int), mx_ex d 223 49 [l0, l1, l2, l3, l4] [v0] S h n = mx_ex d 223 52 [l0, l1, l2, l3, l4] [(1, 16), v0] S h n) ∧
  (∀ (d : Nat) (b a : Int) (l0 l1 l2 l3 l4 : Option mx_V) (S h : mx_H) (n : Int), mx_ex d 223 52 [l0, l1, l2, l3, l4] [(1, b), (1, a)] S h n = mx_ex d 223 53 [l0, l1, l2, l3, l4] [(0, mx_cmp a b)] S h n) ∧
  (∀ (d : Nat) (a : Int) (l0 l1 l2 l3 l4 : Option mx_V) (S h : mx_H) (n : Int), mx_ex d 223 53 [l0, l1, l2, l3, l4] [(0, a)] S h n = mx_br (0 < a) d 223 56 58 [l0, l1, l2, l3, l4] [] S h n) ∧
  (∀ (d : Nat) (l0 l1 l2 l3 l4 : Option mx_V) (S h : mx_H) (n : Int), mx_ex d 223 56 [l0, l1, l2, l3, l4] [] S h n = mx_ex d 223 57 [l0, l1, l2, l3, l4] [(0, 0)] S h n) ∧
  (∀ (d : Nat) (x : Int) (l0 l1 l2 l3 l4 : Option mx_V) (S h : mx_H) (n : Int), mx_ex d 223 57 [l0, l1, l2, l3, l4] [(0, x)] S h n = mx_re (0 ≤ x ∧ x ≤ 1) (some (0, x)) S h n) ∧
  (∀ (d : Nat) (x : Int) (l1 l2 l3 l4 : Option mx_V) (S h : mx_H) (n : Int), mx_ex d 223 58 [some (2, x), l1, l2, l3, l4] [] S h n = mx_ex d 223 59 [some (2, x), l1, l2, l3, l4] [(2, x)] S h n) ∧
  (∀ (d : Nat) (x : Int) (l0 l2 l3 l4 : Option mx_V) (v0 : mx_V) (S h : mx_H) (n : Int), mx_ex d 223 59 [l0, some (0, x), l2, l3, l4] [v0] S h n = mx_ex d 223 60 [l0, some (0, x), l2, l3, l4] [(0, x), v0] S h n) ∧
  (∀ (d : Nat) (l0 l1 l2 l3 l4 : Option mx_V) (v0 v1 : mx_V) (S h : mx_H) (n : Int), mx_ex d 223 60 [l0, l1, l2, l3, l4] [v0, v1] S h n = mx_ex d 223 61 [l0, l1, l2, l3, l4] [(0, 1), v0, v1] S h n) ∧
  (∀ (d : Nat) (x0 x1 a : Int) (l0 l1 l2 l3 l4 : Option mx_V) (S h : mx_H) (n : Int), mx_ex (d + 1) 223 61 [l0, l1, l2, l3, l4] [(0, x0), (0, x1), (2, a)] S h n = mx_cl (S a (-2) = 13) d 161 [(2, a), (0, x1), (0, x0)] 223 64 [l0, l1, l2, l3, l4] [] S h n) ∧
  (∀ (d : Nat) (x : Int) (l0 l1 l2 l3 l4 : Option mx_V) (S h : mx_H) (n : Int), mx_ex d 223 64 [l0, l1, l2, l3, l4] [(0, x)] S h n = mx_ex d 223 65 [l0, mx_nl l1, some (0, x), l3, l4] [] S h n) ∧
  (∀ (d : Nat) (x : Int) (l1 l2 l3 l4 : Option mx_V) (S h : mx_H) (n : Int), mx_ex d 223 65 [some (2, x), l1, l2, l3, l4] [] S h n = mx_ex d 223 66 [some (2, x), l1, l2, l3, l4] [(2, x)] S h n) ∧
  (∀ (d : Nat) (a : Int) (l0 l1 l2 l3 l4 : Option mx_V) (S h : mx_H) (n : Int), mx_ex d 223 66 [l0, l1, l2, l3, l4] [(2, a)] S h n = mx_gd (13 ≤ S a (-2) ∧ S a (-2) ≤ 13) d 223 69 [l0, l1, l2, l3, l4] [(2, S a 14)] S h n) ∧
  (∀ (d : Nat) (l0 l1 l2 l3 l4 : Option mx_V) (v0 : mx_V) (S h : mx_H) (n : Int), mx_ex d 223 69 [l0, l1, l2, l3, l4] [v0] S h n = mx_ex d 223 70 [l0, l1, l2, l3, l4] [(0, 3), v0] S h n) ∧
  (∀ (d : Nat) (x : Int) (l0 l2 l3 l4 : Option mx_V) (v0 v1 : mx_V) (S h : mx_H) (n : Int), mx_ex d 223 70 [l0, some (0, x), l2, l3, l4] [v0, v1] S h n = mx_ex d 223 71 [l0, some (0, x), l2, l3, l4] [(0, x), v0, v1] S h n) ∧
  (∀ (d : Nat) (b a : Int) (l0 l1 l2 l3 l4 : Option mx_V) (v2 : mx_V) (S h : mx_H) (n : Int), mx_ex d 223 71 [l0, l1, l2, l3, l4] [(0, b), (0, a), v2] S h n = mx_ex d 223 72 [l0, l1, l2, l3, l4] [(0, mx_w (a * b)), v2] S h n) ∧
  (∀ (d : Nat) (l0 l1 l2 l3 l4 : Option mx_V) (v0 v1 : mx_V) (S h : mx_H) (n : Int), mx_ex d 223 72 [l0, l1, l2, l3, l4] [v0, v1] S h n = mx_ex d 223 73 [l0, l1, l2, l3, l4] [(0, 1), v0, v1] S h n) ∧
  (∀ (d : Nat) (b a : Int) (l0 l1 l2 l3 l4 : Option mx_V) (v2 : mx_V) (S h : mx_H) (n : Int), mx_ex d 223 73 [l0, l1, l2, l3, l4] [(0, b), (0, a), v2] S h n = mx_ex d 223 74 [l0, l1, l2, l3, l4] [(0, mx_w (a + b)), v2] S h n) ∧
  (∀ (d : Nat) (i a : Int) (l0 l1 l2 l3 l4 : Option mx_V) (S h : mx_H) (n : Int), mx_ex d 223 74 [l0, l1, l2, l3, l4] [(0, i), (2, a)] S h n = mx_gd (S a (-2) = 21 ∧ 0 ≤ i ∧ i < S a (-1)) d 223 75 [l0, l1, l2, l3, l4] [(1, h a i)] S h n) ∧
  (∀ (d : Nat) (a : Int) (l0 l1 l2 l3 l4 : Option mx_V) (S h : mx_H) (n : Int), mx_ex d 223 75 [l0, l1, l2, l3, l4] [(1, a)] S h n = mx_ex d 223 76 [l0, l1, l2, l3, l4] [(0, mx_w a)] S h n) ∧
  (∀ (d : Nat) (x : Int) (l0 l1 l2 l3 l4 : Option mx_V) (S h : mx_H) (n : Int), mx_ex d 223 76 [l0, l1, l2, l3, l4] [(0, x)] S h n = mx_ex d 223 77 [l0, l1, mx_nl l2, some (0, x), l4] [] S h n) ∧
  (∀ (d : Nat) (x : Int) (l0 l1 l2 l4 : Option mx_V) (S h : mx_H) (n : Int), mx_ex d 223 77 [l0, l1, l2, some (0, x), l4] [] S h n = mx_ex d 223 78 [l0, l1, l2, some (0, x), l4] [(0, x)] S h n) ∧
  (∀ (d : Nat) (x : Int) (l1 l2 l3 l4 : Option mx_V) (v0 : mx_V) (S h : mx_H) (n : Int), mx_ex d 223 78 [some (2, x), l1, l2, l3, l4] [v0] S h n = mx_ex d 223 79 [some (2, x), l1, l2, l3, l4] [(2, x), v0] S h n) ∧
  (∀ (d : Nat) (a : Int) (l0 l1 l2 l3 l4 : Option mx_V) (v1 : mx_V) (S h : mx_H) (n : Int), mx_ex d 223 79 [l0, l1, l2, l3, l4] [(2, a), v1] S h n = mx_gd (13 ≤ S a (-2) ∧ S a (-2) ≤ 13) d 223 82 [l0, l1, l2, l3, l4] [(2, S a 0), v1] S h n) ∧
  (∀ (d : Nat) (l0 l1 l2 l3 l4 : Option mx_V) (v0 v1 : mx_V) (S h : mx_H) (n : Int), mx_ex d 223 82 [l0, l1, l2, l3, l4] [v0, v1] S h n = mx_ex d 223 83 [l0, l1, l2, l3, l4] [(0, 3), v0, v1] S h n) ∧
  (∀ (d : Nat) (l0 l1 l2 l3 l4 : Option mx_V) (v0 v1 v2 : mx_V) (S h : mx_H) (n : Int), mx_ex d 223 83 [l0, l1, l2, l3, l4] [v0, v1, v2] S h n = mx_ex d 223 84 [l0, l1, l2, l3, l4] [(0, 2), v0, v1, v2] S h n) ∧
  (∀ (d : Nat) (x : Int) (l0 l1 l3 l4 : Option mx_V) (v0 v1 v2 v3 : mx_V) (S h : mx_H) (n : Int), mx_ex d 223 84 [l0, l1, some (0, x), l3, l4] [v0, v1, v2, v3] S h n = mx_ex d 223 85 [l0, l1, some (0, x), l3, l4] [(0, x), v0, v1, v2, v3] S h n) ∧
  (∀ (d : Nat) (b a : Int) (l0 l1 l2 l3 l4 : Option mx_V) (v2 v3 v4 : mx_V) (S h : mx_H) (n : Int), mx_ex d 223 85 [l0, l1, l2, l3, l4] [(0, b), (0, a), v2, v3, v4] S h n = mx_ex d 223 86 [l0, l1, l2, l3, l4] [(0, mx_w (a * b)), v2, v3, v4] S h n) ∧
  (∀ (d : Nat) (b a : Int) (l0 l1 l2 l3 l4 : Option mx_V) (v2 v3 : mx_V) (S h : mx_H) (n : Int), mx_ex d 223 86 [l0, l1, l2, l3, l4] [(0, b), (0, a), v2, v3] S h n = mx_ex d 223 87 [l0, l1, l2, l3, l4] [(0, mx_w (a + b)), v2, v3] S h n) ∧
  (∀ (d : Nat) (i a : Int) (l0 l1 l2 l3 l4 : Option mx_V) (v2 : mx_V) (S h : mx_H) (n : Int), mx_ex d 223 87 [l0, l1, l2, l3, l4] [(0, i), (2, a), v2] S h n = mx_gd ((S a (-2) = 20 ∨ S a (-2) = 24) ∧ 0 ≤ i ∧ i < S a (-1)) d 223 88 [l0, l1, l2, l3, l4] [(0, h a i), v2] S h n) ∧
  (∀ (d : Nat) (x : Int) (l1 l2 l3 l4 : Option mx_V) (v0 v1 : mx_V) (S h : mx_H) (n : Int), mx_ex d 223 88 [some (2, x), l1, l2, l3, l4] [v0, v1] S h n = mx_ex d 223 89 [some (2, x), l1, l2, l3, l4] [(2, x), v0, v1] S h n) ∧
  (∀ (d : Nat) (a : Int) (l0 l1 l2 l3 l4 : Option mx_V) (v1 v2 : mx_V) (S h : mx_H) (n : Int), mx_ex d 223 89 [l0, l1, l2, l3, l4] [(2, a), v1, v2] S h n = mx_gd (13 ≤ S a (-2) ∧ S a (-2) ≤ 13) d 223 92 [l0, l1, l2, l3, l4] [(2, S a 0), v1, v2] S h n) ∧
  (∀ (d : Nat) (l0 l1 l2 l3 l4 : Option mx_V) (v0 v1 v2 : mx_V) (S h : mx_H) (n : Int), mx_ex d 223 92 [l0, l1, l2, l3, l4] [v0, v1, v2] S h n = mx_ex d 223 93 [l0, l1, l2, l3, l4] [(0, 3), v0, v1, v2] S h n) ∧
  (∀ (d : Nat) (l0 l1 l2 l3 l4 : Option mx_V) (v0 v1 v2 v3 : mx_V) (S h : mx_H) (n : Int), mx_ex d 223 93 [l0, l1, l2, l3, l4] [v0, v1, v2, v3] S h n = mx_ex d 223 94 [l0, l1, l2, l3, l4] [(0, 2), v0, v1, v2, v3] S h n) ∧
  (∀ (d : Nat) (x : Int) (l0 l1 l3 l4 : Option mx_V) (v0 v1 v2 v3 v4 : mx_V) (S h : mx_H) (n : Int), mx_ex d 223 94 [l0, l1, some (0, x), l3, l4] [v0, v1, v2, v3, v4] S h n = mx_ex d 223 95 [l0, l1, some (0, x), l3, l4] [(0, x), v0, v1, v2, v3, v4] S h n) ∧
  (∀ (d : Nat) (b a : Int) (l0 l1 l2 l3 l4 : Option mx_V) (v2 v3 v4 v5 : mx_V) (S h : mx_H) (n : Int), mx_ex d 223 95 [l0, l1, l2, l3, l4] [(0, b), (0, a), v2, v3, v4, v5] S h n = mx_ex d 223 96 [l0, l1, l2, l3, l4] [(0, mx_w (a * b)), v2, v3, v4, v5] S h n) ∧
  (∀ (d : Nat) (b a : Int) (l0 l1 l2 l3 l4 : Option mx_V) (v2 v3 v4 : mx_V) (S h : mx_H) (n : Int), mx_ex d 223 96 [l0, l1, l2, l3, l4] [(0, b), (0, a), v2, v3, v4] S h n = mx_ex d 223 97 [l0, l1, l2, l3, l4] [(0, mx_w (a + b)), v2, v3, v4] S h n) :=
  ⟨by intros; exact rfl,
   by intros; exact eq_ld rfl rfl,
   by intros; exact eq_ld rfl rfl,
   by intros; exact eq_cv rfl (Nat.le_of_ble_eq_true rfl) rfl rfl rfl (Nat.le_of_ble_eq_true rfl),
   by intros; exact eq_if0 rfl,
   by intros; exact eq_ld rfl rfl,
   by intros; exact eq_gr rfl,
   by intros; exact eq_push rfl,
   by intros; exact eq_ld rfl rfl,
   by intros; exact eq_i2 (o := mx_mul) rfl,
   by intros; exact eq_lald rfl,
   by intros; exact eq_ld rfl rfl,
   by intros; exact eq_i2l rfl,
   by intros; exact eq_lcmp rfl,
   by intros; exact eq_if1 rfl,
   by intros; exact eq_ld rfl rfl,
   by intros; exact eq_gr rfl,
   by intros; exact eq_push rfl,
   by intros; exact eq_ld rfl rfl,
   by intros; exact eq_i2 (o := mx_mul) rfl,
   by intros; exact eq_push rfl,
   by intros; exact eq_i2 (o := mx_add) rfl,
   by intros; exact eq_lald rfl,
   by intros; exact eq_push rfl,
   by intros; exact eq_lcmp rfl,
   by intros; exact eq_if2 rfl,
   by intros; exact eq_ld rfl rfl,
   by intros; exact eq_gr rfl,
   by intros; exact eq_push rfl,
   by intros; exact eq_ld rfl rfl,
   by intros; exact eq_i2 (o := mx_mul) rfl,
   by intros; exact eq_push rfl,
   by intros; exact eq_i2 (o := mx_add) rfl,
   by intros; exact eq_lald rfl,
   by intros; exact eq_push rfl,
   by intros; exact eq_lcmp rfl,
   by intros; exact eq_if5 rfl,
   by intros; exact eq_push rfl,
   by intros; exact eq_rr rfl,
   by intros; exact eq_ld rfl rfl,
   by intros; exact eq_ld rfl rfl,
   by intros; exact eq_push rfl,
   by intros; exact eq_cv rfl (Nat.le_of_ble_eq_true rfl) rfl rfl rfl (Nat.le_of_ble_eq_true rfl),
   by intros; exact eq_st rfl (by decide) (Nat.le_of_ble_eq_true rfl) rfl,
   by intros; exact eq_ld rfl rfl,
   by intros; exact eq_gr rfl,
   by intros; exact eq_push rfl,
   by intros; exact eq_ld rfl rfl,
   by intros; exact eq_i2 (o := mx_mul) rfl,
   by intros; exact eq_push rfl,
   by intros; exact eq_i2 (o := mx_add) rfl,
   by intros; exact eq_lald rfl,
   by intros; exact eq_l2i rfl,
   by intros; exact eq_st rfl (by decide) (Nat.le_of_ble_eq_true rfl) rfl,
   by intros; exact eq_ld rfl rfl,
   by intros; exact eq_ld rfl rfl,
   by intros; exact eq_gr rfl,
   by intros; exact eq_push rfl,
   by intros; exact eq_push rfl,
   by intros; exact eq_ld rfl rfl,
   by intros; exact eq_i2 (o := mx_mul) rfl,
   by intros; exact eq_i2 (o := mx_add) rfl,
   by intros; exact eq_iald rfl,
   by intros; exact eq_ld rfl rfl,
   by intros; exact eq_gr rfl,
   by intros; exact eq_push rfl,
   by intros; exact eq_push rfl,
   by intros; exact eq_ld rfl rfl,
   by intros; exact eq_i2 (o := mx_mul) rfl,
   by intros; exact eq_i2 (o := mx_add) rfl⟩
theorem rw_X12_isRight_1 :
  (∀ (d : Nat) (l0 l1 l2 l3 l4 : Option mx_V) (v0 v1 v2 v3 : mx_V) (S h : mx_H) (n : Int), mx_ex d 223 97 [l0, l1, l2, l3, l4] [v0, v1, v2, v3] S h n = mx_ex d 223 98 [l0, l1, l2, l3, l4] [(0, 1), v0, v1, v2, v3] S h n) ∧
  (∀ (d : Nat) (b a : Int) (l0 l1 l2 l3 l4 : Option mx_V) (v2 v3 v4 : mx_V) (S h : mx_H) (n : Int), mx_ex d 223 98 [l0, l1, l2, l3, l4] [(0, b), (0, a), v2, v3, v4] S h n = mx_ex d 223 99 [l0, l1, l2, l3, l4] [(0, mx_w (a + b)), v2, v3, v4] S h n) ∧
  (∀ (d : Nat) (i a : Int) (l0 l1 l2 l3 l4 : Option mx_V) (v2 v3 : mx_V) (S h : mx_H) (n : Int), mx_ex d 223 99 [l0, l1, l2, l3, l4] [(0, i), (2, a), v2, v3] S h n = mx_gd ((S a (-2) = 20 ∨ S a (-2) = 24) ∧ 0 ≤ i ∧ i < S a (-1)) d 223 100 [l0, l1, l2, l3, l4] [(0, h a i), v2, v3] S h n) ∧
  (∀ (d : Nat) (x0 x1 x2 : Int) (l0 l1 l2 l3 l4 : Option mx_V) (S h : mx_H) (n : Int), mx_ex (d + 1) 223 100 [l0, l1, l2, l3, l4] [(0, x0), (0, x1), (0, x2)] S h n = mx_rt (mx_M d 157 [(0, x2), (0, x1), (0, x0)] S h n) (d + 1) 223 103 [l0, l1, l2, l3, l4] []) ∧
  (∀ (d : Nat) (a : Int) (l0 l1 l2 l3 l4 : Option mx_V) (S h : mx_H) (n : Int), mx_ex d 223 103 [l0, l1, l2, l3, l4] [(0, a)] S h n = mx_br (a = 0) d 223 138 106 [l0, l1, l2, l3, l4] [] S h n) ∧
  (∀ (d : Nat) (x : Int) (l1 l2 l3 l4 : Option mx_V) (S h : mx_H) (n : Int), mx_ex d 223 106 [some (2, x), l1, l2, l3, l4] [] S h n = mx_ex d 223 107 [some (2, x), l1, l2, l3, l4] [(2, x)] S h n) ∧
  (∀ (d : Nat) (a : Int) (l0 l1 l2 l3 l4 : Option mx_V) (S h : mx_H) (n : Int), mx_ex d 223 107 [l0, l1, l2, l3, l4] [(2, a)] S h n = mx_gd (13 ≤ S a (-2) ∧ S a (-2) ≤ 13) d 223 110 [l0, l1, l2, l3, l4] [(2, S a 11)] S h n) ∧
  (∀ (d : Nat) (x : Int) (l0 l1 l3 l4 : Option mx_V) (v0 : mx_V) (S h : mx_H) (n : Int), mx_ex d 223 110 [l0, l1, some (0, x), l3, l4] [v0] S h n = mx_ex d 223 111 [l0, l1, some (0, x), l3, l4] [(0, x), v0] S h n) ∧
  (∀ (d : Nat) (i a : Int) (l0 l1 l2 l3 l4 : Option mx_V) (S h : mx_H) (n : Int), mx_ex d 223 111 [l0, l1, l2, l3, l4] [(0, i), (2, a)] S h n = mx_gd ((S a (-2) = 20 ∨ S a (-2) = 24) ∧ 0 ≤ i ∧ i < S a (-1)) d 223 112 [l0, l1, l2, l3, l4] [(0, h a i)] S h n) ∧
  (∀ (d : Nat) (a : Int) (l0 l1 l2 l3 l4 : Option mx_V) (S h : mx_H) (n : Int), mx_ex d 223 112 [l0, l1, l2, l3, l4] [(0, a)] S h n = mx_br (a = 0) d 223 125 115 [l0, l1, l2, l3, l4] [] S h n) ∧
  (∀ (d : Nat) (x : Int) (l1 l2 l3 l4 : Option mx_V) (S h : mx_H) (n : Int), mx_ex d 223 115 [some (2, x), l1, l2, l3, l4] [] S h n = mx_ex d 223 116 [some (2, x), l1, l2, l3, l4] [(2, x)] S h n) ∧
  (∀ (d : Nat) (a : Int) (l0 l1 l2 l3 l4 : Option mx_V) (S h : mx_H) (n : Int), mx_ex d 223 116 [l0, l1, l2, l3, l4] [(2, a)] S h n = mx_gd (13 ≤ S a (-2) ∧ S a (-2) ≤ 13) d 223 119 [l0, l1, l2, l3, l4] [(2, S a 11)] S h n) ∧
  (∀ (d : Nat) (x : Int) (l0 l1 l3 l4 : Option mx_V) (v0 : mx_V) (S h : mx_H) (n : Int), mx_ex d 223 119 [l0, l1, some (0, x), l3, l4] [v0] S h n = mx_ex d 223 120 [l0, l1, some (0, x), l3, l4] [(0, x), v0] S h n) ∧
  (∀ (d : Nat) (i a : Int) (l0 l1 l2 l3 l4 : Option mx_V) (S h : mx_H) (n : Int), mx_ex d 223 120 [l0, l1, l2, l3, l4] [(0, i), (2, a)] S h n = mx_gd ((S a (-2) = 20 ∨ S a (-2) = 24) ∧ 0 ≤ i ∧ i < S a (-1)) d 223 121 [l0, l1, l2, l3, l4] [(0, h a i)] S h n) ∧
  (∀ (d : Nat) (x : Int) (l0 l1 l2 l4 : Option mx_V) (v0 : mx_V) (S h : mx_H) (n : Int), mx_ex d 223 121 [l0, l1, l2, some (0, x), l4] [v0] S h n = mx_ex d 223 122 [l0, l1, l2, some (0, x), l4] [(0, x), v0] S h n) ∧
  (∀ (d : Nat) (b a : Int) (l0 l1 l2 l3 l4 : Option mx_V) (S h : mx_H) (n : Int), mx_ex d 223 122 [l0, l1, l2, l3, l4] [(0, b), (0, a)] S h n = mx_br (a = b) d 223 125 138 [l0, l1, l2, l3, l4] [] S h n) ∧
  (∀ (d : Nat) (x : Int) (l1 l2 l3 l4 : Option mx_V) (S h : mx_H) (n : Int), mx_ex d 223 125 [some (2, x), l1, l2, l3, l4] [] S h n = mx_ex d 223 126 [some (2, x), l1, l2, l3, l4] [(2, x)] S h n) ∧
  (∀ (d : Nat) (x : Int) (l0 l2 l3 l4 : Option mx_V) (v0 : mx_V) (S h : mx_H) (n : Int), mx_ex d 223 126 [l0, some (0, x), l2, l3, l4] [v0] S h n = mx_ex d 223 127 [l0, some (0, x), l2, l3, l4] [(0, x), v0] S h n) ∧
  (∀ (d : Nat) (x : Int) (l0 l1 l2 l4 : Option mx_V) (v0 v1 : mx_V) (S h : mx_H) (n : Int), mx_ex d 223 127 [l0, l1, l2, some (0, x), l4] [v0, v1] S h n = mx_ex d 223 128 [l0, l1, l2, some (0, x), l4] [(0, x), v0, v1] S h n) ∧
  (∀ (d : Nat) (x0 x1 a : Int) (l0 l1 l2 l3 l4 : Option mx_V) (S h : mx_H) (n : Int), mx_ex (d + 1) 223 128 [l0, l1, l2, l3, l4] [(0, x0), (0, x1), (2, a)] S h n = mx_cl (S a (-2) = 13) d 184 [(2, a), (0, x1), (0, x0)] 223 131 [l0, l1, l2, l3, l4] [] S h n) ∧
  (∀ (d : Nat) (a : Int) (l0 l1 l2 l3 l4 : Option mx_V) (S h : mx_H) (n : Int), mx_ex d 223 131 [l0, l1, l2, l3, l4] [(0, a)] S h n = mx_br (a = 0) d 223 138 134 [l0, l1, l2, l3, l4] [] S h n) ∧
  (∀ (d : Nat) (l0 l1 l2 l3 l4 : Option mx_V) (S h : mx_H) (n : Int), mx_ex d 223 134 [l0, l1, l2, l3, l4] [] S h n = mx_ex d 223 135 [l0, l1, l2, l3, l4] [(0, 1)] S h n) ∧
  (∀ (d : Nat) (l0 l1 l2 l3 l4 : Option mx_V) (v0 : mx_V) (S h : mx_H) (n : Int), mx_ex d 223 135 [l0, l1, l2, l3, l4] [v0] S h n = mx_ex d 223 139 [l0, l1, l2, l3, l4] [v0] S h n) ∧
  (∀ (d : Nat) (l0 l1 l2 l3 l4 : Option mx_V) (S h : mx_H) (n : Int), mx_ex d 223 138 [l0, l1, l2, l3, l4] [] S h n = mx_ex d 223 139 [l0, l1, l2, l3, l4] [(0, 0)] S h n) ∧
  (∀ (d : Nat) (x : Int) (l0 l1 l2 l3 l4 : Option mx_V) (S h : mx_H) (n : Int), mx_ex d 223 139 [l0, l1, l2, l3, l4] [(0, x)] S h n = mx_ex d 223 141 [l0, l1, l2, mx_nl l3, some (0, x)] [] S h n) ∧
  (∀ (d : Nat) (x : Int) (l1 l2 l3 l4 : Option mx_V) (S h : mx_H) (n : Int), mx_ex d 223 141 [some (2, x), l1, l2, l3, l4] [] S h n = mx_ex d 223 142 [some (2, x), l1, l2, l3, l4] [(2, x)] S h n) ∧
  (∀ (d : Nat) (a : Int) (l0 l1 l2 l3 l4 : Option mx_V) (S h : mx_H) (n : Int), mx_ex d 223 142 [l0, l1, l2, l3, l4] [(2, a)] S h n = mx_gd (13 ≤ S a (-2) ∧ S a (-2) ≤ 13) d 223 145 [l0, l1, l2, l3, l4] [(2, S a 11)] S h n) ∧
  (∀ (d : Nat) (x : Int) (l0 l1 l3 l4 : Option mx_V) (v0 : mx_V) (S h : mx_H) (n : Int), mx_ex d 223 145 [l0, l1, some (0, x), l3, l4] [v0] S h n = mx_ex d 223 146 [l0, l1, some (0, x), l3, l4] [(0, x), v0] S h n) ∧
  (∀ (d : Nat) (x : Int) (l0 l1 l2 l4 : Option mx_V) (v0 v1 : mx_V) (S h : mx_H) (n : Int), mx_ex d 223 146 [l0, l1, l2, some (0, x), l4] [v0, v1] S h n = mx_ex d 223 147 [l0, l1, l2, some (0, x), l4] [(0, x), v0, v1] S h n) ∧
  (∀ (d : Nat) (v i a : Int) (l0 l1 l2 l3 l4 : Option mx_V) (S h : mx_H) (n : Int), mx_ex d 223 147 [l0, l1, l2, l3, l4] [(0, v), (0, i), (2, a)] S h n = mx_gd (S a (-2) = 20 ∧ 0 ≤ i ∧ i < S a (-1)) d 223 148 [l0, l1, l2, l3, l4] [] S (mx_u h a i v) n) ∧
  (∀ (d : Nat) (x : Int) (l0 l1 l2 l3 : Option mx_V) (S h : mx_H) (n : Int), mx_ex d 223 148 [l0, l1, l2, l3, some (0, x)] [] S h n = mx_ex d 223 150 [l0, l1, l2, l3, some (0, x)] [(0, x)] S h n) ∧
  (∀ (d : Nat) (a : Int) (l0 l1 l2 l3 l4 : Option mx_V) (S h : mx_H) (n : Int), mx_ex d 223 150 [l0, l1, l2, l3, l4] [(0, a)] S h n = mx_br (a = 0) d 223 177 153 [l0, l1, l2, l3, l4] [] S h n) ∧
  (∀ (d : Nat) (x : Int) (l1 l2 l3 l4 : Option mx_V) (S h : mx_H) (n : Int), mx_ex d 223 153 [some (2, x), l1, l2, l3, l4] [] S h n = mx_ex d 223 154 [some (2, x), l1, l2, l3, l4] [(2, x)] S h n) ∧
  (∀ (d : Nat) (a : Int) (l0 l1 l2 l3 l4 : Option mx_V) (S h : mx_H) (n : Int), mx_ex d 223 154 [l0, l1, l2, l3, l4] [(2, a)] S h n = mx_gd (13 ≤ S a (-2) ∧ S a (-2) ≤ 13) d 223 157 [l0, l1, l2, l3, l4] [(2, S a 14)] S h n) ∧
  (∀ (d : Nat) (l0 l1 l2 l3 l4 : Option mx_V) (v0 : mx_V) (S h : mx_H) (n : Int), mx_ex d 223 157 [l0, l1, l2, l3, l4] [v0] S h n = mx_ex d 223 158 [l0, l1, l2, l3, l4] [(0, 3), v0] S h n) ∧
  (∀ (d : Nat) (x : Int) (l0 l2 l3 l4 : Option mx_V) (v0 v1 : mx_V) (S h : mx_H) (n : Int), mx_ex d 223 158 [l0, some (0, x), l2, l3, l4] [v0, v1] S h n = mx_ex d 223 159 [l0, some (0, x), l2, l3, l4] [(0, x), v0, v1] S h n) ∧
  (∀ (d : Nat) (b a : Int) (l0 l1 l2 l3 l4 : Option mx_V) (v2 : mx_V) (S h : mx_H) (n : Int), mx_ex d 223 159 [l0, l1, l2, l3, l4] [(0, b), (0, a), v2] S h n = mx_ex d 223 160 [l0, l1, l2, l3, l4] [(0, mx_w (a * b)), v2] S h n) ∧
  (∀ (d : Nat) (l0 l1 l2 l3 l4 : Option mx_V) (v0 v1 : mx_V) (S h : mx_H) (n : Int), mx_ex d 223 160 [l0, l1, l2, l3, l4] [v0, v1] S h n = mx_ex d 223 161 [l0, l1, l2, l3, l4] [(0, 2), v0, v1] S h n) ∧
  (∀ (d : Nat) (b a : Int) (l0 l1 l2 l3 l4 : Option mx_V) (v2 : mx_V) (S h : mx_H) (n : Int), mx_ex d 223 161 [l0, l1, l2, l3, l4] [(0, b), (0, a), v2] S h n = mx_ex d 223 162 [l0, l1, l2, l3, l4] [(0, mx_w (a + b)), v2] S h n) ∧
  (∀ (d : Nat) (i a : Int) (l0 l1 l2 l3 l4 : Option mx_V) (S h : mx_H) (n : Int), mx_ex d 223 162 [l0, l1, l2, l3, l4] [(0, i), (2, a)] S h n = mx_gd (S a (-2) = 21 ∧ 0 ≤ i ∧ i < S a (-1)) d 223 163 [l0, l1, l2, l3, l4] [(1, h a i)] S h n) ∧
  (∀ (d : Nat) (x : Int) (l1 l2 l3 l4 : Option mx_V) (v0 : mx_V) (S h : mx_H) (n : Int), mx_ex d 223 163 [some (2, x), l1, l2, l3, l4] [v0] S h n = mx_ex d 223 164 [some (2, x), l1, l2, l3, l4] [(2, x), v0] S h n) ∧
  (∀ (d : Nat) (x : Int) (l0 l2 l3 l4 : Option mx_V) (v0 v1 : mx_V) (S h : mx_H) (n : Int), mx_ex d 223 164 [l0, some (0, x), l2, l3, l4] [v0, v1] S h n = mx_ex d 223 165 [l0, some (0, x), l2, l3, l4] [(0, x), v0, v1] S h n) ∧
  (∀ (d : Nat) (x : Int) (l0 l1 l2 l4 : Option mx_V) (v0 v1 v2 : mx_V) (S h : mx_H) (n : Int), mx_ex d 223 165 [l0, l1, l2, some (0, x), l4] [v0, v1, v2] S h n = mx_ex d 223 166 [l0, l1, l2, some (0, x), l4] [(0, x), v0, v1, v2] S h n) ∧
  (∀ (d : Nat) (x0 x1 a : Int) (l0 l1 l2 l3 l4 : Option mx_V) (v3 : mx_V) (S h : mx_H) (n : Int), mx_ex (d + 1) 223 166 [l0, l1, l2, l3, l4] [(0, x0), (0, x1), (2, a), v3] S h n = mx_cl (S a (-2) = 13) d 183 [(2, a), (0, x1), (0, x0)] 223 169 [l0, l1, l2, l3, l4] [v3] S h n) ∧
  (∀ (d : Nat) (b a : Int) (l0 l1 l2 l3 l4 : Option mx_V) (S h : mx_H) (n : Int), mx_ex d 223 169 [l0, l1, l2, l3, l4] [(1, b), (1, a)] S h n = mx_ex d 223 170 [l0, l1, l2, l3, l4] [(0, mx_cmp a b)] S h n) ∧
  (∀ (d : Nat) (a : Int) (l0 l1 l2 l3 l4 : Option mx_V) (S h : mx_H) (n : Int), mx_ex d 223 170 [l0, l1, l2, l3, l4] [(0, a)] S h n = mx_br (a = 0) d 223 173 177 [l0, l1, l2, l3, l4] [] S h n) ∧
  (∀ (d : Nat) (l0 l1 l2 l3 l4 : Option mx_V) (S h : mx_H) (n : Int), mx_ex d 223 173 [l0, l1, l2, l3, l4] [] S h n = mx_ex d 223 174 [l0, l1, l2, l3, l4] [(0, 1)] S h n) ∧
  (∀ (d : Nat) (l0 l1 l2 l3 l4 : Option mx_V) (v0 : mx_V) (S h : mx_H) (n : Int), mx_ex d 223 174 [l0, l1, l2, l3, l4] [v0] S h n = mx_ex d 223 178 [l0, l1, l2, l3, l4] [v0] S h n) ∧
  (∀ (d : Nat) (l0 l1 l2 l3 l4 : Option mx_V) (S h : mx_H) (n : Int), mx_ex d 223 177 [l0, l1, l2, l3, l4] [] S h n = mx_ex d 223 178 [l0, l1, l2, l3, l4] [(0, 0)] S h n) ∧
  (∀ (d : Nat) (x : Int) (l0 l1 l2 l3 l4 : Option mx_V) (S h : mx_H) (n : Int), mx_ex d 223 178 [l0, l1, l2, l3, l4] [(0, x)] S h n = mx_re (0 ≤ x ∧ x ≤ 1) (some (0, x)) S h n) :=
  ⟨by intros; exact eq_push rfl,
   by intros; exact eq_i2 (o := mx_add) rfl,
   by intros; exact eq_iald rfl,
   by intros; exact eq_cs rfl (Nat.le_of_ble_eq_true rfl) rfl rfl rfl (Nat.le_of_ble_eq_true rfl),
   by intros; exact eq_if0 rfl,
   by intros; exact eq_ld rfl rfl,
   by intros; exact eq_gr rfl,
   by intros; exact eq_ld rfl rfl,
   by intros; exact eq_iald rfl,
   by intros; exact eq_if0 rfl,
   by intros; exact eq_ld rfl rfl,
   by intros; exact eq_gr rfl,
   by intros; exact eq_ld rfl rfl,
   by intros; exact eq_iald rfl,
   by intros; exact eq_ld rfl rfl,
   by intros; exact eq_ic1 rfl,
   by intros; exact eq_ld rfl rfl,
   by intros; exact eq_ld rfl rfl,
   by intros; exact eq_ld rfl rfl,
   by intros; exact eq_cv rfl (Nat.le_of_ble_eq_true rfl) rfl rfl rfl (Nat.le_of_ble_eq_true rfl),
   by intros; exact eq_if0 rfl,
   by intros; exact eq_push rfl,
   by intros; exact eq_go rfl,
   by intros; exact eq_push rfl,
   by intros; exact eq_st rfl (by decide) (Nat.le_of_ble_eq_true rfl) rfl,
   by intros; exact eq_ld rfl rfl,
   by intros; exact eq_gr rfl,
   by intros; exact eq_ld rfl rfl,
   by intros; exact eq_ld rfl rfl,
   by intros; exact eq_iast rfl,
   by intros; exact eq_ld rfl rfl,
   by intros; exact eq_if0 rfl,
   by intros; exact eq_ld rfl rfl,
   by intros; exact eq_gr rfl,
   by intros; exact eq_push rfl,
   by intros; exact eq_ld rfl rfl,
   by intros; exact eq_i2 (o := mx_mul) rfl,
   by intros; exact eq_push rfl,
   by intros; exact eq_i2 (o := mx_add) rfl,
   by intros; exact eq_lald rfl,
   by intros; exact eq_ld rfl rfl,
   by intros; exact eq_ld rfl rfl,
   by intros; exact eq_ld rfl rfl,
   by intros; exact eq_cv rfl (Nat.le_of_ble_eq_true rfl) rfl rfl rfl (Nat.le_of_ble_eq_true rfl),
   by intros; exact eq_lcmp rfl,
   by intros; exact eq_if1 rfl,
   by intros; exact eq_push rfl,
   by intros; exact eq_go rfl,
   by intros; exact eq_push rfl,
   by intros; exact eq_rr rfl⟩
theorem rh_X12_judge_2 : ∀ (d : Nat) (x : Int) (l0 : Option mx_V) (S h : mx_H) (n : Int), mx_ex d 224 2 [l0, some (0, x)] [] S h n = mx_ex d 224 3 [l0, some (0, x)] [(0, x)] S h n := by intros; exact eq_ld rfl rfl
theorem rh_X12_judge_22 : ∀ (d : Nat) (x : Int) (l0 : Option mx_V) (S h : mx_H) (n : Int), mx_ex d 224 22 [l0, some (0, x)] [] S h n = mx_ex d 224 23 [l0, some (0, x)] [(0, x)] S h n := by intros; exact eq_ld rfl rfl
theorem rh_X12_judge_67 : ∀ (d : Nat) (x : Int) (l0 : Option mx_V) (S h : mx_H) (n : Int), mx_ex d 224 67 [l0, some (0, x)] [] S h n = mx_ex d 224 68 [l0, some (0, x)] [(0, x)] S h n := by intros; exact eq_ld rfl rfl
theorem rw_X12_judge :
  (∀ (d : Nat) (a0 : Int) (S h : mx_H) (n : Int), mx_M d 224 [(2, a0)] S h n = mx_ex d 224 0 [some (2, a0), none] [] S h n) ∧
  (∀ (d : Nat) (l0 l1 : Option mx_V) (S h : mx_H) (n : Int), mx_ex d 224 0 [l0, l1] [] S h n = mx_ex d 224 1 [l0, l1] [(0, 0)] S h n) ∧
  (∀ (d : Nat) (x : Int) (l0 l1 : Option mx_V) (S h : mx_H) (n : Int), mx_ex d 224 1 [l0, l1] [(0, x)] S h n = mx_ex d 224 2 [mx_nl l0, some (0, x)] [] S h n) ∧
  (∀ (d : Nat) (l0 l1 : Option mx_V) (v0 : mx_V) (S h : mx_H) (n : Int), mx_ex d 224 3 [l0, l1] [v0] S h n = mx_ex d 224 4 [l0, l1] [(0, 3), v0] S h n) ∧
  (∀ (d : Nat) (b a : Int) (l0 l1 : Option mx_V) (S h : mx_H) (n : Int), mx_ex d 224 4 [l0, l1] [(0, b), (0, a)] S h n = mx_br (a < b) d 224 7 20 [l0, l1] [] S h n) ∧
  (∀ (d : Nat) (x : Int) (l1 : Option mx_V) (S h : mx_H) (n : Int), mx_ex d 224 7 [some (2, x), l1] [] S h n = mx_ex d 224 8 [some (2, x), l1] [(2, x)] S h n) ∧
  (∀ (d : Nat) (a : Int) (l0 l1 : Option mx_V) (S h : mx_H) (n : Int), mx_ex d 224 8 [l0, l1] [(2, a)] S h n = mx_gd (13 ≤ S a (-2) ∧ S a (-2) ≤ 13) d 224 11 [l0, l1] [(2, S a 11)] S h n) ∧
  (∀ (d : Nat) (x : Int) (l0 : Option mx_V) (v0 : mx_V) (S h : mx_H) (n : Int), mx_ex d 224 11 [l0, some (0, x)] [v0] S h n = mx_ex d 224 12 [l0, some (0, x)] [(0, x), v0] S h n) ∧
  (∀ (d : Nat) (l0 l1 : Option mx_V) (v0 v1 : mx_V) (S h : mx_H) (n : Int), mx_ex d 224 12 [l0, l1] [v0, v1] S h n = mx_ex d 224 13 [l0, l1] [(0, 0), v0, v1] S h n) ∧
  (∀ (d : Nat) (v i a : Int) (l0 l1 : Option mx_V) (S h : mx_H) (n : Int), mx_ex d 224 13 [l0, l1] [(0, v), (0, i), (2, a)] S h n = mx_gd (S a (-2) = 20 ∧ 0 ≤ i ∧ i < S a (-1)) d 224 14 [l0, l1] [] S (mx_u h a i v) n) ∧
  (∀ (d : Nat) (x : Int) (l0 : Option mx_V) (S h : mx_H) (n : Int), mx_ex d 224 14 [l0, some (0, x)] [] S h n = mx_ex d 224 17 [mx_nl l0, some (0, mx_w (x + 1))] [] S h n) ∧
  (∀ (d : Nat) (l0 l1 : Option mx_V) (S h : mx_H) (n : Int), mx_ex d 224 17 [l0, l1] [] S h n = mx_ex d 224 2 [l0, l1] [] S h n) ∧
  (∀ (d : Nat) (l0 l1 : Option mx_V) (S h : mx_H) (n : Int), mx_ex d 224 20 [l0, l1] [] S h n = mx_ex d 224 21 [l0, l1] [(0, 0)] S h n) ∧
  (∀ (d : Nat) (x : Int) (l0 l1 : Option mx_V) (S h : mx_H) (n : Int), mx_ex d 224 21 [l0, l1] [(0, x)] S h n = mx_ex d 224 22 [mx_nl l0, some (0, x)] [] S h n) ∧
  (∀ (d : Nat) (x : Int) (l1 : Option mx_V) (v0 : mx_V) (S h : mx_H) (n : Int), mx_ex d 224 23 [some (2, x), l1] [v0] S h n = mx_ex d 224 24 [some (2, x), l1] [(2, x), v0] S h n) ∧
  (∀ (d : Nat) (a : Int) (l0 l1 : Option mx_V) (v1 : mx_V) (S h : mx_H) (n : Int), mx_ex d 224 24 [l0, l1] [(2, a), v1] S h n = mx_gd (13 ≤ S a (-2) ∧ S a (-2) ≤ 13) d 224 27 [l0, l1] [(0, h a 15), v1] S h n) ∧
  (∀ (d : Nat) (b a : Int) (l0 l1 : Option mx_V) (S h : mx_H) (n : Int), mx_ex d 224 27 [l0, l1] [(0, b), (0, a)] S h n = mx_br (a < b) d 224 30 48 [l0, l1] [] S h n) ∧
  (∀ (d : Nat) (x : Int) (l1 : Option mx_V) (S h : mx_H) (n : Int), mx_ex d 224 30 [some (2, x), l1] [] S h n = mx_ex d 224 31 [some (2, x), l1] [(2, x)] S h n) ∧
  (∀ (d : Nat) (x : Int) (l0 : Option mx_V) (v0 : mx_V) (S h : mx_H) (n : Int), mx_ex d 224 31 [l0, some (0, x)] [v0] S h n = mx_ex d 224 32 [l0, some (0, x)] [(0, x), v0] S h n) ∧
  (∀ (d : Nat) (x0 a : Int) (l0 l1 : Option mx_V) (S h : mx_H) (n : Int), mx_ex (d + 1) 224 32 [l0, l1] [(0, x0), (2, a)] S h n = mx_cl (S a (-2) = 13) d 223 [(2, a), (0, x0)] 224 35 [l0, l1] [] S h n) ∧
  (∀ (d : Nat) (a : Int) (l0 l1 : Option mx_V) (S h : mx_H) (n : Int), mx_ex d 224 35 [l0, l1] [(0, a)] S h n = mx_br (a = 0) d 224 38 42 [l0, l1] [] S h n) ∧
  (∀ (d : Nat) (l0 l1 : Option mx_V) (S h : mx_H) (n : Int), mx_ex d 224 38 [l0, l1] [] S h n = mx_ex d 224 39 [l0, l1] [(0, 1)] S h n) ∧
  (∀ (d : Nat) (x : Int) (l0 : Option mx_V) (v0 : mx_V) (S h : mx_H) (n : Int), mx_ex d 224 39 [l0, some (0, x)] [v0] S h n = mx_ex d 224 40 [l0, some (0, x)] [(0, x), v0] S h n) ∧
  (∀ (d : Nat) (b a : Int) (l0 l1 : Option mx_V) (S h : mx_H) (n : Int), mx_ex d 224 40 [l0, l1] [(0, b), (0, a)] S h n = mx_ex d 224 41 [l0, l1] [(0, mx_w (a + b))] S h n) ∧
  (∀ (d : Nat) (x : Int) (l0 l1 : Option mx_V) (S h : mx_H) (n : Int), mx_ex d 224 41 [l0, l1] [(0, x)] S h n = some (some (0, x), S, h, n)) ∧
  (∀ (d : Nat) (x : Int) (l0 : Option mx_V) (S h : mx_H) (n : Int), mx_ex d 224 42 [l0, some (0, x)] [] S h n = mx_ex d 224 45 [mx_nl l0, some (0, mx_w (x + 1))] [] S h n) ∧
  (∀ (d : Nat) (l0 l1 : Option mx_V) (S h : mx_H) (n : Int), mx_ex d 224 45 [l0, l1] [] S h n = mx_ex d 224 22 [l0, l1] [] S h n) ∧
  (∀ (d : Nat) (x : Int) (l1 : Option mx_V) (S h : mx_H) (n : Int), mx_ex d 224 48 [some (2, x), l1] [] S h n = mx_ex d 224 49 [some (2, x), l1] [(2, x)] S h n) ∧
  (∀ (d : Nat) (a : Int) (l0 l1 : Option mx_V) (S h : mx_H) (n : Int), mx_ex d 224 49 [l0, l1] [(2, a)] S h n = mx_gd (13 ≤ S a (-2) ∧ S a (-2) ≤ 13) d 224 52 [l0, l1] [(0, h a 15)] S h n) ∧
  (∀ (d : Nat) (x : Int) (l1 : Option mx_V) (v0 : mx_V) (S h : mx_H) (n : Int), mx_ex d 224 52 [some (2, x), l1] [v0] S h n = mx_ex d 224 53 [some (2, x), l1] [(2, x), v0] S h n) ∧
  (∀ (d : Nat) (a : Int) (l0 l1 : Option mx_V) (v1 : mx_V) (S h : mx_H) (n : Int), mx_ex d 224 53 [l0, l1] [(2, a), v1] S h n = mx_gd (13 ≤ S a (-2) ∧ S a (-2) ≤ 13) d 224 56 [l0, l1] [(2, S a 0), v1] S h n) ∧
  (∀ (d : Nat) (l0 l1 : Option mx_V) (v0 v1 : mx_V) (S h : mx_H) (n : Int), mx_ex d 224 56 [l0, l1] [v0, v1] S h n = mx_ex d 224 57 [l0, l1] [(0, 0), v0, v1] S h n) ∧
  (∀ (d : Nat) (i a : Int) (l0 l1 : Option mx_V) (v2 : mx_V) (S h : mx_H) (n : Int), mx_ex d 224 57 [l0, l1] [(0, i), (2, a), v2] S h n = mx_gd ((S a (-2) = 20 ∨ S a (-2) = 24) ∧ 0 ≤ i ∧ i < S a (-1)) d 224 58 [l0, l1] [(0, h a i), v2] S h n) ∧
  (∀ (d : Nat) (b a : Int) (l0 l1 : Option mx_V) (S h : mx_H) (n : Int), mx_ex d 224 58 [l0, l1] [(0, b), (0, a)] S h n = mx_br (a < b) d 224 61 65 [l0, l1] [] S h n) ∧
  (∀ (d : Nat) (l0 l1 : Option mx_V) (S h : mx_H) (n : Int), mx_ex d 224 61 [l0, l1] [] S h n = mx_ex d 224 64 [l0, l1] [(0, 222)] S h n) ∧
  (∀ (d : Nat) (x : Int) (l0 l1 : Option mx_V) (S h : mx_H) (n : Int), mx_ex d 224 64 [l0, l1] [(0, x)] S h n = some (some (0, x), S, h, n)) ∧
  (∀ (d : Nat) (l0 l1 : Option mx_V) (S h : mx_H) (n : Int), mx_ex d 224 65 [l0, l1] [] S h n = mx_ex d 224 66 [l0, l1] [(0, 0)] S h n) ∧
  (∀ (d : Nat) (x : Int) (l0 l1 : Option mx_V) (S h : mx_H) (n : Int), mx_ex d 224 66 [l0, l1] [(0, x)] S h n = mx_ex d 224 67 [mx_nl l0, some (0, x)] [] S h n) ∧
  (∀ (d : Nat) (x : Int) (l1 : Option mx_V) (v0 : mx_V) (S h : mx_H) (n : Int), mx_ex d 224 68 [some (2, x), l1] [v0] S h n = mx_ex d 224 69 [some (2, x), l1] [(2, x), v0] S h n) ∧
  (∀ (d : Nat) (a : Int) (l0 l1 : Option mx_V) (v1 : mx_V) (S h : mx_H) (n : Int), mx_ex d 224 69 [l0, l1] [(2, a), v1] S h n = mx_gd (13 ≤ S a (-2) ∧ S a (-2) ≤ 13) d 224 72 [l0, l1] [(2, S a 0), v1] S h n) ∧
  (∀ (d : Nat) (l0 l1 : Option mx_V) (v0 v1 : mx_V) (S h : mx_H) (n : Int), mx_ex d 224 72 [l0, l1] [v0, v1] S h n = mx_ex d 224 73 [l0, l1] [(0, 1), v0, v1] S h n) ∧
  (∀ (d : Nat) (i a : Int) (l0 l1 : Option mx_V) (v2 : mx_V) (S h : mx_H) (n : Int), mx_ex d 224 73 [l0, l1] [(0, i), (2, a), v2] S h n = mx_gd ((S a (-2) = 20 ∨ S a (-2) = 24) ∧ 0 ≤ i ∧ i < S a (-1)) d 224 74 [l0, l1] [(0, h a i), v2] S h n) ∧
  (∀ (d : Nat) (b a : Int) (l0 l1 : Option mx_V) (S h : mx_H) (n : Int), mx_ex d 224 74 [l0, l1] [(0, b), (0, a)] S h n = mx_br (a < b) d 224 77 97 [l0, l1] [] S h n) ∧
  (∀ (d : Nat) (x : Int) (l1 : Option mx_V) (S h : mx_H) (n : Int), mx_ex d 224 77 [some (2, x), l1] [] S h n = mx_ex d 224 78 [some (2, x), l1] [(2, x)] S h n) ∧
  (∀ (d : Nat) (x : Int) (l0 : Option mx_V) (v0 : mx_V) (S h : mx_H) (n : Int), mx_ex d 224 78 [l0, some (0, x)] [v0] S h n = mx_ex d 224 79 [l0, some (0, x)] [(0, x), v0] S h n) ∧
  (∀ (d : Nat) (x0 a : Int) (l0 l1 : Option mx_V) (S h : mx_H) (n : Int), mx_ex (d + 1) 224 79 [l0, l1] [(0, x0), (2, a)] S h n = mx_cl (S a (-2) = 13) d 192 [(2, a), (0, x0)] 224 82 [l0, l1] [] S h n) ∧
  (∀ (d : Nat) (a : Int) (l0 l1 : Option mx_V) (S h : mx_H) (n : Int), mx_ex d 224 82 [l0, l1] [(0, a)] S h n = mx_br (a = 0) d 224 85 91 [l0, l1] [] S h n) ∧
  (∀ (d : Nat) (l0 l1 : Option mx_V) (S h : mx_H) (n : Int), mx_ex d 224 85 [l0, l1] [] S h n = mx_ex d 224 88 [l0, l1] [(0, 300)] S h n) ∧
  (∀ (d : Nat) (x : Int) (l0 : Option mx_V) (v0 : mx_V) (S h : mx_H) (n : Int), mx_ex d 224 88 [l0, some (0, x)] [v0] S h n = mx_ex d 224 89 [l0, some (0, x)] [(0, x), v0] S h n) ∧
  (∀ (d : Nat) (b a : Int) (l0 l1 : Option mx_V) (S h : mx_H) (n : Int), mx_ex d 224 89 [l0, l1] [(0, b), (0, a)] S h n = mx_ex d 224 90 [l0, l1] [(0, mx_w (a + b))] S h n) ∧
  (∀ (d : Nat) (x : Int) (l0 l1 : Option mx_V) (S h : mx_H) (n : Int), mx_ex d 224 90 [l0, l1] [(0, x)] S h n = some (some (0, x), S, h, n)) ∧
  (∀ (d : Nat) (x : Int) (l0 : Option mx_V) (S h : mx_H) (n : Int), mx_ex d 224 91 [l0, some (0, x)] [] S h n = mx_ex d 224 94 [mx_nl l0, some (0, mx_w (x + 1))] [] S h n) ∧
  (∀ (d : Nat) (l0 l1 : Option mx_V) (S h : mx_H) (n : Int), mx_ex d 224 94 [l0, l1] [] S h n = mx_ex d 224 67 [l0, l1] [] S h n) ∧
  (∀ (d : Nat) (l0 l1 : Option mx_V) (S h : mx_H) (n : Int), mx_ex d 224 97 [l0, l1] [] S h n = mx_ex d 224 98 [l0, l1] [(0, 0)] S h n) ∧
  (∀ (d : Nat) (x : Int) (l0 l1 : Option mx_V) (S h : mx_H) (n : Int), mx_ex d 224 98 [l0, l1] [(0, x)] S h n = some (some (0, x), S, h, n)) :=
  ⟨by intros; exact rfl,
   by intros; exact eq_push rfl,
   by intros; exact eq_st rfl (by decide) (Nat.le_of_ble_eq_true rfl) rfl,
   by intros; exact eq_push rfl,
   by intros; exact eq_ic3 rfl,
   by intros; exact eq_ld rfl rfl,
   by intros; exact eq_gr rfl,
   by intros; exact eq_ld rfl rfl,
   by intros; exact eq_push rfl,
   by intros; exact eq_iast rfl,
   by intros; exact eq_inc rfl rfl rfl,
   by intros; exact eq_go rfl,
   by intros; exact eq_push rfl,
   by intros; exact eq_st rfl (by decide) (Nat.le_of_ble_eq_true rfl) rfl,
   by intros; exact eq_ld rfl rfl,
   by intros; exact eq_gi rfl,
   by intros; exact eq_ic3 rfl,
   by intros; exact eq_ld rfl rfl,
   by intros; exact eq_ld rfl rfl,
   by intros; exact eq_cv rfl (Nat.le_of_ble_eq_true rfl) rfl rfl rfl (Nat.le_of_ble_eq_true rfl),
   by intros; exact eq_if1 rfl,
   by intros; exact eq_push rfl,
   by intros; exact eq_ld rfl rfl,
   by intros; exact eq_i2 (o := mx_add) rfl,
   by intros; exact eq_ret rfl,
   by intros; exact eq_inc rfl rfl rfl,
   by intros; exact eq_go rfl,
   by intros; exact eq_ld rfl rfl,
   by intros; exact eq_gi rfl,
   by intros; exact eq_ld rfl rfl,
   by intros; exact eq_gr rfl,
   by intros; exact eq_push rfl,
   by intros; exact eq_iald rfl,
   by intros; exact eq_ic3 rfl,
   by intros; exact eq_push rfl,
   by intros; exact eq_ret rfl,
   by intros; exact eq_push rfl,
   by intros; exact eq_st rfl (by decide) (Nat.le_of_ble_eq_true rfl) rfl,
   by intros; exact eq_ld rfl rfl,
   by intros; exact eq_gr rfl,
   by intros; exact eq_push rfl,
   by intros; exact eq_iald rfl,
   by intros; exact eq_ic3 rfl,
   by intros; exact eq_ld rfl rfl,
   by intros; exact eq_ld rfl rfl,
   by intros; exact eq_cv rfl (Nat.le_of_ble_eq_true rfl) rfl rfl rfl (Nat.le_of_ble_eq_true rfl),
   by intros; exact eq_if1 rfl,
   by intros; exact eq_push rfl,
   by intros; exact eq_ld rfl rfl,
   by intros; exact eq_i2 (o := mx_add) rfl,
   by intros; exact eq_ret rfl,
   by intros; exact eq_inc rfl rfl rfl,
   by intros; exact eq_go rfl,
   by intros; exact eq_push rfl,
   by intros; exact eq_ret rfl⟩
theorem rw_X12_isSheet :
  (∀ (d : Nat) (a0 : Int) (S h : mx_H) (n : Int), mx_M d 225 [(0, a0)] S h n = mx_ex d 225 0 [some (0, a0)] [] S h n) ∧
  (∀ (d : Nat) (x : Int) (S h : mx_H) (n : Int), mx_ex d 225 0 [some (0, x)] [] S h n = mx_ex d 225 1 [some (0, x)] [(0, x)] S h n) ∧
  (∀ (d : Nat) (l0 : Option mx_V) (v0 : mx_V) (S h : mx_H) (n : Int), mx_ex d 225 1 [l0] [v0] S h n = mx_ex d 225 2 [l0] [(0, 0), v0] S h n) ∧
  (∀ (d : Nat) (l0 : Option mx_V) (v0 v1 : mx_V) (S h : mx_H) (n : Int), mx_ex d 225 2 [l0] [v0, v1] S h n = mx_ex d 225 3 [l0] [(0, 3), v0, v1] S h n) ∧
  (∀ (d : Nat) (x0 x1 x2 : Int) (l0 : Option mx_V) (S h : mx_H) (n : Int), mx_ex (d + 1) 225 3 [l0] [(0, x0), (0, x1), (0, x2)] S h n = mx_rt (mx_M d 157 [(0, x2), (0, x1), (0, x0)] S h n) (d + 1) 225 6 [l0] []) ∧
  (∀ (d : Nat) (x : Int) (l0 : Option mx_V) (S h : mx_H) (n : Int), mx_ex d 225 6 [l0] [(0, x)] S h n = mx_re (0 ≤ x ∧ x ≤ 1) (some (0, x)) S h n) :=
  ⟨by intros; exact rfl,
   by intros; exact eq_ld rfl rfl,
   by intros; exact eq_push rfl,
   by intros; exact eq_push rfl,
   by intros; exact eq_cs rfl (Nat.le_of_ble_eq_true rfl) rfl rfl rfl (Nat.le_of_ble_eq_true rfl),
   by intros; exact eq_rr rfl⟩
theorem rh_X12_signs_86 : ∀ (d : Nat) (x : Int) (l0 l1 l2 l3 l4 l6 l7 : Option mx_V) (S h : mx_H) (n : Int), mx_ex d 226 86 [l0, l1, l2, l3, l4, some (0, x), l6, l7] [] S h n = mx_ex d 226 88 [l0, l1, l2, l3, l4, some (0, x), l6, l7] [(0, x)] S h n := by intros; exact eq_ld rfl rfl
theorem rw_X12_signs :
  (∀ (d : Nat) (a0 a1 a2 a3 a4 : Int) (S h : mx_H) (n : Int), mx_M d 226 [(2, a0), (0, a1), (0, a2), (0, a3), (0, a4)] S h n = mx_ex d 226 0 [some (2, a0), some (0, a1), some (0, a2), some (0, a3), some (0, a4), none, none, none] [] S h n) ∧
  (∀ (d : Nat) (x : Int) (l1 l2 l3 l4 l5 l6 l7 : Option mx_V) (S h : mx_H) (n : Int), mx_ex d 226 0 [some (2, x), l1, l2, l3, l4, l5, l6, l7] [] S h n = mx_ex d 226 1 [some (2, x), l1, l2, l3, l4, l5, l6, l7] [(2, x)] S h n) ∧
  (∀ (d : Nat) (x : Int) (l0 l2 l3 l4 l5 l6 l7 : Option mx_V) (v0 : mx_V) (S h : mx_H) (n : Int), mx_ex d 226 1 [l0, some (0, x), l2, l3, l4, l5, l6, l7] [v0] S h n = mx_ex d 226 2 [l0, some (0, x), l2, l3, l4, l5, l6, l7] [(0, x), v0] S h n) ∧
  (∀ (d : Nat) (x0 a : Int) (l0 l1 l2 l3 l4 l5 l6 l7 : Option mx_V) (S h : mx_H) (n : Int), mx_ex (d + 1) 226 2 [l0, l1, l2, l3, l4, l5, l6, l7] [(0, x0), (2, a)] S h n = mx_cl (S a (-2) = 13) d 158 [(2, a), (0, x0)] 226 5 [l0, l1, l2, l3, l4, l5, l6, l7] [] S h n) ∧
  (∀ (d : Nat) (a : Int) (l0 l1 l2 l3 l4 l5 l6 l7 : Option mx_V) (S h : mx_H) (n : Int), mx_ex d 226 5 [l0, l1, l2, l3, l4, l5, l6, l7] [(0, a)] S h n = mx_br (a = 0) d 226 37 8 [l0, l1, l2, l3, l4, l5, l6, l7] [] S h n) ∧
  (∀ (d : Nat) (x : Int) (l0 l1 l3 l4 l5 l6 l7 : Option mx_V) (S h : mx_H) (n : Int), mx_ex d 226 8 [l0, l1, some (0, x), l3, l4, l5, l6, l7] [] S h n = mx_ex d 226 9 [l0, l1, some (0, x), l3, l4, l5, l6, l7] [(0, x)] S h n) ∧
  (∀ (d : Nat) (x0 : Int) (l0 l1 l2 l3 l4 l5 l6 l7 : Option mx_V) (S h : mx_H) (n : Int), mx_ex (d + 1) 226 9 [l0, l1, l2, l3, l4, l5, l6, l7] [(0, x0)] S h n = mx_rt (mx_M d 225 [(0, x0)] S h n) (d + 1) 226 12 [l0, l1, l2, l3, l4, l5, l6, l7] []) ∧
  (∀ (d : Nat) (a : Int) (l0 l1 l2 l3 l4 l5 l6 l7 : Option mx_V) (S h : mx_H) (n : Int), mx_ex d 226 12 [l0, l1, l2, l3, l4, l5, l6, l7] [(0, a)] S h n = mx_br (a = 0) d 226 37 15 [l0, l1, l2, l3, l4, l5, l6, l7] [] S h n) ∧
  (∀ (d : Nat) (x : Int) (l0 l1 l2 l3 l5 l6 l7 : Option mx_V) (S h : mx_H) (n : Int), mx_ex d 226 15 [l0, l1, l2, l3, some (0, x), l5, l6, l7] [] S h n = mx_ex d 226 17 [l0, l1, l2, l3, some (0, x), l5, l6, l7] [(0, x)] S h n) ∧
  (∀ (d : Nat) (l0 l1 l2 l3 l4 l5 l6 l7 : Option mx_V) (v0 : mx_V) (S h : mx_H) (n : Int), mx_ex d 226 17 [l0, l1, l2, l3, l4, l5, l6, l7] [v0] S h n = mx_ex d 226 18 [l0, l1, l2, l3, l4, l5, l6, l7] [(0, 0), v0] S h n) ∧
  (∀ (d : Nat) (l0 l1 l2 l3 l4 l5 l6 l7 : Option mx_V) (v0 v1 : mx_V) (S h : mx_H) (n : Int), mx_ex d 226 18 [l0, l1, l2, l3, l4, l5, l6, l7] [v0, v1] S h n = mx_ex d 226 20 [l0, l1, l2, l3, l4, l5, l6, l7] [(0, 6), v0, v1] S h n) ∧
  (∀ (d : Nat) (x0 x1 x2 : Int) (l0 l1 l2 l3 l4 l5 l6 l7 : Option mx_V) (S h : mx_H) (n : Int), mx_ex (d + 1) 226 20 [l0, l1, l2, l3, l4, l5, l6, l7] [(0, x0), (0, x1), (0, x2)] S h n = mx_rt (mx_M d 157 [(0, x2), (0, x1), (0, x0)] S h n) (d + 1) 226 23 [l0, l1, l2, l3, l4, l5, l6, l7] []) ∧
  (∀ (d : Nat) (a : Int) (l0 l1 l2 l3 l4 l5 l6 l7 : Option mx_V) (S h : mx_H) (n : Int), mx_ex d 226 23 [l0, l1, l2, l3, l4, l5, l6, l7] [(0, a)] S h n = mx_br (a = 0) d 226 37 26 [l0, l1, l2, l3, l4, l5, l6, l7] [] S h n) ∧
  (∀ (d : Nat) (x : Int) (l0 l1 l2 l3 l5 l6 l7 : Option mx_V) (S h : mx_H) (n : Int), mx_ex d 226 26 [l0, l1, l2, l3, some (0, x), l5, l6, l7] [] S h n = mx_ex d 226 28 [l0, l1, l2, l3, some (0, x), l5, l6, l7] [(0, x)] S h n) ∧
  (∀ (d : Nat) (x : Int) (l1 l2 l3 l4 l5 l6 l7 : Option mx_V) (v0 : mx_V) (S h : mx_H) (n : Int), mx_ex d 226 28 [some (2, x), l1, l2, l3, l4, l5, l6, l7] [v0] S h n = mx_ex d 226 29 [some (2, x), l1, l2, l3, l4, l5, l6, l7] [(2, x), v0] S h n) ∧
  (∀ (d : Nat) (x : Int) (l0 l2 l3 l4 l5 l6 l7 : Option mx_V) (v0 v1 : mx_V) (S h : mx_H) (n : Int), mx_ex d 226 29 [l0, some (0, x), l2, l3, l4, l5, l6, l7] [v0, v1] S h n = mx_ex d 226 30 [l0, some (0, x), l2, l3, l4, l5, l6, l7] [(0, x), v0, v1] S h n) ∧
  (∀ (d : Nat) (l0 l1 l2 l3 l4 l5 l6 l7 : Option mx_V) (v0 v1 v2 : mx_V) (S h : mx_H) (n : Int), mx_ex d 226 30 [l0, l1, l2, l3, l4, l5, l6, l7] [v0, v1, v2] S h n = mx_ex d 226 31 [l0, l1, l2, l3, l4, l5, l6, l7] [(0, 3), v0, v1, v2] S h n) ∧
  (∀ (d : Nat) (x0 x1 a : Int) (l0 l1 l2 l3 l4 l5 l6 l7 : Option mx_V) (v3 : mx_V) (S h : mx_H) (n : Int), mx_ex (d + 1) 226 31 [l0, l1, l2, l3, l4, l5, l6, l7] [(0, x0), (0, x1), (2, a), v3] S h n = mx_cl (S a (-2) = 13) d 161 [(2, a), (0, x1), (0, x0)] 226 34 [l0, l1, l2, l3, l4, l5, l6, l7] [v3] S h n) ∧
  (∀ (d : Nat) (b a : Int) (l0 l1 l2 l3 l4 l5 l6 l7 : Option mx_V) (S h : mx_H) (n : Int), mx_ex d 226 34 [l0, l1, l2, l3, l4, l5, l6, l7] [(0, b), (0, a)] S h n = mx_br (b < a) d 226 37 39 [l0, l1, l2, l3, l4, l5, l6, l7] [] S h n) ∧
  (∀ (d : Nat) (l0 l1 l2 l3 l4 l5 l6 l7 : Option mx_V) (S h : mx_H) (n : Int), mx_ex d 226 37 [l0, l1, l2, l3, l4, l5, l6, l7] [] S h n = mx_ex d 226 38 [l0, l1, l2, l3, l4, l5, l6, l7] [(0, (-1))] S h n) ∧
  (∀ (d : Nat) (x : Int) (l0 l1 l2 l3 l4 l5 l6 l7 : Option mx_V) (S h : mx_H) (n : Int), mx_ex d 226 38 [l0, l1, l2, l3, l4, l5, l6, l7] [(0, x)] S h n = some (some (0, x), S, h, n)) ∧
  (∀ (d : Nat) (x : Int) (l1 l2 l3 l4 l5 l6 l7 : Option mx_V) (S h : mx_H) (n : Int), mx_ex d 226 39 [some (2, x), l1, l2, l3, l4, l5, l6, l7] [] S h n = mx_ex d 226 40 [some (2, x), l1, l2, l3, l4, l5, l6, l7] [(2, x)] S h n) ∧
  (∀ (d : Nat) (a : Int) (l0 l1 l2 l3 l4 l5 l6 l7 : Option mx_V) (S h : mx_H) (n : Int), mx_ex d 226 40 [l0, l1, l2, l3, l4, l5, l6, l7] [(2, a)] S h n = mx_gd (13 ≤ S a (-2) ∧ S a (-2) ≤ 13) d 226 43 [l0, l1, l2, l3, l4, l5, l6, l7] [(2, S a 16)] S h n) ∧
  (∀ (d : Nat) (x : Int) (l0 l1 l3 l4 l5 l6 l7 : Option mx_V) (v0 : mx_V) (S h : mx_H) (n : Int), mx_ex d 226 43 [l0, l1, some (0, x), l3, l4, l5, l6, l7] [v0] S h n = mx_ex d 226 44 [l0, l1, some (0, x), l3, l4, l5, l6, l7] [(0, x), v0] S h n) ∧
  (∀ (d : Nat) (i a : Int) (l0 l1 l2 l3 l4 l5 l6 l7 : Option mx_V) (S h : mx_H) (n : Int), mx_ex d 226 44 [l0, l1, l2, l3, l4, l5, l6, l7] [(0, i), (2, a)] S h n = mx_gd ((S a (-2) = 20 ∨ S a (-2) = 24) ∧ 0 ≤ i ∧ i < S a (-1)) d 226 45 [l0, l1, l2, l3, l4, l5, l6, l7] [(0, h a i)] S h n) ∧
  (∀ (d : Nat) (a : Int) (l0 l1 l2 l3 l4 l5 l6 l7 : Option mx_V) (S h : mx_H) (n : Int), mx_ex d 226 45 [l0, l1, l2, l3, l4, l5, l6, l7] [(0, a)] S h n = mx_br (a < 0) d 226 48 51 [l0, l1, l2, l3, l4, l5, l6, l7] [] S h n) ∧
  (∀ (d : Nat) (l0 l1 l2 l3 l4 l5 l6 l7 : Option mx_V) (S h : mx_H) (n : Int), mx_ex d 226 48 [l0, l1, l2, l3, l4, l5, l6, l7] [] S h n = mx_ex d 226 50 [l0, l1, l2, l3, l4, l5, l6, l7] [(0, (-11))] S h n) ∧
  (∀ (d : Nat) (x : Int) (l0 l1 l2 l3 l4 l5 l6 l7 : Option mx_V) (S h : mx_H) (n : Int), mx_ex d 226 50 [l0, l1, l2, l3, l4, l5, l6, l7] [(0, x)] S h n = some (some (0, x), S, h, n)) ∧
  (∀ (d : Nat) (x : Int) (l1 l2 l3 l4 l5 l6 l7 : Option mx_V) (S h : mx_H) (n : Int), mx_ex d 226 51 [some (2, x), l1, l2, l3, l4, l5, l6, l7] [] S h n = mx_ex d 226 52 [some (2, x), l1, l2, l3, l4, l5, l6, l7] [(2, x)] S h n) ∧
  (∀ (d : Nat) (a : Int) (l0 l1 l2 l3 l4 l5 l6 l7 : Option mx_V) (S h : mx_H) (n : Int), mx_ex d 226 52 [l0, l1, l2, l3, l4, l5, l6, l7] [(2, a)] S h n = mx_gd (13 ≤ S a (-2) ∧ S a (-2) ≤ 13) d 226 55 [l0, l1, l2, l3, l4, l5, l6, l7] [(2, S a 16)] S h n) ∧
  (∀ (d : Nat) (x : Int) (l0 l1 l3 l4 l5 l6 l7 : Option mx_V) (v0 : mx_V) (S h : mx_H) (n : Int), mx_ex d 226 55 [l0, l1, some (0, x), l3, l4, l5, l6, l7] [v0] S h n = mx_ex d 226 56 [l0, l1, some (0, x), l3, l4, l5, l6, l7] [(0, x), v0] S h n) ∧
  (∀ (d : Nat) (i a : Int) (l0 l1 l2 l3 l4 l5 l6 l7 : Option mx_V) (S h : mx_H) (n : Int), mx_ex d 226 56 [l0, l1, l2, l3, l4, l5, l6, l7] [(0, i), (2, a)] S h n = mx_gd ((S a (-2) = 20 ∨ S a (-2) = 24) ∧ 0 ≤ i ∧ i < S a (-1)) d 226 57 [l0, l1, l2, l3, l4, l5, l6, l7] [(0, h a i)] S h n) ∧
  (∀ (d : Nat) (a : Int) (l0 l1 l2 l3 l4 l5 l6 l7 : Option mx_V) (S h : mx_H) (n : Int), mx_ex d 226 57 [l0, l1, l2, l3, l4, l5, l6, l7] [(0, a)] S h n = mx_br (a = 0) d 226 63 60 [l0, l1, l2, l3, l4, l5, l6, l7] [] S h n) ∧
  (∀ (d : Nat) (l0 l1 l2 l3 l4 l5 l6 l7 : Option mx_V) (S h : mx_H) (n : Int), mx_ex d 226 60 [l0, l1, l2, l3, l4, l5, l6, l7] [] S h n = mx_ex d 226 62 [l0, l1, l2, l3, l4, l5, l6, l7] [(0, (-13))] S h n) ∧
  (∀ (d : Nat) (x : Int) (l0 l1 l2 l3 l4 l5 l6 l7 : Option mx_V) (S h : mx_H) (n : Int), mx_ex d 226 62 [l0, l1, l2, l3, l4, l5, l6, l7] [(0, x)] S h n = some (some (0, x), S, h, n)) ∧
  (∀ (d : Nat) (x : Int) (l0 l1 l2 l4 l5 l6 l7 : Option mx_V) (S h : mx_H) (n : Int), mx_ex d 226 63 [l0, l1, l2, some (0, x), l4, l5, l6, l7] [] S h n = mx_ex d 226 64 [l0, l1, l2, some (0, x), l4, l5, l6, l7] [(0, x)] S h n) ∧
  (∀ (d : Nat) (a : Int) (l0 l1 l2 l3 l4 l5 l6 l7 : Option mx_V) (S h : mx_H) (n : Int), mx_ex d 226 64 [l0, l1, l2, l3, l4, l5, l6, l7] [(0, a)] S h n = mx_br (a < 0) d 226 80 67 [l0, l1, l2, l3, l4, l5, l6, l7] [] S h n) ∧
  (∀ (d : Nat) (x : Int) (l0 l1 l2 l4 l5 l6 l7 : Option mx_V) (S h : mx_H) (n : Int), mx_ex d 226 67 [l0, l1, l2, some (0, x), l4, l5, l6, l7] [] S h n = mx_ex d 226 68 [l0, l1, l2, some (0, x), l4, l5, l6, l7] [(0, x)] S h n) ∧
  (∀ (d : Nat) (x : Int) (l1 l2 l3 l4 l5 l6 l7 : Option mx_V) (v0 : mx_V) (S h : mx_H) (n : Int), mx_ex d 226 68 [some (2, x), l1, l2, l3, l4, l5, l6, l7] [v0] S h n = mx_ex d 226 69 [some (2, x), l1, l2, l3, l4, l5, l6, l7] [(2, x), v0] S h n) ∧
  (∀ (d : Nat) (a : Int) (l0 l1 l2 l3 l4 l5 l6 l7 : Option mx_V) (v1 : mx_V) (S h : mx_H) (n : Int), mx_ex d 226 69 [l0, l1, l2, l3, l4, l5, l6, l7] [(2, a), v1] S h n = mx_gd (13 ≤ S a (-2) ∧ S a (-2) ≤ 13) d 226 72 [l0, l1, l2, l3, l4, l5, l6, l7] [(2, S a 17), v1] S h n) ∧
  (∀ (d : Nat) (x : Int) (l0 l1 l3 l4 l5 l6 l7 : Option mx_V) (v0 v1 : mx_V) (S h : mx_H) (n : Int), mx_ex d 226 72 [l0, l1, some (0, x), l3, l4, l5, l6, l7] [v0, v1] S h n = mx_ex d 226 73 [l0, l1, some (0, x), l3, l4, l5, l6, l7] [(0, x), v0, v1] S h n) ∧
  (∀ (d : Nat) (i a : Int) (l0 l1 l2 l3 l4 l5 l6 l7 : Option mx_V) (v2 : mx_V) (S h : mx_H) (n : Int), mx_ex d 226 73 [l0, l1, l2, l3, l4, l5, l6, l7] [(0, i), (2, a), v2] S h n = mx_gd ((S a (-2) = 20 ∨ S a (-2) = 24) ∧ 0 ≤ i ∧ i < S a (-1)) d 226 74 [l0, l1, l2, l3, l4, l5, l6, l7] [(0, h a i), v2] S h n) ∧
  (∀ (d : Nat) (x : Int) (l0 l1 l2 l3 l5 l6 l7 : Option mx_V) (v0 v1 : mx_V) (S h : mx_H) (n : Int), mx_ex d 226 74 [l0, l1, l2, l3, some (0, x), l5, l6, l7] [v0, v1] S h n = mx_ex d 226 76 [l0, l1, l2, l3, some (0, x), l5, l6, l7] [(0, x), v0, v1] S h n) ∧
  (∀ (d : Nat) (b a : Int) (l0 l1 l2 l3 l4 l5 l6 l7 : Option mx_V) (v2 : mx_V) (S h : mx_H) (n : Int), mx_ex d 226 76 [l0, l1, l2, l3, l4, l5, l6, l7] [(0, b), (0, a), v2] S h n = mx_ex d 226 77 [l0, l1, l2, l3, l4, l5, l6, l7] [(0, mx_w (a - b)), v2] S h n) ∧
  (∀ (d : Nat) (b a : Int) (l0 l1 l2 l3 l4 l5 l6 l7 : Option mx_V) (S h : mx_H) (n : Int), mx_ex d 226 77 [l0, l1, l2, l3, l4, l5, l6, l7] [(0, b), (0, a)] S h n = mx_br (b < a) d 226 80 83 [l0, l1, l2, l3, l4, l5, l6, l7] [] S h n) ∧
  (∀ (d : Nat) (l0 l1 l2 l3 l4 l5 l6 l7 : Option mx_V) (S h : mx_H) (n : Int), mx_ex d 226 80 [l0, l1, l2, l3, l4, l5, l6, l7] [] S h n = mx_ex d 226 82 [l0, l1, l2, l3, l4, l5, l6, l7] [(0, (-12))] S h n) ∧
  (∀ (d : Nat) (x : Int) (l0 l1 l2 l3 l4 l5 l6 l7 : Option mx_V) (S h : mx_H) (n : Int), mx_ex d 226 82 [l0, l1, l2, l3, l4, l5, l6, l7] [(0, x)] S h n = some (some (0, x), S, h, n)) ∧
  (∀ (d : Nat) (l0 l1 l2 l3 l4 l5 l6 l7 : Option mx_V) (S h : mx_H) (n : Int), mx_ex d 226 83 [l0, l1, l2, l3, l4, l5, l6, l7] [] S h n = mx_ex d 226 84 [l0, l1, l2, l3, l4, l5, l6, l7] [(0, 0)] S h n) ∧
  (∀ (d : Nat) (x : Int) (l0 l1 l2 l3 l4 l5 l6 l7 : Option mx_V) (S h : mx_H) (n : Int), mx_ex d 226 84 [l0, l1, l2, l3, l4, l5, l6, l7] [(0, x)] S h n = mx_ex d 226 86 [l0, l1, l2, l3, mx_nl l4, some (0, x), l6, l7] [] S h n) ∧
  (∀ (d : Nat) (x : Int) (l0 l1 l2 l3 l5 l6 l7 : Option mx_V) (v0 : mx_V) (S h : mx_H) (n : Int), mx_ex d 226 88 [l0, l1, l2, l3, some (0, x), l5, l6, l7] [v0] S h n = mx_ex d 226 90 [l0, l1, l2, l3, some (0, x), l5, l6, l7] [(0, x), v0] S h n) ∧
  (∀ (d : Nat) (b a : Int) (l0 l1 l2 l3 l4 l5 l6 l7 : Option mx_V) (S h : mx_H) (n : Int), mx_ex d 226 90 [l0, l1, l2, l3, l4, l5, l6, l7] [(0, b), (0, a)] S h n = mx_br (a < b) d 226 93 160 [l0, l1, l2, l3, l4, l5, l6, l7] [] S h n) ∧
  (∀ (d : Nat) (x : Int) (l1 l2 l3 l4 l5 l6 l7 : Option mx_V) (S h : mx_H) (n : Int), mx_ex d 226 93 [some (2, x), l1, l2, l3, l4, l5, l6, l7] [] S h n = mx_ex d 226 94 [some (2, x), l1, l2, l3, l4, l5, l6, l7] [(2, x)] S h n) ∧
  (∀ (d : Nat) (a : Int) (l0 l1 l2 l3 l4 l5 l6 l7 : Option mx_V) (S h : mx_H) (n : Int), mx_ex d 226 94 [l0, l1, l2, l3, l4, l5, l6, l7] [(2, a)] S h n = mx_gd (13 ≤ S a (-2) ∧ S a (-2) ≤ 13) d 226 97 [l0, l1, l2, l3, l4, l5, l6, l7] [(2, S a 18)] S h n) ∧
  (∀ (d : Nat) (l0 l1 l2 l3 l4 l5 l6 l7 : Option mx_V) (v0 : mx_V) (S h : mx_H) (n : Int), mx_ex d 226 97 [l0, l1, l2, l3, l4, l5, l6, l7] [v0] S h n = mx_ex d 226 99 [l0, l1, l2, l3, l4, l5, l6, l7] [(0, 40), v0] S h n) ∧
  (∀ (d : Nat) (x : Int) (l0 l1 l3 l4 l5 l6 l7 : Option mx_V) (v0 v1 : mx_V) (S h : mx_H) (n : Int), mx_ex d 226 99 [l0, l1, some (0, x), l3, l4, l5, l6, l7] [v0, v1] S h n = mx_ex d 226 100 [l0, l1, some (0, x), l3, l4, l5, l6, l7] [(0, x), v0, v1] S h n) ∧
  (∀ (d : Nat) (b a : Int) (l0 l1 l2 l3 l4 l5 l6 l7 : Option mx_V) (v2 : mx_V) (S h : mx_H) (n : Int), mx_ex d 226 100 [l0, l1, l2, l3, l4, l5, l6, l7] [(0, b), (0, a), v2] S h n = mx_ex d 226 101 [l0, l1, l2, l3, l4, l5, l6, l7] [(0, mx_w (a * b)), v2] S h n) ∧
  (∀ (d : Nat) (x : Int) (l0 l1 l2 l4 l5 l6 l7 : Option mx_V) (v0 v1 : mx_V) (S h : mx_H) (n : Int), mx_ex d 226 101 [l0, l1, l2, some (0, x), l4, l5, l6, l7] [v0, v1] S h n = mx_ex d 226 102 [l0, l1, l2, some (0, x), l4, l5, l6, l7] [(0, x), v0, v1] S h n) ∧
  (∀ (d : Nat) (b a : Int) (l0 l1 l2 l3 l4 l5 l6 l7 : Option mx_V) (v2 : mx_V) (S h : mx_H) (n : Int), mx_ex d 226 102 [l0, l1, l2, l3, l4, l5, l6, l7] [(0, b), (0, a), v2] S h n = mx_ex d 226 103 [l0, l1, l2, l3, l4, l5, l6, l7] [(0, mx_w (a + b)), v2] S h n) ∧
  (∀ (d : Nat) (x : Int) (l0 l1 l2 l3 l4 l6 l7 : Option mx_V) (v0 v1 : mx_V) (S h : mx_H) (n : Int), mx_ex d 226 103 [l0, l1, l2, l3, l4, some (0, x), l6, l7] [v0, v1] S h n = mx_ex d 226 105 [l0, l1, l2, l3, l4, some (0, x), l6, l7] [(0, x), v0, v1] S h n) ∧
  (∀ (d : Nat) (b a : Int) (l0 l1 l2 l3 l4 l5 l6 l7 : Option mx_V) (v2 : mx_V) (S h : mx_H) (n : Int), mx_ex d 226 105 [l0, l1, l2, l3, l4, l5, l6, l7] [(0, b), (0, a), v2] S h n = mx_ex d 226 106 [l0, l1, l2, l3, l4, l5, l6, l7] [(0, mx_w (a + b)), v2] S h n) ∧
  (∀ (d : Nat) (i a : Int) (l0 l1 l2 l3 l4 l5 l6 l7 : Option mx_V) (S h : mx_H) (n : Int), mx_ex d 226 106 [l0, l1, l2, l3, l4, l5, l6, l7] [(0, i), (2, a)] S h n = mx_gd (S a (-2) = 21 ∧ 0 ≤ i ∧ i < S a (-1)) d 226 107 [l0, l1, l2, l3, l4, l5, l6, l7] [(1, h a i)] S h n) ∧
  (∀ (d : Nat) (x : Int) (l0 l1 l2 l3 l4 l5 l6 l7 : Option mx_V) (S h : mx_H) (n : Int), mx_ex d 226 107 [l0, l1, l2, l3, l4, l5, l6, l7] [(1, x)] S h n = mx_ex d 226 109 [l0, l1, l2, l3, l4, mx_nl l5, some (1, x), none] [] S h n) ∧
  (∀ (d : Nat) (x : Int) (l1 l2 l3 l4 l5 l6 l7 : Option mx_V) (S h : mx_H) (n : Int), mx_ex d 226 109 [some (2, x), l1, l2, l3, l4, l5, l6, l7] [] S h n = mx_ex d 226 110 [some (2, x), l1, l2, l3, l4, l5, l6, l7] [(2, x)] S h n) ∧
  (∀ (d : Nat) (a : Int) (l0 l1 l2 l3 l4 l5 l6 l7 : Option mx_V) (S h : mx_H) (n : Int), mx_ex d 226 110 [l0, l1, l2, l3, l4, l5, l6, l7] [(2, a)] S h n = mx_gd (13 ≤ S a (-2) ∧ S a (-2) ≤ 13) d 226 113 [l0, l1, l2, l3, l4, l5, l6, l7] [(2, S a 0)] S h n) ∧
  (∀ (d : Nat) (l0 l1 l2 l3 l4 l5 l6 l7 : Option mx_V) (v0 : mx_V) (S h : mx_H) (n : Int), mx_ex d 226 113 [l0, l1, l2, l3, l4, l5, l6, l7] [v0] S h n = mx_ex d 226 115 [l0, l1, l2, l3, l4, l5, l6, l7] [(0, 9), v0] S h n) ∧
  (∀ (d : Nat) (l0 l1 l2 l3 l4 l5 l6 l7 : Option mx_V) (v0 v1 : mx_V) (S h : mx_H) (n : Int), mx_ex d 226 115 [l0, l1, l2, l3, l4, l5, l6, l7] [v0, v1] S h n = mx_ex d 226 117 [l0, l1, l2, l3, l4, l5, l6, l7] [(0, 10), v0, v1] S h n) ∧
  (∀ (d : Nat) (x : Int) (l0 l2 l3 l4 l5 l6 l7 : Option mx_V) (v0 v1 v2 : mx_V) (S h : mx_H) (n : Int), mx_ex d 226 117 [l0, some (0, x), l2, l3, l4, l5, l6, l7] [v0, v1, v2] S h n = mx_ex d 226 118 [l0, some (0, x), l2, l3, l4, l5, l6, l7] [(0, x), v0, v1, v2] S h n) ∧
  (∀ (d : Nat) (b a : Int) (l0 l1 l2 l3 l4 l5 l6 l7 : Option mx_V) (v2 v3 : mx_V) (S h : mx_H) (n : Int), mx_ex d 226 118 [l0, l1, l2, l3, l4, l5, l6, l7] [(0, b), (0, a), v2, v3] S h n = mx_ex d 226 119 [l0, l1, l2, l3, l4, l5, l6, l7] [(0, mx_w (a * b)), v2, v3] S h n) ∧
  (∀ (d : Nat) (b a : Int) (l0 l1 l2 l3 l4 l5 l6 l7 : Option mx_V) (v2 : mx_V) (S h : mx_H) (n : Int), mx_ex d 226 119 [l0, l1, l2, l3, l4, l5, l6, l7] [(0, b), (0, a), v2] S h n = mx_ex d 226 120 [l0, l1, l2, l3, l4, l5, l6, l7] [(0, mx_w (a + b)), v2] S h n) ∧
  (∀ (d : Nat) (l0 l1 l2 l3 l4 l5 l6 l7 : Option mx_V) (v0 v1 : mx_V) (S h : mx_H) (n : Int), mx_ex d 226 120 [l0, l1, l2, l3, l4, l5, l6, l7] [v0, v1] S h n = mx_ex d 226 121 [l0, l1, l2, l3, l4, l5, l6, l7] [(0, 4), v0, v1] S h n) :=
  ⟨by intros; exact rfl,
   by intros; exact eq_ld rfl rfl,
   by intros; exact eq_ld rfl rfl,
   by intros; exact eq_cv rfl (Nat.le_of_ble_eq_true rfl) rfl rfl rfl (Nat.le_of_ble_eq_true rfl),
   by intros; exact eq_if0 rfl,
   by intros; exact eq_ld rfl rfl,
   by intros; exact eq_cs rfl (Nat.le_of_ble_eq_true rfl) rfl rfl rfl (Nat.le_of_ble_eq_true rfl),
   by intros; exact eq_if0 rfl,
   by intros; exact eq_ld rfl rfl,
   by intros; exact eq_push rfl,
   by intros; exact eq_push rfl,
   by intros; exact eq_cs rfl (Nat.le_of_ble_eq_true rfl) rfl rfl rfl (Nat.le_of_ble_eq_true rfl),
   by intros; exact eq_if0 rfl,
   by intros; exact eq_ld rfl rfl,
   by intros; exact eq_ld rfl rfl,
   by intros; exact eq_ld rfl rfl,
   by intros; exact eq_push rfl,
   by intros; exact eq_cv rfl (Nat.le_of_ble_eq_true rfl) rfl rfl rfl (Nat.le_of_ble_eq_true rfl),
   by intros; exact eq_ic5 rfl,
   by intros; exact eq_push rfl,
   by intros; exact eq_ret rfl,
   by intros; exact eq_ld rfl rfl,
   by intros; exact eq_gr rfl,
   by intros; exact eq_ld rfl rfl,
   by intros; exact eq_iald rfl,
   by intros; exact eq_if3 rfl,
   by intros; exact eq_push rfl,
   by intros; exact eq_ret rfl,
   by intros; exact eq_ld rfl rfl,
   by intros; exact eq_gr rfl,
   by intros; exact eq_ld rfl rfl,
   by intros; exact eq_iald rfl,
   by intros; exact eq_if0 rfl,
   by intros; exact eq_push rfl,
   by intros; exact eq_ret rfl,
   by intros; exact eq_ld rfl rfl,
   by intros; exact eq_if2 rfl,
   by intros; exact eq_ld rfl rfl,
   by intros; exact eq_ld rfl rfl,
   by intros; exact eq_gr rfl,
   by intros; exact eq_ld rfl rfl,
   by intros; exact eq_iald rfl,
   by intros; exact eq_ld rfl rfl,
   by intros; exact eq_i2 (o := mx_sub) rfl,
   by intros; exact eq_ic5 rfl,
   by intros; exact eq_push rfl,
   by intros; exact eq_ret rfl,
   by intros; exact eq_push rfl,
   by intros; exact eq_st rfl (by decide) (Nat.le_of_ble_eq_true rfl) rfl,
   by intros; exact eq_ld rfl rfl,
   by intros; exact eq_ic3 rfl,
   by intros; exact eq_ld rfl rfl,
   by intros; exact eq_gr rfl,
   by intros; exact eq_push rfl,
   by intros; exact eq_ld rfl rfl,
   by intros; exact eq_i2 (o := mx_mul) rfl,
   by intros; exact eq_ld rfl rfl,
   by intros; exact eq_i2 (o := mx_add) rfl,
   by intros; exact eq_ld rfl rfl,
   by intros; exact eq_i2 (o := mx_add) rfl,
   by intros; exact eq_lald rfl,
   by intros; exact eq_st2 rfl (Nat.le_of_ble_eq_true rfl) rfl,
   by intros; exact eq_ld rfl rfl,
   by intros; exact eq_gr rfl,
   by intros; exact eq_push rfl,
   by intros; exact eq_push rfl,
   by intros; exact eq_ld rfl rfl,
   by intros; exact eq_i2 (o := mx_mul) rfl,
   by intros; exact eq_i2 (o := mx_add) rfl,
   by intros; exact eq_push rfl⟩
theorem rw_X12_signs_1 :
  (∀ (d : Nat) (b a : Int) (l0 l1 l2 l3 l4 l5 l6 l7 : Option mx_V) (v2 : mx_V) (S h : mx_H) (n : Int), mx_ex d 226 121 [l0, l1, l2, l3, l4, l5, l6, l7] [(0, b), (0, a), v2] S h n = mx_ex d 226 122 [l0, l1, l2, l3, l4, l5, l6, l7] [(0, mx_w (a + b)), v2] S h n) ∧
  (∀ (d : Nat) (x : Int) (l0 l1 l2 l3 l4 l6 l7 : Option mx_V) (v0 v1 : mx_V) (S h : mx_H) (n : Int), mx_ex d 226 122 [l0, l1, l2, l3, l4, some (0, x), l6, l7] [v0, v1] S h n = mx_ex d 226 124 [l0, l1, l2, l3, l4, some (0, x), l6, l7] [(0, x), v0, v1] S h n) ∧
  (∀ (d : Nat) (b a : Int) (l0 l1 l2 l3 l4 l5 l6 l7 : Option mx_V) (v2 : mx_V) (S h : mx_H) (n : Int), mx_ex d 226 124 [l0, l1, l2, l3, l4, l5, l6, l7] [(0, b), (0, a), v2] S h n = mx_ex d 226 125 [l0, l1, l2, l3, l4, l5, l6, l7] [(0, mx_w (a + b)), v2] S h n) ∧
  (∀ (d : Nat) (x : Int) (l0 l1 l2 l3 l4 l5 l7 : Option mx_V) (v0 v1 : mx_V) (S h : mx_H) (n : Int), mx_ex d 226 125 [l0, l1, l2, l3, l4, l5, some (1, x), l7] [v0, v1] S h n = mx_ex d 226 127 [l0, l1, l2, l3, l4, l5, some (1, x), l7] [(1, x), v0, v1] S h n) ∧
  (∀ (d : Nat) (l0 l1 l2 l3 l4 l5 l6 l7 : Option mx_V) (v0 v1 v2 : mx_V) (S h : mx_H) (n : Int), mx_ex d 226 127 [l0, l1, l2, l3, l4, l5, l6, l7] [v0, v1, v2] S h n = mx_ex d 226 128 [l0, l1, l2, l3, l4, l5, l6, l7] [(1, 0), v0, v1, v2] S h n) ∧
  (∀ (d : Nat) (b a : Int) (l0 l1 l2 l3 l4 l5 l6 l7 : Option mx_V) (v2 v3 : mx_V) (S h : mx_H) (n : Int), mx_ex d 226 128 [l0, l1, l2, l3, l4, l5, l6, l7] [(1, b), (1, a), v2, v3] S h n = mx_ex d 226 129 [l0, l1, l2, l3, l4, l5, l6, l7] [(0, mx_cmp a b), v2, v3] S h n) ∧
  (∀ (d : Nat) (a : Int) (l0 l1 l2 l3 l4 l5 l6 l7 : Option mx_V) (v1 v2 : mx_V) (S h : mx_H) (n : Int), mx_ex d 226 129 [l0, l1, l2, l3, l4, l5, l6, l7] [(0, a), v1, v2] S h n = mx_br (a < 0) d 226 132 136 [l0, l1, l2, l3, l4, l5, l6, l7] [v1, v2] S h n) ∧
  (∀ (d : Nat) (l0 l1 l2 l3 l4 l5 l6 l7 : Option mx_V) (v0 v1 : mx_V) (S h : mx_H) (n : Int), mx_ex d 226 132 [l0, l1, l2, l3, l4, l5, l6, l7] [v0, v1] S h n = mx_ex d 226 133 [l0, l1, l2, l3, l4, l5, l6, l7] [(0, 0), v0, v1] S h n) ∧
  (∀ (d : Nat) (l0 l1 l2 l3 l4 l5 l6 l7 : Option mx_V) (v0 v1 v2 : mx_V) (S h : mx_H) (n : Int), mx_ex d 226 133 [l0, l1, l2, l3, l4, l5, l6, l7] [v0, v1, v2] S h n = mx_ex d 226 153 [l0, l1, l2, l3, l4, l5, l6, l7] [v0, v1, v2] S h n) ∧
  (∀ (d : Nat) (x : Int) (l0 l1 l2 l3 l4 l5 l7 : Option mx_V) (v0 v1 : mx_V) (S h : mx_H) (n : Int), mx_ex d 226 136 [l0, l1, l2, l3, l4, l5, some (1, x), l7] [v0, v1] S h n = mx_ex d 226 138 [l0, l1, l2, l3, l4, l5, some (1, x), l7] [(1, x), v0, v1] S h n) ∧
  (∀ (d : Nat) (l0 l1 l2 l3 l4 l5 l6 l7 : Option mx_V) (v0 v1 v2 : mx_V) (S h : mx_H) (n : Int), mx_ex d 226 138 [l0, l1, l2, l3, l4, l5, l6, l7] [v0, v1, v2] S h n = mx_ex d 226 141 [l0, l1, l2, l3, l4, l5, l6, l7] [(1, 15), v0, v1, v2] S h n) ∧
  (∀ (d : Nat) (b a : Int) (l0 l1 l2 l3 l4 l5 l6 l7 : Option mx_V) (v2 v3 : mx_V) (S h : mx_H) (n : Int), mx_ex d 226 141 [l0, l1, l2, l3, l4, l5, l6, l7] [(1, b), (1, a), v2, v3] S h n = mx_ex d 226 142 [l0, l1, l2, l3, l4, l5, l6, l7] [(0, mx_cmp a b), v2, v3] S h n) ∧
  (∀ (d : Nat) (a : Int) (l0 l1 l2 l3 l4 l5 l6 l7 : Option mx_V) (v1 v2 : mx_V) (S h : mx_H) (n : Int), mx_ex d 226 142 [l0, l1, l2, l3, l4, l5, l6, l7] [(0, a), v1, v2] S h n = mx_br (0 < a) d 226 145 150 [l0, l1, l2, l3, l4, l5, l6, l7] [v1, v2] S h n) ∧
  (∀ (d : Nat) (l0 l1 l2 l3 l4 l5 l6 l7 : Option mx_V) (v0 v1 : mx_V) (S h : mx_H) (n : Int), mx_ex d 226 145 [l0, l1, l2, l3, l4, l5, l6, l7] [v0, v1] S h n = mx_ex d 226 147 [l0, l1, l2, l3, l4, l5, l6, l7] [(0, 15), v0, v1] S h n) ∧
  (∀ (d : Nat) (l0 l1 l2 l3 l4 l5 l6 l7 : Option mx_V) (v0 v1 v2 : mx_V) (S h : mx_H) (n : Int), mx_ex d 226 147 [l0, l1, l2, l3, l4, l5, l6, l7] [v0, v1, v2] S h n = mx_ex d 226 153 [l0, l1, l2, l3, l4, l5, l6, l7] [v0, v1, v2] S h n) ∧
  (∀ (d : Nat) (x : Int) (l0 l1 l2 l3 l4 l5 l7 : Option mx_V) (v0 v1 : mx_V) (S h : mx_H) (n : Int), mx_ex d 226 150 [l0, l1, l2, l3, l4, l5, some (1, x), l7] [v0, v1] S h n = mx_ex d 226 152 [l0, l1, l2, l3, l4, l5, some (1, x), l7] [(1, x), v0, v1] S h n) ∧
  (∀ (d : Nat) (a : Int) (l0 l1 l2 l3 l4 l5 l6 l7 : Option mx_V) (v1 v2 : mx_V) (S h : mx_H) (n : Int), mx_ex d 226 152 [l0, l1, l2, l3, l4, l5, l6, l7] [(1, a), v1, v2] S h n = mx_ex d 226 153 [l0, l1, l2, l3, l4, l5, l6, l7] [(0, mx_w a), v1, v2] S h n) ∧
  (∀ (d : Nat) (v i a : Int) (l0 l1 l2 l3 l4 l5 l6 l7 : Option mx_V) (S h : mx_H) (n : Int), mx_ex d 226 153 [l0, l1, l2, l3, l4, l5, l6, l7] [(0, v), (0, i), (2, a)] S h n = mx_gd (S a (-2) = 20 ∧ 0 ≤ i ∧ i < S a (-1)) d 226 154 [l0, l1, l2, l3, l4, l5, l6, l7] [] S (mx_u h a i v) n) ∧
  (∀ (d : Nat) (x : Int) (l0 l1 l2 l3 l4 l6 l7 : Option mx_V) (S h : mx_H) (n : Int), mx_ex d 226 154 [l0, l1, l2, l3, l4, some (0, x), l6, l7] [] S h n = mx_ex d 226 157 [l0, l1, l2, l3, mx_nl l4, some (0, mx_w (x + 1)), l6, l7] [] S h n) ∧
  (∀ (d : Nat) (l0 l1 l2 l3 l4 l5 l6 l7 : Option mx_V) (S h : mx_H) (n : Int), mx_ex d 226 157 [l0, l1, l2, l3, l4, l5, l6, l7] [] S h n = mx_ex d 226 86 [l0, l1, l2, l3, l4, l5, l6, l7] [] S h n) ∧
  (∀ (d : Nat) (x : Int) (l0 l1 l2 l3 l5 l6 l7 : Option mx_V) (S h : mx_H) (n : Int), mx_ex d 226 160 [l0, l1, l2, l3, some (0, x), l5, l6, l7] [] S h n = mx_ex d 226 162 [l0, l1, l2, l3, some (0, x), l5, l6, l7] [(0, x)] S h n) ∧
  (∀ (d : Nat) (x : Int) (l0 l1 l2 l3 l4 l5 l6 l7 : Option mx_V) (S h : mx_H) (n : Int), mx_ex d 226 162 [l0, l1, l2, l3, l4, l5, l6, l7] [(0, x)] S h n = some (some (0, x), S, h, n)) :=
  ⟨by intros; exact eq_i2 (o := mx_add) rfl,
   by intros; exact eq_ld rfl rfl,
   by intros; exact eq_i2 (o := mx_add) rfl,
   by intros; exact eq_ld rfl rfl,
   by intros; exact eq_push rfl,
   by intros; exact eq_lcmp rfl,
   by intros; exact eq_if3 rfl,
   by intros; exact eq_push rfl,
   by intros; exact eq_go rfl,
   by intros; exact eq_ld rfl rfl,
   by intros; exact eq_push rfl,
   by intros; exact eq_lcmp rfl,
   by intros; exact eq_if5 rfl,
   by intros; exact eq_push rfl,
   by intros; exact eq_go rfl,
   by intros; exact eq_ld rfl rfl,
   by intros; exact eq_l2i rfl,
   by intros; exact eq_iast rfl,
   by intros; exact eq_inc rfl rfl rfl,
   by intros; exact eq_go rfl,
   by intros; exact eq_ld rfl rfl,
   by intros; exact eq_ret rfl⟩
theorem rh_X12_sheet_64 : ∀ (d : Nat) (x : Int) (l0 l1 l2 l3 : Option mx_V) (S h : mx_H) (n : Int), mx_ex d 227 64 [l0, l1, l2, l3, some (0, x)] [] S h n = mx_ex d 227 66 [l0, l1, l2, l3, some (0, x)] [(0, x)] S h n := by intros; exact eq_ld rfl rfl
theorem rw_X12_sheet :
  (∀ (d : Nat) (a0 a1 a2 a3 : Int) (S h : mx_H) (n : Int), mx_M d 227 [(2, a0), (0, a1), (0, a2), (0, a3)] S h n = mx_ex d 227 0 [some (2, a0), some (0, a1), some (0, a2), some (0, a3), none] [] S h n) ∧
  (∀ (d : Nat) (x : Int) (l0 l2 l3 l4 : Option mx_V) (S h : mx_H) (n : Int), mx_ex d 227 0 [l0, some (0, x), l2, l3, l4] [] S h n = mx_ex d 227 1 [l0, some (0, x), l2, l3, l4] [(0, x)] S h n) ∧
  (∀ (d : Nat) (x0 : Int) (l0 l1 l2 l3 l4 : Option mx_V) (S h : mx_H) (n : Int), mx_ex (d + 1) 227 1 [l0, l1, l2, l3, l4] [(0, x0)] S h n = mx_rt (mx_M d 225 [(0, x0)] S h n) (d + 1) 227 4 [l0, l1, l2, l3, l4] []) ∧
  (∀ (d : Nat) (a : Int) (l0 l1 l2 l3 l4 : Option mx_V) (S h : mx_H) (n : Int), mx_ex d 227 4 [l0, l1, l2, l3, l4] [(0, a)] S h n = mx_br (a = 0) d 227 26 7 [l0, l1, l2, l3, l4] [] S h n) ∧
  (∀ (d : Nat) (x : Int) (l0 l1 l3 l4 : Option mx_V) (S h : mx_H) (n : Int), mx_ex d 227 7 [l0, l1, some (0, x), l3, l4] [] S h n = mx_ex d 227 8 [l0, l1, some (0, x), l3, l4] [(0, x)] S h n) ∧
  (∀ (d : Nat) (l0 l1 l2 l3 l4 : Option mx_V) (v0 : mx_V) (S h : mx_H) (n : Int), mx_ex d 227 8 [l0, l1, l2, l3, l4] [v0] S h n = mx_ex d 227 9 [l0, l1, l2, l3, l4] [(0, (-1)), v0] S h n) ∧
  (∀ (d : Nat) (l0 l1 l2 l3 l4 : Option mx_V) (v0 v1 : mx_V) (S h : mx_H) (n : Int), mx_ex d 227 9 [l0, l1, l2, l3, l4] [v0, v1] S h n = mx_ex d 227 10 [l0, l1, l2, l3, l4] [(0, 3), v0, v1] S h n) ∧
  (∀ (d : Nat) (x0 x1 x2 : Int) (l0 l1 l2 l3 l4 : Option mx_V) (S h : mx_H) (n : Int), mx_ex (d + 1) 227 10 [l0, l1, l2, l3, l4] [(0, x0), (0, x1), (0, x2)] S h n = mx_rt (mx_M d 157 [(0, x2), (0, x1), (0, x0)] S h n) (d + 1) 227 13 [l0, l1, l2, l3, l4] []) ∧
  (∀ (d : Nat) (a : Int) (l0 l1 l2 l3 l4 : Option mx_V) (S h : mx_H) (n : Int), mx_ex d 227 13 [l0, l1, l2, l3, l4] [(0, a)] S h n = mx_br (a = 0) d 227 26 16 [l0, l1, l2, l3, l4] [] S h n) ∧
  (∀ (d : Nat) (x : Int) (l0 l1 l3 l4 : Option mx_V) (S h : mx_H) (n : Int), mx_ex d 227 16 [l0, l1, some (0, x), l3, l4] [] S h n = mx_ex d 227 17 [l0, l1, some (0, x), l3, l4] [(0, x)] S h n) ∧
  (∀ (d : Nat) (a : Int) (l0 l1 l2 l3 l4 : Option mx_V) (S h : mx_H) (n : Int), mx_ex d 227 17 [l0, l1, l2, l3, l4] [(0, a)] S h n = mx_br (a < 0) d 227 28 20 [l0, l1, l2, l3, l4] [] S h n) ∧
  (∀ (d : Nat) (x : Int) (l0 l1 l2 l4 : Option mx_V) (S h : mx_H) (n : Int), mx_ex d 227 20 [l0, l1, l2, some (0, x), l4] [] S h n = mx_ex d 227 21 [l0, l1, l2, some (0, x), l4] [(0, x)] S h n) ∧
  (∀ (d : Nat) (l0 l1 l2 l3 l4 : Option mx_V) (v0 : mx_V) (S h : mx_H) (n : Int), mx_ex d 227 21 [l0, l1, l2, l3, l4] [v0] S h n = mx_ex d 227 23 [l0, l1, l2, l3, l4] [(0, 40), v0] S h n) ∧
  (∀ (d : Nat) (b a : Int) (l0 l1 l2 l3 l4 : Option mx_V) (S h : mx_H) (n : Int), mx_ex d 227 23 [l0, l1, l2, l3, l4] [(0, b), (0, a)] S h n = mx_br (b < a) d 227 26 28 [l0, l1, l2, l3, l4] [] S h n) ∧
  (∀ (d : Nat) (l0 l1 l2 l3 l4 : Option mx_V) (S h : mx_H) (n : Int), mx_ex d 227 26 [l0, l1, l2, l3, l4] [] S h n = mx_ex d 227 27 [l0, l1, l2, l3, l4] [(0, (-1))] S h n) ∧
  (∀ (d : Nat) (x : Int) (l0 l1 l2 l3 l4 : Option mx_V) (S h : mx_H) (n : Int), mx_ex d 227 27 [l0, l1, l2, l3, l4] [(0, x)] S h n = some (some (0, x), S, h, n)) ∧
  (∀ (d : Nat) (x : Int) (l0 l1 l3 l4 : Option mx_V) (S h : mx_H) (n : Int), mx_ex d 227 28 [l0, l1, some (0, x), l3, l4] [] S h n = mx_ex d 227 29 [l0, l1, some (0, x), l3, l4] [(0, x)] S h n) ∧
  (∀ (d : Nat) (a : Int) (l0 l1 l2 l3 l4 : Option mx_V) (S h : mx_H) (n : Int), mx_ex d 227 29 [l0, l1, l2, l3, l4] [(0, a)] S h n = mx_br (a < 0) d 227 39 32 [l0, l1, l2, l3, l4] [] S h n) ∧
  (∀ (d : Nat) (x : Int) (l0 l1 l2 l4 : Option mx_V) (S h : mx_H) (n : Int), mx_ex d 227 32 [l0, l1, l2, some (0, x), l4] [] S h n = mx_ex d 227 33 [l0, l1, l2, some (0, x), l4] [(0, x)] S h n) ∧
  (∀ (d : Nat) (a : Int) (l0 l1 l2 l3 l4 : Option mx_V) (S h : mx_H) (n : Int), mx_ex d 227 33 [l0, l1, l2, l3, l4] [(0, a)] S h n = mx_br (a < 0) d 227 36 39 [l0, l1, l2, l3, l4] [] S h n) ∧
  (∀ (d : Nat) (l0 l1 l2 l3 l4 : Option mx_V) (S h : mx_H) (n : Int), mx_ex d 227 36 [l0, l1, l2, l3, l4] [] S h n = mx_ex d 227 38 [l0, l1, l2, l3, l4] [(0, (-14))] S h n) ∧
  (∀ (d : Nat) (x : Int) (l0 l1 l2 l3 l4 : Option mx_V) (S h : mx_H) (n : Int), mx_ex d 227 38 [l0, l1, l2, l3, l4] [(0, x)] S h n = some (some (0, x), S, h, n)) ∧
  (∀ (d : Nat) (x : Int) (l1 l2 l3 l4 : Option mx_V) (S h : mx_H) (n : Int), mx_ex d 227 39 [some (2, x), l1, l2, l3, l4] [] S h n = mx_ex d 227 40 [some (2, x), l1, l2, l3, l4] [(2, x)] S h n) ∧
  (∀ (d : Nat) (a : Int) (l0 l1 l2 l3 l4 : Option mx_V) (S h : mx_H) (n : Int), mx_ex d 227 40 [l0, l1, l2, l3, l4] [(2, a)] S h n = mx_gd (13 ≤ S a (-2) ∧ S a (-2) ≤ 13) d 227 43 [l0, l1, l2, l3, l4] [(2, S a 16)] S h n) ∧
  (∀ (d : Nat) (x : Int) (l0 l2 l3 l4 : Option mx_V) (v0 : mx_V) (S h : mx_H) (n : Int), mx_ex d 227 43 [l0, some (0, x), l2, l3, l4] [v0] S h n = mx_ex d 227 44 [l0, some (0, x), l2, l3, l4] [(0, x), v0] S h n) ∧
  (∀ (d : Nat) (x : Int) (l0 l1 l3 l4 : Option mx_V) (v0 v1 : mx_V) (S h : mx_H) (n : Int), mx_ex d 227 44 [l0, l1, some (0, x), l3, l4] [v0, v1] S h n = mx_ex d 227 45 [l0, l1, some (0, x), l3, l4] [(0, x), v0, v1] S h n) ∧
  (∀ (d : Nat) (v i a : Int) (l0 l1 l2 l3 l4 : Option mx_V) (S h : mx_H) (n : Int), mx_ex d 227 45 [l0, l1, l2, l3, l4] [(0, v), (0, i), (2, a)] S h n = mx_gd (S a (-2) = 20 ∧ 0 ≤ i ∧ i < S a (-1)) d 227 46 [l0, l1, l2, l3, l4] [] S (mx_u h a i v) n) ∧
  (∀ (d : Nat) (x : Int) (l1 l2 l3 l4 : Option mx_V) (S h : mx_H) (n : Int), mx_ex d 227 46 [some (2, x), l1, l2, l3, l4] [] S h n = mx_ex d 227 47 [some (2, x), l1, l2, l3, l4] [(2, x)] S h n) ∧
  (∀ (d : Nat) (a : Int) (l0 l1 l2 l3 l4 : Option mx_V) (S h : mx_H) (n : Int), mx_ex d 227 47 [l0, l1, l2, l3, l4] [(2, a)] S h n = mx_gd (13 ≤ S a (-2) ∧ S a (-2) ≤ 13) d 227 50 [l0, l1, l2, l3, l4] [(2, S a 17)] S h n) ∧
  (∀ (d : Nat) (x : Int) (l0 l2 l3 l4 : Option mx_V) (v0 : mx_V) (S h : mx_H) (n : Int), mx_ex d 227 50 [l0, some (0, x), l2, l3, l4] [v0] S h n = mx_ex d 227 51 [l0, some (0, x), l2, l3, l4] [(0, x), v0] S h n) ∧
  (∀ (d : Nat) (x : Int) (l0 l1 l3 l4 : Option mx_V) (v0 v1 : mx_V) (S h : mx_H) (n : Int), mx_ex d 227 51 [l0, l1, some (0, x), l3, l4] [v0, v1] S h n = mx_ex d 227 52 [l0, l1, some (0, x), l3, l4] [(0, x), v0, v1] S h n) ∧
  (∀ (d : Nat) (a : Int) (l0 l1 l2 l3 l4 : Option mx_V) (v1 v2 : mx_V) (S h : mx_H) (n : Int), mx_ex d 227 52 [l0, l1, l2, l3, l4] [(0, a), v1, v2] S h n = mx_br (a < 0) d 227 55 59 [l0, l1, l2, l3, l4] [v1, v2] S h n) ∧
  (∀ (d : Nat) (l0 l1 l2 l3 l4 : Option mx_V) (v0 v1 : mx_V) (S h : mx_H) (n : Int), mx_ex d 227 55 [l0, l1, l2, l3, l4] [v0, v1] S h n = mx_ex d 227 56 [l0, l1, l2, l3, l4] [(0, 0), v0, v1] S h n) ∧
  (∀ (d : Nat) (l0 l1 l2 l3 l4 : Option mx_V) (v0 v1 v2 : mx_V) (S h : mx_H) (n : Int), mx_ex d 227 56 [l0, l1, l2, l3, l4] [v0, v1, v2] S h n = mx_ex d 227 60 [l0, l1, l2, l3, l4] [v0, v1, v2] S h n) ∧
  (∀ (d : Nat) (x : Int) (l0 l1 l2 l4 : Option mx_V) (v0 v1 : mx_V) (S h : mx_H) (n : Int), mx_ex d 227 59 [l0, l1, l2, some (0, x), l4] [v0, v1] S h n = mx_ex d 227 60 [l0, l1, l2, some (0, x), l4] [(0, x), v0, v1] S h n) ∧
  (∀ (d : Nat) (v i a : Int) (l0 l1 l2 l3 l4 : Option mx_V) (S h : mx_H) (n : Int), mx_ex d 227 60 [l0, l1, l2, l3, l4] [(0, v), (0, i), (2, a)] S h n = mx_gd (S a (-2) = 20 ∧ 0 ≤ i ∧ i < S a (-1)) d 227 61 [l0, l1, l2, l3, l4] [] S (mx_u h a i v) n) ∧
  (∀ (d : Nat) (l0 l1 l2 l3 l4 : Option mx_V) (S h : mx_H) (n : Int), mx_ex d 227 61 [l0, l1, l2, l3, l4] [] S h n = mx_ex d 227 62 [l0, l1, l2, l3, l4] [(0, 0)] S h n) ∧
  (∀ (d : Nat) (x : Int) (l0 l1 l2 l3 l4 : Option mx_V) (S h : mx_H) (n : Int), mx_ex d 227 62 [l0, l1, l2, l3, l4] [(0, x)] S h n = mx_ex d 227 64 [l0, l1, l2, mx_nl l3, some (0, x)] [] S h n) ∧
  (∀ (d : Nat) (l0 l1 l2 l3 l4 : Option mx_V) (v0 : mx_V) (S h : mx_H) (n : Int), mx_ex d 227 66 [l0, l1, l2, l3, l4] [v0] S h n = mx_ex d 227 68 [l0, l1, l2, l3, l4] [(0, 40), v0] S h n) ∧
  (∀ (d : Nat) (b a : Int) (l0 l1 l2 l3 l4 : Option mx_V) (S h : mx_H) (n : Int), mx_ex d 227 68 [l0, l1, l2, l3, l4] [(0, b), (0, a)] S h n = mx_br (a < b) d 227 71 90 [l0, l1, l2, l3, l4] [] S h n) ∧
  (∀ (d : Nat) (x : Int) (l1 l2 l3 l4 : Option mx_V) (S h : mx_H) (n : Int), mx_ex d 227 71 [some (2, x), l1, l2, l3, l4] [] S h n = mx_ex d 227 72 [some (2, x), l1, l2, l3, l4] [(2, x)] S h n) ∧
  (∀ (d : Nat) (a : Int) (l0 l1 l2 l3 l4 : Option mx_V) (S h : mx_H) (n : Int), mx_ex d 227 72 [l0, l1, l2, l3, l4] [(2, a)] S h n = mx_gd (13 ≤ S a (-2) ∧ S a (-2) ≤ 13) d 227 75 [l0, l1, l2, l3, l4] [(2, S a 18)] S h n) ∧
  (∀ (d : Nat) (l0 l1 l2 l3 l4 : Option mx_V) (v0 : mx_V) (S h : mx_H) (n : Int), mx_ex d 227 75 [l0, l1, l2, l3, l4] [v0] S h n = mx_ex d 227 77 [l0, l1, l2, l3, l4] [(0, 40), v0] S h n) ∧
  (∀ (d : Nat) (x : Int) (l0 l2 l3 l4 : Option mx_V) (v0 v1 : mx_V) (S h : mx_H) (n : Int), mx_ex d 227 77 [l0, some (0, x), l2, l3, l4] [v0, v1] S h n = mx_ex d 227 78 [l0, some (0, x), l2, l3, l4] [(0, x), v0, v1] S h n) ∧
  (∀ (d : Nat) (b a : Int) (l0 l1 l2 l3 l4 : Option mx_V) (v2 : mx_V) (S h : mx_H) (n : Int), mx_ex d 227 78 [l0, l1, l2, l3, l4] [(0, b), (0, a), v2] S h n = mx_ex d 227 79 [l0, l1, l2, l3, l4] [(0, mx_w (a * b)), v2] S h n) ∧
  (∀ (d : Nat) (x : Int) (l0 l1 l2 l3 : Option mx_V) (v0 v1 : mx_V) (S h : mx_H) (n : Int), mx_ex d 227 79 [l0, l1, l2, l3, some (0, x)] [v0, v1] S h n = mx_ex d 227 81 [l0, l1, l2, l3, some (0, x)] [(0, x), v0, v1] S h n) ∧
  (∀ (d : Nat) (b a : Int) (l0 l1 l2 l3 l4 : Option mx_V) (v2 : mx_V) (S h : mx_H) (n : Int), mx_ex d 227 81 [l0, l1, l2, l3, l4] [(0, b), (0, a), v2] S h n = mx_ex d 227 82 [l0, l1, l2, l3, l4] [(0, mx_w (a + b)), v2] S h n) ∧
  (∀ (d : Nat) (l0 l1 l2 l3 l4 : Option mx_V) (v0 v1 : mx_V) (S h : mx_H) (n : Int), mx_ex d 227 82 [l0, l1, l2, l3, l4] [v0, v1] S h n = mx_ex d 227 83 [l0, l1, l2, l3, l4] [(1, 0), v0, v1] S h n) ∧
  (∀ (d : Nat) (v i a : Int) (l0 l1 l2 l3 l4 : Option mx_V) (S h : mx_H) (n : Int), mx_ex d 227 83 [l0, l1, l2, l3, l4] [(1, v), (0, i), (2, a)] S h n = mx_gd (S a (-2) = 21 ∧ 0 ≤ i ∧ i < S a (-1)) d 227 84 [l0, l1, l2, l3, l4] [] S (mx_u h a i v) n) ∧
  (∀ (d : Nat) (x : Int) (l0 l1 l2 l3 : Option mx_V) (S h : mx_H) (n : Int), mx_ex d 227 84 [l0, l1, l2, l3, some (0, x)] [] S h n = mx_ex d 227 87 [l0, l1, l2, mx_nl l3, some (0, mx_w (x + 1))] [] S h n) ∧
  (∀ (d : Nat) (l0 l1 l2 l3 l4 : Option mx_V) (S h : mx_H) (n : Int), mx_ex d 227 87 [l0, l1, l2, l3, l4] [] S h n = mx_ex d 227 64 [l0, l1, l2, l3, l4] [] S h n) ∧
  (∀ (d : Nat) (l0 l1 l2 l3 l4 : Option mx_V) (S h : mx_H) (n : Int), mx_ex d 227 90 [l0, l1, l2, l3, l4] [] S h n = mx_ex d 227 91 [l0, l1, l2, l3, l4] [(0, 1)] S h n) ∧
  (∀ (d : Nat) (x : Int) (l0 l1 l2 l3 l4 : Option mx_V) (S h : mx_H) (n : Int), mx_ex d 227 91 [l0, l1, l2, l3, l4] [(0, x)] S h n = some (some (0, x), S, h, n)) :=
  ⟨by intros; exact rfl,
   by intros; exact eq_ld rfl rfl,
   by intros; exact eq_cs rfl (Nat.le_of_ble_eq_true rfl) rfl rfl rfl (Nat.le_of_ble_eq_true rfl),
   by intros; exact eq_if0 rfl,
   by intros; exact eq_ld rfl rfl,
   by intros; exact eq_push rfl,
   by intros; exact eq_push rfl,
   by intros; exact eq_cs rfl (Nat.le_of_ble_eq_true rfl) rfl rfl rfl (Nat.le_of_ble_eq_true rfl),
   by intros; exact eq_if0 rfl,
   by intros; exact eq_ld rfl rfl,
   by intros; exact eq_if2 rfl,
   by intros; exact eq_ld rfl rfl,
   by intros; exact eq_push rfl,
   by intros; exact eq_ic5 rfl,
   by intros; exact eq_push rfl,
   by intros; exact eq_ret rfl,
   by intros; exact eq_ld rfl rfl,
   by intros; exact eq_if2 rfl,
   by intros; exact eq_ld rfl rfl,
   by intros; exact eq_if3 rfl,
   by intros; exact eq_push rfl,
   by intros; exact eq_ret rfl,
   by intros; exact eq_ld rfl rfl,
   by intros; exact eq_gr rfl,
   by intros; exact eq_ld rfl rfl,
   by intros; exact eq_ld rfl rfl,
   by intros; exact eq_iast rfl,
   by intros; exact eq_ld rfl rfl,
   by intros; exact eq_gr rfl,
   by intros; exact eq_ld rfl rfl,
   by intros; exact eq_ld rfl rfl,
   by intros; exact eq_if3 rfl,
   by intros; exact eq_push rfl,
   by intros; exact eq_go rfl,
   by intros; exact eq_ld rfl rfl,
   by intros; exact eq_iast rfl,
   by intros; exact eq_push rfl,
   by intros; exact eq_st rfl (by decide) (Nat.le_of_ble_eq_true rfl) rfl,
   by intros; exact eq_push rfl,
   by intros; exact eq_ic3 rfl,
   by intros; exact eq_ld rfl rfl,
   by intros; exact eq_gr rfl,
   by intros; exact eq_push rfl,
   by intros; exact eq_ld rfl rfl,
   by intros; exact eq_i2 (o := mx_mul) rfl,
   by intros; exact eq_ld rfl rfl,
   by intros; exact eq_i2 (o := mx_add) rfl,
   by intros; exact eq_push rfl,
   by intros; exact eq_last rfl,
   by intros; exact eq_inc rfl rfl rfl,
   by intros; exact eq_go rfl,
   by intros; exact eq_push rfl,
   by intros; exact eq_ret rfl⟩
theorem rw_X12_narrowed :
  (∀ (d : Nat) (a0 a1 : Int) (S h : mx_H) (n : Int), mx_M d 228 [(0, a0), (0, a1)] S h n = mx_ex d 228 0 [some (0, a0), some (0, a1), none] [] S h n) ∧
  (∀ (d : Nat) (x : Int) (l1 l2 : Option mx_V) (S h : mx_H) (n : Int), mx_ex d 228 0 [some (0, x), l1, l2] [] S h n = mx_ex d 228 1 [some (0, x), l1, l2] [(0, x)] S h n) ∧
  (∀ (d : Nat) (a : Int) (l0 l1 l2 : Option mx_V) (S h : mx_H) (n : Int), mx_ex d 228 1 [l0, l1, l2] [(0, a)] S h n = mx_br (a = 0) d 228 4 9 [l0, l1, l2] [] S h n) ∧
  (∀ (d : Nat) (l0 l1 l2 : Option mx_V) (S h : mx_H) (n : Int), mx_ex d 228 4 [l0, l1, l2] [] S h n = mx_ex d 228 6 [l0, l1, l2] [(0, 24)] S h n) ∧
  (∀ (d : Nat) (l0 l1 l2 : Option mx_V) (v0 : mx_V) (S h : mx_H) (n : Int), mx_ex d 228 6 [l0, l1, l2] [v0] S h n = mx_ex d 228 20 [l0, l1, l2] [v0] S h n) ∧
  (∀ (d : Nat) (x : Int) (l1 l2 : Option mx_V) (S h : mx_H) (n : Int), mx_ex d 228 9 [some (0, x), l1, l2] [] S h n = mx_ex d 228 10 [some (0, x), l1, l2] [(0, x)] S h n) ∧
  (∀ (d : Nat) (l0 l1 l2 : Option mx_V) (v0 : mx_V) (S h : mx_H) (n : Int), mx_ex d 228 10 [l0, l1, l2] [v0] S h n = mx_ex d 228 11 [l0, l1, l2] [(0, 1), v0] S h n) ∧
  (∀ (d : Nat) (b a : Int) (l0 l1 l2 : Option mx_V) (S h : mx_H) (n : Int), mx_ex d 228 11 [l0, l1, l2] [(0, b), (0, a)] S h n = mx_br (a = b) d 228 14 19 [l0, l1, l2] [] S h n) ∧
  (∀ (d : Nat) (l0 l1 l2 : Option mx_V) (S h : mx_H) (n : Int), mx_ex d 228 14 [l0, l1, l2] [] S h n = mx_ex d 228 16 [l0, l1, l2] [(0, 16)] S h n) ∧
  (∀ (d : Nat) (l0 l1 l2 : Option mx_V) (v0 : mx_V) (S h : mx_H) (n : Int), mx_ex d 228 16 [l0, l1, l2] [v0] S h n = mx_ex d 228 20 [l0, l1, l2] [v0] S h n) ∧
  (∀ (d : Nat) (l0 l1 l2 : Option mx_V) (S h : mx_H) (n : Int), mx_ex d 228 19 [l0, l1, l2] [] S h n = mx_ex d 228 20 [l0, l1, l2] [(0, 0)] S h n) ∧
  (∀ (d : Nat) (x : Int) (l0 l1 l2 : Option mx_V) (S h : mx_H) (n : Int), mx_ex d 228 20 [l0, l1, l2] [(0, x)] S h n = mx_ex d 228 21 [l0, mx_nl l1, some (0, x)] [] S h n) ∧
  (∀ (d : Nat) (x : Int) (l0 l2 : Option mx_V) (S h : mx_H) (n : Int), mx_ex d 228 21 [l0, some (0, x), l2] [] S h n = mx_ex d 228 22 [l0, some (0, x), l2] [(0, x)] S h n) ∧
  (∀ (d : Nat) (x : Int) (l0 l1 : Option mx_V) (v0 : mx_V) (S h : mx_H) (n : Int), mx_ex d 228 22 [l0, l1, some (0, x)] [v0] S h n = mx_ex d 228 23 [l0, l1, some (0, x)] [(0, x), v0] S h n) ∧
  (∀ (d : Nat) (b a : Int) (l0 l1 l2 : Option mx_V) (S h : mx_H) (n : Int), mx_ex d 228 23 [l0, l1, l2] [(0, b), (0, a)] S h n = mx_ex d 228 24 [l0, l1, l2] [(0, mx_shl a b)] S h n) ∧
  (∀ (d : Nat) (x : Int) (l0 l1 : Option mx_V) (v0 : mx_V) (S h : mx_H) (n : Int), mx_ex d 228 24 [l0, l1, some (0, x)] [v0] S h n = mx_ex d 228 25 [l0, l1, some (0, x)] [(0, x), v0] S h n) ∧
  (∀ (d : Nat) (b a : Int) (l0 l1 l2 : Option mx_V) (S h : mx_H) (n : Int), mx_ex d 228 25 [l0, l1, l2] [(0, b), (0, a)] S h n = mx_ex d 228 26 [l0, l1, l2] [(0, mx_shr a b)] S h n) ∧
  (∀ (d : Nat) (a : Int) (l0 l1 l2 : Option mx_V) (S h : mx_H) (n : Int), mx_ex d 228 26 [l0, l1, l2] [(0, a)] S h n = mx_ex d 228 27 [l0, l1, l2] [(1, a)] S h n) ∧
  (∀ (d : Nat) (x : Int) (l0 l1 l2 : Option mx_V) (S h : mx_H) (n : Int), mx_ex d 228 27 [l0, l1, l2] [(1, x)] S h n = some (some (1, x), S, h, n)) :=
  ⟨by intros; exact rfl,
   by intros; exact eq_ld rfl rfl,
   by intros; exact eq_if1 rfl,
   by intros; exact eq_push rfl,
   by intros; exact eq_go rfl,
   by intros; exact eq_ld rfl rfl,
   by intros; exact eq_push rfl,
   by intros; exact eq_ic1 rfl,
   by intros; exact eq_push rfl,
   by intros; exact eq_go rfl,
   by intros; exact eq_push rfl,
   by intros; exact eq_st rfl (by decide) (Nat.le_of_ble_eq_true rfl) rfl,
   by intros; exact eq_ld rfl rfl,
   by intros; exact eq_ld rfl rfl,
   by intros; exact eq_i2 (o := mx_shl) rfl,
   by intros; exact eq_ld rfl rfl,
   by intros; exact eq_i2 (o := mx_shr) rfl,
   by intros; exact eq_i2l rfl,
   by intros; exact eq_ret rfl⟩
theorem rw_X12_put :
  (∀ (d : Nat) (a0 a1 a2 a3 : Int) (S h : mx_H) (n : Int), mx_M d 229 [(2, a0), (0, a1), (0, a2), (0, a3)] S h n = mx_ex d 229 0 [some (2, a0), some (0, a1), some (0, a2), some (0, a3)] [] S h n) ∧
  (∀ (d : Nat) (x : Int) (l0 l2 l3 : Option mx_V) (S h : mx_H) (n : Int), mx_ex d 229 0 [l0, some (0, x), l2, l3] [] S h n = mx_ex d 229 1 [l0, some (0, x), l2, l3] [(0, x)] S h n) ∧
  (∀ (d : Nat) (x0 : Int) (l0 l1 l2 l3 : Option mx_V) (S h : mx_H) (n : Int), mx_ex (d + 1) 229 1 [l0, l1, l2, l3] [(0, x0)] S h n = mx_rt (mx_M d 225 [(0, x0)] S h n) (d + 1) 229 4 [l0, l1, l2, l3] []) ∧
  (∀ (d : Nat) (a : Int) (l0 l1 l2 l3 : Option mx_V) (S h : mx_H) (n : Int), mx_ex d 229 4 [l0, l1, l2, l3] [(0, a)] S h n = mx_br (a = 0) d 229 7 9 [l0, l1, l2, l3] [] S h n) ∧
  (∀ (d : Nat) (l0 l1 l2 l3 : Option mx_V) (S h : mx_H) (n : Int), mx_ex d 229 7 [l0, l1, l2, l3] [] S h n = mx_ex d 229 8 [l0, l1, l2, l3] [(0, (-1))] S h n) ∧
  (∀ (d : Nat) (x : Int) (l0 l1 l2 l3 : Option mx_V) (S h : mx_H) (n : Int), mx_ex d 229 8 [l0, l1, l2, l3] [(0, x)] S h n = some (some (0, x), S, h, n)) ∧
  (∀ (d : Nat) (x : Int) (l1 l2 l3 : Option mx_V) (S h : mx_H) (n : Int), mx_ex d 229 9 [some (2, x), l1, l2, l3] [] S h n = mx_ex d 229 10 [some (2, x), l1, l2, l3] [(2, x)] S h n) ∧
  (∀ (d : Nat) (a : Int) (l0 l1 l2 l3 : Option mx_V) (S h : mx_H) (n : Int), mx_ex d 229 10 [l0, l1, l2, l3] [(2, a)] S h n = mx_gd (13 ≤ S a (-2) ∧ S a (-2) ≤ 13) d 229 13 [l0, l1, l2, l3] [(2, S a 16)] S h n) ∧
  (∀ (d : Nat) (x : Int) (l0 l2 l3 : Option mx_V) (v0 : mx_V) (S h : mx_H) (n : Int), mx_ex d 229 13 [l0, some (0, x), l2, l3] [v0] S h n = mx_ex d 229 14 [l0, some (0, x), l2, l3] [(0, x), v0] S h n) ∧
  (∀ (d : Nat) (i a : Int) (l0 l1 l2 l3 : Option mx_V) (S h : mx_H) (n : Int), mx_ex d 229 14 [l0, l1, l2, l3] [(0, i), (2, a)] S h n = mx_gd ((S a (-2) = 20 ∨ S a (-2) = 24) ∧ 0 ≤ i ∧ i < S a (-1)) d 229 15 [l0, l1, l2, l3] [(0, h a i)] S h n) ∧
  (∀ (d : Nat) (a : Int) (l0 l1 l2 l3 : Option mx_V) (S h : mx_H) (n : Int), mx_ex d 229 15 [l0, l1, l2, l3] [(0, a)] S h n = mx_br (a < 0) d 229 18 21 [l0, l1, l2, l3] [] S h n) ∧
  (∀ (d : Nat) (l0 l1 l2 l3 : Option mx_V) (S h : mx_H) (n : Int), mx_ex d 229 18 [l0, l1, l2, l3] [] S h n = mx_ex d 229 20 [l0, l1, l2, l3] [(0, (-11))] S h n) ∧
  (∀ (d : Nat) (x : Int) (l0 l1 l2 l3 : Option mx_V) (S h : mx_H) (n : Int), mx_ex d 229 20 [l0, l1, l2, l3] [(0, x)] S h n = some (some (0, x), S, h, n)) ∧
  (∀ (d : Nat) (x : Int) (l0 l1 l3 : Option mx_V) (S h : mx_H) (n : Int), mx_ex d 229 21 [l0, l1, some (0, x), l3] [] S h n = mx_ex d 229 22 [l0, l1, some (0, x), l3] [(0, x)] S h n) ∧
  (∀ (d : Nat) (l0 l1 l2 l3 : Option mx_V) (v0 : mx_V) (S h : mx_H) (n : Int), mx_ex d 229 22 [l0, l1, l2, l3] [v0] S h n = mx_ex d 229 23 [l0, l1, l2, l3] [(0, 0), v0] S h n) ∧
  (∀ (d : Nat) (x : Int) (l1 l2 l3 : Option mx_V) (v0 v1 : mx_V) (S h : mx_H) (n : Int), mx_ex d 229 23 [some (2, x), l1, l2, l3] [v0, v1] S h n = mx_ex d 229 24 [some (2, x), l1, l2, l3] [(2, x), v0, v1] S h n) ∧
  (∀ (d : Nat) (a : Int) (l0 l1 l2 l3 : Option mx_V) (v1 v2 : mx_V) (S h : mx_H) (n : Int), mx_ex d 229 24 [l0, l1, l2, l3] [(2, a), v1, v2] S h n = mx_gd (13 ≤ S a (-2) ∧ S a (-2) ≤ 13) d 229 27 [l0, l1, l2, l3] [(2, S a 17), v1, v2] S h n) ∧
  (∀ (d : Nat) (x : Int) (l0 l2 l3 : Option mx_V) (v0 v1 v2 : mx_V) (S h : mx_H) (n : Int), mx_ex d 229 27 [l0, some (0, x), l2, l3] [v0, v1, v2] S h n = mx_ex d 229 28 [l0, some (0, x), l2, l3] [(0, x), v0, v1, v2] S h n) ∧
  (∀ (d : Nat) (i a : Int) (l0 l1 l2 l3 : Option mx_V) (v2 v3 : mx_V) (S h : mx_H) (n : Int), mx_ex d 229 28 [l0, l1, l2, l3] [(0, i), (2, a), v2, v3] S h n = mx_gd ((S a (-2) = 20 ∨ S a (-2) = 24) ∧ 0 ≤ i ∧ i < S a (-1)) d 229 29 [l0, l1, l2, l3] [(0, h a i), v2, v3] S h n) ∧
  (∀ (d : Nat) (l0 l1 l2 l3 : Option mx_V) (v0 v1 v2 : mx_V) (S h : mx_H) (n : Int), mx_ex d 229 29 [l0, l1, l2, l3] [v0, v1, v2] S h n = mx_ex d 229 30 [l0, l1, l2, l3] [(0, 1), v0, v1, v2] S h n) ∧
  (∀ (d : Nat) (b a : Int) (l0 l1 l2 l3 : Option mx_V) (v2 v3 : mx_V) (S h : mx_H) (n : Int), mx_ex d 229 30 [l0, l1, l2, l3] [(0, b), (0, a), v2, v3] S h n = mx_ex d 229 31 [l0, l1, l2, l3] [(0, mx_w (a - b)), v2, v3] S h n) ∧
  (∀ (d : Nat) (x0 x1 x2 : Int) (l0 l1 l2 l3 : Option mx_V) (S h : mx_H) (n : Int), mx_ex (d + 1) 229 31 [l0, l1, l2, l3] [(0, x0), (0, x1), (0, x2)] S h n = mx_rt (mx_M d 157 [(0, x2), (0, x1), (0, x0)] S h n) (d + 1) 229 34 [l0, l1, l2, l3] []) ∧
  (∀ (d : Nat) (a : Int) (l0 l1 l2 l3 : Option mx_V) (S h : mx_H) (n : Int), mx_ex d 229 34 [l0, l1, l2, l3] [(0, a)] S h n = mx_br (a = 0) d 229 37 40 [l0, l1, l2, l3] [] S h n) ∧
  (∀ (d : Nat) (l0 l1 l2 l3 : Option mx_V) (S h : mx_H) (n : Int), mx_ex d 229 37 [l0, l1, l2, l3] [] S h n = mx_ex d 229 39 [l0, l1, l2, l3] [(0, (-12))] S h n) ∧
  (∀ (d : Nat) (x : Int) (l0 l1 l2 l3 : Option mx_V) (S h : mx_H) (n : Int), mx_ex d 229 39 [l0, l1, l2, l3] [(0, x)] S h n = some (some (0, x), S, h, n)) ∧
  (∀ (d : Nat) (x : Int) (l1 l2 l3 : Option mx_V) (S h : mx_H) (n : Int), mx_ex d 229 40 [some (2, x), l1, l2, l3] [] S h n = mx_ex d 229 41 [some (2, x), l1, l2, l3] [(2, x)] S h n) ∧
  (∀ (d : Nat) (a : Int) (l0 l1 l2 l3 : Option mx_V) (S h : mx_H) (n : Int), mx_ex d 229 41 [l0, l1, l2, l3] [(2, a)] S h n = mx_gd (13 ≤ S a (-2) ∧ S a (-2) ≤ 13) d 229 44 [l0, l1, l2, l3] [(2, S a 18)] S h n) ∧
  (∀ (d : Nat) (l0 l1 l2 l3 : Option mx_V) (v0 : mx_V) (S h : mx_H) (n : Int), mx_ex d 229 44 [l0, l1, l2, l3] [v0] S h n = mx_ex d 229 46 [l0, l1, l2, l3] [(0, 40), v0] S h n) ∧
  (∀ (d : Nat) (x : Int) (l0 l2 l3 : Option mx_V) (v0 v1 : mx_V) (S h : mx_H) (n : Int), mx_ex d 229 46 [l0, some (0, x), l2, l3] [v0, v1] S h n = mx_ex d 229 47 [l0, some (0, x), l2, l3] [(0, x), v0, v1] S h n) ∧
  (∀ (d : Nat) (b a : Int) (l0 l1 l2 l3 : Option mx_V) (v2 : mx_V) (S h : mx_H) (n : Int), mx_ex d 229 47 [l0, l1, l2, l3] [(0, b), (0, a), v2] S h n = mx_ex d 229 48 [l0, l1, l2, l3] [(0, mx_w (a * b)), v2] S h n) ∧
  (∀ (d : Nat) (x : Int) (l0 l1 l3 : Option mx_V) (v0 v1 : mx_V) (S h : mx_H) (n : Int), mx_ex d 229 48 [l0, l1, some (0, x), l3] [v0, v1] S h n = mx_ex d 229 49 [l0, l1, some (0, x), l3] [(0, x), v0, v1] S h n) ∧
  (∀ (d : Nat) (b a : Int) (l0 l1 l2 l3 : Option mx_V) (v2 : mx_V) (S h : mx_H) (n : Int), mx_ex d 229 49 [l0, l1, l2, l3] [(0, b), (0, a), v2] S h n = mx_ex d 229 50 [l0, l1, l2, l3] [(0, mx_w (a + b)), v2] S h n) ∧
  (∀ (d : Nat) (x : Int) (l1 l2 l3 : Option mx_V) (v0 v1 : mx_V) (S h : mx_H) (n : Int), mx_ex d 229 50 [some (2, x), l1, l2, l3] [v0, v1] S h n = mx_ex d 229 51 [some (2, x), l1, l2, l3] [(2, x), v0, v1] S h n) ∧
  (∀ (d : Nat) (a : Int) (l0 l1 l2 l3 : Option mx_V) (v1 v2 : mx_V) (S h : mx_H) (n : Int), mx_ex d 229 51 [l0, l1, l2, l3] [(2, a), v1, v2] S h n = mx_gd (13 ≤ S a (-2) ∧ S a (-2) ≤ 13) d 229 54 [l0, l1, l2, l3] [(2, S a 16), v1, v2] S h n) ∧
  (∀ (d : Nat) (x : Int) (l0 l2 l3 : Option mx_V) (v0 v1 v2 : mx_V) (S h : mx_H) (n : Int), mx_ex d 229 54 [l0, some (0, x), l2, l3] [v0, v1, v2] S h n = mx_ex d 229 55 [l0, some (0, x), l2, l3] [(0, x), v0, v1, v2] S h n) ∧
  (∀ (d : Nat) (i a : Int) (l0 l1 l2 l3 : Option mx_V) (v2 v3 : mx_V) (S h : mx_H) (n : Int), mx_ex d 229 55 [l0, l1, l2, l3] [(0, i), (2, a), v2, v3] S h n = mx_gd ((S a (-2) = 20 ∨ S a (-2) = 24) ∧ 0 ≤ i ∧ i < S a (-1)) d 229 56 [l0, l1, l2, l3] [(0, h a i), v2, v3] S h n) ∧
  (∀ (d : Nat) (x : Int) (l0 l1 l2 : Option mx_V) (v0 v1 v2 : mx_V) (S h : mx_H) (n : Int), mx_ex d 229 56 [l0, l1, l2, some (0, x)] [v0, v1, v2] S h n = mx_ex d 229 57 [l0, l1, l2, some (0, x)] [(0, x), v0, v1, v2] S h n) ∧
  (∀ (d : Nat) (x0 x1 : Int) (l0 l1 l2 l3 : Option mx_V) (v2 v3 : mx_V) (S h : mx_H) (n : Int), mx_ex (d + 1) 229 57 [l0, l1, l2, l3] [(0, x0), (0, x1), v2, v3] S h n = mx_rt (mx_M d 228 [(0, x1), (0, x0)] S h n) (d + 1) 229 60 [l0, l1, l2, l3] [v2, v3]) ∧
  (∀ (d : Nat) (v i a : Int) (l0 l1 l2 l3 : Option mx_V) (S h : mx_H) (n : Int), mx_ex d 229 60 [l0, l1, l2, l3] [(1, v), (0, i), (2, a)] S h n = mx_gd (S a (-2) = 21 ∧ 0 ≤ i ∧ i < S a (-1)) d 229 61 [l0, l1, l2, l3] [] S (mx_u h a i v) n) ∧
  (∀ (d : Nat) (l0 l1 l2 l3 : Option mx_V) (S h : mx_H) (n : Int), mx_ex d 229 61 [l0, l1, l2, l3] [] S h n = mx_ex d 229 62 [l0, l1, l2, l3] [(0, 1)] S h n) ∧
  (∀ (d : Nat) (x : Int) (l0 l1 l2 l3 : Option mx_V) (S h : mx_H) (n : Int), mx_ex d 229 62 [l0, l1, l2, l3] [(0, x)] S h n = some (some (0, x), S, h, n)) :=
  ⟨by intros; exact rfl,
   by intros; exact eq_ld rfl rfl,
   by intros; exact eq_cs rfl (Nat.le_of_ble_eq_true rfl) rfl rfl rfl (Nat.le_of_ble_eq_true rfl),
   by intros; exact eq_if1 rfl,
   by intros; exact eq_push rfl,
   by intros; exact eq_ret rfl,
   by intros; exact eq_ld rfl rfl,
   by intros; exact eq_gr rfl,
   by intros; exact eq_ld rfl rfl,
   by intros; exact eq_iald rfl,
   by intros; exact eq_if3 rfl,
   by intros; exact eq_push rfl,
   by intros; exact eq_ret rfl,
   by intros; exact eq_ld rfl rfl,
   by intros; exact eq_push rfl,
   by intros; exact eq_ld rfl rfl,
   by intros; exact eq_gr rfl,
   by intros; exact eq_ld rfl rfl,
   by intros; exact eq_iald rfl,
   by intros; exact eq_push rfl,
   by intros; exact eq_i2 (o := mx_sub) rfl,
   by intros; exact eq_cs rfl (Nat.le_of_ble_eq_true rfl) rfl rfl rfl (Nat.le_of_ble_eq_true rfl),
   by intros; exact eq_if1 rfl,
   by intros; exact eq_push rfl,
   by intros; exact eq_ret rfl,
   by intros; exact eq_ld rfl rfl,
   by intros; exact eq_gr rfl,
   by intros; exact eq_push rfl,
   by intros; exact eq_ld rfl rfl,
   by intros; exact eq_i2 (o := mx_mul) rfl,
   by intros; exact eq_ld rfl rfl,
   by intros; exact eq_i2 (o := mx_add) rfl,
   by intros; exact eq_ld rfl rfl,
   by intros; exact eq_gr rfl,
   by intros; exact eq_ld rfl rfl,
   by intros; exact eq_iald rfl,
   by intros; exact eq_ld rfl rfl,
   by intros; exact eq_cs rfl (Nat.le_of_ble_eq_true rfl) rfl rfl rfl (Nat.le_of_ble_eq_true rfl),
   by intros; exact eq_last rfl,
   by intros; exact eq_push rfl,
   by intros; exact eq_ret rfl⟩
theorem rw_X12_item :
  (∀ (d : Nat) (a0 a1 a2 a3 : Int) (S h : mx_H) (n : Int), mx_M d 230 [(2, a0), (0, a1), (0, a2), (0, a3)] S h n = mx_ex d 230 0 [some (2, a0), some (0, a1), some (0, a2), some (0, a3)] [] S h n) ∧
  (∀ (d : Nat) (x : Int) (l0 l2 l3 : Option mx_V) (S h : mx_H) (n : Int), mx_ex d 230 0 [l0, some (0, x), l2, l3] [] S h n = mx_ex d 230 1 [l0, some (0, x), l2, l3] [(0, x)] S h n) ∧
  (∀ (d : Nat) (x0 : Int) (l0 l1 l2 l3 : Option mx_V) (S h : mx_H) (n : Int), mx_ex (d + 1) 230 1 [l0, l1, l2, l3] [(0, x0)] S h n = mx_rt (mx_M d 225 [(0, x0)] S h n) (d + 1) 230 4 [l0, l1, l2, l3] []) ∧
  (∀ (d : Nat) (a : Int) (l0 l1 l2 l3 : Option mx_V) (S h : mx_H) (n : Int), mx_ex d 230 4 [l0, l1, l2, l3] [(0, a)] S h n = mx_br (a = 0) d 230 16 7 [l0, l1, l2, l3] [] S h n) ∧
  (∀ (d : Nat) (x : Int) (l0 l1 l3 : Option mx_V) (S h : mx_H) (n : Int), mx_ex d 230 7 [l0, l1, some (0, x), l3] [] S h n = mx_ex d 230 8 [l0, l1, some (0, x), l3] [(0, x)] S h n) ∧
  (∀ (d : Nat) (l0 l1 l2 l3 : Option mx_V) (v0 : mx_V) (S h : mx_H) (n : Int), mx_ex d 230 8 [l0, l1, l2, l3] [v0] S h n = mx_ex d 230 9 [l0, l1, l2, l3] [(0, 0), v0] S h n) ∧
  (∀ (d : Nat) (l0 l1 l2 l3 : Option mx_V) (v0 v1 : mx_V) (S h : mx_H) (n : Int), mx_ex d 230 9 [l0, l1, l2, l3] [v0, v1] S h n = mx_ex d 230 10 [l0, l1, l2, l3] [(0, 3), v0, v1] S h n) ∧
  (∀ (d : Nat) (x0 x1 x2 : Int) (l0 l1 l2 l3 : Option mx_V) (S h : mx_H) (n : Int), mx_ex (d + 1) 230 10 [l0, l1, l2, l3] [(0, x0), (0, x1), (0, x2)] S h n = mx_rt (mx_M d 157 [(0, x2), (0, x1), (0, x0)] S h n) (d + 1) 230 13 [l0, l1, l2, l3] []) ∧
  (∀ (d : Nat) (a : Int) (l0 l1 l2 l3 : Option mx_V) (S h : mx_H) (n : Int), mx_ex d 230 13 [l0, l1, l2, l3] [(0, a)] S h n = mx_br (a = 0) d 230 16 18 [l0, l1, l2, l3] [] S h n) ∧
  (∀ (d : Nat) (l0 l1 l2 l3 : Option mx_V) (S h : mx_H) (n : Int), mx_ex d 230 16 [l0, l1, l2, l3] [] S h n = mx_ex d 230 17 [l0, l1, l2, l3] [(0, (-1))] S h n) ∧
  (∀ (d : Nat) (x : Int) (l0 l1 l2 l3 : Option mx_V) (S h : mx_H) (n : Int), mx_ex d 230 17 [l0, l1, l2, l3] [(0, x)] S h n = some (some (0, x), S, h, n)) ∧
  (∀ (d : Nat) (x : Int) (l1 l2 l3 : Option mx_V) (S h : mx_H) (n : Int), mx_ex d 230 18 [some (2, x), l1, l2, l3] [] S h n = mx_ex d 230 19 [some (2, x), l1, l2, l3] [(2, x)] S h n) ∧
  (∀ (d : Nat) (a : Int) (l0 l1 l2 l3 : Option mx_V) (S h : mx_H) (n : Int), mx_ex d 230 19 [l0, l1, l2, l3] [(2, a)] S h n = mx_gd (13 ≤ S a (-2) ∧ S a (-2) ≤ 13) d 230 22 [l0, l1, l2, l3] [(2, S a 16)] S h n) ∧
  (∀ (d : Nat) (x : Int) (l0 l2 l3 : Option mx_V) (v0 : mx_V) (S h : mx_H) (n : Int), mx_ex d 230 22 [l0, some (0, x), l2, l3] [v0] S h n = mx_ex d 230 23 [l0, some (0, x), l2, l3] [(0, x), v0] S h n) ∧
  (∀ (d : Nat) (i a : Int) (l0 l1 l2 l3 : Option mx_V) (S h : mx_H) (n : Int), mx_ex d 230 23 [l0, l1, l2, l3] [(0, i), (2, a)] S h n = mx_gd ((S a (-2) = 20 ∨ S a (-2) = 24) ∧ 0 ≤ i ∧ i < S a (-1)) d 230 24 [l0, l1, l2, l3] [(0, h a i)] S h n) ∧
  (∀ (d : Nat) (a : Int) (l0 l1 l2 l3 : Option mx_V) (S h : mx_H) (n : Int), mx_ex d 230 24 [l0, l1, l2, l3] [(0, a)] S h n = mx_br (a < 0) d 230 27 30 [l0, l1, l2, l3] [] S h n) ∧
  (∀ (d : Nat) (l0 l1 l2 l3 : Option mx_V) (S h : mx_H) (n : Int), mx_ex d 230 27 [l0, l1, l2, l3] [] S h n = mx_ex d 230 29 [l0, l1, l2, l3] [(0, (-11))] S h n) ∧
  (∀ (d : Nat) (x : Int) (l0 l1 l2 l3 : Option mx_V) (S h : mx_H) (n : Int), mx_ex d 230 29 [l0, l1, l2, l3] [(0, x)] S h n = some (some (0, x), S, h, n)) ∧
  (∀ (d : Nat) (x : Int) (l1 l2 l3 : Option mx_V) (S h : mx_H) (n : Int), mx_ex d 230 30 [some (2, x), l1, l2, l3] [] S h n = mx_ex d 230 31 [some (2, x), l1, l2, l3] [(2, x)] S h n) ∧
  (∀ (d : Nat) (a : Int) (l0 l1 l2 l3 : Option mx_V) (S h : mx_H) (n : Int), mx_ex d 230 31 [l0, l1, l2, l3] [(2, a)] S h n = mx_gd (13 ≤ S a (-2) ∧ S a (-2) ≤ 13) d 230 34 [l0, l1, l2, l3] [(2, S a 16)] S h n) ∧
  (∀ (d : Nat) (x : Int) (l0 l2 l3 : Option mx_V) (v0 : mx_V) (S h : mx_H) (n : Int), mx_ex d 230 34 [l0, some (0, x), l2, l3] [v0] S h n = mx_ex d 230 35 [l0, some (0, x), l2, l3] [(0, x), v0] S h n) ∧
  (∀ (d : Nat) (i a : Int) (l0 l1 l2 l3 : Option mx_V) (S h : mx_H) (n : Int), mx_ex d 230 35 [l0, l1, l2, l3] [(0, i), (2, a)] S h n = mx_gd ((S a (-2) = 20 ∨ S a (-2) = 24) ∧ 0 ≤ i ∧ i < S a (-1)) d 230 36 [l0, l1, l2, l3] [(0, h a i)] S h n) ∧
  (∀ (d : Nat) (x : Int) (l0 l1 l3 : Option mx_V) (v0 : mx_V) (S h : mx_H) (n : Int), mx_ex d 230 36 [l0, l1, some (0, x), l3] [v0] S h n = mx_ex d 230 37 [l0, l1, some (0, x), l3] [(0, x), v0] S h n) ∧
  (∀ (d : Nat) (b a : Int) (l0 l1 l2 l3 : Option mx_V) (S h : mx_H) (n : Int), mx_ex d 230 37 [l0, l1, l2, l3] [(0, b), (0, a)] S h n = mx_br (a = b) d 230 43 40 [l0, l1, l2, l3] [] S h n) ∧
  (∀ (d : Nat) (l0 l1 l2 l3 : Option mx_V) (S h : mx_H) (n : Int), mx_ex d 230 40 [l0, l1, l2, l3] [] S h n = mx_ex d 230 42 [l0, l1, l2, l3] [(0, (-13))] S h n) ∧
  (∀ (d : Nat) (x : Int) (l0 l1 l2 l3 : Option mx_V) (S h : mx_H) (n : Int), mx_ex d 230 42 [l0, l1, l2, l3] [(0, x)] S h n = some (some (0, x), S, h, n)) ∧
  (∀ (d : Nat) (x : Int) (l0 l1 l2 : Option mx_V) (S h : mx_H) (n : Int), mx_ex d 230 43 [l0, l1, l2, some (0, x)] [] S h n = mx_ex d 230 44 [l0, l1, l2, some (0, x)] [(0, x)] S h n) ∧
  (∀ (d : Nat) (l0 l1 l2 l3 : Option mx_V) (v0 : mx_V) (S h : mx_H) (n : Int), mx_ex d 230 44 [l0, l1, l2, l3] [v0] S h n = mx_ex d 230 45 [l0, l1, l2, l3] [(0, 0), v0] S h n) ∧
  (∀ (d : Nat) (x : Int) (l1 l2 l3 : Option mx_V) (v0 v1 : mx_V) (S h : mx_H) (n : Int), mx_ex d 230 45 [some (2, x), l1, l2, l3] [v0, v1] S h n = mx_ex d 230 46 [some (2, x), l1, l2, l3] [(2, x), v0, v1] S h n) ∧
  (∀ (d : Nat) (a : Int) (l0 l1 l2 l3 : Option mx_V) (v1 v2 : mx_V) (S h : mx_H) (n : Int), mx_ex d 230 46 [l0, l1, l2, l3] [(2, a), v1, v2] S h n = mx_gd (13 ≤ S a (-2) ∧ S a (-2) ≤ 13) d 230 49 [l0, l1, l2, l3] [(2, S a 17), v1, v2] S h n) ∧
  (∀ (d : Nat) (x : Int) (l0 l2 l3 : Option mx_V) (v0 v1 v2 : mx_V) (S h : mx_H) (n : Int), mx_ex d 230 49 [l0, some (0, x), l2, l3] [v0, v1, v2] S h n = mx_ex d 230 50 [l0, some (0, x), l2, l3] [(0, x), v0, v1, v2] S h n) ∧
  (∀ (d : Nat) (i a : Int) (l0 l1 l2 l3 : Option mx_V) (v2 v3 : mx_V) (S h : mx_H) (n : Int), mx_ex d 230 50 [l0, l1, l2, l3] [(0, i), (2, a), v2, v3] S h n = mx_gd ((S a (-2) = 20 ∨ S a (-2) = 24) ∧ 0 ≤ i ∧ i < S a (-1)) d 230 51 [l0, l1, l2, l3] [(0, h a i), v2, v3] S h n) ∧
  (∀ (d : Nat) (l0 l1 l2 l3 : Option mx_V) (v0 v1 v2 : mx_V) (S h : mx_H) (n : Int), mx_ex d 230 51 [l0, l1, l2, l3] [v0, v1, v2] S h n = mx_ex d 230 52 [l0, l1, l2, l3] [(0, 1), v0, v1, v2] S h n) ∧
  (∀ (d : Nat) (b a : Int) (l0 l1 l2 l3 : Option mx_V) (v2 v3 : mx_V) (S h : mx_H) (n : Int), mx_ex d 230 52 [l0, l1, l2, l3] [(0, b), (0, a), v2, v3] S h n = mx_ex d 230 53 [l0, l1, l2, l3] [(0, mx_w (a - b)), v2, v3] S h n) ∧
  (∀ (d : Nat) (x0 x1 x2 : Int) (l0 l1 l2 l3 : Option mx_V) (S h : mx_H) (n : Int), mx_ex (d + 1) 230 53 [l0, l1, l2, l3] [(0, x0), (0, x1), (0, x2)] S h n = mx_rt (mx_M d 157 [(0, x2), (0, x1), (0, x0)] S h n) (d + 1) 230 56 [l0, l1, l2, l3] []) ∧
  (∀ (d : Nat) (a : Int) (l0 l1 l2 l3 : Option mx_V) (S h : mx_H) (n : Int), mx_ex d 230 56 [l0, l1, l2, l3] [(0, a)] S h n = mx_br (a = 0) d 230 74 59 [l0, l1, l2, l3] [] S h n) ∧
  (∀ (d : Nat) (x : Int) (l1 l2 l3 : Option mx_V) (S h : mx_H) (n : Int), mx_ex d 230 59 [some (2, x), l1, l2, l3] [] S h n = mx_ex d 230 60 [some (2, x), l1, l2, l3] [(2, x)] S h n) ∧
  (∀ (d : Nat) (a : Int) (l0 l1 l2 l3 : Option mx_V) (S h : mx_H) (n : Int), mx_ex d 230 60 [l0, l1, l2, l3] [(2, a)] S h n = mx_gd (13 ≤ S a (-2) ∧ S a (-2) ≤ 13) d 230 63 [l0, l1, l2, l3] [(2, S a 18)] S h n) ∧
  (∀ (d : Nat) (l0 l1 l2 l3 : Option mx_V) (v0 : mx_V) (S h : mx_H) (n : Int), mx_ex d 230 63 [l0, l1, l2, l3] [v0] S h n = mx_ex d 230 65 [l0, l1, l2, l3] [(0, 40), v0] S h n) ∧
  (∀ (d : Nat) (x : Int) (l0 l2 l3 : Option mx_V) (v0 v1 : mx_V) (S h : mx_H) (n : Int), mx_ex d 230 65 [l0, some (0, x), l2, l3] [v0, v1] S h n = mx_ex d 230 66 [l0, some (0, x), l2, l3] [(0, x), v0, v1] S h n) ∧
  (∀ (d : Nat) (b a : Int) (l0 l1 l2 l3 : Option mx_V) (v2 : mx_V) (S h : mx_H) (n : Int), mx_ex d 230 66 [l0, l1, l2, l3] [(0, b), (0, a), v2] S h n = mx_ex d 230 67 [l0, l1, l2, l3] [(0, mx_w (a * b)), v2] S h n) ∧
  (∀ (d : Nat) (x : Int) (l0 l1 l2 : Option mx_V) (v0 v1 : mx_V) (S h : mx_H) (n : Int), mx_ex d 230 67 [l0, l1, l2, some (0, x)] [v0, v1] S h n = mx_ex d 230 68 [l0, l1, l2, some (0, x)] [(0, x), v0, v1] S h n) ∧
  (∀ (d : Nat) (b a : Int) (l0 l1 l2 l3 : Option mx_V) (v2 : mx_V) (S h : mx_H) (n : Int), mx_ex d 230 68 [l0, l1, l2, l3] [(0, b), (0, a), v2] S h n = mx_ex d 230 69 [l0, l1, l2, l3] [(0, mx_w (a + b)), v2] S h n) ∧
  (∀ (d : Nat) (i a : Int) (l0 l1 l2 l3 : Option mx_V) (S h : mx_H) (n : Int), mx_ex d 230 69 [l0, l1, l2, l3] [(0, i), (2, a)] S h n = mx_gd (S a (-2) = 21 ∧ 0 ≤ i ∧ i < S a (-1)) d 230 70 [l0, l1, l2, l3] [(1, h a i)] S h n) ∧
  (∀ (d : Nat) (a : Int) (l0 l1 l2 l3 : Option mx_V) (S h : mx_H) (n : Int), mx_ex d 230 70 [l0, l1, l2, l3] [(1, a)] S h n = mx_ex d 230 71 [l0, l1, l2, l3] [(0, mx_w a)] S h n) ∧
  (∀ (d : Nat) (l0 l1 l2 l3 : Option mx_V) (v0 : mx_V) (S h : mx_H) (n : Int), mx_ex d 230 71 [l0, l1, l2, l3] [v0] S h n = mx_ex d 230 76 [l0, l1, l2, l3] [v0] S h n) ∧
  (∀ (d : Nat) (l0 l1 l2 l3 : Option mx_V) (S h : mx_H) (n : Int), mx_ex d 230 74 [l0, l1, l2, l3] [] S h n = mx_ex d 230 76 [l0, l1, l2, l3] [(0, (-12))] S h n) ∧
  (∀ (d : Nat) (x : Int) (l0 l1 l2 l3 : Option mx_V) (S h : mx_H) (n : Int), mx_ex d 230 76 [l0, l1, l2, l3] [(0, x)] S h n = some (some (0, x), S, h, n)) :=
  ⟨by intros; exact rfl,
   by intros; exact eq_ld rfl rfl,
   by intros; exact eq_cs rfl (Nat.le_of_ble_eq_true rfl) rfl rfl rfl (Nat.le_of_ble_eq_true rfl),
   by intros; exact eq_if0 rfl,
   by intros; exact eq_ld rfl rfl,
   by intros; exact eq_push rfl,
   by intros; exact eq_push rfl,
   by intros; exact eq_cs rfl (Nat.le_of_ble_eq_true rfl) rfl rfl rfl (Nat.le_of_ble_eq_true rfl),
   by intros; exact eq_if1 rfl,
   by intros; exact eq_push rfl,
   by intros; exact eq_ret rfl,
   by intros; exact eq_ld rfl rfl,
   by intros; exact eq_gr rfl,
   by intros; exact eq_ld rfl rfl,
   by intros; exact eq_iald rfl,
   by intros; exact eq_if3 rfl,
   by intros; exact eq_push rfl,
   by intros; exact eq_ret rfl,
   by intros; exact eq_ld rfl rfl,
   by intros; exact eq_gr rfl,
   by intros; exact eq_ld rfl rfl,
   by intros; exact eq_iald rfl,
   by intros; exact eq_ld rfl rfl,
   by intros; exact eq_ic0 rfl,
   by intros; exact eq_push rfl,
   by intros; exact eq_ret rfl,
   by intros; exact eq_ld rfl rfl,
   by intros; exact eq_push rfl,
   by intros; exact eq_ld rfl rfl,
   by intros; exact eq_gr rfl,
   by intros; exact eq_ld rfl rfl,
   by intros; exact eq_iald rfl,
   by intros; exact eq_push rfl,
   by intros; exact eq_i2 (o := mx_sub) rfl,
   by intros; exact eq_cs rfl (Nat.le_of_ble_eq_true rfl) rfl rfl rfl (Nat.le_of_ble_eq_true rfl),
   by intros; exact eq_if0 rfl,
   by intros; exact eq_ld rfl rfl,
   by intros; exact eq_gr rfl,
   by intros; exact eq_push rfl,
   by intros; exact eq_ld rfl rfl,
   by intros; exact eq_i2 (o := mx_mul) rfl,
   by intros; exact eq_ld rfl rfl,
   by intros; exact eq_i2 (o := mx_add) rfl,
   by intros; exact eq_lald rfl,
   by intros; exact eq_l2i rfl,
   by intros; exact eq_go rfl,
   by intros; exact eq_push rfl,
   by intros; exact eq_ret rfl⟩
theorem rw_X12_isShelf :
  (∀ (d : Nat) (a0 : Int) (S h : mx_H) (n : Int), mx_M d 231 [(0, a0)] S h n = mx_ex d 231 0 [some (0, a0)] [] S h n) ∧
  (∀ (d : Nat) (x : Int) (S h : mx_H) (n : Int), mx_ex d 231 0 [some (0, x)] [] S h n = mx_ex d 231 1 [some (0, x)] [(0, x)] S h n) ∧
  (∀ (d : Nat) (l0 : Option mx_V) (v0 : mx_V) (S h : mx_H) (n : Int), mx_ex d 231 1 [l0] [v0] S h n = mx_ex d 231 2 [l0] [(0, 0), v0] S h n) ∧
  (∀ (d : Nat) (l0 : Option mx_V) (v0 v1 : mx_V) (S h : mx_H) (n : Int), mx_ex d 231 2 [l0] [v0, v1] S h n = mx_ex d 231 3 [l0] [(0, 3), v0, v1] S h n) ∧
  (∀ (d : Nat) (x0 x1 x2 : Int) (l0 : Option mx_V) (S h : mx_H) (n : Int), mx_ex (d + 1) 231 3 [l0] [(0, x0), (0, x1), (0, x2)] S h n = mx_rt (mx_M d 157 [(0, x2), (0, x1), (0, x0)] S h n) (d + 1) 231 6 [l0] []) ∧
  (∀ (d : Nat) (x : Int) (l0 : Option mx_V) (S h : mx_H) (n : Int), mx_ex d 231 6 [l0] [(0, x)] S h n = mx_re (0 ≤ x ∧ x ≤ 1) (some (0, x)) S h n) :=
  ⟨by intros; exact rfl,
   by intros; exact eq_ld rfl rfl,
   by intros; exact eq_push rfl,
   by intros; exact eq_push rfl,
   by intros; exact eq_cs rfl (Nat.le_of_ble_eq_true rfl) rfl rfl rfl (Nat.le_of_ble_eq_true rfl),
   by intros; exact eq_rr rfl⟩
theorem rw_X12_shelf :
  (∀ (d : Nat) (a0 a1 a2 a3 : Int) (S h : mx_H) (n : Int), mx_M d 232 [(2, a0), (0, a1), (0, a2), (0, a3)] S h n = mx_ex d 232 0 [some (2, a0), some (0, a1), some (0, a2), some (0, a3), none] [] S h n) ∧
  (∀ (d : Nat) (x : Int) (l0 l2 l3 l4 : Option mx_V) (S h : mx_H) (n : Int), mx_ex d 232 0 [l0, some (0, x), l2, l3, l4] [] S h n = mx_ex d 232 1 [l0, some (0, x), l2, l3, l4] [(0, x)] S h n) ∧
  (∀ (d : Nat) (x0 : Int) (l0 l1 l2 l3 l4 : Option mx_V) (S h : mx_H) (n : Int), mx_ex (d + 1) 232 1 [l0, l1, l2, l3, l4] [(0, x0)] S h n = mx_rt (mx_M d 231 [(0, x0)] S h n) (d + 1) 232 4 [l0, l1, l2, l3, l4] []) ∧
  (∀ (d : Nat) (a : Int) (l0 l1 l2 l3 l4 : Option mx_V) (S h : mx_H) (n : Int), mx_ex d 232 4 [l0, l1, l2, l3, l4] [(0, a)] S h n = mx_br (a = 0) d 232 40 7 [l0, l1, l2, l3, l4] [] S h n) ∧
  (∀ (d : Nat) (x : Int) (l0 l1 l3 l4 : Option mx_V) (S h : mx_H) (n : Int), mx_ex d 232 7 [l0, l1, some (0, x), l3, l4] [] S h n = mx_ex d 232 8 [l0, l1, some (0, x), l3, l4] [(0, x)] S h n) ∧
  (∀ (d : Nat) (l0 l1 l2 l3 l4 : Option mx_V) (v0 : mx_V) (S h : mx_H) (n : Int), mx_ex d 232 8 [l0, l1, l2, l3, l4] [v0] S h n = mx_ex d 232 9 [l0, l1, l2, l3, l4] [(0, 0), v0] S h n) ∧
  (∀ (d : Nat) (l0 l1 l2 l3 l4 : Option mx_V) (v0 v1 : mx_V) (S h : mx_H) (n : Int), mx_ex d 232 9 [l0, l1, l2, l3, l4] [v0, v1] S h n = mx_ex d 232 10 [l0, l1, l2, l3, l4] [(0, 2), v0, v1] S h n) ∧
  (∀ (d : Nat) (x0 x1 x2 : Int) (l0 l1 l2 l3 l4 : Option mx_V) (S h : mx_H) (n : Int), mx_ex (d + 1) 232 10 [l0, l1, l2, l3, l4] [(0, x0), (0, x1), (0, x2)] S h n = mx_rt (mx_M d 157 [(0, x2), (0, x1), (0, x0)] S h n) (d + 1) 232 13 [l0, l1, l2, l3, l4] []) ∧
  (∀ (d : Nat) (a : Int) (l0 l1 l2 l3 l4 : Option mx_V) (S h : mx_H) (n : Int), mx_ex d 232 13 [l0, l1, l2, l3, l4] [(0, a)] S h n = mx_br (a = 0) d 232 40 16 [l0, l1, l2, l3, l4] [] S h n) ∧
  (∀ (d : Nat) (x : Int) (l0 l1 l3 l4 : Option mx_V) (S h : mx_H) (n : Int), mx_ex d 232 16 [l0, l1, some (0, x), l3, l4] [] S h n = mx_ex d 232 17 [l0, l1, some (0, x), l3, l4] [(0, x)] S h n) ∧
  (∀ (d : Nat) (a : Int) (l0 l1 l2 l3 l4 : Option mx_V) (S h : mx_H) (n : Int), mx_ex d 232 17 [l0, l1, l2, l3, l4] [(0, a)] S h n = mx_br (a = 0) d 232 20 28 [l0, l1, l2, l3, l4] [] S h n) ∧
  (∀ (d : Nat) (x : Int) (l1 l2 l3 l4 : Option mx_V) (S h : mx_H) (n : Int), mx_ex d 232 20 [some (2, x), l1, l2, l3, l4] [] S h n = mx_ex d 232 21 [some (2, x), l1, l2, l3, l4] [(2, x)] S h n) ∧
  (∀ (d : Nat) (x : Int) (l0 l1 l2 l4 : Option mx_V) (v0 : mx_V) (S h : mx_H) (n : Int), mx_ex d 232 21 [l0, l1, l2, some (0, x), l4] [v0] S h n = mx_ex d 232 22 [l0, l1, l2, some (0, x), l4] [(0, x), v0] S h n) ∧
  (∀ (d : Nat) (x0 a : Int) (l0 l1 l2 l3 l4 : Option mx_V) (S h : mx_H) (n : Int), mx_ex (d + 1) 232 22 [l0, l1, l2, l3, l4] [(0, x0), (2, a)] S h n = mx_cl (S a (-2) = 13) d 158 [(2, a), (0, x0)] 232 25 [l0, l1, l2, l3, l4] [] S h n) ∧
  (∀ (d : Nat) (a : Int) (l0 l1 l2 l3 l4 : Option mx_V) (S h : mx_H) (n : Int), mx_ex d 232 25 [l0, l1, l2, l3, l4] [(0, a)] S h n = mx_br (a = 0) d 232 40 28 [l0, l1, l2, l3, l4] [] S h n) ∧
  (∀ (d : Nat) (x : Int) (l0 l1 l3 l4 : Option mx_V) (S h : mx_H) (n : Int), mx_ex d 232 28 [l0, l1, some (0, x), l3, l4] [] S h n = mx_ex d 232 29 [l0, l1, some (0, x), l3, l4] [(0, x)] S h n) ∧
  (∀ (d : Nat) (l0 l1 l2 l3 l4 : Option mx_V) (v0 : mx_V) (S h : mx_H) (n : Int), mx_ex d 232 29 [l0, l1, l2, l3, l4] [v0] S h n = mx_ex d 232 30 [l0, l1, l2, l3, l4] [(0, 1), v0] S h n) ∧
  (∀ (d : Nat) (b a : Int) (l0 l1 l2 l3 l4 : Option mx_V) (S h : mx_H) (n : Int), mx_ex d 232 30 [l0, l1, l2, l3, l4] [(0, b), (0, a)] S h n = mx_br (a = b) d 232 33 42 [l0, l1, l2, l3, l4] [] S h n) ∧
  (∀ (d : Nat) (x : Int) (l0 l1 l2 l4 : Option mx_V) (S h : mx_H) (n : Int), mx_ex d 232 33 [l0, l1, l2, some (0, x), l4] [] S h n = mx_ex d 232 34 [l0, l1, l2, some (0, x), l4] [(0, x)] S h n) ∧
  (∀ (d : Nat) (x0 : Int) (l0 l1 l2 l3 l4 : Option mx_V) (S h : mx_H) (n : Int), mx_ex (d + 1) 232 34 [l0, l1, l2, l3, l4] [(0, x0)] S h n = mx_rt (mx_M d 225 [(0, x0)] S h n) (d + 1) 232 37 [l0, l1, l2, l3, l4] []) ∧
  (∀ (d : Nat) (a : Int) (l0 l1 l2 l3 l4 : Option mx_V) (S h : mx_H) (n : Int), mx_ex d 232 37 [l0, l1, l2, l3, l4] [(0, a)] S h n = mx_br (a = 0) d 232 40 42 [l0, l1, l2, l3, l4] [] S h n) ∧
  (∀ (d : Nat) (l0 l1 l2 l3 l4 : Option mx_V) (S h : mx_H) (n : Int), mx_ex d 232 40 [l0, l1, l2, l3, l4] [] S h n = mx_ex d 232 41 [l0, l1, l2, l3, l4] [(0, (-1))] S h n) ∧
  (∀ (d : Nat) (x : Int) (l0 l1 l2 l3 l4 : Option mx_V) (S h : mx_H) (n : Int), mx_ex d 232 41 [l0, l1, l2, l3, l4] [(0, x)] S h n = some (some (0, x), S, h, n)) ∧
  (∀ (d : Nat) (x : Int) (l0 l1 l3 l4 : Option mx_V) (S h : mx_H) (n : Int), mx_ex d 232 42 [l0, l1, some (0, x), l3, l4] [] S h n = mx_ex d 232 43 [l0, l1, some (0, x), l3, l4] [(0, x)] S h n) ∧
  (∀ (d : Nat) (l0 l1 l2 l3 l4 : Option mx_V) (v0 : mx_V) (S h : mx_H) (n : Int), mx_ex d 232 43 [l0, l1, l2, l3, l4] [v0] S h n = mx_ex d 232 44 [l0, l1, l2, l3, l4] [(0, 1), v0] S h n) ∧
  (∀ (d : Nat) (b a : Int) (l0 l1 l2 l3 l4 : Option mx_V) (S h : mx_H) (n : Int), mx_ex d 232 44 [l0, l1, l2, l3, l4] [(0, b), (0, a)] S h n = mx_br (a = b) d 232 47 60 [l0, l1, l2, l3, l4] [] S h n) ∧
  (∀ (d : Nat) (x : Int) (l1 l2 l3 l4 : Option mx_V) (S h : mx_H) (n : Int), mx_ex d 232 47 [some (2, x), l1, l2, l3, l4] [] S h n = mx_ex d 232 48 [some (2, x), l1, l2, l3, l4] [(2, x)] S h n) ∧
  (∀ (d : Nat) (a : Int) (l0 l1 l2 l3 l4 : Option mx_V) (S h : mx_H) (n : Int), mx_ex d 232 48 [l0, l1, l2, l3, l4] [(2, a)] S h n = mx_gd (13 ≤ S a (-2) ∧ S a (-2) ≤ 13) d 232 51 [l0, l1, l2, l3, l4] [(2, S a 16)] S h n) ∧
  (∀ (d : Nat) (x : Int) (l0 l1 l2 l4 : Option mx_V) (v0 : mx_V) (S h : mx_H) (n : Int), mx_ex d 232 51 [l0, l1, l2, some (0, x), l4] [v0] S h n = mx_ex d 232 52 [l0, l1, l2, some (0, x), l4] [(0, x), v0] S h n) ∧
  (∀ (d : Nat) (i a : Int) (l0 l1 l2 l3 l4 : Option mx_V) (S h : mx_H) (n : Int), mx_ex d 232 52 [l0, l1, l2, l3, l4] [(0, i), (2, a)] S h n = mx_gd ((S a (-2) = 20 ∨ S a (-2) = 24) ∧ 0 ≤ i ∧ i < S a (-1)) d 232 53 [l0, l1, l2, l3, l4] [(0, h a i)] S h n) ∧
  (∀ (d : Nat) (a : Int) (l0 l1 l2 l3 l4 : Option mx_V) (S h : mx_H) (n : Int), mx_ex d 232 53 [l0, l1, l2, l3, l4] [(0, a)] S h n = mx_br (a < 0) d 232 60 56 [l0, l1, l2, l3, l4] [] S h n) ∧
  (∀ (d : Nat) (l0 l1 l2 l3 l4 : Option mx_V) (S h : mx_H) (n : Int), mx_ex d 232 56 [l0, l1, l2, l3, l4] [] S h n = mx_ex d 232 57 [l0, l1, l2, l3, l4] [(0, 1)] S h n) ∧
  (∀ (d : Nat) (l0 l1 l2 l3 l4 : Option mx_V) (v0 : mx_V) (S h : mx_H) (n : Int), mx_ex d 232 57 [l0, l1, l2, l3, l4] [v0] S h n = mx_ex d 232 61 [l0, l1, l2, l3, l4] [v0] S h n) ∧
  (∀ (d : Nat) (l0 l1 l2 l3 l4 : Option mx_V) (S h : mx_H) (n : Int), mx_ex d 232 60 [l0, l1, l2, l3, l4] [] S h n = mx_ex d 232 61 [l0, l1, l2, l3, l4] [(0, 0)] S h n) ∧
  (∀ (d : Nat) (x : Int) (l0 l1 l2 l3 l4 : Option mx_V) (S h : mx_H) (n : Int), mx_ex d 232 61 [l0, l1, l2, l3, l4] [(0, x)] S h n = mx_ex d 232 63 [l0, l1, l2, mx_nl l3, some (0, x)] [] S h n) ∧
  (∀ (d : Nat) (x : Int) (l1 l2 l3 l4 : Option mx_V) (S h : mx_H) (n : Int), mx_ex d 232 63 [some (2, x), l1, l2, l3, l4] [] S h n = mx_ex d 232 64 [some (2, x), l1, l2, l3, l4] [(2, x)] S h n) ∧
  (∀ (d : Nat) (a : Int) (l0 l1 l2 l3 l4 : Option mx_V) (S h : mx_H) (n : Int), mx_ex d 232 64 [l0, l1, l2, l3, l4] [(2, a)] S h n = mx_gd (13 ≤ S a (-2) ∧ S a (-2) ≤ 13) d 232 67 [l0, l1, l2, l3, l4] [(2, S a 19)] S h n) ∧
  (∀ (d : Nat) (x : Int) (l0 l2 l3 l4 : Option mx_V) (v0 : mx_V) (S h : mx_H) (n : Int), mx_ex d 232 67 [l0, some (0, x), l2, l3, l4] [v0] S h n = mx_ex d 232 68 [l0, some (0, x), l2, l3, l4] [(0, x), v0] S h n) ∧
  (∀ (d : Nat) (x : Int) (l0 l1 l3 l4 : Option mx_V) (v0 v1 : mx_V) (S h : mx_H) (n : Int), mx_ex d 232 68 [l0, l1, some (0, x), l3, l4] [v0, v1] S h n = mx_ex d 232 69 [l0, l1, some (0, x), l3, l4] [(0, x), v0, v1] S h n) ∧
  (∀ (d : Nat) (a : Int) (l0 l1 l2 l3 l4 : Option mx_V) (v1 v2 : mx_V) (S h : mx_H) (n : Int), mx_ex d 232 69 [l0, l1, l2, l3, l4] [(0, a), v1, v2] S h n = mx_br (a = 0) d 232 72 76 [l0, l1, l2, l3, l4] [v1, v2] S h n) ∧
  (∀ (d : Nat) (l0 l1 l2 l3 l4 : Option mx_V) (v0 v1 : mx_V) (S h : mx_H) (n : Int), mx_ex d 232 72 [l0, l1, l2, l3, l4] [v0, v1] S h n = mx_ex d 232 73 [l0, l1, l2, l3, l4] [(0, 1), v0, v1] S h n) ∧
  (∀ (d : Nat) (l0 l1 l2 l3 l4 : Option mx_V) (v0 v1 v2 : mx_V) (S h : mx_H) (n : Int), mx_ex d 232 73 [l0, l1, l2, l3, l4] [v0, v1, v2] S h n = mx_ex d 232 94 [l0, l1, l2, l3, l4] [v0, v1, v2] S h n) ∧
  (∀ (d : Nat) (x : Int) (l0 l1 l2 l3 : Option mx_V) (v0 v1 : mx_V) (S h : mx_H) (n : Int), mx_ex d 232 76 [l0, l1, l2, l3, some (0, x)] [v0, v1] S h n = mx_ex d 232 78 [l0, l1, l2, l3, some (0, x)] [(0, x), v0, v1] S h n) ∧
  (∀ (d : Nat) (a : Int) (l0 l1 l2 l3 l4 : Option mx_V) (v1 v2 : mx_V) (S h : mx_H) (n : Int), mx_ex d 232 78 [l0, l1, l2, l3, l4] [(0, a), v1, v2] S h n = mx_br (a = 0) d 232 93 81 [l0, l1, l2, l3, l4] [v1, v2] S h n) ∧
  (∀ (d : Nat) (l0 l1 l2 l3 l4 : Option mx_V) (v0 v1 : mx_V) (S h : mx_H) (n : Int), mx_ex d 232 81 [l0, l1, l2, l3, l4] [v0, v1] S h n = mx_ex d 232 83 [l0, l1, l2, l3, l4] [(0, 10), v0, v1] S h n) ∧
  (∀ (d : Nat) (x : Int) (l1 l2 l3 l4 : Option mx_V) (v0 v1 v2 : mx_V) (S h : mx_H) (n : Int), mx_ex d 232 83 [some (2, x), l1, l2, l3, l4] [v0, v1, v2] S h n = mx_ex d 232 84 [some (2, x), l1, l2, l3, l4] [(2, x), v0, v1, v2] S h n) ∧
  (∀ (d : Nat) (a : Int) (l0 l1 l2 l3 l4 : Option mx_V) (v1 v2 v3 : mx_V) (S h : mx_H) (n : Int), mx_ex d 232 84 [l0, l1, l2, l3, l4] [(2, a), v1, v2, v3] S h n = mx_gd (13 ≤ S a (-2) ∧ S a (-2) ≤ 13) d 232 87 [l0, l1, l2, l3, l4] [(2, S a 16), v1, v2, v3] S h n) ∧
  (∀ (d : Nat) (x : Int) (l0 l1 l2 l4 : Option mx_V) (v0 v1 v2 v3 : mx_V) (S h : mx_H) (n : Int), mx_ex d 232 87 [l0, l1, l2, some (0, x), l4] [v0, v1, v2, v3] S h n = mx_ex d 232 88 [l0, l1, l2, some (0, x), l4] [(0, x), v0, v1, v2, v3] S h n) ∧
  (∀ (d : Nat) (i a : Int) (l0 l1 l2 l3 l4 : Option mx_V) (v2 v3 v4 : mx_V) (S h : mx_H) (n : Int), mx_ex d 232 88 [l0, l1, l2, l3, l4] [(0, i), (2, a), v2, v3, v4] S h n = mx_gd ((S a (-2) = 20 ∨ S a (-2) = 24) ∧ 0 ≤ i ∧ i < S a (-1)) d 232 89 [l0, l1, l2, l3, l4] [(0, h a i), v2, v3, v4] S h n) ∧
  (∀ (d : Nat) (b a : Int) (l0 l1 l2 l3 l4 : Option mx_V) (v2 v3 : mx_V) (S h : mx_H) (n : Int), mx_ex d 232 89 [l0, l1, l2, l3, l4] [(0, b), (0, a), v2, v3] S h n = mx_ex d 232 90 [l0, l1, l2, l3, l4] [(0, mx_w (a + b)), v2, v3] S h n) ∧
  (∀ (d : Nat) (l0 l1 l2 l3 l4 : Option mx_V) (v0 v1 v2 : mx_V) (S h : mx_H) (n : Int), mx_ex d 232 90 [l0, l1, l2, l3, l4] [v0, v1, v2] S h n = mx_ex d 232 94 [l0, l1, l2, l3, l4] [v0, v1, v2] S h n) ∧
  (∀ (d : Nat) (l0 l1 l2 l3 l4 : Option mx_V) (v0 v1 : mx_V) (S h : mx_H) (n : Int), mx_ex d 232 93 [l0, l1, l2, l3, l4] [v0, v1] S h n = mx_ex d 232 94 [l0, l1, l2, l3, l4] [(0, 0), v0, v1] S h n) ∧
  (∀ (d : Nat) (v i a : Int) (l0 l1 l2 l3 l4 : Option mx_V) (S h : mx_H) (n : Int), mx_ex d 232 94 [l0, l1, l2, l3, l4] [(0, v), (0, i), (2, a)] S h n = mx_gd (S a (-2) = 20 ∧ 0 ≤ i ∧ i < S a (-1)) d 232 95 [l0, l1, l2, l3, l4] [] S (mx_u h a i v) n) ∧
  (∀ (d : Nat) (x : Int) (l1 l2 l3 l4 : Option mx_V) (S h : mx_H) (n : Int), mx_ex d 232 95 [some (2, x), l1, l2, l3, l4] [] S h n = mx_ex d 232 96 [some (2, x), l1, l2, l3, l4] [(2, x)] S h n) ∧
  (∀ (d : Nat) (a : Int) (l0 l1 l2 l3 l4 : Option mx_V) (S h : mx_H) (n : Int), mx_ex d 232 96 [l0, l1, l2, l3, l4] [(2, a)] S h n = mx_gd (13 ≤ S a (-2) ∧ S a (-2) ≤ 13) d 232 99 [l0, l1, l2, l3, l4] [(2, S a 20)] S h n) ∧
  (∀ (d : Nat) (x : Int) (l0 l2 l3 l4 : Option mx_V) (v0 : mx_V) (S h : mx_H) (n : Int), mx_ex d 232 99 [l0, some (0, x), l2, l3, l4] [v0] S h n = mx_ex d 232 100 [l0, some (0, x), l2, l3, l4] [(0, x), v0] S h n) ∧
  (∀ (d : Nat) (x : Int) (l0 l1 l3 l4 : Option mx_V) (v0 v1 : mx_V) (S h : mx_H) (n : Int), mx_ex d 232 100 [l0, l1, some (0, x), l3, l4] [v0, v1] S h n = mx_ex d 232 101 [l0, l1, some (0, x), l3, l4] [(0, x), v0, v1] S h n) ∧
  (∀ (d : Nat) (a : Int) (l0 l1 l2 l3 l4 : Option mx_V) (v1 v2 : mx_V) (S h : mx_H) (n : Int), mx_ex d 232 101 [l0, l1, l2, l3, l4] [(0, a), v1, v2] S h n = mx_br (a = 0) d 232 104 108 [l0, l1, l2, l3, l4] [v1, v2] S h n) ∧
  (∀ (d : Nat) (x : Int) (l0 l1 l2 l4 : Option mx_V) (v0 v1 : mx_V) (S h : mx_H) (n : Int), mx_ex d 232 104 [l0, l1, l2, some (0, x), l4] [v0, v1] S h n = mx_ex d 232 105 [l0, l1, l2, some (0, x), l4] [(0, x), v0, v1] S h n) ∧
  (∀ (d : Nat) (l0 l1 l2 l3 l4 : Option mx_V) (v0 v1 v2 : mx_V) (S h : mx_H) (n : Int), mx_ex d 232 105 [l0, l1, l2, l3, l4] [v0, v1, v2] S h n = mx_ex d 232 123 [l0, l1, l2, l3, l4] [v0, v1, v2] S h n) ∧
  (∀ (d : Nat) (x : Int) (l0 l1 l2 l3 : Option mx_V) (v0 v1 : mx_V) (S h : mx_H) (n : Int), mx_ex d 232 108 [l0, l1, l2, l3, some (0, x)] [v0, v1] S h n = mx_ex d 232 110 [l0, l1, l2, l3, some (0, x)] [(0, x), v0, v1] S h n) ∧
  (∀ (d : Nat) (a : Int) (l0 l1 l2 l3 l4 : Option mx_V) (v1 v2 : mx_V) (S h : mx_H) (n : Int), mx_ex d 232 110 [l0, l1, l2, l3, l4] [(0, a), v1, v2] S h n = mx_br (a = 0) d 232 122 113 [l0, l1, l2, l3, l4] [v1, v2] S h n) ∧
  (∀ (d : Nat) (x : Int) (l1 l2 l3 l4 : Option mx_V) (v0 v1 : mx_V) (S h : mx_H) (n : Int), mx_ex d 232 113 [some (2, x), l1, l2, l3, l4] [v0, v1] S h n = mx_ex d 232 114 [some (2, x), l1, l2, l3, l4] [(2, x), v0, v1] S h n) ∧
  (∀ (d : Nat) (a : Int) (l0 l1 l2 l3 l4 : Option mx_V) (v1 v2 : mx_V) (S h : mx_H) (n : Int), mx_ex d 232 114 [l0, l1, l2, l3, l4] [(2, a), v1, v2] S h n = mx_gd (13 ≤ S a (-2) ∧ S a (-2) ≤ 13) d 232 117 [l0, l1, l2, l3, l4] [(2, S a 17), v1, v2] S h n) ∧
  (∀ (d : Nat) (x : Int) (l0 l1 l2 l4 : Option mx_V) (v0 v1 v2 : mx_V) (S h : mx_H) (n : Int), mx_ex d 232 117 [l0, l1, l2, some (0, x), l4] [v0, v1, v2] S h n = mx_ex d 232 118 [l0, l1, l2, some (0, x), l4] [(0, x), v0, v1, v2] S h n) ∧
  (∀ (d : Nat) (i a : Int) (l0 l1 l2 l3 l4 : Option mx_V) (v2 v3 : mx_V) (S h : mx_H) (n : Int), mx_ex d 232 118 [l0, l1, l2, l3, l4] [(0, i), (2, a), v2, v3] S h n = mx_gd ((S a (-2) = 20 ∨ S a (-2) = 24) ∧ 0 ≤ i ∧ i < S a (-1)) d 232 119 [l0, l1, l2, l3, l4] [(0, h a i), v2, v3] S h n) ∧
  (∀ (d : Nat) (l0 l1 l2 l3 l4 : Option mx_V) (v0 v1 v2 : mx_V) (S h : mx_H) (n : Int), mx_ex d 232 119 [l0, l1, l2, l3, l4] [v0, v1, v2] S h n = mx_ex d 232 123 [l0, l1, l2, l3, l4] [v0, v1, v2] S h n) ∧
  (∀ (d : Nat) (l0 l1 l2 l3 l4 : Option mx_V) (v0 v1 : mx_V) (S h : mx_H) (n : Int), mx_ex d 232 122 [l0, l1, l2, l3, l4] [v0, v1] S h n = mx_ex d 232 123 [l0, l1, l2, l3, l4] [(0, 0), v0, v1] S h n) ∧
  (∀ (d : Nat) (v i a : Int) (l0 l1 l2 l3 l4 : Option mx_V) (S h : mx_H) (n : Int), mx_ex d 232 123 [l0, l1, l2, l3, l4] [(0, v), (0, i), (2, a)] S h n = mx_gd (S a (-2) = 20 ∧ 0 ≤ i ∧ i < S a (-1)) d 232 124 [l0, l1, l2, l3, l4] [] S (mx_u h a i v) n) ∧
  (∀ (d : Nat) (l0 l1 l2 l3 l4 : Option mx_V) (S h : mx_H) (n : Int), mx_ex d 232 124 [l0, l1, l2, l3, l4] [] S h n = mx_ex d 232 125 [l0, l1, l2, l3, l4] [(0, 1)] S h n) :=
  ⟨by intros; exact rfl,
   by intros; exact eq_ld rfl rfl,
   by intros; exact eq_cs rfl (Nat.le_of_ble_eq_true rfl) rfl rfl rfl (Nat.le_of_ble_eq_true rfl),
   by intros; exact eq_if0 rfl,
   by intros; exact eq_ld rfl rfl,
   by intros; exact eq_push rfl,
   by intros; exact eq_push rfl,
   by intros; exact eq_cs rfl (Nat.le_of_ble_eq_true rfl) rfl rfl rfl (Nat.le_of_ble_eq_true rfl),
   by intros; exact eq_if0 rfl,
   by intros; exact eq_ld rfl rfl,
   by intros; exact eq_if1 rfl,
   by intros; exact eq_ld rfl rfl,
   by intros; exact eq_ld rfl rfl,
   by intros; exact eq_cv rfl (Nat.le_of_ble_eq_true rfl) rfl rfl rfl (Nat.le_of_ble_eq_true rfl),
   by intros; exact eq_if0 rfl,
   by intros; exact eq_ld rfl rfl,
   by intros; exact eq_push rfl,
   by intros; exact eq_ic1 rfl,
   by intros; exact eq_ld rfl rfl,
   by intros; exact eq_cs rfl (Nat.le_of_ble_eq_true rfl) rfl rfl rfl (Nat.le_of_ble_eq_true rfl),
   by intros; exact eq_if1 rfl,
   by intros; exact eq_push rfl,
   by intros; exact eq_ret rfl,
   by intros; exact eq_ld rfl rfl,
   by intros; exact eq_push rfl,
   by intros; exact eq_ic1 rfl,
   by intros; exact eq_ld rfl rfl,
   by intros; exact eq_gr rfl,
   by intros; exact eq_ld rfl rfl,
   by intros; exact eq_iald rfl,
   by intros; exact eq_if2 rfl,
   by intros; exact eq_push rfl,
   by intros; exact eq_go rfl,
   by intros; exact eq_push rfl,
   by intros; exact eq_st rfl (by decide) (Nat.le_of_ble_eq_true rfl) rfl,
   by intros; exact eq_ld rfl rfl,
   by intros; exact eq_gr rfl,
   by intros; exact eq_ld rfl rfl,
   by intros; exact eq_ld rfl rfl,
   by intros; exact eq_if1 rfl,
   by intros; exact eq_push rfl,
   by intros; exact eq_go rfl,
   by intros; exact eq_ld rfl rfl,
   by intros; exact eq_if0 rfl,
   by intros; exact eq_push rfl,
   by intros; exact eq_ld rfl rfl,
   by intros; exact eq_gr rfl,
   by intros; exact eq_ld rfl rfl,
   by intros; exact eq_iald rfl,
   by intros; exact eq_i2 (o := mx_add) rfl,
   by intros; exact eq_go rfl,
   by intros; exact eq_push rfl,
   by intros; exact eq_iast rfl,
   by intros; exact eq_ld rfl rfl,
   by intros; exact eq_gr rfl,
   by intros; exact eq_ld rfl rfl,
   by intros; exact eq_ld rfl rfl,
   by intros; exact eq_if1 rfl,
   by intros; exact eq_ld rfl rfl,
   by intros; exact eq_go rfl,
   by intros; exact eq_ld rfl rfl,
   by intros; exact eq_if0 rfl,
   by intros; exact eq_ld rfl rfl,
   by intros; exact eq_gr rfl,
   by intros; exact eq_ld rfl rfl,
   by intros; exact eq_iald rfl,
   by intros; exact eq_go rfl,
   by intros; exact eq_push rfl,
   by intros; exact eq_iast rfl,
   by intros; exact eq_push rfl⟩
theorem rw_X12_shelf_1 :
  (∀ (d : Nat) (x : Int) (l0 l1 l2 l3 l4 : Option mx_V) (S h : mx_H) (n : Int), mx_ex d 232 125 [l0, l1, l2, l3, l4] [(0, x)] S h n = some (some (0, x), S, h, n)) :=
  by intros; exact eq_ret rfl
theorem rw_X12_isEmpty :
  (∀ (d : Nat) (a0 a1 : Int) (S h : mx_H) (n : Int), mx_M d 233 [(2, a0), (0, a1)] S h n = mx_ex d 233 0 [some (2, a0), some (0, a1)] [] S h n) ∧
  (∀ (d : Nat) (x : Int) (l1 : Option mx_V) (S h : mx_H) (n : Int), mx_ex d 233 0 [some (2, x), l1] [] S h n = mx_ex d 233 1 [some (2, x), l1] [(2, x)] S h n) ∧
  (∀ (d : Nat) (a : Int) (l0 l1 : Option mx_V) (S h : mx_H) (n : Int), mx_ex d 233 1 [l0, l1] [(2, a)] S h n = mx_gd (13 ≤ S a (-2) ∧ S a (-2) ≤ 13) d 233 4 [l0, l1] [(2, S a 19)] S h n) ∧
  (∀ (d : Nat) (x : Int) (l0 : Option mx_V) (v0 : mx_V) (S h : mx_H) (n : Int), mx_ex d 233 4 [l0, some (0, x)] [v0] S h n = mx_ex d 233 5 [l0, some (0, x)] [(0, x), v0] S h n) ∧
  (∀ (d : Nat) (i a : Int) (l0 l1 : Option mx_V) (S h : mx_H) (n : Int), mx_ex d 233 5 [l0, l1] [(0, i), (2, a)] S h n = mx_gd ((S a (-2) = 20 ∨ S a (-2) = 24) ∧ 0 ≤ i ∧ i < S a (-1)) d 233 6 [l0, l1] [(0, h a i)] S h n) ∧
  (∀ (d : Nat) (a : Int) (l0 l1 : Option mx_V) (S h : mx_H) (n : Int), mx_ex d 233 6 [l0, l1] [(0, a)] S h n = mx_br (a = 0) d 233 32 9 [l0, l1] [] S h n) ∧
  (∀ (d : Nat) (x : Int) (l1 : Option mx_V) (S h : mx_H) (n : Int), mx_ex d 233 9 [some (2, x), l1] [] S h n = mx_ex d 233 10 [some (2, x), l1] [(2, x)] S h n) ∧
  (∀ (d : Nat) (a : Int) (l0 l1 : Option mx_V) (S h : mx_H) (n : Int), mx_ex d 233 10 [l0, l1] [(2, a)] S h n = mx_gd (13 ≤ S a (-2) ∧ S a (-2) ≤ 13) d 233 13 [l0, l1] [(2, S a 19)] S h n) ∧
  (∀ (d : Nat) (x : Int) (l0 : Option mx_V) (v0 : mx_V) (S h : mx_H) (n : Int), mx_ex d 233 13 [l0, some (0, x)] [v0] S h n = mx_ex d 233 14 [l0, some (0, x)] [(0, x), v0] S h n) ∧
  (∀ (d : Nat) (i a : Int) (l0 l1 : Option mx_V) (S h : mx_H) (n : Int), mx_ex d 233 14 [l0, l1] [(0, i), (2, a)] S h n = mx_gd ((S a (-2) = 20 ∨ S a (-2) = 24) ∧ 0 ≤ i ∧ i < S a (-1)) d 233 15 [l0, l1] [(0, h a i)] S h n) ∧
  (∀ (d : Nat) (l0 l1 : Option mx_V) (v0 : mx_V) (S h : mx_H) (n : Int), mx_ex d 233 15 [l0, l1] [v0] S h n = mx_ex d 233 16 [l0, l1] [(0, 1), v0] S h n) ∧
  (∀ (d : Nat) (b a : Int) (l0 l1 : Option mx_V) (S h : mx_H) (n : Int), mx_ex d 233 16 [l0, l1] [(0, b), (0, a)] S h n = mx_br (a = b) d 233 19 36 [l0, l1] [] S h n) ∧
  (∀ (d : Nat) (x : Int) (l1 : Option mx_V) (S h : mx_H) (n : Int), mx_ex d 233 19 [some (2, x), l1] [] S h n = mx_ex d 233 20 [some (2, x), l1] [(2, x)] S h n) ∧
  (∀ (d : Nat) (x : Int) (l1 : Option mx_V) (v0 : mx_V) (S h : mx_H) (n : Int), mx_ex d 233 20 [some (2, x), l1] [v0] S h n = mx_ex d 233 21 [some (2, x), l1] [(2, x), v0] S h n) ∧
  (∀ (d : Nat) (a : Int) (l0 l1 : Option mx_V) (v1 : mx_V) (S h : mx_H) (n : Int), mx_ex d 233 21 [l0, l1] [(2, a), v1] S h n = mx_gd (13 ≤ S a (-2) ∧ S a (-2) ≤ 13) d 233 24 [l0, l1] [(2, S a 20), v1] S h n) ∧
  (∀ (d : Nat) (x : Int) (l0 : Option mx_V) (v0 v1 : mx_V) (S h : mx_H) (n : Int), mx_ex d 233 24 [l0, some (0, x)] [v0, v1] S h n = mx_ex d 233 25 [l0, some (0, x)] [(0, x), v0, v1] S h n) ∧
  (∀ (d : Nat) (i a : Int) (l0 l1 : Option mx_V) (v2 : mx_V) (S h : mx_H) (n : Int), mx_ex d 233 25 [l0, l1] [(0, i), (2, a), v2] S h n = mx_gd ((S a (-2) = 20 ∨ S a (-2) = 24) ∧ 0 ≤ i ∧ i < S a (-1)) d 233 26 [l0, l1] [(0, h a i), v2] S h n) ∧
  (∀ (d : Nat) (x0 a : Int) (l0 l1 : Option mx_V) (S h : mx_H) (n : Int), mx_ex (d + 1) 233 26 [l0, l1] [(0, x0), (2, a)] S h n = mx_cl (S a (-2) = 13) d 158 [(2, a), (0, x0)] 233 29 [l0, l1] [] S h n) ∧
  (∀ (d : Nat) (a : Int) (l0 l1 : Option mx_V) (S h : mx_H) (n : Int), mx_ex d 233 29 [l0, l1] [(0, a)] S h n = mx_br (a = 0) d 233 32 36 [l0, l1] [] S h n) ∧
  (∀ (d : Nat) (l0 l1 : Option mx_V) (S h : mx_H) (n : Int), mx_ex d 233 32 [l0, l1] [] S h n = mx_ex d 233 33 [l0, l1] [(0, 1)] S h n) ∧
  (∀ (d : Nat) (l0 l1 : Option mx_V) (v0 : mx_V) (S h : mx_H) (n : Int), mx_ex d 233 33 [l0, l1] [v0] S h n = mx_ex d 233 37 [l0, l1] [v0] S h n) ∧
  (∀ (d : Nat) (l0 l1 : Option mx_V) (S h : mx_H) (n : Int), mx_ex d 233 36 [l0, l1] [] S h n = mx_ex d 233 37 [l0, l1] [(0, 0)] S h n) ∧
  (∀ (d : Nat) (x : Int) (l0 l1 : Option mx_V) (S h : mx_H) (n : Int), mx_ex d 233 37 [l0, l1] [(0, x)] S h n = mx_re (0 ≤ x ∧ x ≤ 1) (some (0, x)) S h n) :=
  ⟨by intros; exact rfl,
   by intros; exact eq_ld rfl rfl,
   by intros; exact eq_gr rfl,
   by intros; exact eq_ld rfl rfl,
   by intros; exact eq_iald rfl,
   by intros; exact eq_if0 rfl,
   by intros; exact eq_ld rfl rfl,
   by intros; exact eq_gr rfl,
   by intros; exact eq_ld rfl rfl,
   by intros; exact eq_iald rfl,
   by intros; exact eq_push rfl,
   by intros; exact eq_ic1 rfl,
   by intros; exact eq_ld rfl rfl,
   by intros; exact eq_ld rfl rfl,
   by intros; exact eq_gr rfl,
   by intros; exact eq_ld rfl rfl,
   by intros; exact eq_iald rfl,
   by intros; exact eq_cv rfl (Nat.le_of_ble_eq_true rfl) rfl rfl rfl (Nat.le_of_ble_eq_true rfl),
   by intros; exact eq_if1 rfl,
   by intros; exact eq_push rfl,
   by intros; exact eq_go rfl,
   by intros; exact eq_push rfl,
   by intros; exact eq_rr rfl⟩
theorem rw_X12_isUnder :
  (∀ (d : Nat) (a0 a1 : Int) (S h : mx_H) (n : Int), mx_M d 234 [(0, a0), (0, a1)] S h n = mx_ex d 234 0 [some (0, a0), some (0, a1)] [] S h n) ∧
  (∀ (d : Nat) (x : Int) (l0 : Option mx_V) (S h : mx_H) (n : Int), mx_ex d 234 0 [l0, some (0, x)] [] S h n = mx_ex d 234 1 [l0, some (0, x)] [(0, x)] S h n) ∧
  (∀ (d : Nat) (a : Int) (l0 l1 : Option mx_V) (S h : mx_H) (n : Int), mx_ex d 234 1 [l0, l1] [(0, a)] S h n = mx_br (a = 0) d 234 29 4 [l0, l1] [] S h n) ∧
  (∀ (d : Nat) (x : Int) (l1 : Option mx_V) (S h : mx_H) (n : Int), mx_ex d 234 4 [some (0, x), l1] [] S h n = mx_ex d 234 5 [some (0, x), l1] [(0, x)] S h n) ∧
  (∀ (d : Nat) (x : Int) (l0 : Option mx_V) (v0 : mx_V) (S h : mx_H) (n : Int), mx_ex d 234 5 [l0, some (0, x)] [v0] S h n = mx_ex d 234 6 [l0, some (0, x)] [(0, x), v0] S h n) ∧
  (∀ (d : Nat) (b a : Int) (l0 l1 : Option mx_V) (S h : mx_H) (n : Int), mx_ex d 234 6 [l0, l1] [(0, b), (0, a)] S h n = mx_br (a = b) d 234 29 9 [l0, l1] [] S h n) ∧
  (∀ (d : Nat) (x : Int) (l0 : Option mx_V) (S h : mx_H) (n : Int), mx_ex d 234 9 [l0, some (0, x)] [] S h n = mx_ex d 234 10 [l0, some (0, x)] [(0, x)] S h n) ∧
  (∀ (d : Nat) (l0 l1 : Option mx_V) (v0 : mx_V) (S h : mx_H) (n : Int), mx_ex d 234 10 [l0, l1] [v0] S h n = mx_ex d 234 11 [l0, l1] [(0, 2), v0] S h n) ∧
  (∀ (d : Nat) (b a : Int) (l0 l1 : Option mx_V) (S h : mx_H) (n : Int), mx_ex d 234 11 [l0, l1] [(0, b), (0, a)] S h n = mx_br (a = b) d 234 14 19 [l0, l1] [] S h n) ∧
  (∀ (d : Nat) (x : Int) (l1 : Option mx_V) (S h : mx_H) (n : Int), mx_ex d 234 14 [some (0, x), l1] [] S h n = mx_ex d 234 15 [some (0, x), l1] [(0, x)] S h n) ∧
  (∀ (d : Nat) (l0 l1 : Option mx_V) (v0 : mx_V) (S h : mx_H) (n : Int), mx_ex d 234 15 [l0, l1] [v0] S h n = mx_ex d 234 16 [l0, l1] [(0, 3), v0] S h n) ∧
  (∀ (d : Nat) (b a : Int) (l0 l1 : Option mx_V) (S h : mx_H) (n : Int), mx_ex d 234 16 [l0, l1] [(0, b), (0, a)] S h n = mx_br (a = b) d 234 29 19 [l0, l1] [] S h n) ∧
  (∀ (d : Nat) (x : Int) (l0 : Option mx_V) (S h : mx_H) (n : Int), mx_ex d 234 19 [l0, some (0, x)] [] S h n = mx_ex d 234 20 [l0, some (0, x)] [(0, x)] S h n) ∧
  (∀ (d : Nat) (l0 l1 : Option mx_V) (v0 : mx_V) (S h : mx_H) (n : Int), mx_ex d 234 20 [l0, l1] [v0] S h n = mx_ex d 234 21 [l0, l1] [(0, 1), v0] S h n) ∧
  (∀ (d : Nat) (b a : Int) (l0 l1 : Option mx_V) (S h : mx_H) (n : Int), mx_ex d 234 21 [l0, l1] [(0, b), (0, a)] S h n = mx_br (a = b) d 234 24 33 [l0, l1] [] S h n) ∧
  (∀ (d : Nat) (x : Int) (l1 : Option mx_V) (S h : mx_H) (n : Int), mx_ex d 234 24 [some (0, x), l1] [] S h n = mx_ex d 234 25 [some (0, x), l1] [(0, x)] S h n) ∧
  (∀ (d : Nat) (l0 l1 : Option mx_V) (v0 : mx_V) (S h : mx_H) (n : Int), mx_ex d 234 25 [l0, l1] [v0] S h n = mx_ex d 234 26 [l0, l1] [(0, 5), v0] S h n) ∧
  (∀ (d : Nat) (b a : Int) (l0 l1 : Option mx_V) (S h : mx_H) (n : Int), mx_ex d 234 26 [l0, l1] [(0, b), (0, a)] S h n = mx_br (a = b) d 234 29 33 [l0, l1] [] S h n) ∧
  (∀ (d : Nat) (l0 l1 : Option mx_V) (S h : mx_H) (n : Int), mx_ex d 234 29 [l0, l1] [] S h n = mx_ex d 234 30 [l0, l1] [(0, 1)] S h n) ∧
  (∀ (d : Nat) (l0 l1 : Option mx_V) (v0 : mx_V) (S h : mx_H) (n : Int), mx_ex d 234 30 [l0, l1] [v0] S h n = mx_ex d 234 34 [l0, l1] [v0] S h n) ∧
  (∀ (d : Nat) (l0 l1 : Option mx_V) (S h : mx_H) (n : Int), mx_ex d 234 33 [l0, l1] [] S h n = mx_ex d 234 34 [l0, l1] [(0, 0)] S h n) ∧
  (∀ (d : Nat) (x : Int) (l0 l1 : Option mx_V) (S h : mx_H) (n : Int), mx_ex d 234 34 [l0, l1] [(0, x)] S h n = mx_re (0 ≤ x ∧ x ≤ 1) (some (0, x)) S h n) :=
  ⟨by intros; exact rfl,
   by intros; exact eq_ld rfl rfl,
   by intros; exact eq_if0 rfl,
   by intros; exact eq_ld rfl rfl,
   by intros; exact eq_ld rfl rfl,
   by intros; exact eq_ic0 rfl,
   by intros; exact eq_ld rfl rfl,
   by intros; exact eq_push rfl,
   by intros; exact eq_ic1 rfl,
   by intros; exact eq_ld rfl rfl,
   by intros; exact eq_push rfl,
   by intros; exact eq_ic0 rfl,
   by intros; exact eq_ld rfl rfl,
   by intros; exact eq_push rfl,
   by intros; exact eq_ic1 rfl,
   by intros; exact eq_ld rfl rfl,
   by intros; exact eq_push rfl,
   by intros; exact eq_ic1 rfl,
   by intros; exact eq_push rfl,
   by intros; exact eq_go rfl,
   by intros; exact eq_push rfl,
   by intros; exact eq_rr rfl⟩
theorem rw_X12_taken :
  (∀ (d : Nat) (a0 a1 a2 : Int) (S h : mx_H) (n : Int), mx_M d 235 [(2, a0), (0, a1), (0, a2)] S h n = mx_ex d 235 0 [some (2, a0), some (0, a1), some (0, a2)] [] S h n) ∧
  (∀ (d : Nat) (x : Int) (l0 l2 : Option mx_V) (S h : mx_H) (n : Int), mx_ex d 235 0 [l0, some (0, x), l2] [] S h n = mx_ex d 235 1 [l0, some (0, x), l2] [(0, x)] S h n) ∧
  (∀ (d : Nat) (x0 : Int) (l0 l1 l2 : Option mx_V) (S h : mx_H) (n : Int), mx_ex (d + 1) 235 1 [l0, l1, l2] [(0, x0)] S h n = mx_rt (mx_M d 231 [(0, x0)] S h n) (d + 1) 235 4 [l0, l1, l2] []) ∧
  (∀ (d : Nat) (a : Int) (l0 l1 l2 : Option mx_V) (S h : mx_H) (n : Int), mx_ex d 235 4 [l0, l1, l2] [(0, a)] S h n = mx_br (a = 0) d 235 27 7 [l0, l1, l2] [] S h n) ∧
  (∀ (d : Nat) (x : Int) (l0 l1 : Option mx_V) (S h : mx_H) (n : Int), mx_ex d 235 7 [l0, l1, some (0, x)] [] S h n = mx_ex d 235 8 [l0, l1, some (0, x)] [(0, x)] S h n) ∧
  (∀ (d : Nat) (l0 l1 l2 : Option mx_V) (v0 : mx_V) (S h : mx_H) (n : Int), mx_ex d 235 8 [l0, l1, l2] [v0] S h n = mx_ex d 235 9 [l0, l1, l2] [(0, 0), v0] S h n) ∧
  (∀ (d : Nat) (l0 l1 l2 : Option mx_V) (v0 v1 : mx_V) (S h : mx_H) (n : Int), mx_ex d 235 9 [l0, l1, l2] [v0, v1] S h n = mx_ex d 235 10 [l0, l1, l2] [(0, 5), v0, v1] S h n) ∧
  (∀ (d : Nat) (x0 x1 x2 : Int) (l0 l1 l2 : Option mx_V) (S h : mx_H) (n : Int), mx_ex (d + 1) 235 10 [l0, l1, l2] [(0, x0), (0, x1), (0, x2)] S h n = mx_rt (mx_M d 157 [(0, x2), (0, x1), (0, x0)] S h n) (d + 1) 235 13 [l0, l1, l2] []) ∧
  (∀ (d : Nat) (a : Int) (l0 l1 l2 : Option mx_V) (S h : mx_H) (n : Int), mx_ex d 235 13 [l0, l1, l2] [(0, a)] S h n = mx_br (a = 0) d 235 16 29 [l0, l1, l2] [] S h n) ∧
  (∀ (d : Nat) (x : Int) (l0 l1 : Option mx_V) (S h : mx_H) (n : Int), mx_ex d 235 16 [l0, l1, some (0, x)] [] S h n = mx_ex d 235 17 [l0, l1, some (0, x)] [(0, x)] S h n) ∧
  (∀ (d : Nat) (l0 l1 l2 : Option mx_V) (v0 : mx_V) (S h : mx_H) (n : Int), mx_ex d 235 17 [l0, l1, l2] [v0] S h n = mx_ex d 235 19 [l0, l1, l2] [(0, 10), v0] S h n) ∧
  (∀ (d : Nat) (l0 l1 l2 : Option mx_V) (v0 v1 : mx_V) (S h : mx_H) (n : Int), mx_ex d 235 19 [l0, l1, l2] [v0, v1] S h n = mx_ex d 235 21 [l0, l1, l2] [(0, 13), v0, v1] S h n) ∧
  (∀ (d : Nat) (x0 x1 x2 : Int) (l0 l1 l2 : Option mx_V) (S h : mx_H) (n : Int), mx_ex (d + 1) 235 21 [l0, l1, l2] [(0, x0), (0, x1), (0, x2)] S h n = mx_rt (mx_M d 157 [(0, x2), (0, x1), (0, x0)] S h n) (d + 1) 235 24 [l0, l1, l2] []) ∧
  (∀ (d : Nat) (a : Int) (l0 l1 l2 : Option mx_V) (S h : mx_H) (n : Int), mx_ex d 235 24 [l0, l1, l2] [(0, a)] S h n = mx_br (a = 0) d 235 27 29 [l0, l1, l2] [] S h n) ∧
  (∀ (d : Nat) (l0 l1 l2 : Option mx_V) (S h : mx_H) (n : Int), mx_ex d 235 27 [l0, l1, l2] [] S h n = mx_ex d 235 28 [l0, l1, l2] [(0, (-1))] S h n) ∧
  (∀ (d : Nat) (x : Int) (l0 l1 l2 : Option mx_V) (S h : mx_H) (n : Int), mx_ex d 235 28 [l0, l1, l2] [(0, x)] S h n = some (some (0, x), S, h, n)) ∧
  (∀ (d : Nat) (x : Int) (l1 l2 : Option mx_V) (S h : mx_H) (n : Int), mx_ex d 235 29 [some (2, x), l1, l2] [] S h n = mx_ex d 235 30 [some (2, x), l1, l2] [(2, x)] S h n) ∧
  (∀ (d : Nat) (x : Int) (l0 l2 : Option mx_V) (v0 : mx_V) (S h : mx_H) (n : Int), mx_ex d 235 30 [l0, some (0, x), l2] [v0] S h n = mx_ex d 235 31 [l0, some (0, x), l2] [(0, x), v0] S h n) ∧
  (∀ (d : Nat) (x0 a : Int) (l0 l1 l2 : Option mx_V) (S h : mx_H) (n : Int), mx_ex (d + 1) 235 31 [l0, l1, l2] [(0, x0), (2, a)] S h n = mx_cl (S a (-2) = 13) d 233 [(2, a), (0, x0)] 235 34 [l0, l1, l2] [] S h n) ∧
  (∀ (d : Nat) (a : Int) (l0 l1 l2 : Option mx_V) (S h : mx_H) (n : Int), mx_ex d 235 34 [l0, l1, l2] [(0, a)] S h n = mx_br (a = 0) d 235 40 37 [l0, l1, l2] [] S h n) ∧
  (∀ (d : Nat) (l0 l1 l2 : Option mx_V) (S h : mx_H) (n : Int), mx_ex d 235 37 [l0, l1, l2] [] S h n = mx_ex d 235 39 [l0, l1, l2] [(0, (-11))] S h n) ∧
  (∀ (d : Nat) (x : Int) (l0 l1 l2 : Option mx_V) (S h : mx_H) (n : Int), mx_ex d 235 39 [l0, l1, l2] [(0, x)] S h n = some (some (0, x), S, h, n)) ∧
  (∀ (d : Nat) (x : Int) (l1 l2 : Option mx_V) (S h : mx_H) (n : Int), mx_ex d 235 40 [some (2, x), l1, l2] [] S h n = mx_ex d 235 41 [some (2, x), l1, l2] [(2, x)] S h n) ∧
  (∀ (d : Nat) (a : Int) (l0 l1 l2 : Option mx_V) (S h : mx_H) (n : Int), mx_ex d 235 41 [l0, l1, l2] [(2, a)] S h n = mx_gd (13 ≤ S a (-2) ∧ S a (-2) ≤ 13) d 235 44 [l0, l1, l2] [(2, S a 19)] S h n) ∧
  (∀ (d : Nat) (x : Int) (l0 l2 : Option mx_V) (v0 : mx_V) (S h : mx_H) (n : Int), mx_ex d 235 44 [l0, some (0, x), l2] [v0] S h n = mx_ex d 235 45 [l0, some (0, x), l2] [(0, x), v0] S h n) ∧
  (∀ (d : Nat) (i a : Int) (l0 l1 l2 : Option mx_V) (S h : mx_H) (n : Int), mx_ex d 235 45 [l0, l1, l2] [(0, i), (2, a)] S h n = mx_gd ((S a (-2) = 20 ∨ S a (-2) = 24) ∧ 0 ≤ i ∧ i < S a (-1)) d 235 46 [l0, l1, l2] [(0, h a i)] S h n) ∧
  (∀ (d : Nat) (l0 l1 l2 : Option mx_V) (v0 : mx_V) (S h : mx_H) (n : Int), mx_ex d 235 46 [l0, l1, l2] [v0] S h n = mx_ex d 235 47 [l0, l1, l2] [(0, 1), v0] S h n) ∧
  (∀ (d : Nat) (b a : Int) (l0 l1 l2 : Option mx_V) (S h : mx_H) (n : Int), mx_ex d 235 47 [l0, l1, l2] [(0, b), (0, a)] S h n = mx_br (a = b) d 235 50 86 [l0, l1, l2] [] S h n) ∧
  (∀ (d : Nat) (x : Int) (l0 l1 : Option mx_V) (S h : mx_H) (n : Int), mx_ex d 235 50 [l0, l1, some (0, x)] [] S h n = mx_ex d 235 51 [l0, l1, some (0, x)] [(0, x)] S h n) ∧
  (∀ (d : Nat) (l0 l1 l2 : Option mx_V) (v0 : mx_V) (S h : mx_H) (n : Int), mx_ex d 235 51 [l0, l1, l2] [v0] S h n = mx_ex d 235 53 [l0, l1, l2] [(0, 6), v0] S h n) ∧
  (∀ (d : Nat) (b a : Int) (l0 l1 l2 : Option mx_V) (S h : mx_H) (n : Int), mx_ex d 235 53 [l0, l1, l2] [(0, b), (0, a)] S h n = mx_br (a < b) d 235 56 83 [l0, l1, l2] [] S h n) ∧
  (∀ (d : Nat) (x : Int) (l1 l2 : Option mx_V) (S h : mx_H) (n : Int), mx_ex d 235 56 [some (2, x), l1, l2] [] S h n = mx_ex d 235 57 [some (2, x), l1, l2] [(2, x)] S h n) ∧
  (∀ (d : Nat) (x : Int) (l1 l2 : Option mx_V) (v0 : mx_V) (S h : mx_H) (n : Int), mx_ex d 235 57 [some (2, x), l1, l2] [v0] S h n = mx_ex d 235 58 [some (2, x), l1, l2] [(2, x), v0] S h n) ∧
  (∀ (d : Nat) (a : Int) (l0 l1 l2 : Option mx_V) (v1 : mx_V) (S h : mx_H) (n : Int), mx_ex d 235 58 [l0, l1, l2] [(2, a), v1] S h n = mx_gd (13 ≤ S a (-2) ∧ S a (-2) ≤ 13) d 235 61 [l0, l1, l2] [(2, S a 20), v1] S h n) ∧
  (∀ (d : Nat) (x : Int) (l0 l2 : Option mx_V) (v0 v1 : mx_V) (S h : mx_H) (n : Int), mx_ex d 235 61 [l0, some (0, x), l2] [v0, v1] S h n = mx_ex d 235 62 [l0, some (0, x), l2] [(0, x), v0, v1] S h n) ∧
  (∀ (d : Nat) (i a : Int) (l0 l1 l2 : Option mx_V) (v2 : mx_V) (S h : mx_H) (n : Int), mx_ex d 235 62 [l0, l1, l2] [(0, i), (2, a), v2] S h n = mx_gd ((S a (-2) = 20 ∨ S a (-2) = 24) ∧ 0 ≤ i ∧ i < S a (-1)) d 235 63 [l0, l1, l2] [(0, h a i), v2] S h n) ∧
  (∀ (d : Nat) (l0 l1 l2 : Option mx_V) (v0 v1 : mx_V) (S h : mx_H) (n : Int), mx_ex d 235 63 [l0, l1, l2] [v0, v1] S h n = mx_ex d 235 64 [l0, l1, l2] [(0, 0), v0, v1] S h n) ∧
  (∀ (d : Nat) (x0 x1 a : Int) (l0 l1 l2 : Option mx_V) (S h : mx_H) (n : Int), mx_ex (d + 1) 235 64 [l0, l1, l2] [(0, x0), (0, x1), (2, a)] S h n = mx_cl (S a (-2) = 13) d 161 [(2, a), (0, x1), (0, x0)] 235 67 [l0, l1, l2] [] S h n) ∧
  (∀ (d : Nat) (x : Int) (l0 l1 : Option mx_V) (v0 : mx_V) (S h : mx_H) (n : Int), mx_ex d 235 67 [l0, l1, some (0, x)] [v0] S h n = mx_ex d 235 68 [l0, l1, some (0, x)] [(0, x), v0] S h n) ∧
  (∀ (d : Nat) (x0 x1 : Int) (l0 l1 l2 : Option mx_V) (S h : mx_H) (n : Int), mx_ex (d + 1) 235 68 [l0, l1, l2] [(0, x0), (0, x1)] S h n = mx_rt (mx_M d 234 [(0, x1), (0, x0)] S h n) (d + 1) 235 71 [l0, l1, l2] []) ∧
  (∀ (d : Nat) (a : Int) (l0 l1 l2 : Option mx_V) (S h : mx_H) (n : Int), mx_ex d 235 71 [l0, l1, l2] [(0, a)] S h n = mx_br (a = 0) d 235 83 74 [l0, l1, l2] [] S h n) ∧
  (∀ (d : Nat) (x : Int) (l1 l2 : Option mx_V) (S h : mx_H) (n : Int), mx_ex d 235 74 [some (2, x), l1, l2] [] S h n = mx_ex d 235 75 [some (2, x), l1, l2] [(2, x)] S h n) ∧
  (∀ (d : Nat) (a : Int) (l0 l1 l2 : Option mx_V) (S h : mx_H) (n : Int), mx_ex d 235 75 [l0, l1, l2] [(2, a)] S h n = mx_gd (13 ≤ S a (-2) ∧ S a (-2) ≤ 13) d 235 78 [l0, l1, l2] [(2, S a 20)] S h n) ∧
  (∀ (d : Nat) (x : Int) (l0 l2 : Option mx_V) (v0 : mx_V) (S h : mx_H) (n : Int), mx_ex d 235 78 [l0, some (0, x), l2] [v0] S h n = mx_ex d 235 79 [l0, some (0, x), l2] [(0, x), v0] S h n) ∧
  (∀ (d : Nat) (i a : Int) (l0 l1 l2 : Option mx_V) (S h : mx_H) (n : Int), mx_ex d 235 79 [l0, l1, l2] [(0, i), (2, a)] S h n = mx_gd ((S a (-2) = 20 ∨ S a (-2) = 24) ∧ 0 ≤ i ∧ i < S a (-1)) d 235 80 [l0, l1, l2] [(0, h a i)] S h n) ∧
  (∀ (d : Nat) (l0 l1 l2 : Option mx_V) (v0 : mx_V) (S h : mx_H) (n : Int), mx_ex d 235 80 [l0, l1, l2] [v0] S h n = mx_ex d 235 85 [l0, l1, l2] [v0] S h n) ∧
  (∀ (d : Nat) (l0 l1 l2 : Option mx_V) (S h : mx_H) (n : Int), mx_ex d 235 83 [l0, l1, l2] [] S h n = mx_ex d 235 85 [l0, l1, l2] [(0, (-13))] S h n) ∧
  (∀ (d : Nat) (x : Int) (l0 l1 l2 : Option mx_V) (S h : mx_H) (n : Int), mx_ex d 235 85 [l0, l1, l2] [(0, x)] S h n = some (some (0, x), S, h, n)) ∧
  (∀ (d : Nat) (x : Int) (l1 l2 : Option mx_V) (S h : mx_H) (n : Int), mx_ex d 235 86 [some (2, x), l1, l2] [] S h n = mx_ex d 235 87 [some (2, x), l1, l2] [(2, x)] S h n) ∧
  (∀ (d : Nat) (a : Int) (l0 l1 l2 : Option mx_V) (S h : mx_H) (n : Int), mx_ex d 235 87 [l0, l1, l2] [(2, a)] S h n = mx_gd (13 ≤ S a (-2) ∧ S a (-2) ≤ 13) d 235 90 [l0, l1, l2] [(2, S a 19)] S h n) ∧
  (∀ (d : Nat) (x : Int) (l0 l2 : Option mx_V) (v0 : mx_V) (S h : mx_H) (n : Int), mx_ex d 235 90 [l0, some (0, x), l2] [v0] S h n = mx_ex d 235 91 [l0, some (0, x), l2] [(0, x), v0] S h n) ∧
  (∀ (d : Nat) (i a : Int) (l0 l1 l2 : Option mx_V) (S h : mx_H) (n : Int), mx_ex d 235 91 [l0, l1, l2] [(0, i), (2, a)] S h n = mx_gd ((S a (-2) = 20 ∨ S a (-2) = 24) ∧ 0 ≤ i ∧ i < S a (-1)) d 235 92 [l0, l1, l2] [(0, h a i)] S h n) ∧
  (∀ (d : Nat) (x : Int) (l0 l1 : Option mx_V) (v0 : mx_V) (S h : mx_H) (n : Int), mx_ex d 235 92 [l0, l1, some (0, x)] [v0] S h n = mx_ex d 235 93 [l0, l1, some (0, x)] [(0, x), v0] S h n) ∧
  (∀ (d : Nat) (b a : Int) (l0 l1 l2 : Option mx_V) (S h : mx_H) (n : Int), mx_ex d 235 93 [l0, l1, l2] [(0, b), (0, a)] S h n = mx_br (a = b) d 235 96 105 [l0, l1, l2] [] S h n) ∧
  (∀ (d : Nat) (x : Int) (l1 l2 : Option mx_V) (S h : mx_H) (n : Int), mx_ex d 235 96 [some (2, x), l1, l2] [] S h n = mx_ex d 235 97 [some (2, x), l1, l2] [(2, x)] S h n) ∧
  (∀ (d : Nat) (a : Int) (l0 l1 l2 : Option mx_V) (S h : mx_H) (n : Int), mx_ex d 235 97 [l0, l1, l2] [(2, a)] S h n = mx_gd (13 ≤ S a (-2) ∧ S a (-2) ≤ 13) d 235 100 [l0, l1, l2] [(2, S a 20)] S h n) ∧
  (∀ (d : Nat) (x : Int) (l0 l2 : Option mx_V) (v0 : mx_V) (S h : mx_H) (n : Int), mx_ex d 235 100 [l0, some (0, x), l2] [v0] S h n = mx_ex d 235 101 [l0, some (0, x), l2] [(0, x), v0] S h n) ∧
  (∀ (d : Nat) (i a : Int) (l0 l1 l2 : Option mx_V) (S h : mx_H) (n : Int), mx_ex d 235 101 [l0, l1, l2] [(0, i), (2, a)] S h n = mx_gd ((S a (-2) = 20 ∨ S a (-2) = 24) ∧ 0 ≤ i ∧ i < S a (-1)) d 235 102 [l0, l1, l2] [(0, h a i)] S h n) ∧
  (∀ (d : Nat) (l0 l1 l2 : Option mx_V) (v0 : mx_V) (S h : mx_H) (n : Int), mx_ex d 235 102 [l0, l1, l2] [v0] S h n = mx_ex d 235 107 [l0, l1, l2] [v0] S h n) ∧
  (∀ (d : Nat) (l0 l1 l2 : Option mx_V) (S h : mx_H) (n : Int), mx_ex d 235 105 [l0, l1, l2] [] S h n = mx_ex d 235 107 [l0, l1, l2] [(0, (-13))] S h n) ∧
  (∀ (d : Nat) (x : Int) (l0 l1 l2 : Option mx_V) (S h : mx_H) (n : Int), mx_ex d 235 107 [l0, l1, l2] [(0, x)] S h n = some (some (0, x), S, h, n)) :=
  ⟨by intros; exact rfl,
   by intros; exact eq_ld rfl rfl,
   by intros; exact eq_cs rfl (Nat.le_of_ble_eq_true rfl) rfl rfl rfl (Nat.le_of_ble_eq_true rfl),
   by intros; exact eq_if0 rfl,
   by intros; exact eq_ld rfl rfl,
   by intros; exact eq_push rfl,
   by intros; exact eq_push rfl,
   by intros; exact eq_cs rfl (Nat.le_of_ble_eq_true rfl) rfl rfl rfl (Nat.le_of_ble_eq_true rfl),
   by intros; exact eq_if1 rfl,
   by intros; exact eq_ld rfl rfl,
   by intros; exact eq_push rfl,
   by intros; exact eq_push rfl,
   by intros; exact eq_cs rfl (Nat.le_of_ble_eq_true rfl) rfl rfl rfl (Nat.le_of_ble_eq_true rfl),
   by intros; exact eq_if1 rfl,
   by intros; exact eq_push rfl,
   by intros; exact eq_ret rfl,
   by intros; exact eq_ld rfl rfl,
   by intros; exact eq_ld rfl rfl,
   by intros; exact eq_cv rfl (Nat.le_of_ble_eq_true rfl) rfl rfl rfl (Nat.le_of_ble_eq_true rfl),
   by intros; exact eq_if0 rfl,
   by intros; exact eq_push rfl,
   by intros; exact eq_ret rfl,
   by intros; exact eq_ld rfl rfl,
   by intros; exact eq_gr rfl,
   by intros; exact eq_ld rfl rfl,
   by intros; exact eq_iald rfl,
   by intros; exact eq_push rfl,
   by intros; exact eq_ic1 rfl,
   by intros; exact eq_ld rfl rfl,
   by intros; exact eq_push rfl,
   by intros; exact eq_ic3 rfl,
   by intros; exact eq_ld rfl rfl,
   by intros; exact eq_ld rfl rfl,
   by intros; exact eq_gr rfl,
   by intros; exact eq_ld rfl rfl,
   by intros; exact eq_iald rfl,
   by intros; exact eq_push rfl,
   by intros; exact eq_cv rfl (Nat.le_of_ble_eq_true rfl) rfl rfl rfl (Nat.le_of_ble_eq_true rfl),
   by intros; exact eq_ld rfl rfl,
   by intros; exact eq_cs rfl (Nat.le_of_ble_eq_true rfl) rfl rfl rfl (Nat.le_of_ble_eq_true rfl),
   by intros; exact eq_if0 rfl,
   by intros; exact eq_ld rfl rfl,
   by intros; exact eq_gr rfl,
   by intros; exact eq_ld rfl rfl,
   by intros; exact eq_iald rfl,
   by intros; exact eq_go rfl,
   by intros; exact eq_push rfl,
   by intros; exact eq_ret rfl,
   by intros; exact eq_ld rfl rfl,
   by intros; exact eq_gr rfl,
   by intros; exact eq_ld rfl rfl,
   by intros; exact eq_iald rfl,
   by intros; exact eq_ld rfl rfl,
   by intros; exact eq_ic1 rfl,
   by intros; exact eq_ld rfl rfl,
   by intros; exact eq_gr rfl,
   by intros; exact eq_ld rfl rfl,
   by intros; exact eq_iald rfl,
   by intros; exact eq_go rfl,
   by intros; exact eq_push rfl,
   by intros; exact eq_ret rfl⟩
theorem rw_X12_ran :
  (∀ (d : Nat) (a0 a1 : Int) (S h : mx_H) (n : Int), mx_M d 236 [(2, a0), (0, a1)] S h n = mx_ex d 236 0 [some (2, a0), some (0, a1)] [] S h n) ∧
  (∀ (d : Nat) (x : Int) (l1 : Option mx_V) (S h : mx_H) (n : Int), mx_ex d 236 0 [some (2, x), l1] [] S h n = mx_ex d 236 1 [some (2, x), l1] [(2, x)] S h n) ∧
  (∀ (d : Nat) (a : Int) (l0 l1 : Option mx_V) (S h : mx_H) (n : Int), mx_ex d 236 1 [l0, l1] [(2, a)] S h n = mx_gd (13 ≤ S a (-2) ∧ S a (-2) ≤ 13) d 236 4 [l0, l1] [(0, h a 22)] S h n) ∧
  (∀ (d : Nat) (l0 l1 : Option mx_V) (v0 : mx_V) (S h : mx_H) (n : Int), mx_ex d 236 4 [l0, l1] [v0] S h n = mx_ex d 236 6 [l0, l1] [(0, 30), v0] S h n) ∧
  (∀ (d : Nat) (b a : Int) (l0 l1 : Option mx_V) (S h : mx_H) (n : Int), mx_ex d 236 6 [l0, l1] [(0, b), (0, a)] S h n = mx_br (a < b) d 236 9 29 [l0, l1] [] S h n) ∧
  (∀ (d : Nat) (x : Int) (l1 : Option mx_V) (S h : mx_H) (n : Int), mx_ex d 236 9 [some (2, x), l1] [] S h n = mx_ex d 236 10 [some (2, x), l1] [(2, x)] S h n) ∧
  (∀ (d : Nat) (a : Int) (l0 l1 : Option mx_V) (S h : mx_H) (n : Int), mx_ex d 236 10 [l0, l1] [(2, a)] S h n = mx_gd (13 ≤ S a (-2) ∧ S a (-2) ≤ 13) d 236 13 [l0, l1] [(2, S a 21)] S h n) ∧
  (∀ (d : Nat) (x : Int) (l1 : Option mx_V) (v0 : mx_V) (S h : mx_H) (n : Int), mx_ex d 236 13 [some (2, x), l1] [v0] S h n = mx_ex d 236 14 [some (2, x), l1] [(2, x), v0] S h n) ∧
  (∀ (d : Nat) (a : Int) (l0 l1 : Option mx_V) (v1 : mx_V) (S h : mx_H) (n : Int), mx_ex d 236 14 [l0, l1] [(2, a), v1] S h n = mx_gd (13 ≤ S a (-2) ∧ S a (-2) ≤ 13) d 236 17 [l0, l1] [(0, h a 22), v1] S h n) ∧
  (∀ (d : Nat) (x : Int) (l0 : Option mx_V) (v0 v1 : mx_V) (S h : mx_H) (n : Int), mx_ex d 236 17 [l0, some (0, x)] [v0, v1] S h n = mx_ex d 236 18 [l0, some (0, x)] [(0, x), v0, v1] S h n) ∧
  (∀ (d : Nat) (v i a : Int) (l0 l1 : Option mx_V) (S h : mx_H) (n : Int), mx_ex d 236 18 [l0, l1] [(0, v), (0, i), (2, a)] S h n = mx_gd (S a (-2) = 20 ∧ 0 ≤ i ∧ i < S a (-1)) d 236 19 [l0, l1] [] S (mx_u h a i v) n) ∧
  (∀ (d : Nat) (x : Int) (l1 : Option mx_V) (S h : mx_H) (n : Int), mx_ex d 236 19 [some (2, x), l1] [] S h n = mx_ex d 236 20 [some (2, x), l1] [(2, x)] S h n) ∧
  (∀ (d : Nat) (a : Int) (l0 l1 : Option mx_V) (S h : mx_H) (n : Int), mx_ex d 236 20 [l0, l1] [(2, a)] S h n = mx_ex d 236 21 [l0, l1] [(2, a), (2, a)] S h n) ∧
  (∀ (d : Nat) (a : Int) (l0 l1 : Option mx_V) (v1 : mx_V) (S h : mx_H) (n : Int), mx_ex d 236 21 [l0, l1] [(2, a), v1] S h n = mx_gd (13 ≤ S a (-2) ∧ S a (-2) ≤ 13) d 236 24 [l0, l1] [(0, h a 22), v1] S h n) ∧
  (∀ (d : Nat) (l0 l1 : Option mx_V) (v0 v1 : mx_V) (S h : mx_H) (n : Int), mx_ex d 236 24 [l0, l1] [v0, v1] S h n = mx_ex d 236 25 [l0, l1] [(0, 1), v0, v1] S h n) ∧
  (∀ (d : Nat) (b a : Int) (l0 l1 : Option mx_V) (v2 : mx_V) (S h : mx_H) (n : Int), mx_ex d 236 25 [l0, l1] [(0, b), (0, a), v2] S h n = mx_ex d 236 26 [l0, l1] [(0, mx_w (a + b)), v2] S h n) ∧
  (∀ (d : Nat) (v a : Int) (l0 l1 : Option mx_V) (S h : mx_H) (n : Int), mx_ex d 236 26 [l0, l1] [(0, v), (2, a)] S h n = mx_gd (13 ≤ S a (-2) ∧ S a (-2) ≤ 13) d 236 29 [l0, l1] [] S (mx_u h a 22 v) n) ∧
  (∀ (d : Nat) (l0 l1 : Option mx_V) (S h : mx_H) (n : Int), mx_ex d 236 29 [l0, l1] [] S h n = some (none, S, h, n)) :=
  ⟨by intros; exact rfl,
   by intros; exact eq_ld rfl rfl,
   by intros; exact eq_gi rfl,
   by intros; exact eq_push rfl,
   by intros; exact eq_ic3 rfl,
   by intros; exact eq_ld rfl rfl,
   by intros; exact eq_gr rfl,
   by intros; exact eq_ld rfl rfl,
   by intros; exact eq_gi rfl,
   by intros; exact eq_ld rfl rfl,
   by intros; exact eq_iast rfl,
   by intros; exact eq_ld rfl rfl,
   by intros; exact eq_dup rfl (by decide),
   by intros; exact eq_gi rfl,
   by intros; exact eq_push rfl,
   by intros; exact eq_i2 (o := mx_add) rfl,
   by intros; exact eq_pi rfl,
   by intros; exact eq_retv rfl⟩
theorem rw_X12_above :
  (∀ (d : Nat) (a0 : Int) (S h : mx_H) (n : Int), mx_M d 237 [(0, a0)] S h n = mx_ex d 237 0 [some (0, a0)] [] S h n) ∧
  (∀ (d : Nat) (x : Int) (S h : mx_H) (n : Int), mx_ex d 237 0 [some (0, x)] [] S h n = mx_ex d 237 1 [some (0, x)] [(0, x)] S h n) ∧
  (∀ (d : Nat) (l0 : Option mx_V) (v0 : mx_V) (S h : mx_H) (n : Int), mx_ex d 237 1 [l0] [v0] S h n = mx_ex d 237 2 [l0] [(0, 3), v0] S h n) ∧
  (∀ (d : Nat) (b a : Int) (l0 : Option mx_V) (S h : mx_H) (n : Int), mx_ex d 237 2 [l0] [(0, b), (0, a)] S h n = mx_br (a = b) d 237 5 9 [l0] [] S h n) ∧
  (∀ (d : Nat) (l0 : Option mx_V) (S h : mx_H) (n : Int), mx_ex d 237 5 [l0] [] S h n = mx_ex d 237 6 [l0] [(0, 2)] S h n) ∧
  (∀ (d : Nat) (l0 : Option mx_V) (v0 : mx_V) (S h : mx_H) (n : Int), mx_ex d 237 6 [l0] [v0] S h n = mx_ex d 237 19 [l0] [v0] S h n) ∧
  (∀ (d : Nat) (x : Int) (S h : mx_H) (n : Int), mx_ex d 237 9 [some (0, x)] [] S h n = mx_ex d 237 10 [some (0, x)] [(0, x)] S h n) ∧
  (∀ (d : Nat) (l0 : Option mx_V) (v0 : mx_V) (S h : mx_H) (n : Int), mx_ex d 237 10 [l0] [v0] S h n = mx_ex d 237 11 [l0] [(0, 5), v0] S h n) ∧
  (∀ (d : Nat) (b a : Int) (l0 : Option mx_V) (S h : mx_H) (n : Int), mx_ex d 237 11 [l0] [(0, b), (0, a)] S h n = mx_br (a = b) d 237 14 18 [l0] [] S h n) ∧
  (∀ (d : Nat) (l0 : Option mx_V) (S h : mx_H) (n : Int), mx_ex d 237 14 [l0] [] S h n = mx_ex d 237 15 [l0] [(0, 1)] S h n) ∧
  (∀ (d : Nat) (l0 : Option mx_V) (v0 : mx_V) (S h : mx_H) (n : Int), mx_ex d 237 15 [l0] [v0] S h n = mx_ex d 237 19 [l0] [v0] S h n) ∧
  (∀ (d : Nat) (l0 : Option mx_V) (S h : mx_H) (n : Int), mx_ex d 237 18 [l0] [] S h n = mx_ex d 237 19 [l0] [(0, 0)] S h n) ∧
  (∀ (d : Nat) (x : Int) (l0 : Option mx_V) (S h : mx_H) (n : Int), mx_ex d 237 19 [l0] [(0, x)] S h n = some (some (0, x), S, h, n)) :=
  ⟨by intros; exact rfl,
   by intros; exact eq_ld rfl rfl,
   by intros; exact eq_push rfl,
   by intros; exact eq_ic1 rfl,
   by intros; exact eq_push rfl,
   by intros; exact eq_go rfl,
   by intros; exact eq_ld rfl rfl,
   by intros; exact eq_push rfl,
   by intros; exact eq_ic1 rfl,
   by intros; exact eq_push rfl,
   by intros; exact eq_go rfl,
   by intros; exact eq_push rfl,
   by intros; exact eq_ret rfl⟩
theorem rw_X12_kindNow :
  (∀ (d : Nat) (a0 : Int) (S h : mx_H) (n : Int), mx_M d 238 [(2, a0)] S h n = mx_ex d 238 0 [some (2, a0)] [] S h n) ∧
  (∀ (d : Nat) (x : Int) (S h : mx_H) (n : Int), mx_ex d 238 0 [some (2, x)] [] S h n = mx_ex d 238 1 [some (2, x)] [(2, x)] S h n) ∧
  (∀ (d : Nat) (x : Int) (v0 : mx_V) (S h : mx_H) (n : Int), mx_ex d 238 1 [some (2, x)] [v0] S h n = mx_ex d 238 2 [some (2, x)] [(2, x), v0] S h n) ∧
  (∀ (d : Nat) (a : Int) (l0 : Option mx_V) (v1 : mx_V) (S h : mx_H) (n : Int), mx_ex d 238 2 [l0] [(2, a), v1] S h n = mx_gd (13 ≤ S a (-2) ∧ S a (-2) ≤ 13) d 238 5 [l0] [(0, h a 23), v1] S h n) ∧
  (∀ (d : Nat) (l0 : Option mx_V) (v0 v1 : mx_V) (S h : mx_H) (n : Int), mx_ex d 238 5 [l0] [v0, v1] S h n = mx_ex d 238 6 [l0] [(0, 0), v0, v1] S h n) ∧
  (∀ (d : Nat) (x0 x1 a : Int) (l0 : Option mx_V) (S h : mx_H) (n : Int), mx_ex (d + 1) 238 6 [l0] [(0, x0), (0, x1), (2, a)] S h n = mx_cl (S a (-2) = 13) d 161 [(2, a), (0, x1), (0, x0)] 238 9 [l0] [] S h n) ∧
  (∀ (d : Nat) (x : Int) (l0 : Option mx_V) (S h : mx_H) (n : Int), mx_ex d 238 9 [l0] [(0, x)] S h n = some (some (0, x), S, h, n)) :=
  ⟨by intros; exact rfl,
   by intros; exact eq_ld rfl rfl,
   by intros; exact eq_ld rfl rfl,
   by intros; exact eq_gi rfl,
   by intros; exact eq_push rfl,
   by intros; exact eq_cv rfl (Nat.le_of_ble_eq_true rfl) rfl rfl rfl (Nat.le_of_ble_eq_true rfl),
   by intros; exact eq_ret rfl⟩
theorem rw_X12_reads :
  (∀ (d : Nat) (a0 a1 a2 : Int) (S h : mx_H) (n : Int), mx_M d 239 [(2, a0), (0, a1), (0, a2)] S h n = mx_ex d 239 0 [some (2, a0), some (0, a1), some (0, a2)] [] S h n) ∧
  (∀ (d : Nat) (x : Int) (l0 l2 : Option mx_V) (S h : mx_H) (n : Int), mx_ex d 239 0 [l0, some (0, x), l2] [] S h n = mx_ex d 239 1 [l0, some (0, x), l2] [(0, x)] S h n) ∧
  (∀ (d : Nat) (a : Int) (l0 l1 l2 : Option mx_V) (S h : mx_H) (n : Int), mx_ex d 239 1 [l0, l1, l2] [(0, a)] S h n = mx_sw a [(0, 40), (1, 110), (2, 53), (3, 71), (4, 110), (5, 89)] d 239 110 [l0, l1, l2] [] S h n) ∧
  (∀ (d : Nat) (x : Int) (l1 l2 : Option mx_V) (S h : mx_H) (n : Int), mx_ex d 239 40 [some (2, x), l1, l2] [] S h n = mx_ex d 239 41 [some (2, x), l1, l2] [(2, x)] S h n) ∧
  (∀ (d : Nat) (l0 l1 l2 : Option mx_V) (v0 : mx_V) (S h : mx_H) (n : Int), mx_ex d 239 41 [l0, l1, l2] [v0] S h n = mx_ex d 239 43 [l0, l1, l2] [(0, 10), v0] S h n) ∧
  (∀ (d : Nat) (x0 a : Int) (l0 l1 l2 : Option mx_V) (S h : mx_H) (n : Int), mx_ex (d + 1) 239 43 [l0, l1, l2] [(0, x0), (2, a)] S h n = mx_cl (S a (-2) = 13) d 236 [(2, a), (0, x0)] 239 46 [l0, l1, l2] [] S h n) ∧
  (∀ (d : Nat) (x : Int) (l0 l1 : Option mx_V) (S h : mx_H) (n : Int), mx_ex d 239 46 [l0, l1, some (0, x)] [] S h n = mx_ex d 239 47 [l0, l1, some (0, x)] [(0, x)] S h n) ∧
  (∀ (d : Nat) (x : Int) (l1 l2 : Option mx_V) (v0 : mx_V) (S h : mx_H) (n : Int), mx_ex d 239 47 [some (2, x), l1, l2] [v0] S h n = mx_ex d 239 48 [some (2, x), l1, l2] [(2, x), v0] S h n) ∧
  (∀ (d : Nat) (a : Int) (l0 l1 l2 : Option mx_V) (v1 : mx_V) (S h : mx_H) (n : Int), mx_ex d 239 48 [l0, l1, l2] [(2, a), v1] S h n = mx_gd (13 ≤ S a (-2) ∧ S a (-2) ≤ 13) d 239 51 [l0, l1, l2] [(0, h a 23), v1] S h n) ∧
  (∀ (d : Nat) (b a : Int) (l0 l1 l2 : Option mx_V) (S h : mx_H) (n : Int), mx_ex d 239 51 [l0, l1, l2] [(0, b), (0, a)] S h n = mx_ex d 239 52 [l0, l1, l2] [(0, mx_w (a + b))] S h n) ∧
  (∀ (d : Nat) (x : Int) (l0 l1 l2 : Option mx_V) (S h : mx_H) (n : Int), mx_ex d 239 52 [l0, l1, l2] [(0, x)] S h n = some (some (0, x), S, h, n)) ∧
  (∀ (d : Nat) (x : Int) (l1 l2 : Option mx_V) (S h : mx_H) (n : Int), mx_ex d 239 53 [some (2, x), l1, l2] [] S h n = mx_ex d 239 54 [some (2, x), l1, l2] [(2, x)] S h n) ∧
  (∀ (d : Nat) (l0 l1 l2 : Option mx_V) (v0 : mx_V) (S h : mx_H) (n : Int), mx_ex d 239 54 [l0, l1, l2] [v0] S h n = mx_ex d 239 56 [l0, l1, l2] [(0, 30), v0] S h n) ∧
  (∀ (d : Nat) (x0 a : Int) (l0 l1 l2 : Option mx_V) (S h : mx_H) (n : Int), mx_ex (d + 1) 239 56 [l0, l1, l2] [(0, x0), (2, a)] S h n = mx_cl (S a (-2) = 13) d 236 [(2, a), (0, x0)] 239 59 [l0, l1, l2] [] S h n) ∧
  (∀ (d : Nat) (x : Int) (l1 l2 : Option mx_V) (S h : mx_H) (n : Int), mx_ex d 239 59 [some (2, x), l1, l2] [] S h n = mx_ex d 239 60 [some (2, x), l1, l2] [(2, x)] S h n) ∧
  (∀ (d : Nat) (l0 l1 l2 : Option mx_V) (v0 : mx_V) (S h : mx_H) (n : Int), mx_ex d 239 60 [l0, l1, l2] [v0] S h n = mx_ex d 239 61 [l0, l1, l2] [(0, 2), v0] S h n) ∧
  (∀ (d : Nat) (x0 : Int) (l0 l1 l2 : Option mx_V) (v1 : mx_V) (S h : mx_H) (n : Int), mx_ex (d + 1) 239 61 [l0, l1, l2] [(0, x0), v1] S h n = mx_rt (mx_M d 237 [(0, x0)] S h n) (d + 1) 239 64 [l0, l1, l2] [v1]) ∧
  (∀ (d : Nat) (x : Int) (l0 l1 : Option mx_V) (v0 v1 : mx_V) (S h : mx_H) (n : Int), mx_ex d 239 64 [l0, l1, some (0, x)] [v0, v1] S h n = mx_ex d 239 65 [l0, l1, some (0, x)] [(0, x), v0, v1] S h n) ∧
  (∀ (d : Nat) (x0 x1 a : Int) (l0 l1 l2 : Option mx_V) (S h : mx_H) (n : Int), mx_ex (d + 1) 239 65 [l0, l1, l2] [(0, x0), (0, x1), (2, a)] S h n = mx_cl (S a (-2) = 13) d 239 [(2, a), (0, x1), (0, x0)] 239 68 [l0, l1, l2] [] S h n) ∧
  (∀ (d : Nat) (l0 l1 l2 : Option mx_V) (v0 : mx_V) (S h : mx_H) (n : Int), mx_ex d 239 68 [l0, l1, l2] [v0] S h n = mx_ex d 239 69 [l0, l1, l2] [(0, 3), v0] S h n) ∧
  (∀ (d : Nat) (b a : Int) (l0 l1 l2 : Option mx_V) (S h : mx_H) (n : Int), mx_ex d 239 69 [l0, l1, l2] [(0, b), (0, a)] S h n = mx_ex d 239 70 [l0, l1, l2] [(0, mx_w (a * b))] S h n) ∧
  (∀ (d : Nat) (x : Int) (l0 l1 l2 : Option mx_V) (S h : mx_H) (n : Int), mx_ex d 239 70 [l0, l1, l2] [(0, x)] S h n = some (some (0, x), S, h, n)) ∧
  (∀ (d : Nat) (x : Int) (l1 l2 : Option mx_V) (S h : mx_H) (n : Int), mx_ex d 239 71 [some (2, x), l1, l2] [] S h n = mx_ex d 239 72 [some (2, x), l1, l2] [(2, x)] S h n) ∧
  (∀ (d : Nat) (l0 l1 l2 : Option mx_V) (v0 : mx_V) (S h : mx_H) (n : Int), mx_ex d 239 72 [l0, l1, l2] [v0] S h n = mx_ex d 239 74 [l0, l1, l2] [(0, 40), v0] S h n) ∧
  (∀ (d : Nat) (x0 a : Int) (l0 l1 l2 : Option mx_V) (S h : mx_H) (n : Int), mx_ex (d + 1) 239 74 [l0, l1, l2] [(0, x0), (2, a)] S h n = mx_cl (S a (-2) = 13) d 236 [(2, a), (0, x0)] 239 77 [l0, l1, l2] [] S h n) ∧
  (∀ (d : Nat) (l0 l1 l2 : Option mx_V) (S h : mx_H) (n : Int), mx_ex d 239 77 [l0, l1, l2] [] S h n = mx_ex d 239 78 [l0, l1, l2] [(0, 0)] S h n) ∧
  (∀ (d : Nat) (x : Int) (l1 l2 : Option mx_V) (v0 : mx_V) (S h : mx_H) (n : Int), mx_ex d 239 78 [some (2, x), l1, l2] [v0] S h n = mx_ex d 239 79 [some (2, x), l1, l2] [(2, x), v0] S h n) ∧
  (∀ (d : Nat) (l0 l1 l2 : Option mx_V) (v0 v1 : mx_V) (S h : mx_H) (n : Int), mx_ex d 239 79 [l0, l1, l2] [v0, v1] S h n = mx_ex d 239 80 [l0, l1, l2] [(0, 3), v0, v1] S h n) ∧
  (∀ (d : Nat) (x0 : Int) (l0 l1 l2 : Option mx_V) (v1 v2 : mx_V) (S h : mx_H) (n : Int), mx_ex (d + 1) 239 80 [l0, l1, l2] [(0, x0), v1, v2] S h n = mx_rt (mx_M d 237 [(0, x0)] S h n) (d + 1) 239 83 [l0, l1, l2] [v1, v2]) ∧
  (∀ (d : Nat) (x : Int) (l0 l1 : Option mx_V) (v0 v1 v2 : mx_V) (S h : mx_H) (n : Int), mx_ex d 239 83 [l0, l1, some (0, x)] [v0, v1, v2] S h n = mx_ex d 239 84 [l0, l1, some (0, x)] [(0, x), v0, v1, v2] S h n) ∧
  (∀ (d : Nat) (x0 x1 a : Int) (l0 l1 l2 : Option mx_V) (v3 : mx_V) (S h : mx_H) (n : Int), mx_ex (d + 1) 239 84 [l0, l1, l2] [(0, x0), (0, x1), (2, a), v3] S h n = mx_cl (S a (-2) = 13) d 239 [(2, a), (0, x1), (0, x0)] 239 87 [l0, l1, l2] [v3] S h n) ∧
  (∀ (d : Nat) (b a : Int) (l0 l1 l2 : Option mx_V) (S h : mx_H) (n : Int), mx_ex d 239 87 [l0, l1, l2] [(0, b), (0, a)] S h n = mx_ex d 239 88 [l0, l1, l2] [(0, mx_w (a - b))] S h n) ∧
  (∀ (d : Nat) (x : Int) (l0 l1 l2 : Option mx_V) (S h : mx_H) (n : Int), mx_ex d 239 88 [l0, l1, l2] [(0, x)] S h n = some (some (0, x), S, h, n)) ∧
  (∀ (d : Nat) (x : Int) (l1 l2 : Option mx_V) (S h : mx_H) (n : Int), mx_ex d 239 89 [some (2, x), l1, l2] [] S h n = mx_ex d 239 90 [some (2, x), l1, l2] [(2, x)] S h n) ∧
  (∀ (d : Nat) (l0 l1 l2 : Option mx_V) (v0 : mx_V) (S h : mx_H) (n : Int), mx_ex d 239 90 [l0, l1, l2] [v0] S h n = mx_ex d 239 92 [l0, l1, l2] [(0, 51), v0] S h n) ∧
  (∀ (d : Nat) (x0 a : Int) (l0 l1 l2 : Option mx_V) (S h : mx_H) (n : Int), mx_ex (d + 1) 239 92 [l0, l1, l2] [(0, x0), (2, a)] S h n = mx_cl (S a (-2) = 13) d 236 [(2, a), (0, x0)] 239 95 [l0, l1, l2] [] S h n) ∧
  (∀ (d : Nat) (x : Int) (l1 l2 : Option mx_V) (S h : mx_H) (n : Int), mx_ex d 239 95 [some (2, x), l1, l2] [] S h n = mx_ex d 239 96 [some (2, x), l1, l2] [(2, x)] S h n) ∧
  (∀ (d : Nat) (l0 l1 l2 : Option mx_V) (v0 : mx_V) (S h : mx_H) (n : Int), mx_ex d 239 96 [l0, l1, l2] [v0] S h n = mx_ex d 239 97 [l0, l1, l2] [(0, 5), v0] S h n) ∧
  (∀ (d : Nat) (x0 : Int) (l0 l1 l2 : Option mx_V) (v1 : mx_V) (S h : mx_H) (n : Int), mx_ex (d + 1) 239 97 [l0, l1, l2] [(0, x0), v1] S h n = mx_rt (mx_M d 237 [(0, x0)] S h n) (d + 1) 239 100 [l0, l1, l2] [v1]) ∧
  (∀ (d : Nat) (x : Int) (l0 l1 : Option mx_V) (v0 v1 : mx_V) (S h : mx_H) (n : Int), mx_ex d 239 100 [l0, l1, some (0, x)] [v0, v1] S h n = mx_ex d 239 101 [l0, l1, some (0, x)] [(0, x), v0, v1] S h n) ∧
  (∀ (d : Nat) (x0 x1 a : Int) (l0 l1 l2 : Option mx_V) (S h : mx_H) (n : Int), mx_ex (d + 1) 239 101 [l0, l1, l2] [(0, x0), (0, x1), (2, a)] S h n = mx_cl (S a (-2) = 13) d 239 [(2, a), (0, x1), (0, x0)] 239 104 [l0, l1, l2] [] S h n) ∧
  (∀ (d : Nat) (x : Int) (l1 l2 : Option mx_V) (v0 : mx_V) (S h : mx_H) (n : Int), mx_ex d 239 104 [some (2, x), l1, l2] [v0] S h n = mx_ex d 239 105 [some (2, x), l1, l2] [(2, x), v0] S h n) ∧
  (∀ (d : Nat) (a : Int) (l0 l1 l2 : Option mx_V) (v1 : mx_V) (S h : mx_H) (n : Int), mx_ex d 239 105 [l0, l1, l2] [(2, a), v1] S h n = mx_gd (13 ≤ S a (-2) ∧ S a (-2) ≤ 13) d 239 108 [l0, l1, l2] [(0, h a 23), v1] S h n) ∧
  (∀ (d : Nat) (b a : Int) (l0 l1 l2 : Option mx_V) (S h : mx_H) (n : Int), mx_ex d 239 108 [l0, l1, l2] [(0, b), (0, a)] S h n = mx_ex d 239 109 [l0, l1, l2] [(0, mx_w (a - b))] S h n) ∧
  (∀ (d : Nat) (x : Int) (l0 l1 l2 : Option mx_V) (S h : mx_H) (n : Int), mx_ex d 239 109 [l0, l1, l2] [(0, x)] S h n = some (some (0, x), S, h, n)) ∧
  (∀ (d : Nat) (x : Int) (l1 l2 : Option mx_V) (S h : mx_H) (n : Int), mx_ex d 239 110 [some (2, x), l1, l2] [] S h n = mx_ex d 239 111 [some (2, x), l1, l2] [(2, x)] S h n) ∧
  (∀ (d : Nat) (x : Int) (l0 l2 : Option mx_V) (v0 : mx_V) (S h : mx_H) (n : Int), mx_ex d 239 111 [l0, some (0, x), l2] [v0] S h n = mx_ex d 239 112 [l0, some (0, x), l2] [(0, x), v0] S h n) ∧
  (∀ (d : Nat) (x0 : Int) (l0 l1 l2 : Option mx_V) (v1 : mx_V) (S h : mx_H) (n : Int), mx_ex (d + 1) 239 112 [l0, l1, l2] [(0, x0), v1] S h n = mx_rt (mx_M d 237 [(0, x0)] S h n) (d + 1) 239 115 [l0, l1, l2] [v1]) ∧
  (∀ (d : Nat) (x : Int) (l0 l1 : Option mx_V) (v0 v1 : mx_V) (S h : mx_H) (n : Int), mx_ex d 239 115 [l0, l1, some (0, x)] [v0, v1] S h n = mx_ex d 239 116 [l0, l1, some (0, x)] [(0, x), v0, v1] S h n) ∧
  (∀ (d : Nat) (x0 x1 a : Int) (l0 l1 l2 : Option mx_V) (S h : mx_H) (n : Int), mx_ex (d + 1) 239 116 [l0, l1, l2] [(0, x0), (0, x1), (2, a)] S h n = mx_cl (S a (-2) = 13) d 239 [(2, a), (0, x1), (0, x0)] 239 119 [l0, l1, l2] [] S h n) ∧
  (∀ (d : Nat) (x : Int) (l0 l1 l2 : Option mx_V) (S h : mx_H) (n : Int), mx_ex d 239 119 [l0, l1, l2] [(0, x)] S h n = some (some (0, x), S, h, n)) :=
  ⟨by intros; exact rfl,
   by intros; exact eq_ld rfl rfl,
   by intros; exact eq_sw rfl,
   by intros; exact eq_ld rfl rfl,
   by intros; exact eq_push rfl,
   by intros; exact eq_cv rfl (Nat.le_of_ble_eq_true rfl) rfl rfl rfl (Nat.le_of_ble_eq_true rfl),
   by intros; exact eq_ld rfl rfl,
   by intros; exact eq_ld rfl rfl,
   by intros; exact eq_gi rfl,
   by intros; exact eq_i2 (o := mx_add) rfl,
   by intros; exact eq_ret rfl,
   by intros; exact eq_ld rfl rfl,
   by intros; exact eq_push rfl,
   by intros; exact eq_cv rfl (Nat.le_of_ble_eq_true rfl) rfl rfl rfl (Nat.le_of_ble_eq_true rfl),
   by intros; exact eq_ld rfl rfl,
   by intros; exact eq_push rfl,
   by intros; exact eq_cs rfl (Nat.le_of_ble_eq_true rfl) rfl rfl rfl (Nat.le_of_ble_eq_true rfl),
   by intros; exact eq_ld rfl rfl,
   by intros; exact eq_cv rfl (Nat.le_of_ble_eq_true rfl) rfl rfl rfl (Nat.le_of_ble_eq_true rfl),
   by intros; exact eq_push rfl,
   by intros; exact eq_i2 (o := mx_mul) rfl,
   by intros; exact eq_ret rfl,
   by intros; exact eq_ld rfl rfl,
   by intros; exact eq_push rfl,
   by intros; exact eq_cv rfl (Nat.le_of_ble_eq_true rfl) rfl rfl rfl (Nat.le_of_ble_eq_true rfl),
   by intros; exact eq_push rfl,
   by intros; exact eq_ld rfl rfl,
   by intros; exact eq_push rfl,
   by intros; exact eq_cs rfl (Nat.le_of_ble_eq_true rfl) rfl rfl rfl (Nat.le_of_ble_eq_true rfl),
   by intros; exact eq_ld rfl rfl,
   by intros; exact eq_cv rfl (Nat.le_of_ble_eq_true rfl) rfl rfl rfl (Nat.le_of_ble_eq_true rfl),
   by intros; exact eq_i2 (o := mx_sub) rfl,
   by intros; exact eq_ret rfl,
   by intros; exact eq_ld rfl rfl,
   by intros; exact eq_push rfl,
   by intros; exact eq_cv rfl (Nat.le_of_ble_eq_true rfl) rfl rfl rfl (Nat.le_of_ble_eq_true rfl),
   by intros; exact eq_ld rfl rfl,
   by intros; exact eq_push rfl,
   by intros; exact eq_cs rfl (Nat.le_of_ble_eq_true rfl) rfl rfl rfl (Nat.le_of_ble_eq_true rfl),
   by intros; exact eq_ld rfl rfl,
   by intros; exact eq_cv rfl (Nat.le_of_ble_eq_true rfl) rfl rfl rfl (Nat.le_of_ble_eq_true rfl),
   by intros; exact eq_ld rfl rfl,
   by intros; exact eq_gi rfl,
   by intros; exact eq_i2 (o := mx_sub) rfl,
   by intros; exact eq_ret rfl,
   by intros; exact eq_ld rfl rfl,
   by intros; exact eq_ld rfl rfl,
   by intros; exact eq_cs rfl (Nat.le_of_ble_eq_true rfl) rfl rfl rfl (Nat.le_of_ble_eq_true rfl),
   by intros; exact eq_ld rfl rfl,
   by intros; exact eq_cv rfl (Nat.le_of_ble_eq_true rfl) rfl rfl rfl (Nat.le_of_ble_eq_true rfl),
   by intros; exact eq_ret rfl⟩
theorem rw_X12_writes :
  (∀ (d : Nat) (a0 a1 a2 : Int) (S h : mx_H) (n : Int), mx_M d 240 [(2, a0), (0, a1), (0, a2)] S h n = mx_ex d 240 0 [some (2, a0), some (0, a1), some (0, a2), none] [] S h n) ∧
  (∀ (d : Nat) (l0 l1 l2 l3 : Option mx_V) (S h : mx_H) (n : Int), mx_ex d 240 0 [l0, l1, l2, l3] [] S h n = mx_ex d 240 1 [l0, l1, l2, l3] [(0, 0)] S h n) ∧
  (∀ (d : Nat) (x : Int) (l0 l1 l2 l3 : Option mx_V) (S h : mx_H) (n : Int), mx_ex d 240 1 [l0, l1, l2, l3] [(0, x)] S h n = mx_ex d 240 2 [l0, l1, mx_nl l2, some (0, x)] [] S h n) ∧
  (∀ (d : Nat) (x : Int) (l0 l2 l3 : Option mx_V) (S h : mx_H) (n : Int), mx_ex d 240 2 [l0, some (0, x), l2, l3] [] S h n = mx_ex d 240 3 [l0, some (0, x), l2, l3] [(0, x)] S h n) ∧
  (∀ (d : Nat) (a : Int) (l0 l1 l2 l3 : Option mx_V) (S h : mx_H) (n : Int), mx_ex d 240 3 [l0, l1, l2, l3] [(0, a)] S h n = mx_sw a [(0, 32), (1, 50), (2, 107), (3, 76)] d 240 107 [l0, l1, l2, l3] [] S h n) ∧
  (∀ (d : Nat) (x : Int) (l1 l2 l3 : Option mx_V) (S h : mx_H) (n : Int), mx_ex d 240 32 [some (2, x), l1, l2, l3] [] S h n = mx_ex d 240 33 [some (2, x), l1, l2, l3] [(2, x)] S h n) ∧
  (∀ (d : Nat) (l0 l1 l2 l3 : Option mx_V) (v0 : mx_V) (S h : mx_H) (n : Int), mx_ex d 240 33 [l0, l1, l2, l3] [v0] S h n = mx_ex d 240 35 [l0, l1, l2, l3] [(0, 11), v0] S h n) ∧
  (∀ (d : Nat) (x0 a : Int) (l0 l1 l2 l3 : Option mx_V) (S h : mx_H) (n : Int), mx_ex (d + 1) 240 35 [l0, l1, l2, l3] [(0, x0), (2, a)] S h n = mx_cl (S a (-2) = 13) d 236 [(2, a), (0, x0)] 240 38 [l0, l1, l2, l3] [] S h n) ∧
  (∀ (d : Nat) (x : Int) (l1 l2 l3 : Option mx_V) (S h : mx_H) (n : Int), mx_ex d 240 38 [some (2, x), l1, l2, l3] [] S h n = mx_ex d 240 39 [some (2, x), l1, l2, l3] [(2, x)] S h n) ∧
  (∀ (d : Nat) (x : Int) (l1 l2 l3 : Option mx_V) (v0 : mx_V) (S h : mx_H) (n : Int), mx_ex d 240 39 [some (2, x), l1, l2, l3] [v0] S h n = mx_ex d 240 40 [some (2, x), l1, l2, l3] [(2, x), v0] S h n) ∧
  (∀ (d : Nat) (a : Int) (l0 l1 l2 l3 : Option mx_V) (v1 : mx_V) (S h : mx_H) (n : Int), mx_ex (d + 1) 240 40 [l0, l1, l2, l3] [(2, a), v1] S h n = mx_cl (S a (-2) = 13) d 238 [(2, a)] 240 43 [l0, l1, l2, l3] [v1] S h n) ∧
  (∀ (d : Nat) (x : Int) (l0 l1 l3 : Option mx_V) (v0 v1 : mx_V) (S h : mx_H) (n : Int), mx_ex d 240 43 [l0, l1, some (0, x), l3] [v0, v1] S h n = mx_ex d 240 44 [l0, l1, some (0, x), l3] [(0, x), v0, v1] S h n) ∧
  (∀ (d : Nat) (x0 x1 a : Int) (l0 l1 l2 l3 : Option mx_V) (S h : mx_H) (n : Int), mx_ex (d + 1) 240 44 [l0, l1, l2, l3] [(0, x0), (0, x1), (2, a)] S h n = mx_cl (S a (-2) = 13) d 239 [(2, a), (0, x1), (0, x0)] 240 47 [l0, l1, l2, l3] [] S h n) ∧
  (∀ (d : Nat) (l0 l1 l2 l3 : Option mx_V) (v0 : mx_V) (S h : mx_H) (n : Int), mx_ex d 240 47 [l0, l1, l2, l3] [v0] S h n = mx_ex d 240 48 [l0, l1, l2, l3] [(0, 2), v0] S h n) ∧
  (∀ (d : Nat) (b a : Int) (l0 l1 l2 l3 : Option mx_V) (S h : mx_H) (n : Int), mx_ex d 240 48 [l0, l1, l2, l3] [(0, b), (0, a)] S h n = mx_ex d 240 49 [l0, l1, l2, l3] [(0, mx_w (a * b))] S h n) ∧
  (∀ (d : Nat) (x : Int) (l0 l1 l2 l3 : Option mx_V) (S h : mx_H) (n : Int), mx_ex d 240 49 [l0, l1, l2, l3] [(0, x)] S h n = some (some (0, x), S, h, n)) ∧
  (∀ (d : Nat) (x : Int) (l1 l2 l3 : Option mx_V) (S h : mx_H) (n : Int), mx_ex d 240 50 [some (2, x), l1, l2, l3] [] S h n = mx_ex d 240 51 [some (2, x), l1, l2, l3] [(2, x)] S h n) ∧
  (∀ (d : Nat) (l0 l1 l2 l3 : Option mx_V) (v0 : mx_V) (S h : mx_H) (n : Int), mx_ex d 240 51 [l0, l1, l2, l3] [v0] S h n = mx_ex d 240 53 [l0, l1, l2, l3] [(0, 20), v0] S h n) ∧
  (∀ (d : Nat) (x0 a : Int) (l0 l1 l2 l3 : Option mx_V) (S h : mx_H) (n : Int), mx_ex (d + 1) 240 53 [l0, l1, l2, l3] [(0, x0), (2, a)] S h n = mx_cl (S a (-2) = 13) d 236 [(2, a), (0, x0)] 240 56 [l0, l1, l2, l3] [] S h n) ∧
  (∀ (d : Nat) (x : Int) (l1 l2 l3 : Option mx_V) (S h : mx_H) (n : Int), mx_ex d 240 56 [some (2, x), l1, l2, l3] [] S h n = mx_ex d 240 57 [some (2, x), l1, l2, l3] [(2, x)] S h n) ∧
  (∀ (d : Nat) (l0 l1 l2 l3 : Option mx_V) (v0 : mx_V) (S h : mx_H) (n : Int), mx_ex d 240 57 [l0, l1, l2, l3] [v0] S h n = mx_ex d 240 58 [l0, l1, l2, l3] [(0, 1), v0] S h n) ∧
  (∀ (d : Nat) (x0 : Int) (l0 l1 l2 l3 : Option mx_V) (v1 : mx_V) (S h : mx_H) (n : Int), mx_ex (d + 1) 240 58 [l0, l1, l2, l3] [(0, x0), v1] S h n = mx_rt (mx_M d 237 [(0, x0)] S h n) (d + 1) 240 61 [l0, l1, l2, l3] [v1]) ∧
  (∀ (d : Nat) (x : Int) (l0 l1 l3 : Option mx_V) (v0 v1 : mx_V) (S h : mx_H) (n : Int), mx_ex d 240 61 [l0, l1, some (0, x), l3] [v0, v1] S h n = mx_ex d 240 62 [l0, l1, some (0, x), l3] [(0, x), v0, v1] S h n) ∧
  (∀ (d : Nat) (x0 x1 a : Int) (l0 l1 l2 l3 : Option mx_V) (S h : mx_H) (n : Int), mx_ex (d + 1) 240 62 [l0, l1, l2, l3] [(0, x0), (0, x1), (2, a)] S h n = mx_cl (S a (-2) = 13) d 240 [(2, a), (0, x1), (0, x0)] 240 65 [l0, l1, l2, l3] [] S h n) ∧
  (∀ (d : Nat) (x : Int) (l1 l2 l3 : Option mx_V) (v0 : mx_V) (S h : mx_H) (n : Int), mx_ex d 240 65 [some (2, x), l1, l2, l3] [v0] S h n = mx_ex d 240 66 [some (2, x), l1, l2, l3] [(2, x), v0] S h n) ∧
  (∀ (d : Nat) (x : Int) (l1 l2 l3 : Option mx_V) (v0 v1 : mx_V) (S h : mx_H) (n : Int), mx_ex d 240 66 [some (2, x), l1, l2, l3] [v0, v1] S h n = mx_ex d 240 67 [some (2, x), l1, l2, l3] [(2, x), v0, v1] S h n) ∧
  (∀ (d : Nat) (a : Int) (l0 l1 l2 l3 : Option mx_V) (v1 v2 : mx_V) (S h : mx_H) (n : Int), mx_ex d 240 67 [l0, l1, l2, l3] [(2, a), v1, v2] S h n = mx_gd (13 ≤ S a (-2) ∧ S a (-2) ≤ 13) d 240 70 [l0, l1, l2, l3] [(0, h a 23), v1, v2] S h n) ∧
  (∀ (d : Nat) (l0 l1 l2 l3 : Option mx_V) (v0 v1 v2 : mx_V) (S h : mx_H) (n : Int), mx_ex d 240 70 [l0, l1, l2, l3] [v0, v1, v2] S h n = mx_ex d 240 71 [l0, l1, l2, l3] [(0, 2), v0, v1, v2] S h n) ∧
  (∀ (d : Nat) (x0 x1 a : Int) (l0 l1 l2 l3 : Option mx_V) (v3 : mx_V) (S h : mx_H) (n : Int), mx_ex (d + 1) 240 71 [l0, l1, l2, l3] [(0, x0), (0, x1), (2, a), v3] S h n = mx_cl (S a (-2) = 13) d 161 [(2, a), (0, x1), (0, x0)] 240 74 [l0, l1, l2, l3] [v3] S h n) ∧
  (∀ (d : Nat) (b a : Int) (l0 l1 l2 l3 : Option mx_V) (S h : mx_H) (n : Int), mx_ex d 240 74 [l0, l1, l2, l3] [(0, b), (0, a)] S h n = mx_ex d 240 75 [l0, l1, l2, l3] [(0, mx_w (a - b))] S h n) ∧
  (∀ (d : Nat) (x : Int) (l0 l1 l2 l3 : Option mx_V) (S h : mx_H) (n : Int), mx_ex d 240 75 [l0, l1, l2, l3] [(0, x)] S h n = some (some (0, x), S, h, n)) ∧
  (∀ (d : Nat) (x : Int) (l1 l2 l3 : Option mx_V) (S h : mx_H) (n : Int), mx_ex d 240 76 [some (2, x), l1, l2, l3] [] S h n = mx_ex d 240 77 [some (2, x), l1, l2, l3] [(2, x)] S h n) ∧
  (∀ (d : Nat) (l0 l1 l2 l3 : Option mx_V) (v0 : mx_V) (S h : mx_H) (n : Int), mx_ex d 240 77 [l0, l1, l2, l3] [v0] S h n = mx_ex d 240 79 [l0, l1, l2, l3] [(0, 41), v0] S h n) ∧
  (∀ (d : Nat) (x0 a : Int) (l0 l1 l2 l3 : Option mx_V) (S h : mx_H) (n : Int), mx_ex (d + 1) 240 79 [l0, l1, l2, l3] [(0, x0), (2, a)] S h n = mx_cl (S a (-2) = 13) d 236 [(2, a), (0, x0)] 240 82 [l0, l1, l2, l3] [] S h n) ∧
  (∀ (d : Nat) (x : Int) (l1 l2 l3 : Option mx_V) (S h : mx_H) (n : Int), mx_ex d 240 82 [some (2, x), l1, l2, l3] [] S h n = mx_ex d 240 83 [some (2, x), l1, l2, l3] [(2, x)] S h n) ∧
  (∀ (d : Nat) (l0 l1 l2 l3 : Option mx_V) (v0 : mx_V) (S h : mx_H) (n : Int), mx_ex d 240 83 [l0, l1, l2, l3] [v0] S h n = mx_ex d 240 84 [l0, l1, l2, l3] [(0, 3), v0] S h n) ∧
  (∀ (d : Nat) (x0 : Int) (l0 l1 l2 l3 : Option mx_V) (v1 : mx_V) (S h : mx_H) (n : Int), mx_ex (d + 1) 240 84 [l0, l1, l2, l3] [(0, x0), v1] S h n = mx_rt (mx_M d 237 [(0, x0)] S h n) (d + 1) 240 87 [l0, l1, l2, l3] [v1]) ∧
  (∀ (d : Nat) (x : Int) (l0 l1 l3 : Option mx_V) (v0 v1 : mx_V) (S h : mx_H) (n : Int), mx_ex d 240 87 [l0, l1, some (0, x), l3] [v0, v1] S h n = mx_ex d 240 88 [l0, l1, some (0, x), l3] [(0, x), v0, v1] S h n) ∧
  (∀ (d : Nat) (x0 x1 a : Int) (l0 l1 l2 l3 : Option mx_V) (S h : mx_H) (n : Int), mx_ex (d + 1) 240 88 [l0, l1, l2, l3] [(0, x0), (0, x1), (2, a)] S h n = mx_cl (S a (-2) = 13) d 240 [(2, a), (0, x1), (0, x0)] 240 91 [l0, l1, l2, l3] [] S h n) ∧
  (∀ (d : Nat) (x : Int) (l0 l1 l2 l3 : Option mx_V) (S h : mx_H) (n : Int), mx_ex d 240 91 [l0, l1, l2, l3] [(0, x)] S h n = mx_ex d 240 92 [l0, l1, mx_nl l2, some (0, x)] [] S h n) ∧
  (∀ (d : Nat) (x : Int) (l0 l1 l2 : Option mx_V) (S h : mx_H) (n : Int), mx_ex d 240 92 [l0, l1, l2, some (0, x)] [] S h n = mx_ex d 240 93 [l0, l1, l2, some (0, x)] [(0, x)] S h n) ∧
  (∀ (d : Nat) (x : Int) (l1 l2 l3 : Option mx_V) (v0 : mx_V) (S h : mx_H) (n : Int), mx_ex d 240 93 [some (2, x), l1, l2, l3] [v0] S h n = mx_ex d 240 94 [some (2, x), l1, l2, l3] [(2, x), v0] S h n) ∧
  (∀ (d : Nat) (x : Int) (l1 l2 l3 : Option mx_V) (v0 v1 : mx_V) (S h : mx_H) (n : Int), mx_ex d 240 94 [some (2, x), l1, l2, l3] [v0, v1] S h n = mx_ex d 240 95 [some (2, x), l1, l2, l3] [(2, x), v0, v1] S h n) ∧
  (∀ (d : Nat) (a : Int) (l0 l1 l2 l3 : Option mx_V) (v1 v2 : mx_V) (S h : mx_H) (n : Int), mx_ex (d + 1) 240 95 [l0, l1, l2, l3] [(2, a), v1, v2] S h n = mx_cl (S a (-2) = 13) d 238 [(2, a)] 240 98 [l0, l1, l2, l3] [v1, v2] S h n) ∧
  (∀ (d : Nat) (x : Int) (l1 l2 l3 : Option mx_V) (v0 v1 v2 : mx_V) (S h : mx_H) (n : Int), mx_ex d 240 98 [some (2, x), l1, l2, l3] [v0, v1, v2] S h n = mx_ex d 240 99 [some (2, x), l1, l2, l3] [(2, x), v0, v1, v2] S h n) ∧
  (∀ (d : Nat) (a : Int) (l0 l1 l2 l3 : Option mx_V) (v1 v2 v3 : mx_V) (S h : mx_H) (n : Int), mx_ex d 240 99 [l0, l1, l2, l3] [(2, a), v1, v2, v3] S h n = mx_gd (13 ≤ S a (-2) ∧ S a (-2) ≤ 13) d 240 102 [l0, l1, l2, l3] [(0, h a 23), v1, v2, v3] S h n) ∧
  (∀ (d : Nat) (x0 x1 a : Int) (l0 l1 l2 l3 : Option mx_V) (v3 : mx_V) (S h : mx_H) (n : Int), mx_ex (d + 1) 240 102 [l0, l1, l2, l3] [(0, x0), (0, x1), (2, a), v3] S h n = mx_cl (S a (-2) = 13) d 239 [(2, a), (0, x1), (0, x0)] 240 105 [l0, l1, l2, l3] [v3] S h n) ∧
  (∀ (d : Nat) (b a : Int) (l0 l1 l2 l3 : Option mx_V) (S h : mx_H) (n : Int), mx_ex d 240 105 [l0, l1, l2, l3] [(0, b), (0, a)] S h n = mx_ex d 240 106 [l0, l1, l2, l3] [(0, mx_w (a + b))] S h n) ∧
  (∀ (d : Nat) (x : Int) (l0 l1 l2 l3 : Option mx_V) (S h : mx_H) (n : Int), mx_ex d 240 106 [l0, l1, l2, l3] [(0, x)] S h n = some (some (0, x), S, h, n)) ∧
  (∀ (d : Nat) (x : Int) (l1 l2 l3 : Option mx_V) (S h : mx_H) (n : Int), mx_ex d 240 107 [some (2, x), l1, l2, l3] [] S h n = mx_ex d 240 108 [some (2, x), l1, l2, l3] [(2, x)] S h n) ∧
  (∀ (d : Nat) (x : Int) (l0 l2 l3 : Option mx_V) (v0 : mx_V) (S h : mx_H) (n : Int), mx_ex d 240 108 [l0, some (0, x), l2, l3] [v0] S h n = mx_ex d 240 109 [l0, some (0, x), l2, l3] [(0, x), v0] S h n) ∧
  (∀ (d : Nat) (x0 : Int) (l0 l1 l2 l3 : Option mx_V) (v1 : mx_V) (S h : mx_H) (n : Int), mx_ex (d + 1) 240 109 [l0, l1, l2, l3] [(0, x0), v1] S h n = mx_rt (mx_M d 237 [(0, x0)] S h n) (d + 1) 240 112 [l0, l1, l2, l3] [v1]) ∧
  (∀ (d : Nat) (x : Int) (l0 l1 l3 : Option mx_V) (v0 v1 : mx_V) (S h : mx_H) (n : Int), mx_ex d 240 112 [l0, l1, some (0, x), l3] [v0, v1] S h n = mx_ex d 240 113 [l0, l1, some (0, x), l3] [(0, x), v0, v1] S h n) ∧
  (∀ (d : Nat) (x0 x1 a : Int) (l0 l1 l2 l3 : Option mx_V) (S h : mx_H) (n : Int), mx_ex (d + 1) 240 113 [l0, l1, l2, l3] [(0, x0), (0, x1), (2, a)] S h n = mx_cl (S a (-2) = 13) d 240 [(2, a), (0, x1), (0, x0)] 240 116 [l0, l1, l2, l3] [] S h n) ∧
  (∀ (d : Nat) (x : Int) (l0 l1 l2 l3 : Option mx_V) (S h : mx_H) (n : Int), mx_ex d 240 116 [l0, l1, l2, l3] [(0, x)] S h n = some (some (0, x), S, h, n)) :=
  ⟨by intros; exact rfl,
   by intros; exact eq_push rfl,
   by intros; exact eq_st rfl (by decide) (Nat.le_of_ble_eq_true rfl) rfl,
   by intros; exact eq_ld rfl rfl,
   by intros; exact eq_sw rfl,
   by intros; exact eq_ld rfl rfl,
   by intros; exact eq_push rfl,
   by intros; exact eq_cv rfl (Nat.le_of_ble_eq_true rfl) rfl rfl rfl (Nat.le_of_ble_eq_true rfl),
   by intros; exact eq_ld rfl rfl,
   by intros; exact eq_ld rfl rfl,
   by intros; exact eq_cv rfl (Nat.le_of_ble_eq_true rfl) rfl rfl rfl (Nat.le_of_ble_eq_true rfl),
   by intros; exact eq_ld rfl rfl,
   by intros; exact eq_cv rfl (Nat.le_of_ble_eq_true rfl) rfl rfl rfl (Nat.le_of_ble_eq_true rfl),
   by intros; exact eq_push rfl,
   by intros; exact eq_i2 (o := mx_mul) rfl,
   by intros; exact eq_ret rfl,
   by intros; exact eq_ld rfl rfl,
   by intros; exact eq_push rfl,
   by intros; exact eq_cv rfl (Nat.le_of_ble_eq_true rfl) rfl rfl rfl (Nat.le_of_ble_eq_true rfl),
   by intros; exact eq_ld rfl rfl,
   by intros; exact eq_push rfl,
   by intros; exact eq_cs rfl (Nat.le_of_ble_eq_true rfl) rfl rfl rfl (Nat.le_of_ble_eq_true rfl),
   by intros; exact eq_ld rfl rfl,
   by intros; exact eq_cv rfl (Nat.le_of_ble_eq_true rfl) rfl rfl rfl (Nat.le_of_ble_eq_true rfl),
   by intros; exact eq_ld rfl rfl,
   by intros; exact eq_ld rfl rfl,
   by intros; exact eq_gi rfl,
   by intros; exact eq_push rfl,
   by intros; exact eq_cv rfl (Nat.le_of_ble_eq_true rfl) rfl rfl rfl (Nat.le_of_ble_eq_true rfl),
   by intros; exact eq_i2 (o := mx_sub) rfl,
   by intros; exact eq_ret rfl,
   by intros; exact eq_ld rfl rfl,
   by intros; exact eq_push rfl,
   by intros; exact eq_cv rfl (Nat.le_of_ble_eq_true rfl) rfl rfl rfl (Nat.le_of_ble_eq_true rfl),
   by intros; exact eq_ld rfl rfl,
   by intros; exact eq_push rfl,
   by intros; exact eq_cs rfl (Nat.le_of_ble_eq_true rfl) rfl rfl rfl (Nat.le_of_ble_eq_true rfl),
   by intros; exact eq_ld rfl rfl,
   by intros; exact eq_cv rfl (Nat.le_of_ble_eq_true rfl) rfl rfl rfl (Nat.le_of_ble_eq_true rfl),
   by intros; exact eq_st rfl (by decide) (Nat.le_of_ble_eq_true rfl) rfl,
   by intros; exact eq_ld rfl rfl,
   by intros; exact eq_ld rfl rfl,
   by intros; exact eq_ld rfl rfl,
   by intros; exact eq_cv rfl (Nat.le_of_ble_eq_true rfl) rfl rfl rfl (Nat.le_of_ble_eq_true rfl),
   by intros; exact eq_ld rfl rfl,
   by intros; exact eq_gi rfl,
   by intros; exact eq_cv rfl (Nat.le_of_ble_eq_true rfl) rfl rfl rfl (Nat.le_of_ble_eq_true rfl),
   by intros; exact eq_i2 (o := mx_add) rfl,
   by intros; exact eq_ret rfl,
   by intros; exact eq_ld rfl rfl,
   by intros; exact eq_ld rfl rfl,
   by intros; exact eq_cs rfl (Nat.le_of_ble_eq_true rfl) rfl rfl rfl (Nat.le_of_ble_eq_true rfl),
   by intros; exact eq_ld rfl rfl,
   by intros; exact eq_cv rfl (Nat.le_of_ble_eq_true rfl) rfl rfl rfl (Nat.le_of_ble_eq_true rfl),
   by intros; exact eq_ret rfl⟩
theorem rw_X12_shares :
  (∀ (d : Nat) (a0 a1 a2 : Int) (S h : mx_H) (n : Int), mx_M d 241 [(2, a0), (0, a1), (0, a2)] S h n = mx_ex d 241 0 [some (2, a0), some (0, a1), some (0, a2), none, none] [] S h n) ∧
  (∀ (d : Nat) (l0 l1 l2 l3 l4 : Option mx_V) (S h : mx_H) (n : Int), mx_ex d 241 0 [l0, l1, l2, l3, l4] [] S h n = mx_ex d 241 1 [l0, l1, l2, l3, l4] [(0, 0)] S h n) ∧
  (∀ (d : Nat) (x : Int) (l0 l1 l2 l3 l4 : Option mx_V) (S h : mx_H) (n : Int), mx_ex d 241 1 [l0, l1, l2, l3, l4] [(0, x)] S h n = mx_ex d 241 2 [l0, l1, mx_nl l2, some (0, x), l4] [] S h n) ∧
  (∀ (d : Nat) (x : Int) (l0 l2 l3 l4 : Option mx_V) (S h : mx_H) (n : Int), mx_ex d 241 2 [l0, some (0, x), l2, l3, l4] [] S h n = mx_ex d 241 3 [l0, some (0, x), l2, l3, l4] [(0, x)] S h n) ∧
  (∀ (d : Nat) (a : Int) (l0 l1 l2 l3 l4 : Option mx_V) (S h : mx_H) (n : Int), mx_ex d 241 3 [l0, l1, l2, l3, l4] [(0, a)] S h n = mx_sw a [(0, 36), (4, 104), (5, 151)] d 241 171 [l0, l1, l2, l3, l4] [] S h n) ∧
  (∀ (d : Nat) (x : Int) (l1 l2 l3 l4 : Option mx_V) (S h : mx_H) (n : Int), mx_ex d 241 36 [some (2, x), l1, l2, l3, l4] [] S h n = mx_ex d 241 37 [some (2, x), l1, l2, l3, l4] [(2, x)] S h n) ∧
  (∀ (d : Nat) (l0 l1 l2 l3 l4 : Option mx_V) (v0 : mx_V) (S h : mx_H) (n : Int), mx_ex d 241 37 [l0, l1, l2, l3, l4] [v0] S h n = mx_ex d 241 39 [l0, l1, l2, l3, l4] [(0, 12), v0] S h n) ∧
  (∀ (d : Nat) (x0 a : Int) (l0 l1 l2 l3 l4 : Option mx_V) (S h : mx_H) (n : Int), mx_ex (d + 1) 241 39 [l0, l1, l2, l3, l4] [(0, x0), (2, a)] S h n = mx_cl (S a (-2) = 13) d 236 [(2, a), (0, x0)] 241 42 [l0, l1, l2, l3, l4] [] S h n) ∧
  (∀ (d : Nat) (x : Int) (l1 l2 l3 l4 : Option mx_V) (S h : mx_H) (n : Int), mx_ex d 241 42 [some (2, x), l1, l2, l3, l4] [] S h n = mx_ex d 241 43 [some (2, x), l1, l2, l3, l4] [(2, x)] S h n) ∧
  (∀ (d : Nat) (x : Int) (l1 l2 l3 l4 : Option mx_V) (v0 : mx_V) (S h : mx_H) (n : Int), mx_ex d 241 43 [some (2, x), l1, l2, l3, l4] [v0] S h n = mx_ex d 241 44 [some (2, x), l1, l2, l3, l4] [(2, x), v0] S h n) ∧
  (∀ (d : Nat) (a : Int) (l0 l1 l2 l3 l4 : Option mx_V) (v1 : mx_V) (S h : mx_H) (n : Int), mx_ex d 241 44 [l0, l1, l2, l3, l4] [(2, a), v1] S h n = mx_gd (13 ≤ S a (-2) ∧ S a (-2) ≤ 13) d 241 47 [l0, l1, l2, l3, l4] [(0, h a 23), v1] S h n) ∧
  (∀ (d : Nat) (l0 l1 l2 l3 l4 : Option mx_V) (v0 v1 : mx_V) (S h : mx_H) (n : Int), mx_ex d 241 47 [l0, l1, l2, l3, l4] [v0, v1] S h n = mx_ex d 241 48 [l0, l1, l2, l3, l4] [(0, 2), v0, v1] S h n) ∧
  (∀ (d : Nat) (x0 x1 a : Int) (l0 l1 l2 l3 l4 : Option mx_V) (S h : mx_H) (n : Int), mx_ex (d + 1) 241 48 [l0, l1, l2, l3, l4] [(0, x0), (0, x1), (2, a)] S h n = mx_cl (S a (-2) = 13) d 161 [(2, a), (0, x1), (0, x0)] 241 51 [l0, l1, l2, l3, l4] [] S h n) ∧
  (∀ (d : Nat) (x : Int) (l1 l2 l3 l4 : Option mx_V) (v0 : mx_V) (S h : mx_H) (n : Int), mx_ex d 241 51 [some (2, x), l1, l2, l3, l4] [v0] S h n = mx_ex d 241 52 [some (2, x), l1, l2, l3, l4] [(2, x), v0] S h n) ∧
  (∀ (d : Nat) (a : Int) (l0 l1 l2 l3 l4 : Option mx_V) (v1 : mx_V) (S h : mx_H) (n : Int), mx_ex d 241 52 [l0, l1, l2, l3, l4] [(2, a), v1] S h n = mx_gd (13 ≤ S a (-2) ∧ S a (-2) ≤ 13) d 241 55 [l0, l1, l2, l3, l4] [(0, h a 23), v1] S h n) ∧
  (∀ (d : Nat) (b a : Int) (l0 l1 l2 l3 l4 : Option mx_V) (S h : mx_H) (n : Int), mx_ex d 241 55 [l0, l1, l2, l3, l4] [(0, b), (0, a)] S h n = mx_ex d 241 56 [l0, l1, l2, l3, l4] [(0, mx_w (a - b))] S h n) ∧
  (∀ (d : Nat) (x : Int) (l0 l1 l2 l3 l4 : Option mx_V) (S h : mx_H) (n : Int), mx_ex d 241 56 [l0, l1, l2, l3, l4] [(0, x)] S h n = mx_ex d 241 58 [l0, l1, l2, mx_nl l3, some (0, x)] [] S h n) ∧
  (∀ (d : Nat) (x : Int) (l1 l2 l3 l4 : Option mx_V) (S h : mx_H) (n : Int), mx_ex d 241 58 [some (2, x), l1, l2, l3, l4] [] S h n = mx_ex d 241 59 [some (2, x), l1, l2, l3, l4] [(2, x)] S h n) ∧
  (∀ (d : Nat) (x : Int) (l1 l2 l3 l4 : Option mx_V) (v0 : mx_V) (S h : mx_H) (n : Int), mx_ex d 241 59 [some (2, x), l1, l2, l3, l4] [v0] S h n = mx_ex d 241 60 [some (2, x), l1, l2, l3, l4] [(2, x), v0] S h n) ∧
  (∀ (d : Nat) (a : Int) (l0 l1 l2 l3 l4 : Option mx_V) (v1 : mx_V) (S h : mx_H) (n : Int), mx_ex d 241 60 [l0, l1, l2, l3, l4] [(2, a), v1] S h n = mx_gd (13 ≤ S a (-2) ∧ S a (-2) ≤ 13) d 241 63 [l0, l1, l2, l3, l4] [(0, h a 24), v1] S h n) ∧
  (∀ (d : Nat) (a : Int) (l0 l1 l2 l3 l4 : Option mx_V) (v1 : mx_V) (S h : mx_H) (n : Int), mx_ex d 241 63 [l0, l1, l2, l3, l4] [(0, a), v1] S h n = mx_br (a = 0) d 241 66 71 [l0, l1, l2, l3, l4] [v1] S h n) ∧
  (∀ (d : Nat) (x : Int) (l0 l1 l2 l3 : Option mx_V) (v0 : mx_V) (S h : mx_H) (n : Int), mx_ex d 241 66 [l0, l1, l2, l3, some (0, x)] [v0] S h n = mx_ex d 241 68 [l0, l1, l2, l3, some (0, x)] [(0, x), v0] S h n) ∧
  (∀ (d : Nat) (a : Int) (l0 l1 l2 l3 l4 : Option mx_V) (v1 : mx_V) (S h : mx_H) (n : Int), mx_ex d 241 68 [l0, l1, l2, l3, l4] [(0, a), v1] S h n = mx_br (a = 0) d 241 71 75 [l0, l1, l2, l3, l4] [v1] S h n) ∧
  (∀ (d : Nat) (l0 l1 l2 l3 l4 : Option mx_V) (v0 : mx_V) (S h : mx_H) (n : Int), mx_ex d 241 71 [l0, l1, l2, l3, l4] [v0] S h n = mx_ex d 241 72 [l0, l1, l2, l3, l4] [(0, 1), v0] S h n) ∧
  (∀ (d : Nat) (l0 l1 l2 l3 l4 : Option mx_V) (v0 v1 : mx_V) (S h : mx_H) (n : Int), mx_ex d 241 72 [l0, l1, l2, l3, l4] [v0, v1] S h n = mx_ex d 241 76 [l0, l1, l2, l3, l4] [v0, v1] S h n) ∧
  (∀ (d : Nat) (l0 l1 l2 l3 l4 : Option mx_V) (v0 : mx_V) (S h : mx_H) (n : Int), mx_ex d 241 75 [l0, l1, l2, l3, l4] [v0] S h n = mx_ex d 241 76 [l0, l1, l2, l3, l4] [(0, 0), v0] S h n) ∧
  (∀ (d : Nat) (v a : Int) (l0 l1 l2 l3 l4 : Option mx_V) (S h : mx_H) (n : Int), mx_ex d 241 76 [l0, l1, l2, l3, l4] [(0, v), (2, a)] S h n = mx_gd (13 ≤ S a (-2) ∧ S a (-2) ≤ 13 ∧ 0 ≤ v ∧ v ≤ 1) d 241 79 [l0, l1, l2, l3, l4] [] S (mx_u h a 24 v) n) ∧
  (∀ (d : Nat) (x : Int) (l0 l1 l2 l3 : Option mx_V) (S h : mx_H) (n : Int), mx_ex d 241 79 [l0, l1, l2, l3, some (0, x)] [] S h n = mx_ex d 241 81 [l0, l1, l2, l3, some (0, x)] [(0, x)] S h n) ∧
  (∀ (d : Nat) (a : Int) (l0 l1 l2 l3 l4 : Option mx_V) (S h : mx_H) (n : Int), mx_ex d 241 81 [l0, l1, l2, l3, l4] [(0, a)] S h n = mx_br (a = 0) d 241 84 88 [l0, l1, l2, l3, l4] [] S h n) ∧
  (∀ (d : Nat) (l0 l1 l2 l3 l4 : Option mx_V) (S h : mx_H) (n : Int), mx_ex d 241 84 [l0, l1, l2, l3, l4] [] S h n = mx_ex d 241 85 [l0, l1, l2, l3, l4] [(0, 0)] S h n) ∧
  (∀ (d : Nat) (l0 l1 l2 l3 l4 : Option mx_V) (v0 : mx_V) (S h : mx_H) (n : Int), mx_ex d 241 85 [l0, l1, l2, l3, l4] [v0] S h n = mx_ex d 241 103 [l0, l1, l2, l3, l4] [v0] S h n) ∧
  (∀ (d : Nat) (x : Int) (l0 l1 l2 l3 : Option mx_V) (S h : mx_H) (n : Int), mx_ex d 241 88 [l0, l1, l2, l3, some (0, x)] [] S h n = mx_ex d 241 90 [l0, l1, l2, l3, some (0, x)] [(0, x)] S h n) ∧
  (∀ (d : Nat) (l0 l1 l2 l3 l4 : Option mx_V) (v0 : mx_V) (S h : mx_H) (n : Int), mx_ex d 241 90 [l0, l1, l2, l3, l4] [v0] S h n = mx_ex d 241 91 [l0, l1, l2, l3, l4] [(0, (-1)), v0] S h n) ∧
  (∀ (d : Nat) (b a : Int) (l0 l1 l2 l3 l4 : Option mx_V) (S h : mx_H) (n : Int), mx_ex d 241 91 [l0, l1, l2, l3, l4] [(0, b), (0, a)] S h n = mx_br (a = b) d 241 94 99 [l0, l1, l2, l3, l4] [] S h n) ∧
  (∀ (d : Nat) (x : Int) (l0 l1 l3 l4 : Option mx_V) (S h : mx_H) (n : Int), mx_ex d 241 94 [l0, l1, some (0, x), l3, l4] [] S h n = mx_ex d 241 95 [l0, l1, some (0, x), l3, l4] [(0, x)] S h n) ∧
  (∀ (d : Nat) (a : Int) (l0 l1 l2 l3 l4 : Option mx_V) (S h : mx_H) (n : Int), mx_ex d 241 95 [l0, l1, l2, l3, l4] [(0, a)] S h n = mx_ex d 241 96 [l0, l1, l2, l3, l4] [(0, mx_w (-a))] S h n) ∧
  (∀ (d : Nat) (l0 l1 l2 l3 l4 : Option mx_V) (v0 : mx_V) (S h : mx_H) (n : Int), mx_ex d 241 96 [l0, l1, l2, l3, l4] [v0] S h n = mx_ex d 241 103 [l0, l1, l2, l3, l4] [v0] S h n) ∧
  (∀ (d : Nat) (x : Int) (l0 l1 l3 l4 : Option mx_V) (S h : mx_H) (n : Int), mx_ex d 241 99 [l0, l1, some (0, x), l3, l4] [] S h n = mx_ex d 241 100 [l0, l1, some (0, x), l3, l4] [(0, x)] S h n) ∧
  (∀ (d : Nat) (x : Int) (l0 l1 l2 l3 : Option mx_V) (v0 : mx_V) (S h : mx_H) (n : Int), mx_ex d 241 100 [l0, l1, l2, l3, some (0, x)] [v0] S h n = mx_ex d 241 102 [l0, l1, l2, l3, some (0, x)] [(0, x), v0] S h n) ∧
  (∀ (d : Nat) (b a : Int) (l0 l1 l2 l3 l4 : Option mx_V) (S h : mx_H) (n : Int), mx_ex d 241 102 [l0, l1, l2, l3, l4] [(0, b), (0, a)] S h n = mx_gd (¬ b = 0) d 241 103 [l0, l1, l2, l3, l4] [(0, mx_w (Int.tdiv a b))] S h n) ∧
  (∀ (d : Nat) (x : Int) (l0 l1 l2 l3 l4 : Option mx_V) (S h : mx_H) (n : Int), mx_ex d 241 103 [l0, l1, l2, l3, l4] [(0, x)] S h n = some (some (0, x), S, h, n)) ∧
  (∀ (d : Nat) (x : Int) (l1 l2 l3 l4 : Option mx_V) (S h : mx_H) (n : Int), mx_ex d 241 104 [some (2, x), l1, l2, l3, l4] [] S h n = mx_ex d 241 105 [some (2, x), l1, l2, l3, l4] [(2, x)] S h n) ∧
  (∀ (d : Nat) (l0 l1 l2 l3 l4 : Option mx_V) (v0 : mx_V) (S h : mx_H) (n : Int), mx_ex d 241 105 [l0, l1, l2, l3, l4] [v0] S h n = mx_ex d 241 107 [l0, l1, l2, l3, l4] [(0, 61), v0] S h n) ∧
  (∀ (d : Nat) (x0 a : Int) (l0 l1 l2 l3 l4 : Option mx_V) (S h : mx_H) (n : Int), mx_ex (d + 1) 241 107 [l0, l1, l2, l3, l4] [(0, x0), (2, a)] S h n = mx_cl (S a (-2) = 13) d 236 [(2, a), (0, x0)] 241 110 [l0, l1, l2, l3, l4] [] S h n) ∧
  (∀ (d : Nat) (x : Int) (l1 l2 l3 l4 : Option mx_V) (S h : mx_H) (n : Int), mx_ex d 241 110 [some (2, x), l1, l2, l3, l4] [] S h n = mx_ex d 241 111 [some (2, x), l1, l2, l3, l4] [(2, x)] S h n) ∧
  (∀ (d : Nat) (l0 l1 l2 l3 l4 : Option mx_V) (v0 : mx_V) (S h : mx_H) (n : Int), mx_ex d 241 111 [l0, l1, l2, l3, l4] [v0] S h n = mx_ex d 241 112 [l0, l1, l2, l3, l4] [(0, 4), v0] S h n) ∧
  (∀ (d : Nat) (x0 : Int) (l0 l1 l2 l3 l4 : Option mx_V) (v1 : mx_V) (S h : mx_H) (n : Int), mx_ex (d + 1) 241 112 [l0, l1, l2, l3, l4] [(0, x0), v1] S h n = mx_rt (mx_M d 237 [(0, x0)] S h n) (d + 1) 241 115 [l0, l1, l2, l3, l4] [v1]) ∧
  (∀ (d : Nat) (x : Int) (l0 l1 l3 l4 : Option mx_V) (v0 v1 : mx_V) (S h : mx_H) (n : Int), mx_ex d 241 115 [l0, l1, some (0, x), l3, l4] [v0, v1] S h n = mx_ex d 241 116 [l0, l1, some (0, x), l3, l4] [(0, x), v0, v1] S h n) ∧
  (∀ (d : Nat) (x0 x1 a : Int) (l0 l1 l2 l3 l4 : Option mx_V) (S h : mx_H) (n : Int), mx_ex (d + 1) 241 116 [l0, l1, l2, l3, l4] [(0, x0), (0, x1), (2, a)] S h n = mx_cl (S a (-2) = 13) d 241 [(2, a), (0, x1), (0, x0)] 241 119 [l0, l1, l2, l3, l4] [] S h n) ∧
  (∀ (d : Nat) (x : Int) (l0 l1 l2 l3 l4 : Option mx_V) (S h : mx_H) (n : Int), mx_ex d 241 119 [l0, l1, l2, l3, l4] [(0, x)] S h n = mx_ex d 241 120 [l0, l1, mx_nl l2, some (0, x), l4] [] S h n) ∧
  (∀ (d : Nat) (x : Int) (l1 l2 l3 l4 : Option mx_V) (S h : mx_H) (n : Int), mx_ex d 241 120 [some (2, x), l1, l2, l3, l4] [] S h n = mx_ex d 241 121 [some (2, x), l1, l2, l3, l4] [(2, x)] S h n) ∧
  (∀ (d : Nat) (a : Int) (l0 l1 l2 l3 l4 : Option mx_V) (S h : mx_H) (n : Int), mx_ex d 241 121 [l0, l1, l2, l3, l4] [(2, a)] S h n = mx_gd (13 ≤ S a (-2) ∧ S a (-2) ≤ 13) d 241 124 [l0, l1, l2, l3, l4] [(0, h a 24)] S h n) ∧
  (∀ (d : Nat) (a : Int) (l0 l1 l2 l3 l4 : Option mx_V) (S h : mx_H) (n : Int), mx_ex d 241 124 [l0, l1, l2, l3, l4] [(0, a)] S h n = mx_br (a = 0) d 241 131 127 [l0, l1, l2, l3, l4] [] S h n) ∧
  (∀ (d : Nat) (l0 l1 l2 l3 l4 : Option mx_V) (S h : mx_H) (n : Int), mx_ex d 241 127 [l0, l1, l2, l3, l4] [] S h n = mx_ex d 241 128 [l0, l1, l2, l3, l4] [(0, 0)] S h n) ∧
  (∀ (d : Nat) (l0 l1 l2 l3 l4 : Option mx_V) (v0 : mx_V) (S h : mx_H) (n : Int), mx_ex d 241 128 [l0, l1, l2, l3, l4] [v0] S h n = mx_ex d 241 150 [l0, l1, l2, l3, l4] [v0] S h n) ∧
  (∀ (d : Nat) (x : Int) (l0 l1 l2 l4 : Option mx_V) (S h : mx_H) (n : Int), mx_ex d 241 131 [l0, l1, l2, some (0, x), l4] [] S h n = mx_ex d 241 132 [l0, l1, l2, some (0, x), l4] [(0, x)] S h n) ∧
  (∀ (d : Nat) (x : Int) (l1 l2 l3 l4 : Option mx_V) (v0 : mx_V) (S h : mx_H) (n : Int), mx_ex d 241 132 [some (2, x), l1, l2, l3, l4] [v0] S h n = mx_ex d 241 133 [some (2, x), l1, l2, l3, l4] [(2, x), v0] S h n) ∧
  (∀ (d : Nat) (x : Int) (l1 l2 l3 l4 : Option mx_V) (v0 v1 : mx_V) (S h : mx_H) (n : Int), mx_ex d 241 133 [some (2, x), l1, l2, l3, l4] [v0, v1] S h n = mx_ex d 241 134 [some (2, x), l1, l2, l3, l4] [(2, x), v0, v1] S h n) ∧
  (∀ (d : Nat) (a : Int) (l0 l1 l2 l3 l4 : Option mx_V) (v1 v2 : mx_V) (S h : mx_H) (n : Int), mx_ex (d + 1) 241 134 [l0, l1, l2, l3, l4] [(2, a), v1, v2] S h n = mx_cl (S a (-2) = 13) d 238 [(2, a)] 241 137 [l0, l1, l2, l3, l4] [v1, v2] S h n) ∧
  (∀ (d : Nat) (x : Int) (l1 l2 l3 l4 : Option mx_V) (v0 v1 v2 : mx_V) (S h : mx_H) (n : Int), mx_ex d 241 137 [some (2, x), l1, l2, l3, l4] [v0, v1, v2] S h n = mx_ex d 241 138 [some (2, x), l1, l2, l3, l4] [(2, x), v0, v1, v2] S h n) ∧
  (∀ (d : Nat) (x : Int) (l1 l2 l3 l4 : Option mx_V) (v0 v1 v2 v3 : mx_V) (S h : mx_H) (n : Int), mx_ex d 241 138 [some (2, x), l1, l2, l3, l4] [v0, v1, v2, v3] S h n = mx_ex d 241 139 [some (2, x), l1, l2, l3, l4] [(2, x), v0, v1, v2, v3] S h n) ∧
  (∀ (d : Nat) (a : Int) (l0 l1 l2 l3 l4 : Option mx_V) (v1 v2 v3 v4 : mx_V) (S h : mx_H) (n : Int), mx_ex d 241 139 [l0, l1, l2, l3, l4] [(2, a), v1, v2, v3, v4] S h n = mx_gd (13 ≤ S a (-2) ∧ S a (-2) ≤ 13) d 241 142 [l0, l1, l2, l3, l4] [(0, h a 23), v1, v2, v3, v4] S h n) ∧
  (∀ (d : Nat) (l0 l1 l2 l3 l4 : Option mx_V) (v0 v1 v2 v3 v4 : mx_V) (S h : mx_H) (n : Int), mx_ex d 241 142 [l0, l1, l2, l3, l4] [v0, v1, v2, v3, v4] S h n = mx_ex d 241 143 [l0, l1, l2, l3, l4] [(0, 2), v0, v1, v2, v3, v4] S h n) ∧
  (∀ (d : Nat) (x0 x1 a : Int) (l0 l1 l2 l3 l4 : Option mx_V) (v3 v4 v5 : mx_V) (S h : mx_H) (n : Int), mx_ex (d + 1) 241 143 [l0, l1, l2, l3, l4] [(0, x0), (0, x1), (2, a), v3, v4, v5] S h n = mx_cl (S a (-2) = 13) d 161 [(2, a), (0, x1), (0, x0)] 241 146 [l0, l1, l2, l3, l4] [v3, v4, v5] S h n) ∧
  (∀ (d : Nat) (x0 x1 a : Int) (l0 l1 l2 l3 l4 : Option mx_V) (v3 : mx_V) (S h : mx_H) (n : Int), mx_ex (d + 1) 241 146 [l0, l1, l2, l3, l4] [(0, x0), (0, x1), (2, a), v3] S h n = mx_cl (S a (-2) = 13) d 239 [(2, a), (0, x1), (0, x0)] 241 149 [l0, l1, l2, l3, l4] [v3] S h n) ∧
  (∀ (d : Nat) (b a : Int) (l0 l1 l2 l3 l4 : Option mx_V) (S h : mx_H) (n : Int), mx_ex d 241 149 [l0, l1, l2, l3, l4] [(0, b), (0, a)] S h n = mx_ex d 241 150 [l0, l1, l2, l3, l4] [(0, mx_w (a + b))] S h n) ∧
  (∀ (d : Nat) (x : Int) (l0 l1 l2 l3 l4 : Option mx_V) (S h : mx_H) (n : Int), mx_ex d 241 150 [l0, l1, l2, l3, l4] [(0, x)] S h n = some (some (0, x), S, h, n)) ∧
  (∀ (d : Nat) (x : Int) (l1 l2 l3 l4 : Option mx_V) (S h : mx_H) (n : Int), mx_ex d 241 151 [some (2, x), l1, l2, l3, l4] [] S h n = mx_ex d 241 152 [some (2, x), l1, l2, l3, l4] [(2, x)] S h n) ∧
  (∀ (d : Nat) (l0 l1 l2 l3 l4 : Option mx_V) (v0 : mx_V) (S h : mx_H) (n : Int), mx_ex d 241 152 [l0, l1, l2, l3, l4] [v0] S h n = mx_ex d 241 154 [l0, l1, l2, l3, l4] [(0, 50), v0] S h n) ∧
  (∀ (d : Nat) (x0 a : Int) (l0 l1 l2 l3 l4 : Option mx_V) (S h : mx_H) (n : Int), mx_ex (d + 1) 241 154 [l0, l1, l2, l3, l4] [(0, x0), (2, a)] S h n = mx_cl (S a (-2) = 13) d 236 [(2, a), (0, x0)] 241 157 [l0, l1, l2, l3, l4] [] S h n) :=
  ⟨by intros; exact rfl,
   by intros; exact eq_push rfl,
   by intros; exact eq_st rfl (by decide) (Nat.le_of_ble_eq_true rfl) rfl,
   by intros; exact eq_ld rfl rfl,
   by intros; exact eq_sw rfl,
   by intros; exact eq_ld rfl rfl,
   by intros; exact eq_push rfl,
   by intros; exact eq_cv rfl (Nat.le_of_ble_eq_true rfl) rfl rfl rfl (Nat.le_of_ble_eq_true rfl),
   by intros; exact eq_ld rfl rfl,
   by intros; exact eq_ld rfl rfl,
   by intros; exact eq_gi rfl,
   by intros; exact eq_push rfl,
   by intros; exact eq_cv rfl (Nat.le_of_ble_eq_true rfl) rfl rfl rfl (Nat.le_of_ble_eq_true rfl),
   by intros; exact eq_ld rfl rfl,
   by intros; exact eq_gi rfl,
   by intros; exact eq_i2 (o := mx_sub) rfl,
   by intros; exact eq_st rfl (by decide) (Nat.le_of_ble_eq_true rfl) rfl,
   by intros; exact eq_ld rfl rfl,
   by intros; exact eq_ld rfl rfl,
   by intros; exact eq_gi rfl,
   by intros; exact eq_if1 rfl,
   by intros; exact eq_ld rfl rfl,
   by intros; exact eq_if1 rfl,
   by intros; exact eq_push rfl,
   by intros; exact eq_go rfl,
   by intros; exact eq_push rfl,
   by intros; exact eq_pz rfl,
   by intros; exact eq_ld rfl rfl,
   by intros; exact eq_if1 rfl,
   by intros; exact eq_push rfl,
   by intros; exact eq_go rfl,
   by intros; exact eq_ld rfl rfl,
   by intros; exact eq_push rfl,
   by intros; exact eq_ic1 rfl,
   by intros; exact eq_ld rfl rfl,
   by intros; exact eq_i1 (o1 := mx_neg) rfl,
   by intros; exact eq_go rfl,
   by intros; exact eq_ld rfl rfl,
   by intros; exact eq_ld rfl rfl,
   by intros; exact eq_i2d (o := mx_div) rfl,
   by intros; exact eq_ret rfl,
   by intros; exact eq_ld rfl rfl,
   by intros; exact eq_push rfl,
   by intros; exact eq_cv rfl (Nat.le_of_ble_eq_true rfl) rfl rfl rfl (Nat.le_of_ble_eq_true rfl),
   by intros; exact eq_ld rfl rfl,
   by intros; exact eq_push rfl,
   by intros; exact eq_cs rfl (Nat.le_of_ble_eq_true rfl) rfl rfl rfl (Nat.le_of_ble_eq_true rfl),
   by intros; exact eq_ld rfl rfl,
   by intros; exact eq_cv rfl (Nat.le_of_ble_eq_true rfl) rfl rfl rfl (Nat.le_of_ble_eq_true rfl),
   by intros; exact eq_st rfl (by decide) (Nat.le_of_ble_eq_true rfl) rfl,
   by intros; exact eq_ld rfl rfl,
   by intros; exact eq_gi rfl,
   by intros; exact eq_if0 rfl,
   by intros; exact eq_push rfl,
   by intros; exact eq_go rfl,
   by intros; exact eq_ld rfl rfl,
   by intros; exact eq_ld rfl rfl,
   by intros; exact eq_ld rfl rfl,
   by intros; exact eq_cv rfl (Nat.le_of_ble_eq_true rfl) rfl rfl rfl (Nat.le_of_ble_eq_true rfl),
   by intros; exact eq_ld rfl rfl,
   by intros; exact eq_ld rfl rfl,
   by intros; exact eq_gi rfl,
   by intros; exact eq_push rfl,
   by intros; exact eq_cv rfl (Nat.le_of_ble_eq_true rfl) rfl rfl rfl (Nat.le_of_ble_eq_true rfl),
   by intros; exact eq_cv rfl (Nat.le_of_ble_eq_true rfl) rfl rfl rfl (Nat.le_of_ble_eq_true rfl),
   by intros; exact eq_i2 (o := mx_add) rfl,
   by intros; exact eq_ret rfl,
   by intros; exact eq_ld rfl rfl,
   by intros; exact eq_push rfl,
   by intros; exact eq_cv rfl (Nat.le_of_ble_eq_true rfl) rfl rfl rfl (Nat.le_of_ble_eq_true rfl)⟩
theorem rw_X12_shares_1 :
  (∀ (d : Nat) (x : Int) (l1 l2 l3 l4 : Option mx_V) (S h : mx_H) (n : Int), mx_ex d 241 157 [some (2, x), l1, l2, l3, l4] [] S h n = mx_ex d 241 158 [some (2, x), l1, l2, l3, l4] [(2, x)] S h n) ∧
  (∀ (d : Nat) (l0 l1 l2 l3 l4 : Option mx_V) (v0 : mx_V) (S h : mx_H) (n : Int), mx_ex d 241 158 [l0, l1, l2, l3, l4] [v0] S h n = mx_ex d 241 159 [l0, l1, l2, l3, l4] [(0, 5), v0] S h n) ∧
  (∀ (d : Nat) (x0 : Int) (l0 l1 l2 l3 l4 : Option mx_V) (v1 : mx_V) (S h : mx_H) (n : Int), mx_ex (d + 1) 241 159 [l0, l1, l2, l3, l4] [(0, x0), v1] S h n = mx_rt (mx_M d 237 [(0, x0)] S h n) (d + 1) 241 162 [l0, l1, l2, l3, l4] [v1]) ∧
  (∀ (d : Nat) (x : Int) (l0 l1 l3 l4 : Option mx_V) (v0 v1 : mx_V) (S h : mx_H) (n : Int), mx_ex d 241 162 [l0, l1, some (0, x), l3, l4] [v0, v1] S h n = mx_ex d 241 163 [l0, l1, some (0, x), l3, l4] [(0, x), v0, v1] S h n) ∧
  (∀ (d : Nat) (l0 l1 l2 l3 l4 : Option mx_V) (v0 v1 v2 : mx_V) (S h : mx_H) (n : Int), mx_ex d 241 163 [l0, l1, l2, l3, l4] [v0, v1, v2] S h n = mx_ex d 241 164 [l0, l1, l2, l3, l4] [(0, 2), v0, v1, v2] S h n) ∧
  (∀ (d : Nat) (b a : Int) (l0 l1 l2 l3 l4 : Option mx_V) (v2 v3 : mx_V) (S h : mx_H) (n : Int), mx_ex d 241 164 [l0, l1, l2, l3, l4] [(0, b), (0, a), v2, v3] S h n = mx_ex d 241 165 [l0, l1, l2, l3, l4] [(0, mx_w (a + b)), v2, v3] S h n) ∧
  (∀ (d : Nat) (x0 x1 a : Int) (l0 l1 l2 l3 l4 : Option mx_V) (S h : mx_H) (n : Int), mx_ex (d + 1) 241 165 [l0, l1, l2, l3, l4] [(0, x0), (0, x1), (2, a)] S h n = mx_cl (S a (-2) = 13) d 241 [(2, a), (0, x1), (0, x0)] 241 168 [l0, l1, l2, l3, l4] [] S h n) ∧
  (∀ (d : Nat) (l0 l1 l2 l3 l4 : Option mx_V) (v0 : mx_V) (S h : mx_H) (n : Int), mx_ex d 241 168 [l0, l1, l2, l3, l4] [v0] S h n = mx_ex d 241 169 [l0, l1, l2, l3, l4] [(0, 1), v0] S h n) ∧
  (∀ (d : Nat) (b a : Int) (l0 l1 l2 l3 l4 : Option mx_V) (S h : mx_H) (n : Int), mx_ex d 241 169 [l0, l1, l2, l3, l4] [(0, b), (0, a)] S h n = mx_ex d 241 170 [l0, l1, l2, l3, l4] [(0, mx_xor a b)] S h n) ∧
  (∀ (d : Nat) (x : Int) (l0 l1 l2 l3 l4 : Option mx_V) (S h : mx_H) (n : Int), mx_ex d 241 170 [l0, l1, l2, l3, l4] [(0, x)] S h n = some (some (0, x), S, h, n)) ∧
  (∀ (d : Nat) (x : Int) (l1 l2 l3 l4 : Option mx_V) (S h : mx_H) (n : Int), mx_ex d 241 171 [some (2, x), l1, l2, l3, l4] [] S h n = mx_ex d 241 172 [some (2, x), l1, l2, l3, l4] [(2, x)] S h n) ∧
  (∀ (d : Nat) (x : Int) (l0 l2 l3 l4 : Option mx_V) (v0 : mx_V) (S h : mx_H) (n : Int), mx_ex d 241 172 [l0, some (0, x), l2, l3, l4] [v0] S h n = mx_ex d 241 173 [l0, some (0, x), l2, l3, l4] [(0, x), v0] S h n) ∧
  (∀ (d : Nat) (x0 : Int) (l0 l1 l2 l3 l4 : Option mx_V) (v1 : mx_V) (S h : mx_H) (n : Int), mx_ex (d + 1) 241 173 [l0, l1, l2, l3, l4] [(0, x0), v1] S h n = mx_rt (mx_M d 237 [(0, x0)] S h n) (d + 1) 241 176 [l0, l1, l2, l3, l4] [v1]) ∧
  (∀ (d : Nat) (x : Int) (l0 l1 l3 l4 : Option mx_V) (v0 v1 : mx_V) (S h : mx_H) (n : Int), mx_ex d 241 176 [l0, l1, some (0, x), l3, l4] [v0, v1] S h n = mx_ex d 241 177 [l0, l1, some (0, x), l3, l4] [(0, x), v0, v1] S h n) ∧
  (∀ (d : Nat) (x0 x1 a : Int) (l0 l1 l2 l3 l4 : Option mx_V) (S h : mx_H) (n : Int), mx_ex (d + 1) 241 177 [l0, l1, l2, l3, l4] [(0, x0), (0, x1), (2, a)] S h n = mx_cl (S a (-2) = 13) d 241 [(2, a), (0, x1), (0, x0)] 241 180 [l0, l1, l2, l3, l4] [] S h n) ∧
  (∀ (d : Nat) (x : Int) (l0 l1 l2 l3 l4 : Option mx_V) (S h : mx_H) (n : Int), mx_ex d 241 180 [l0, l1, l2, l3, l4] [(0, x)] S h n = some (some (0, x), S, h, n)) :=
  ⟨by intros; exact eq_ld rfl rfl,
   by intros; exact eq_push rfl,
   by intros; exact eq_cs rfl (Nat.le_of_ble_eq_true rfl) rfl rfl rfl (Nat.le_of_ble_eq_true rfl),
   by intros; exact eq_ld rfl rfl,
   by intros; exact eq_push rfl,
   by intros; exact eq_i2 (o := mx_add) rfl,
   by intros; exact eq_cv rfl (Nat.le_of_ble_eq_true rfl) rfl rfl rfl (Nat.le_of_ble_eq_true rfl),
   by intros; exact eq_push rfl,
   by intros; exact eq_i2 (o := mx_xor) rfl,
   by intros; exact eq_ret rfl,
   by intros; exact eq_ld rfl rfl,
   by intros; exact eq_ld rfl rfl,
   by intros; exact eq_cs rfl (Nat.le_of_ble_eq_true rfl) rfl rfl rfl (Nat.le_of_ble_eq_true rfl),
   by intros; exact eq_ld rfl rfl,
   by intros; exact eq_cv rfl (Nat.le_of_ble_eq_true rfl) rfl rfl rfl (Nat.le_of_ble_eq_true rfl),
   by intros; exact eq_ret rfl⟩
theorem rw_X12_tells :
  (∀ (d : Nat) (a0 a1 a2 : Int) (S h : mx_H) (n : Int), mx_M d 242 [(2, a0), (0, a1), (0, a2)] S h n = mx_ex d 242 0 [some (2, a0), some (0, a1), some (0, a2), none] [] S h n) ∧
  (∀ (d : Nat) (l0 l1 l2 l3 : Option mx_V) (S h : mx_H) (n : Int), mx_ex d 242 0 [l0, l1, l2, l3] [] S h n = mx_ex d 242 1 [l0, l1, l2, l3] [(0, 0)] S h n) ∧
  (∀ (d : Nat) (x : Int) (l0 l1 l2 l3 : Option mx_V) (S h : mx_H) (n : Int), mx_ex d 242 1 [l0, l1, l2, l3] [(0, x)] S h n = mx_ex d 242 2 [l0, l1, mx_nl l2, some (0, x)] [] S h n) ∧
  (∀ (d : Nat) (x : Int) (l0 l2 l3 : Option mx_V) (S h : mx_H) (n : Int), mx_ex d 242 2 [l0, some (0, x), l2, l3] [] S h n = mx_ex d 242 3 [l0, some (0, x), l2, l3] [(0, x)] S h n) ∧
  (∀ (d : Nat) (a : Int) (l0 l1 l2 l3 : Option mx_V) (S h : mx_H) (n : Int), mx_ex d 242 3 [l0, l1, l2, l3] [(0, a)] S h n = mx_sw a [(0, 36), (1, 111), (2, 62), (3, 111), (4, 93)] d 242 111 [l0, l1, l2, l3] [] S h n) ∧
  (∀ (d : Nat) (x : Int) (l1 l2 l3 : Option mx_V) (S h : mx_H) (n : Int), mx_ex d 242 36 [some (2, x), l1, l2, l3] [] S h n = mx_ex d 242 37 [some (2, x), l1, l2, l3] [(2, x)] S h n) ∧
  (∀ (d : Nat) (l0 l1 l2 l3 : Option mx_V) (v0 : mx_V) (S h : mx_H) (n : Int), mx_ex d 242 37 [l0, l1, l2, l3] [v0] S h n = mx_ex d 242 39 [l0, l1, l2, l3] [(0, 13), v0] S h n) ∧
  (∀ (d : Nat) (x0 a : Int) (l0 l1 l2 l3 : Option mx_V) (S h : mx_H) (n : Int), mx_ex (d + 1) 242 39 [l0, l1, l2, l3] [(0, x0), (2, a)] S h n = mx_cl (S a (-2) = 13) d 236 [(2, a), (0, x0)] 242 42 [l0, l1, l2, l3] [] S h n) ∧
  (∀ (d : Nat) (x : Int) (l1 l2 l3 : Option mx_V) (S h : mx_H) (n : Int), mx_ex d 242 42 [some (2, x), l1, l2, l3] [] S h n = mx_ex d 242 43 [some (2, x), l1, l2, l3] [(2, x)] S h n) ∧
  (∀ (d : Nat) (x : Int) (l1 l2 l3 : Option mx_V) (v0 : mx_V) (S h : mx_H) (n : Int), mx_ex d 242 43 [some (2, x), l1, l2, l3] [v0] S h n = mx_ex d 242 44 [some (2, x), l1, l2, l3] [(2, x), v0] S h n) ∧
  (∀ (d : Nat) (a : Int) (l0 l1 l2 l3 : Option mx_V) (v1 : mx_V) (S h : mx_H) (n : Int), mx_ex (d + 1) 242 44 [l0, l1, l2, l3] [(2, a), v1] S h n = mx_cl (S a (-2) = 13) d 238 [(2, a)] 242 47 [l0, l1, l2, l3] [v1] S h n) ∧
  (∀ (d : Nat) (x : Int) (l0 l1 l3 : Option mx_V) (v0 v1 : mx_V) (S h : mx_H) (n : Int), mx_ex d 242 47 [l0, l1, some (0, x), l3] [v0, v1] S h n = mx_ex d 242 48 [l0, l1, some (0, x), l3] [(0, x), v0, v1] S h n) ∧
  (∀ (d : Nat) (x0 x1 a : Int) (l0 l1 l2 l3 : Option mx_V) (S h : mx_H) (n : Int), mx_ex (d + 1) 242 48 [l0, l1, l2, l3] [(0, x0), (0, x1), (2, a)] S h n = mx_cl (S a (-2) = 13) d 240 [(2, a), (0, x1), (0, x0)] 242 51 [l0, l1, l2, l3] [] S h n) ∧
  (∀ (d : Nat) (x : Int) (l1 l2 l3 : Option mx_V) (v0 : mx_V) (S h : mx_H) (n : Int), mx_ex d 242 51 [some (2, x), l1, l2, l3] [v0] S h n = mx_ex d 242 52 [some (2, x), l1, l2, l3] [(2, x), v0] S h n) ∧
  (∀ (d : Nat) (x : Int) (l1 l2 l3 : Option mx_V) (v0 v1 : mx_V) (S h : mx_H) (n : Int), mx_ex d 242 52 [some (2, x), l1, l2, l3] [v0, v1] S h n = mx_ex d 242 53 [some (2, x), l1, l2, l3] [(2, x), v0, v1] S h n) ∧
  (∀ (d : Nat) (a : Int) (l0 l1 l2 l3 : Option mx_V) (v1 v2 : mx_V) (S h : mx_H) (n : Int), mx_ex d 242 53 [l0, l1, l2, l3] [(2, a), v1, v2] S h n = mx_gd (13 ≤ S a (-2) ∧ S a (-2) ≤ 13) d 242 56 [l0, l1, l2, l3] [(0, h a 23), v1, v2] S h n) ∧
  (∀ (d : Nat) (l0 l1 l2 l3 : Option mx_V) (v0 v1 v2 : mx_V) (S h : mx_H) (n : Int), mx_ex d 242 56 [l0, l1, l2, l3] [v0, v1, v2] S h n = mx_ex d 242 57 [l0, l1, l2, l3] [(0, 2), v0, v1, v2] S h n) ∧
  (∀ (d : Nat) (x0 x1 a : Int) (l0 l1 l2 l3 : Option mx_V) (v3 : mx_V) (S h : mx_H) (n : Int), mx_ex (d + 1) 242 57 [l0, l1, l2, l3] [(0, x0), (0, x1), (2, a), v3] S h n = mx_cl (S a (-2) = 13) d 161 [(2, a), (0, x1), (0, x0)] 242 60 [l0, l1, l2, l3] [v3] S h n) ∧
  (∀ (d : Nat) (b a : Int) (l0 l1 l2 l3 : Option mx_V) (S h : mx_H) (n : Int), mx_ex d 242 60 [l0, l1, l2, l3] [(0, b), (0, a)] S h n = mx_ex d 242 61 [l0, l1, l2, l3] [(0, mx_xor a b)] S h n) ∧
  (∀ (d : Nat) (x : Int) (l0 l1 l2 l3 : Option mx_V) (S h : mx_H) (n : Int), mx_ex d 242 61 [l0, l1, l2, l3] [(0, x)] S h n = some (some (0, x), S, h, n)) ∧
  (∀ (d : Nat) (x : Int) (l1 l2 l3 : Option mx_V) (S h : mx_H) (n : Int), mx_ex d 242 62 [some (2, x), l1, l2, l3] [] S h n = mx_ex d 242 63 [some (2, x), l1, l2, l3] [(2, x)] S h n) ∧
  (∀ (d : Nat) (l0 l1 l2 l3 : Option mx_V) (v0 : mx_V) (S h : mx_H) (n : Int), mx_ex d 242 63 [l0, l1, l2, l3] [v0] S h n = mx_ex d 242 65 [l0, l1, l2, l3] [(0, 31), v0] S h n) ∧
  (∀ (d : Nat) (x0 a : Int) (l0 l1 l2 l3 : Option mx_V) (S h : mx_H) (n : Int), mx_ex (d + 1) 242 65 [l0, l1, l2, l3] [(0, x0), (2, a)] S h n = mx_cl (S a (-2) = 13) d 236 [(2, a), (0, x0)] 242 68 [l0, l1, l2, l3] [] S h n) ∧
  (∀ (d : Nat) (x : Int) (l1 l2 l3 : Option mx_V) (S h : mx_H) (n : Int), mx_ex d 242 68 [some (2, x), l1, l2, l3] [] S h n = mx_ex d 242 69 [some (2, x), l1, l2, l3] [(2, x)] S h n) ∧
  (∀ (d : Nat) (l0 l1 l2 l3 : Option mx_V) (v0 : mx_V) (S h : mx_H) (n : Int), mx_ex d 242 69 [l0, l1, l2, l3] [v0] S h n = mx_ex d 242 70 [l0, l1, l2, l3] [(0, 2), v0] S h n) ∧
  (∀ (d : Nat) (x0 : Int) (l0 l1 l2 l3 : Option mx_V) (v1 : mx_V) (S h : mx_H) (n : Int), mx_ex (d + 1) 242 70 [l0, l1, l2, l3] [(0, x0), v1] S h n = mx_rt (mx_M d 237 [(0, x0)] S h n) (d + 1) 242 73 [l0, l1, l2, l3] [v1]) ∧
  (∀ (d : Nat) (x : Int) (l0 l1 l3 : Option mx_V) (v0 v1 : mx_V) (S h : mx_H) (n : Int), mx_ex d 242 73 [l0, l1, some (0, x), l3] [v0, v1] S h n = mx_ex d 242 74 [l0, l1, some (0, x), l3] [(0, x), v0, v1] S h n) ∧
  (∀ (d : Nat) (x0 x1 a : Int) (l0 l1 l2 l3 : Option mx_V) (S h : mx_H) (n : Int), mx_ex (d + 1) 242 74 [l0, l1, l2, l3] [(0, x0), (0, x1), (2, a)] S h n = mx_cl (S a (-2) = 13) d 242 [(2, a), (0, x1), (0, x0)] 242 77 [l0, l1, l2, l3] [] S h n) ∧
  (∀ (d : Nat) (x : Int) (l0 l1 l2 l3 : Option mx_V) (S h : mx_H) (n : Int), mx_ex d 242 77 [l0, l1, l2, l3] [(0, x)] S h n = mx_ex d 242 78 [l0, l1, mx_nl l2, some (0, x)] [] S h n) ∧
  (∀ (d : Nat) (x : Int) (l0 l1 l2 : Option mx_V) (S h : mx_H) (n : Int), mx_ex d 242 78 [l0, l1, l2, some (0, x)] [] S h n = mx_ex d 242 79 [l0, l1, l2, some (0, x)] [(0, x)] S h n) ∧
  (∀ (d : Nat) (x : Int) (l1 l2 l3 : Option mx_V) (v0 : mx_V) (S h : mx_H) (n : Int), mx_ex d 242 79 [some (2, x), l1, l2, l3] [v0] S h n = mx_ex d 242 80 [some (2, x), l1, l2, l3] [(2, x), v0] S h n) ∧
  (∀ (d : Nat) (x : Int) (l1 l2 l3 : Option mx_V) (v0 v1 : mx_V) (S h : mx_H) (n : Int), mx_ex d 242 80 [some (2, x), l1, l2, l3] [v0, v1] S h n = mx_ex d 242 81 [some (2, x), l1, l2, l3] [(2, x), v0, v1] S h n) ∧
  (∀ (d : Nat) (a : Int) (l0 l1 l2 l3 : Option mx_V) (v1 v2 : mx_V) (S h : mx_H) (n : Int), mx_ex (d + 1) 242 81 [l0, l1, l2, l3] [(2, a), v1, v2] S h n = mx_cl (S a (-2) = 13) d 238 [(2, a)] 242 84 [l0, l1, l2, l3] [v1, v2] S h n) ∧
  (∀ (d : Nat) (x : Int) (l1 l2 l3 : Option mx_V) (v0 v1 v2 : mx_V) (S h : mx_H) (n : Int), mx_ex d 242 84 [some (2, x), l1, l2, l3] [v0, v1, v2] S h n = mx_ex d 242 85 [some (2, x), l1, l2, l3] [(2, x), v0, v1, v2] S h n) ∧
  (∀ (d : Nat) (a : Int) (l0 l1 l2 l3 : Option mx_V) (v1 v2 v3 : mx_V) (S h : mx_H) (n : Int), mx_ex d 242 85 [l0, l1, l2, l3] [(2, a), v1, v2, v3] S h n = mx_gd (13 ≤ S a (-2) ∧ S a (-2) ≤ 13) d 242 88 [l0, l1, l2, l3] [(0, h a 23), v1, v2, v3] S h n) ∧
  (∀ (d : Nat) (x0 x1 a : Int) (l0 l1 l2 l3 : Option mx_V) (v3 : mx_V) (S h : mx_H) (n : Int), mx_ex (d + 1) 242 88 [l0, l1, l2, l3] [(0, x0), (0, x1), (2, a), v3] S h n = mx_cl (S a (-2) = 13) d 241 [(2, a), (0, x1), (0, x0)] 242 91 [l0, l1, l2, l3] [v3] S h n) ∧
  (∀ (d : Nat) (b a : Int) (l0 l1 l2 l3 : Option mx_V) (S h : mx_H) (n : Int), mx_ex d 242 91 [l0, l1, l2, l3] [(0, b), (0, a)] S h n = mx_ex d 242 92 [l0, l1, l2, l3] [(0, mx_w (a + b))] S h n) ∧
  (∀ (d : Nat) (x : Int) (l0 l1 l2 l3 : Option mx_V) (S h : mx_H) (n : Int), mx_ex d 242 92 [l0, l1, l2, l3] [(0, x)] S h n = some (some (0, x), S, h, n)) ∧
  (∀ (d : Nat) (x : Int) (l1 l2 l3 : Option mx_V) (S h : mx_H) (n : Int), mx_ex d 242 93 [some (2, x), l1, l2, l3] [] S h n = mx_ex d 242 94 [some (2, x), l1, l2, l3] [(2, x)] S h n) ∧
  (∀ (d : Nat) (l0 l1 l2 l3 : Option mx_V) (v0 : mx_V) (S h : mx_H) (n : Int), mx_ex d 242 94 [l0, l1, l2, l3] [v0] S h n = mx_ex d 242 96 [l0, l1, l2, l3] [(0, 60), v0] S h n) ∧
  (∀ (d : Nat) (x0 a : Int) (l0 l1 l2 l3 : Option mx_V) (S h : mx_H) (n : Int), mx_ex (d + 1) 242 96 [l0, l1, l2, l3] [(0, x0), (2, a)] S h n = mx_cl (S a (-2) = 13) d 236 [(2, a), (0, x0)] 242 99 [l0, l1, l2, l3] [] S h n) ∧
  (∀ (d : Nat) (x : Int) (l1 l2 l3 : Option mx_V) (S h : mx_H) (n : Int), mx_ex d 242 99 [some (2, x), l1, l2, l3] [] S h n = mx_ex d 242 100 [some (2, x), l1, l2, l3] [(2, x)] S h n) ∧
  (∀ (d : Nat) (l0 l1 l2 l3 : Option mx_V) (v0 : mx_V) (S h : mx_H) (n : Int), mx_ex d 242 100 [l0, l1, l2, l3] [v0] S h n = mx_ex d 242 101 [l0, l1, l2, l3] [(0, 4), v0] S h n) ∧
  (∀ (d : Nat) (x0 : Int) (l0 l1 l2 l3 : Option mx_V) (v1 : mx_V) (S h : mx_H) (n : Int), mx_ex (d + 1) 242 101 [l0, l1, l2, l3] [(0, x0), v1] S h n = mx_rt (mx_M d 237 [(0, x0)] S h n) (d + 1) 242 104 [l0, l1, l2, l3] [v1]) ∧
  (∀ (d : Nat) (x : Int) (l0 l1 l3 : Option mx_V) (v0 v1 : mx_V) (S h : mx_H) (n : Int), mx_ex d 242 104 [l0, l1, some (0, x), l3] [v0, v1] S h n = mx_ex d 242 105 [l0, l1, some (0, x), l3] [(0, x), v0, v1] S h n) ∧
  (∀ (d : Nat) (x0 x1 a : Int) (l0 l1 l2 l3 : Option mx_V) (S h : mx_H) (n : Int), mx_ex (d + 1) 242 105 [l0, l1, l2, l3] [(0, x0), (0, x1), (2, a)] S h n = mx_cl (S a (-2) = 13) d 242 [(2, a), (0, x1), (0, x0)] 242 108 [l0, l1, l2, l3] [] S h n) ∧
  (∀ (d : Nat) (l0 l1 l2 l3 : Option mx_V) (v0 : mx_V) (S h : mx_H) (n : Int), mx_ex d 242 108 [l0, l1, l2, l3] [v0] S h n = mx_ex d 242 109 [l0, l1, l2, l3] [(0, 2), v0] S h n) ∧
  (∀ (d : Nat) (b a : Int) (l0 l1 l2 l3 : Option mx_V) (S h : mx_H) (n : Int), mx_ex d 242 109 [l0, l1, l2, l3] [(0, b), (0, a)] S h n = mx_ex d 242 110 [l0, l1, l2, l3] [(0, mx_w (a * b))] S h n) ∧
  (∀ (d : Nat) (x : Int) (l0 l1 l2 l3 : Option mx_V) (S h : mx_H) (n : Int), mx_ex d 242 110 [l0, l1, l2, l3] [(0, x)] S h n = some (some (0, x), S, h, n)) ∧
  (∀ (d : Nat) (x : Int) (l1 l2 l3 : Option mx_V) (S h : mx_H) (n : Int), mx_ex d 242 111 [some (2, x), l1, l2, l3] [] S h n = mx_ex d 242 112 [some (2, x), l1, l2, l3] [(2, x)] S h n) ∧
  (∀ (d : Nat) (x : Int) (l0 l2 l3 : Option mx_V) (v0 : mx_V) (S h : mx_H) (n : Int), mx_ex d 242 112 [l0, some (0, x), l2, l3] [v0] S h n = mx_ex d 242 113 [l0, some (0, x), l2, l3] [(0, x), v0] S h n) ∧
  (∀ (d : Nat) (x0 : Int) (l0 l1 l2 l3 : Option mx_V) (v1 : mx_V) (S h : mx_H) (n : Int), mx_ex (d + 1) 242 113 [l0, l1, l2, l3] [(0, x0), v1] S h n = mx_rt (mx_M d 237 [(0, x0)] S h n) (d + 1) 242 116 [l0, l1, l2, l3] [v1]) ∧
  (∀ (d : Nat) (x : Int) (l0 l1 l3 : Option mx_V) (v0 v1 : mx_V) (S h : mx_H) (n : Int), mx_ex d 242 116 [l0, l1, some (0, x), l3] [v0, v1] S h n = mx_ex d 242 117 [l0, l1, some (0, x), l3] [(0, x), v0, v1] S h n) ∧
  (∀ (d : Nat) (x0 x1 a : Int) (l0 l1 l2 l3 : Option mx_V) (S h : mx_H) (n : Int), mx_ex (d + 1) 242 117 [l0, l1, l2, l3] [(0, x0), (0, x1), (2, a)] S h n = mx_cl (S a (-2) = 13) d 242 [(2, a), (0, x1), (0, x0)] 242 120 [l0, l1, l2, l3] [] S h n) ∧
  (∀ (d : Nat) (x : Int) (l0 l1 l2 l3 : Option mx_V) (S h : mx_H) (n : Int), mx_ex d 242 120 [l0, l1, l2, l3] [(0, x)] S h n = some (some (0, x), S, h, n)) :=
  ⟨by intros; exact rfl,
   by intros; exact eq_push rfl,
   by intros; exact eq_st rfl (by decide) (Nat.le_of_ble_eq_true rfl) rfl,
   by intros; exact eq_ld rfl rfl,
   by intros; exact eq_sw rfl,
   by intros; exact eq_ld rfl rfl,
   by intros; exact eq_push rfl,
   by intros; exact eq_cv rfl (Nat.le_of_ble_eq_true rfl) rfl rfl rfl (Nat.le_of_ble_eq_true rfl),
   by intros; exact eq_ld rfl rfl,
   by intros; exact eq_ld rfl rfl,
   by intros; exact eq_cv rfl (Nat.le_of_ble_eq_true rfl) rfl rfl rfl (Nat.le_of_ble_eq_true rfl),
   by intros; exact eq_ld rfl rfl,
   by intros; exact eq_cv rfl (Nat.le_of_ble_eq_true rfl) rfl rfl rfl (Nat.le_of_ble_eq_true rfl),
   by intros; exact eq_ld rfl rfl,
   by intros; exact eq_ld rfl rfl,
   by intros; exact eq_gi rfl,
   by intros; exact eq_push rfl,
   by intros; exact eq_cv rfl (Nat.le_of_ble_eq_true rfl) rfl rfl rfl (Nat.le_of_ble_eq_true rfl),
   by intros; exact eq_i2 (o := mx_xor) rfl,
   by intros; exact eq_ret rfl,
   by intros; exact eq_ld rfl rfl,
   by intros; exact eq_push rfl,
   by intros; exact eq_cv rfl (Nat.le_of_ble_eq_true rfl) rfl rfl rfl (Nat.le_of_ble_eq_true rfl),
   by intros; exact eq_ld rfl rfl,
   by intros; exact eq_push rfl,
   by intros; exact eq_cs rfl (Nat.le_of_ble_eq_true rfl) rfl rfl rfl (Nat.le_of_ble_eq_true rfl),
   by intros; exact eq_ld rfl rfl,
   by intros; exact eq_cv rfl (Nat.le_of_ble_eq_true rfl) rfl rfl rfl (Nat.le_of_ble_eq_true rfl),
   by intros; exact eq_st rfl (by decide) (Nat.le_of_ble_eq_true rfl) rfl,
   by intros; exact eq_ld rfl rfl,
   by intros; exact eq_ld rfl rfl,
   by intros; exact eq_ld rfl rfl,
   by intros; exact eq_cv rfl (Nat.le_of_ble_eq_true rfl) rfl rfl rfl (Nat.le_of_ble_eq_true rfl),
   by intros; exact eq_ld rfl rfl,
   by intros; exact eq_gi rfl,
   by intros; exact eq_cv rfl (Nat.le_of_ble_eq_true rfl) rfl rfl rfl (Nat.le_of_ble_eq_true rfl),
   by intros; exact eq_i2 (o := mx_add) rfl,
   by intros; exact eq_ret rfl,
   by intros; exact eq_ld rfl rfl,
   by intros; exact eq_push rfl,
   by intros; exact eq_cv rfl (Nat.le_of_ble_eq_true rfl) rfl rfl rfl (Nat.le_of_ble_eq_true rfl),
   by intros; exact eq_ld rfl rfl,
   by intros; exact eq_push rfl,
   by intros; exact eq_cs rfl (Nat.le_of_ble_eq_true rfl) rfl rfl rfl (Nat.le_of_ble_eq_true rfl),
   by intros; exact eq_ld rfl rfl,
   by intros; exact eq_cv rfl (Nat.le_of_ble_eq_true rfl) rfl rfl rfl (Nat.le_of_ble_eq_true rfl),
   by intros; exact eq_push rfl,
   by intros; exact eq_i2 (o := mx_mul) rfl,
   by intros; exact eq_ret rfl,
   by intros; exact eq_ld rfl rfl,
   by intros; exact eq_ld rfl rfl,
   by intros; exact eq_cs rfl (Nat.le_of_ble_eq_true rfl) rfl rfl rfl (Nat.le_of_ble_eq_true rfl),
   by intros; exact eq_ld rfl rfl,
   by intros; exact eq_cv rfl (Nat.le_of_ble_eq_true rfl) rfl rfl rfl (Nat.le_of_ble_eq_true rfl),
   by intros; exact eq_ret rfl⟩
theorem rw_X12_act :
  (∀ (d : Nat) (a0 a1 a2 a3 : Int) (S h : mx_H) (n : Int), mx_M d 243 [(2, a0), (0, a1), (0, a2), (0, a3)] S h n = mx_ex d 243 0 [some (2, a0), some (0, a1), some (0, a2), some (0, a3), none, none] [] S h n) ∧
  (∀ (d : Nat) (x : Int) (l1 l2 l3 l4 l5 : Option mx_V) (S h : mx_H) (n : Int), mx_ex d 243 0 [some (2, x), l1, l2, l3, l4, l5] [] S h n = mx_ex d 243 1 [some (2, x), l1, l2, l3, l4, l5] [(2, x)] S h n) ∧
  (∀ (d : Nat) (l0 l1 l2 l3 l4 l5 : Option mx_V) (v0 : mx_V) (S h : mx_H) (n : Int), mx_ex d 243 1 [l0, l1, l2, l3, l4, l5] [v0] S h n = mx_ex d 243 2 [l0, l1, l2, l3, l4, l5] [(0, 0), v0] S h n) ∧
  (∀ (d : Nat) (v a : Int) (l0 l1 l2 l3 l4 l5 : Option mx_V) (S h : mx_H) (n : Int), mx_ex d 243 2 [l0, l1, l2, l3, l4, l5] [(0, v), (2, a)] S h n = mx_gd (13 ≤ S a (-2) ∧ S a (-2) ≤ 13) d 243 5 [l0, l1, l2, l3, l4, l5] [] S (mx_u h a 22 v) n) ∧
  (∀ (d : Nat) (x : Int) (l0 l2 l3 l4 l5 : Option mx_V) (S h : mx_H) (n : Int), mx_ex d 243 5 [l0, some (0, x), l2, l3, l4, l5] [] S h n = mx_ex d 243 6 [l0, some (0, x), l2, l3, l4, l5] [(0, x)] S h n) ∧
  (∀ (d : Nat) (x0 : Int) (l0 l1 l2 l3 l4 l5 : Option mx_V) (S h : mx_H) (n : Int), mx_ex (d + 1) 243 6 [l0, l1, l2, l3, l4, l5] [(0, x0)] S h n = mx_rt (mx_M d 231 [(0, x0)] S h n) (d + 1) 243 9 [l0, l1, l2, l3, l4, l5] []) ∧
  (∀ (d : Nat) (a : Int) (l0 l1 l2 l3 l4 l5 : Option mx_V) (S h : mx_H) (n : Int), mx_ex d 243 9 [l0, l1, l2, l3, l4, l5] [(0, a)] S h n = mx_br (a = 0) d 243 39 12 [l0, l1, l2, l3, l4, l5] [] S h n) ∧
  (∀ (d : Nat) (x : Int) (l0 l1 l3 l4 l5 : Option mx_V) (S h : mx_H) (n : Int), mx_ex d 243 12 [l0, l1, some (0, x), l3, l4, l5] [] S h n = mx_ex d 243 13 [l0, l1, some (0, x), l3, l4, l5] [(0, x)] S h n) ∧
  (∀ (d : Nat) (l0 l1 l2 l3 l4 l5 : Option mx_V) (v0 : mx_V) (S h : mx_H) (n : Int), mx_ex d 243 13 [l0, l1, l2, l3, l4, l5] [v0] S h n = mx_ex d 243 14 [l0, l1, l2, l3, l4, l5] [(0, 0), v0] S h n) ∧
  (∀ (d : Nat) (l0 l1 l2 l3 l4 l5 : Option mx_V) (v0 v1 : mx_V) (S h : mx_H) (n : Int), mx_ex d 243 14 [l0, l1, l2, l3, l4, l5] [v0, v1] S h n = mx_ex d 243 15 [l0, l1, l2, l3, l4, l5] [(0, 3), v0, v1] S h n) ∧
  (∀ (d : Nat) (x0 x1 x2 : Int) (l0 l1 l2 l3 l4 l5 : Option mx_V) (S h : mx_H) (n : Int), mx_ex (d + 1) 243 15 [l0, l1, l2, l3, l4, l5] [(0, x0), (0, x1), (0, x2)] S h n = mx_rt (mx_M d 157 [(0, x2), (0, x1), (0, x0)] S h n) (d + 1) 243 18 [l0, l1, l2, l3, l4, l5] []) ∧
  (∀ (d : Nat) (a : Int) (l0 l1 l2 l3 l4 l5 : Option mx_V) (S h : mx_H) (n : Int), mx_ex d 243 18 [l0, l1, l2, l3, l4, l5] [(0, a)] S h n = mx_br (a = 0) d 243 39 21 [l0, l1, l2, l3, l4, l5] [] S h n) ∧
  (∀ (d : Nat) (x : Int) (l1 l2 l3 l4 l5 : Option mx_V) (S h : mx_H) (n : Int), mx_ex d 243 21 [some (2, x), l1, l2, l3, l4, l5] [] S h n = mx_ex d 243 22 [some (2, x), l1, l2, l3, l4, l5] [(2, x)] S h n) ∧
  (∀ (d : Nat) (x : Int) (l0 l2 l3 l4 l5 : Option mx_V) (v0 : mx_V) (S h : mx_H) (n : Int), mx_ex d 243 22 [l0, some (0, x), l2, l3, l4, l5] [v0] S h n = mx_ex d 243 23 [l0, some (0, x), l2, l3, l4, l5] [(0, x), v0] S h n) ∧
  (∀ (d : Nat) (x0 a : Int) (l0 l1 l2 l3 l4 l5 : Option mx_V) (S h : mx_H) (n : Int), mx_ex (d + 1) 243 23 [l0, l1, l2, l3, l4, l5] [(0, x0), (2, a)] S h n = mx_cl (S a (-2) = 13) d 233 [(2, a), (0, x0)] 243 26 [l0, l1, l2, l3, l4, l5] [] S h n) ∧
  (∀ (d : Nat) (a : Int) (l0 l1 l2 l3 l4 l5 : Option mx_V) (S h : mx_H) (n : Int), mx_ex d 243 26 [l0, l1, l2, l3, l4, l5] [(0, a)] S h n = mx_br (a = 0) d 243 29 39 [l0, l1, l2, l3, l4, l5] [] S h n) ∧
  (∀ (d : Nat) (x : Int) (l1 l2 l3 l4 l5 : Option mx_V) (S h : mx_H) (n : Int), mx_ex d 243 29 [some (2, x), l1, l2, l3, l4, l5] [] S h n = mx_ex d 243 30 [some (2, x), l1, l2, l3, l4, l5] [(2, x)] S h n) ∧
  (∀ (d : Nat) (a : Int) (l0 l1 l2 l3 l4 l5 : Option mx_V) (S h : mx_H) (n : Int), mx_ex d 243 30 [l0, l1, l2, l3, l4, l5] [(2, a)] S h n = mx_gd (13 ≤ S a (-2) ∧ S a (-2) ≤ 13) d 243 33 [l0, l1, l2, l3, l4, l5] [(2, S a 19)] S h n) ∧
  (∀ (d : Nat) (x : Int) (l0 l2 l3 l4 l5 : Option mx_V) (v0 : mx_V) (S h : mx_H) (n : Int), mx_ex d 243 33 [l0, some (0, x), l2, l3, l4, l5] [v0] S h n = mx_ex d 243 34 [l0, some (0, x), l2, l3, l4, l5] [(0, x), v0] S h n) ∧
  (∀ (d : Nat) (i a : Int) (l0 l1 l2 l3 l4 l5 : Option mx_V) (S h : mx_H) (n : Int), mx_ex d 243 34 [l0, l1, l2, l3, l4, l5] [(0, i), (2, a)] S h n = mx_gd ((S a (-2) = 20 ∨ S a (-2) = 24) ∧ 0 ≤ i ∧ i < S a (-1)) d 243 35 [l0, l1, l2, l3, l4, l5] [(0, h a i)] S h n) ∧
  (∀ (d : Nat) (l0 l1 l2 l3 l4 l5 : Option mx_V) (v0 : mx_V) (S h : mx_H) (n : Int), mx_ex d 243 35 [l0, l1, l2, l3, l4, l5] [v0] S h n = mx_ex d 243 36 [l0, l1, l2, l3, l4, l5] [(0, 1), v0] S h n) ∧
  (∀ (d : Nat) (b a : Int) (l0 l1 l2 l3 l4 l5 : Option mx_V) (S h : mx_H) (n : Int), mx_ex d 243 36 [l0, l1, l2, l3, l4, l5] [(0, b), (0, a)] S h n = mx_br (a = b) d 243 41 39 [l0, l1, l2, l3, l4, l5] [] S h n) ∧
  (∀ (d : Nat) (l0 l1 l2 l3 l4 l5 : Option mx_V) (S h : mx_H) (n : Int), mx_ex d 243 39 [l0, l1, l2, l3, l4, l5] [] S h n = mx_ex d 243 40 [l0, l1, l2, l3, l4, l5] [(0, 0)] S h n) ∧
  (∀ (d : Nat) (x : Int) (l0 l1 l2 l3 l4 l5 : Option mx_V) (S h : mx_H) (n : Int), mx_ex d 243 40 [l0, l1, l2, l3, l4, l5] [(0, x)] S h n = some (some (0, x), S, h, n)) ∧
  (∀ (d : Nat) (x : Int) (l1 l2 l3 l4 l5 : Option mx_V) (S h : mx_H) (n : Int), mx_ex d 243 41 [some (2, x), l1, l2, l3, l4, l5] [] S h n = mx_ex d 243 42 [some (2, x), l1, l2, l3, l4, l5] [(2, x)] S h n) ∧
  (∀ (d : Nat) (x : Int) (l1 l2 l3 l4 l5 : Option mx_V) (v0 : mx_V) (S h : mx_H) (n : Int), mx_ex d 243 42 [some (2, x), l1, l2, l3, l4, l5] [v0] S h n = mx_ex d 243 43 [some (2, x), l1, l2, l3, l4, l5] [(2, x), v0] S h n) ∧
  (∀ (d : Nat) (a : Int) (l0 l1 l2 l3 l4 l5 : Option mx_V) (v1 : mx_V) (S h : mx_H) (n : Int), mx_ex d 243 43 [l0, l1, l2, l3, l4, l5] [(2, a), v1] S h n = mx_gd (13 ≤ S a (-2) ∧ S a (-2) ≤ 13) d 243 46 [l0, l1, l2, l3, l4, l5] [(2, S a 20), v1] S h n) ∧
  (∀ (d : Nat) (x : Int) (l0 l2 l3 l4 l5 : Option mx_V) (v0 v1 : mx_V) (S h : mx_H) (n : Int), mx_ex d 243 46 [l0, some (0, x), l2, l3, l4, l5] [v0, v1] S h n = mx_ex d 243 47 [l0, some (0, x), l2, l3, l4, l5] [(0, x), v0, v1] S h n) ∧
  (∀ (d : Nat) (i a : Int) (l0 l1 l2 l3 l4 l5 : Option mx_V) (v2 : mx_V) (S h : mx_H) (n : Int), mx_ex d 243 47 [l0, l1, l2, l3, l4, l5] [(0, i), (2, a), v2] S h n = mx_gd ((S a (-2) = 20 ∨ S a (-2) = 24) ∧ 0 ≤ i ∧ i < S a (-1)) d 243 48 [l0, l1, l2, l3, l4, l5] [(0, h a i), v2] S h n) ∧
  (∀ (d : Nat) (v a : Int) (l0 l1 l2 l3 l4 l5 : Option mx_V) (S h : mx_H) (n : Int), mx_ex d 243 48 [l0, l1, l2, l3, l4, l5] [(0, v), (2, a)] S h n = mx_gd (13 ≤ S a (-2) ∧ S a (-2) ≤ 13) d 243 51 [l0, l1, l2, l3, l4, l5] [] S (mx_u h a 23 v) n) ∧
  (∀ (d : Nat) (x : Int) (l1 l2 l3 l4 l5 : Option mx_V) (S h : mx_H) (n : Int), mx_ex d 243 51 [some (2, x), l1, l2, l3, l4, l5] [] S h n = mx_ex d 243 52 [some (2, x), l1, l2, l3, l4, l5] [(2, x)] S h n) ∧
  (∀ (d : Nat) (l0 l1 l2 l3 l4 l5 : Option mx_V) (v0 : mx_V) (S h : mx_H) (n : Int), mx_ex d 243 52 [l0, l1, l2, l3, l4, l5] [v0] S h n = mx_ex d 243 53 [l0, l1, l2, l3, l4, l5] [(0, 0), v0] S h n) ∧
  (∀ (d : Nat) (v a : Int) (l0 l1 l2 l3 l4 l5 : Option mx_V) (S h : mx_H) (n : Int), mx_ex d 243 53 [l0, l1, l2, l3, l4, l5] [(0, v), (2, a)] S h n = mx_gd (13 ≤ S a (-2) ∧ S a (-2) ≤ 13 ∧ 0 ≤ v ∧ v ≤ 1) d 243 56 [l0, l1, l2, l3, l4, l5] [] S (mx_u h a 24 v) n) ∧
  (∀ (d : Nat) (x : Int) (l1 l2 l3 l4 l5 : Option mx_V) (S h : mx_H) (n : Int), mx_ex d 243 56 [some (2, x), l1, l2, l3, l4, l5] [] S h n = mx_ex d 243 57 [some (2, x), l1, l2, l3, l4, l5] [(2, x)] S h n) ∧
  (∀ (d : Nat) (a : Int) (l0 l1 l2 l3 l4 l5 : Option mx_V) (S h : mx_H) (n : Int), mx_ex (d + 1) 243 57 [l0, l1, l2, l3, l4, l5] [(2, a)] S h n = mx_cl (S a (-2) = 13) d 238 [(2, a)] 243 60 [l0, l1, l2, l3, l4, l5] [] S h n) ∧
  (∀ (d : Nat) (x : Int) (l0 l1 l2 l3 l4 l5 : Option mx_V) (S h : mx_H) (n : Int), mx_ex d 243 60 [l0, l1, l2, l3, l4, l5] [(0, x)] S h n = mx_ex d 243 62 [l0, l1, l2, mx_nl l3, some (0, x), l5] [] S h n) ∧
  (∀ (d : Nat) (x : Int) (l0 l1 l3 l4 l5 : Option mx_V) (S h : mx_H) (n : Int), mx_ex d 243 62 [l0, l1, some (0, x), l3, l4, l5] [] S h n = mx_ex d 243 63 [l0, l1, some (0, x), l3, l4, l5] [(0, x)] S h n) ∧
  (∀ (d : Nat) (a : Int) (l0 l1 l2 l3 l4 l5 : Option mx_V) (S h : mx_H) (n : Int), mx_ex d 243 63 [l0, l1, l2, l3, l4, l5] [(0, a)] S h n = mx_br (a = 0) d 243 66 76 [l0, l1, l2, l3, l4, l5] [] S h n) ∧
  (∀ (d : Nat) (x : Int) (l1 l2 l3 l4 l5 : Option mx_V) (S h : mx_H) (n : Int), mx_ex d 243 66 [some (2, x), l1, l2, l3, l4, l5] [] S h n = mx_ex d 243 67 [some (2, x), l1, l2, l3, l4, l5] [(2, x)] S h n) ∧
  (∀ (d : Nat) (x : Int) (l0 l1 l2 l3 l5 : Option mx_V) (v0 : mx_V) (S h : mx_H) (n : Int), mx_ex d 243 67 [l0, l1, l2, l3, some (0, x), l5] [v0] S h n = mx_ex d 243 69 [l0, l1, l2, l3, some (0, x), l5] [(0, x), v0] S h n) ∧
  (∀ (d : Nat) (x : Int) (l0 l1 l2 l4 l5 : Option mx_V) (v0 v1 : mx_V) (S h : mx_H) (n : Int), mx_ex d 243 69 [l0, l1, l2, some (0, x), l4, l5] [v0, v1] S h n = mx_ex d 243 70 [l0, l1, l2, some (0, x), l4, l5] [(0, x), v0, v1] S h n) ∧
  (∀ (d : Nat) (x0 x1 a : Int) (l0 l1 l2 l3 l4 l5 : Option mx_V) (S h : mx_H) (n : Int), mx_ex (d + 1) 243 70 [l0, l1, l2, l3, l4, l5] [(0, x0), (0, x1), (2, a)] S h n = mx_cl (S a (-2) = 13) d 239 [(2, a), (0, x1), (0, x0)] 243 73 [l0, l1, l2, l3, l4, l5] [] S h n) ∧
  (∀ (d : Nat) (l0 l1 l2 l3 l4 l5 : Option mx_V) (v0 : mx_V) (S h : mx_H) (n : Int), mx_ex d 243 73 [l0, l1, l2, l3, l4, l5] [v0] S h n = mx_ex d 243 113 [l0, l1, l2, l3, l4, l5] [v0] S h n) ∧
  (∀ (d : Nat) (x : Int) (l0 l1 l3 l4 l5 : Option mx_V) (S h : mx_H) (n : Int), mx_ex d 243 76 [l0, l1, some (0, x), l3, l4, l5] [] S h n = mx_ex d 243 77 [l0, l1, some (0, x), l3, l4, l5] [(0, x)] S h n) ∧
  (∀ (d : Nat) (l0 l1 l2 l3 l4 l5 : Option mx_V) (v0 : mx_V) (S h : mx_H) (n : Int), mx_ex d 243 77 [l0, l1, l2, l3, l4, l5] [v0] S h n = mx_ex d 243 78 [l0, l1, l2, l3, l4, l5] [(0, 1), v0] S h n) ∧
  (∀ (d : Nat) (b a : Int) (l0 l1 l2 l3 l4 l5 : Option mx_V) (S h : mx_H) (n : Int), mx_ex d 243 78 [l0, l1, l2, l3, l4, l5] [(0, b), (0, a)] S h n = mx_br (a = b) d 243 81 91 [l0, l1, l2, l3, l4, l5] [] S h n) ∧
  (∀ (d : Nat) (x : Int) (l1 l2 l3 l4 l5 : Option mx_V) (S h : mx_H) (n : Int), mx_ex d 243 81 [some (2, x), l1, l2, l3, l4, l5] [] S h n = mx_ex d 243 82 [some (2, x), l1, l2, l3, l4, l5] [(2, x)] S h n) ∧
  (∀ (d : Nat) (x : Int) (l0 l1 l2 l3 l5 : Option mx_V) (v0 : mx_V) (S h : mx_H) (n : Int), mx_ex d 243 82 [l0, l1, l2, l3, some (0, x), l5] [v0] S h n = mx_ex d 243 84 [l0, l1, l2, l3, some (0, x), l5] [(0, x), v0] S h n) ∧
  (∀ (d : Nat) (x : Int) (l0 l1 l2 l4 l5 : Option mx_V) (v0 v1 : mx_V) (S h : mx_H) (n : Int), mx_ex d 243 84 [l0, l1, l2, some (0, x), l4, l5] [v0, v1] S h n = mx_ex d 243 85 [l0, l1, l2, some (0, x), l4, l5] [(0, x), v0, v1] S h n) ∧
  (∀ (d : Nat) (x0 x1 a : Int) (l0 l1 l2 l3 l4 l5 : Option mx_V) (S h : mx_H) (n : Int), mx_ex (d + 1) 243 85 [l0, l1, l2, l3, l4, l5] [(0, x0), (0, x1), (2, a)] S h n = mx_cl (S a (-2) = 13) d 240 [(2, a), (0, x1), (0, x0)] 243 88 [l0, l1, l2, l3, l4, l5] [] S h n) ∧
  (∀ (d : Nat) (l0 l1 l2 l3 l4 l5 : Option mx_V) (v0 : mx_V) (S h : mx_H) (n : Int), mx_ex d 243 88 [l0, l1, l2, l3, l4, l5] [v0] S h n = mx_ex d 243 113 [l0, l1, l2, l3, l4, l5] [v0] S h n) ∧
  (∀ (d : Nat) (x : Int) (l0 l1 l3 l4 l5 : Option mx_V) (S h : mx_H) (n : Int), mx_ex d 243 91 [l0, l1, some (0, x), l3, l4, l5] [] S h n = mx_ex d 243 92 [l0, l1, some (0, x), l3, l4, l5] [(0, x)] S h n) ∧
  (∀ (d : Nat) (l0 l1 l2 l3 l4 l5 : Option mx_V) (v0 : mx_V) (S h : mx_H) (n : Int), mx_ex d 243 92 [l0, l1, l2, l3, l4, l5] [v0] S h n = mx_ex d 243 93 [l0, l1, l2, l3, l4, l5] [(0, 2), v0] S h n) ∧
  (∀ (d : Nat) (b a : Int) (l0 l1 l2 l3 l4 l5 : Option mx_V) (S h : mx_H) (n : Int), mx_ex d 243 93 [l0, l1, l2, l3, l4, l5] [(0, b), (0, a)] S h n = mx_br (a = b) d 243 96 106 [l0, l1, l2, l3, l4, l5] [] S h n) ∧
  (∀ (d : Nat) (x : Int) (l1 l2 l3 l4 l5 : Option mx_V) (S h : mx_H) (n : Int), mx_ex d 243 96 [some (2, x), l1, l2, l3, l4, l5] [] S h n = mx_ex d 243 97 [some (2, x), l1, l2, l3, l4, l5] [(2, x)] S h n) ∧
  (∀ (d : Nat) (x : Int) (l0 l1 l2 l3 l5 : Option mx_V) (v0 : mx_V) (S h : mx_H) (n : Int), mx_ex d 243 97 [l0, l1, l2, l3, some (0, x), l5] [v0] S h n = mx_ex d 243 99 [l0, l1, l2, l3, some (0, x), l5] [(0, x), v0] S h n) ∧
  (∀ (d : Nat) (x : Int) (l0 l1 l2 l4 l5 : Option mx_V) (v0 v1 : mx_V) (S h : mx_H) (n : Int), mx_ex d 243 99 [l0, l1, l2, some (0, x), l4, l5] [v0, v1] S h n = mx_ex d 243 100 [l0, l1, l2, some (0, x), l4, l5] [(0, x), v0, v1] S h n) ∧
  (∀ (d : Nat) (x0 x1 a : Int) (l0 l1 l2 l3 l4 l5 : Option mx_V) (S h : mx_H) (n : Int), mx_ex (d + 1) 243 100 [l0, l1, l2, l3, l4, l5] [(0, x0), (0, x1), (2, a)] S h n = mx_cl (S a (-2) = 13) d 241 [(2, a), (0, x1), (0, x0)] 243 103 [l0, l1, l2, l3, l4, l5] [] S h n) ∧
  (∀ (d : Nat) (l0 l1 l2 l3 l4 l5 : Option mx_V) (v0 : mx_V) (S h : mx_H) (n : Int), mx_ex d 243 103 [l0, l1, l2, l3, l4, l5] [v0] S h n = mx_ex d 243 113 [l0, l1, l2, l3, l4, l5] [v0] S h n) ∧
  (∀ (d : Nat) (x : Int) (l1 l2 l3 l4 l5 : Option mx_V) (S h : mx_H) (n : Int), mx_ex d 243 106 [some (2, x), l1, l2, l3, l4, l5] [] S h n = mx_ex d 243 107 [some (2, x), l1, l2, l3, l4, l5] [(2, x)] S h n) ∧
  (∀ (d : Nat) (x : Int) (l0 l1 l2 l3 l5 : Option mx_V) (v0 : mx_V) (S h : mx_H) (n : Int), mx_ex d 243 107 [l0, l1, l2, l3, some (0, x), l5] [v0] S h n = mx_ex d 243 109 [l0, l1, l2, l3, some (0, x), l5] [(0, x), v0] S h n) ∧
  (∀ (d : Nat) (x : Int) (l0 l1 l2 l4 l5 : Option mx_V) (v0 v1 : mx_V) (S h : mx_H) (n : Int), mx_ex d 243 109 [l0, l1, l2, some (0, x), l4, l5] [v0, v1] S h n = mx_ex d 243 110 [l0, l1, l2, some (0, x), l4, l5] [(0, x), v0, v1] S h n) ∧
  (∀ (d : Nat) (x0 x1 a : Int) (l0 l1 l2 l3 l4 l5 : Option mx_V) (S h : mx_H) (n : Int), mx_ex (d + 1) 243 110 [l0, l1, l2, l3, l4, l5] [(0, x0), (0, x1), (2, a)] S h n = mx_cl (S a (-2) = 13) d 242 [(2, a), (0, x1), (0, x0)] 243 113 [l0, l1, l2, l3, l4, l5] [] S h n) ∧
  (∀ (d : Nat) (x : Int) (l0 l1 l2 l3 l4 l5 : Option mx_V) (S h : mx_H) (n : Int), mx_ex d 243 113 [l0, l1, l2, l3, l4, l5] [(0, x)] S h n = mx_ex d 243 115 [l0, l1, l2, l3, mx_nl l4, some (0, x)] [] S h n) ∧
  (∀ (d : Nat) (x : Int) (l1 l2 l3 l4 l5 : Option mx_V) (S h : mx_H) (n : Int), mx_ex d 243 115 [some (2, x), l1, l2, l3, l4, l5] [] S h n = mx_ex d 243 116 [some (2, x), l1, l2, l3, l4, l5] [(2, x)] S h n) ∧
  (∀ (d : Nat) (a : Int) (l0 l1 l2 l3 l4 l5 : Option mx_V) (S h : mx_H) (n : Int), mx_ex d 243 116 [l0, l1, l2, l3, l4, l5] [(2, a)] S h n = mx_gd (13 ≤ S a (-2) ∧ S a (-2) ≤ 13) d 243 119 [l0, l1, l2, l3, l4, l5] [(0, h a 24)] S h n) ∧
  (∀ (d : Nat) (a : Int) (l0 l1 l2 l3 l4 l5 : Option mx_V) (S h : mx_H) (n : Int), mx_ex d 243 119 [l0, l1, l2, l3, l4, l5] [(0, a)] S h n = mx_br (a = 0) d 243 127 122 [l0, l1, l2, l3, l4, l5] [] S h n) ∧
  (∀ (d : Nat) (l0 l1 l2 l3 l4 l5 : Option mx_V) (S h : mx_H) (n : Int), mx_ex d 243 122 [l0, l1, l2, l3, l4, l5] [] S h n = mx_ex d 243 124 [l0, l1, l2, l3, l4, l5] [(0, (-15))] S h n) ∧
  (∀ (d : Nat) (l0 l1 l2 l3 l4 l5 : Option mx_V) (v0 : mx_V) (S h : mx_H) (n : Int), mx_ex d 243 124 [l0, l1, l2, l3, l4, l5] [v0] S h n = mx_ex d 243 129 [l0, l1, l2, l3, l4, l5] [v0] S h n) ∧
  (∀ (d : Nat) (x : Int) (l0 l1 l2 l3 l4 : Option mx_V) (S h : mx_H) (n : Int), mx_ex d 243 127 [l0, l1, l2, l3, l4, some (0, x)] [] S h n = mx_ex d 243 129 [l0, l1, l2, l3, l4, some (0, x)] [(0, x)] S h n) :=
  ⟨by intros; exact rfl,
   by intros; exact eq_ld rfl rfl,
   by intros; exact eq_push rfl,
   by intros; exact eq_pi rfl,
   by intros; exact eq_ld rfl rfl,
   by intros; exact eq_cs rfl (Nat.le_of_ble_eq_true rfl) rfl rfl rfl (Nat.le_of_ble_eq_true rfl),
   by intros; exact eq_if0 rfl,
   by intros; exact eq_ld rfl rfl,
   by intros; exact eq_push rfl,
   by intros; exact eq_push rfl,
   by intros; exact eq_cs rfl (Nat.le_of_ble_eq_true rfl) rfl rfl rfl (Nat.le_of_ble_eq_true rfl),
   by intros; exact eq_if0 rfl,
   by intros; exact eq_ld rfl rfl,
   by intros; exact eq_ld rfl rfl,
   by intros; exact eq_cv rfl (Nat.le_of_ble_eq_true rfl) rfl rfl rfl (Nat.le_of_ble_eq_true rfl),
   by intros; exact eq_if1 rfl,
   by intros; exact eq_ld rfl rfl,
   by intros; exact eq_gr rfl,
   by intros; exact eq_ld rfl rfl,
   by intros; exact eq_iald rfl,
   by intros; exact eq_push rfl,
   by intros; exact eq_ic0 rfl,
   by intros; exact eq_push rfl,
   by intros; exact eq_ret rfl,
   by intros; exact eq_ld rfl rfl,
   by intros; exact eq_ld rfl rfl,
   by intros; exact eq_gr rfl,
   by intros; exact eq_ld rfl rfl,
   by intros; exact eq_iald rfl,
   by intros; exact eq_pi rfl,
   by intros; exact eq_ld rfl rfl,
   by intros; exact eq_push rfl,
   by intros; exact eq_pz rfl,
   by intros; exact eq_ld rfl rfl,
   by intros; exact eq_cv rfl (Nat.le_of_ble_eq_true rfl) rfl rfl rfl (Nat.le_of_ble_eq_true rfl),
   by intros; exact eq_st rfl (by decide) (Nat.le_of_ble_eq_true rfl) rfl,
   by intros; exact eq_ld rfl rfl,
   by intros; exact eq_if1 rfl,
   by intros; exact eq_ld rfl rfl,
   by intros; exact eq_ld rfl rfl,
   by intros; exact eq_ld rfl rfl,
   by intros; exact eq_cv rfl (Nat.le_of_ble_eq_true rfl) rfl rfl rfl (Nat.le_of_ble_eq_true rfl),
   by intros; exact eq_go rfl,
   by intros; exact eq_ld rfl rfl,
   by intros; exact eq_push rfl,
   by intros; exact eq_ic1 rfl,
   by intros; exact eq_ld rfl rfl,
   by intros; exact eq_ld rfl rfl,
   by intros; exact eq_ld rfl rfl,
   by intros; exact eq_cv rfl (Nat.le_of_ble_eq_true rfl) rfl rfl rfl (Nat.le_of_ble_eq_true rfl),
   by intros; exact eq_go rfl,
   by intros; exact eq_ld rfl rfl,
   by intros; exact eq_push rfl,
   by intros; exact eq_ic1 rfl,
   by intros; exact eq_ld rfl rfl,
   by intros; exact eq_ld rfl rfl,
   by intros; exact eq_ld rfl rfl,
   by intros; exact eq_cv rfl (Nat.le_of_ble_eq_true rfl) rfl rfl rfl (Nat.le_of_ble_eq_true rfl),
   by intros; exact eq_go rfl,
   by intros; exact eq_ld rfl rfl,
   by intros; exact eq_ld rfl rfl,
   by intros; exact eq_ld rfl rfl,
   by intros; exact eq_cv rfl (Nat.le_of_ble_eq_true rfl) rfl rfl rfl (Nat.le_of_ble_eq_true rfl),
   by intros; exact eq_st rfl (by decide) (Nat.le_of_ble_eq_true rfl) rfl,
   by intros; exact eq_ld rfl rfl,
   by intros; exact eq_gi rfl,
   by intros; exact eq_if0 rfl,
   by intros; exact eq_push rfl,
   by intros; exact eq_go rfl,
   by intros; exact eq_ld rfl rfl⟩
theorem rw_X12_act_1 :
  (∀ (d : Nat) (x : Int) (l0 l1 l2 l3 l4 l5 : Option mx_V) (S h : mx_H) (n : Int), mx_ex d 243 129 [l0, l1, l2, l3, l4, l5] [(0, x)] S h n = some (some (0, x), S, h, n)) :=
  by intros; exact eq_ret rfl
theorem rw_X12_trace :
  (∀ (d : Nat) (a0 a1 : Int) (S h : mx_H) (n : Int), mx_M d 244 [(2, a0), (0, a1)] S h n = mx_ex d 244 0 [some (2, a0), some (0, a1)] [] S h n) ∧
  (∀ (d : Nat) (x : Int) (l0 : Option mx_V) (S h : mx_H) (n : Int), mx_ex d 244 0 [l0, some (0, x)] [] S h n = mx_ex d 244 1 [l0, some (0, x)] [(0, x)] S h n) ∧
  (∀ (d : Nat) (l0 l1 : Option mx_V) (v0 : mx_V) (S h : mx_H) (n : Int), mx_ex d 244 1 [l0, l1] [v0] S h n = mx_ex d 244 2 [l0, l1] [(0, 0), v0] S h n) ∧
  (∀ (d : Nat) (x : Int) (l1 : Option mx_V) (v0 v1 : mx_V) (S h : mx_H) (n : Int), mx_ex d 244 2 [some (2, x), l1] [v0, v1] S h n = mx_ex d 244 3 [some (2, x), l1] [(2, x), v0, v1] S h n) ∧
  (∀ (d : Nat) (a : Int) (l0 l1 : Option mx_V) (v1 v2 : mx_V) (S h : mx_H) (n : Int), mx_ex d 244 3 [l0, l1] [(2, a), v1, v2] S h n = mx_gd (13 ≤ S a (-2) ∧ S a (-2) ≤ 13) d 244 6 [l0, l1] [(0, h a 22), v1, v2] S h n) ∧
  (∀ (d : Nat) (l0 l1 : Option mx_V) (v0 v1 v2 : mx_V) (S h : mx_H) (n : Int), mx_ex d 244 6 [l0, l1] [v0, v1, v2] S h n = mx_ex d 244 7 [l0, l1] [(0, 1), v0, v1, v2] S h n) ∧
  (∀ (d : Nat) (b a : Int) (l0 l1 : Option mx_V) (v2 v3 : mx_V) (S h : mx_H) (n : Int), mx_ex d 244 7 [l0, l1] [(0, b), (0, a), v2, v3] S h n = mx_ex d 244 8 [l0, l1] [(0, mx_w (a - b)), v2, v3] S h n) ∧
  (∀ (d : Nat) (x0 x1 x2 : Int) (l0 l1 : Option mx_V) (S h : mx_H) (n : Int), mx_ex (d + 1) 244 8 [l0, l1] [(0, x0), (0, x1), (0, x2)] S h n = mx_rt (mx_M d 157 [(0, x2), (0, x1), (0, x0)] S h n) (d + 1) 244 11 [l0, l1] []) ∧
  (∀ (d : Nat) (a : Int) (l0 l1 : Option mx_V) (S h : mx_H) (n : Int), mx_ex d 244 11 [l0, l1] [(0, a)] S h n = mx_br (a = 0) d 244 23 14 [l0, l1] [] S h n) ∧
  (∀ (d : Nat) (x : Int) (l1 : Option mx_V) (S h : mx_H) (n : Int), mx_ex d 244 14 [some (2, x), l1] [] S h n = mx_ex d 244 15 [some (2, x), l1] [(2, x)] S h n) ∧
  (∀ (d : Nat) (a : Int) (l0 l1 : Option mx_V) (S h : mx_H) (n : Int), mx_ex d 244 15 [l0, l1] [(2, a)] S h n = mx_gd (13 ≤ S a (-2) ∧ S a (-2) ≤ 13) d 244 18 [l0, l1] [(2, S a 21)] S h n) ∧
  (∀ (d : Nat) (x : Int) (l0 : Option mx_V) (v0 : mx_V) (S h : mx_H) (n : Int), mx_ex d 244 18 [l0, some (0, x)] [v0] S h n = mx_ex d 244 19 [l0, some (0, x)] [(0, x), v0] S h n) ∧
  (∀ (d : Nat) (i a : Int) (l0 l1 : Option mx_V) (S h : mx_H) (n : Int), mx_ex d 244 19 [l0, l1] [(0, i), (2, a)] S h n = mx_gd ((S a (-2) = 20 ∨ S a (-2) = 24) ∧ 0 ≤ i ∧ i < S a (-1)) d 244 20 [l0, l1] [(0, h a i)] S h n) ∧
  (∀ (d : Nat) (l0 l1 : Option mx_V) (v0 : mx_V) (S h : mx_H) (n : Int), mx_ex d 244 20 [l0, l1] [v0] S h n = mx_ex d 244 25 [l0, l1] [v0] S h n) ∧
  (∀ (d : Nat) (l0 l1 : Option mx_V) (S h : mx_H) (n : Int), mx_ex d 244 23 [l0, l1] [] S h n = mx_ex d 244 25 [l0, l1] [(0, (-3))] S h n) ∧
  (∀ (d : Nat) (x : Int) (l0 l1 : Option mx_V) (S h : mx_H) (n : Int), mx_ex d 244 25 [l0, l1] [(0, x)] S h n = some (some (0, x), S, h, n)) :=
  ⟨by intros; exact rfl,
   by intros; exact eq_ld rfl rfl,
   by intros; exact eq_push rfl,
   by intros; exact eq_ld rfl rfl,
   by intros; exact eq_gi rfl,
   by intros; exact eq_push rfl,
   by intros; exact eq_i2 (o := mx_sub) rfl,
   by intros; exact eq_cs rfl (Nat.le_of_ble_eq_true rfl) rfl rfl rfl (Nat.le_of_ble_eq_true rfl),
   by intros; exact eq_if0 rfl,
   by intros; exact eq_ld rfl rfl,
   by intros; exact eq_gr rfl,
   by intros; exact eq_ld rfl rfl,
   by intros; exact eq_iald rfl,
   by intros; exact eq_go rfl,
   by intros; exact eq_push rfl,
   by intros; exact eq_ret rfl⟩
theorem rw_X12_many_ :
  (∀ (d : Nat) (a0 a1 : Int) (S h : mx_H) (n : Int), mx_M d 245 [(2, a0), (0, a1)] S h n = mx_ex d 245 0 [some (2, a0), some (0, a1)] [] S h n) ∧
  (∀ (d : Nat) (x : Int) (l0 : Option mx_V) (S h : mx_H) (n : Int), mx_ex d 245 0 [l0, some (0, x)] [] S h n = mx_ex d 245 1 [l0, some (0, x)] [(0, x)] S h n) ∧
  (∀ (d : Nat) (a : Int) (l0 l1 : Option mx_V) (S h : mx_H) (n : Int), mx_ex d 245 1 [l0, l1] [(0, a)] S h n = mx_sw a [(0, 36), (1, 43), (2, 50), (3, 55), (4, 60)] d 245 65 [l0, l1] [] S h n) ∧
  (∀ (d : Nat) (x : Int) (l1 : Option mx_V) (S h : mx_H) (n : Int), mx_ex d 245 36 [some (2, x), l1] [] S h n = mx_ex d 245 37 [some (2, x), l1] [(2, x)] S h n) ∧
  (∀ (d : Nat) (a : Int) (l0 l1 : Option mx_V) (S h : mx_H) (n : Int), mx_ex d 245 37 [l0, l1] [(2, a)] S h n = mx_gd (13 ≤ S a (-2) ∧ S a (-2) ≤ 13) d 245 40 [l0, l1] [(2, S a 0)] S h n) ∧
  (∀ (d : Nat) (l0 l1 : Option mx_V) (v0 : mx_V) (S h : mx_H) (n : Int), mx_ex d 245 40 [l0, l1] [v0] S h n = mx_ex d 245 41 [l0, l1] [(0, 0), v0] S h n) ∧
  (∀ (d : Nat) (i a : Int) (l0 l1 : Option mx_V) (S h : mx_H) (n : Int), mx_ex d 245 41 [l0, l1] [(0, i), (2, a)] S h n = mx_gd ((S a (-2) = 20 ∨ S a (-2) = 24) ∧ 0 ≤ i ∧ i < S a (-1)) d 245 42 [l0, l1] [(0, h a i)] S h n) ∧
  (∀ (d : Nat) (x : Int) (l0 l1 : Option mx_V) (S h : mx_H) (n : Int), mx_ex d 245 42 [l0, l1] [(0, x)] S h n = some (some (0, x), S, h, n)) ∧
  (∀ (d : Nat) (x : Int) (l1 : Option mx_V) (S h : mx_H) (n : Int), mx_ex d 245 43 [some (2, x), l1] [] S h n = mx_ex d 245 44 [some (2, x), l1] [(2, x)] S h n) ∧
  (∀ (d : Nat) (a : Int) (l0 l1 : Option mx_V) (S h : mx_H) (n : Int), mx_ex d 245 44 [l0, l1] [(2, a)] S h n = mx_gd (13 ≤ S a (-2) ∧ S a (-2) ≤ 13) d 245 47 [l0, l1] [(2, S a 0)] S h n) ∧
  (∀ (d : Nat) (l0 l1 : Option mx_V) (v0 : mx_V) (S h : mx_H) (n : Int), mx_ex d 245 47 [l0, l1] [v0] S h n = mx_ex d 245 48 [l0, l1] [(0, 1), v0] S h n) ∧
  (∀ (d : Nat) (i a : Int) (l0 l1 : Option mx_V) (S h : mx_H) (n : Int), mx_ex d 245 48 [l0, l1] [(0, i), (2, a)] S h n = mx_gd ((S a (-2) = 20 ∨ S a (-2) = 24) ∧ 0 ≤ i ∧ i < S a (-1)) d 245 49 [l0, l1] [(0, h a i)] S h n) ∧
  (∀ (d : Nat) (x : Int) (l0 l1 : Option mx_V) (S h : mx_H) (n : Int), mx_ex d 245 49 [l0, l1] [(0, x)] S h n = some (some (0, x), S, h, n)) ∧
  (∀ (d : Nat) (x : Int) (l1 : Option mx_V) (S h : mx_H) (n : Int), mx_ex d 245 50 [some (2, x), l1] [] S h n = mx_ex d 245 51 [some (2, x), l1] [(2, x)] S h n) ∧
  (∀ (d : Nat) (a : Int) (l0 l1 : Option mx_V) (S h : mx_H) (n : Int), mx_ex d 245 51 [l0, l1] [(2, a)] S h n = mx_gd (13 ≤ S a (-2) ∧ S a (-2) ≤ 13) d 245 54 [l0, l1] [(0, h a 15)] S h n) ∧
  (∀ (d : Nat) (x : Int) (l0 l1 : Option mx_V) (S h : mx_H) (n : Int), mx_ex d 245 54 [l0, l1] [(0, x)] S h n = some (some (0, x), S, h, n)) ∧
  (∀ (d : Nat) (x : Int) (l1 : Option mx_V) (S h : mx_H) (n : Int), mx_ex d 245 55 [some (2, x), l1] [] S h n = mx_ex d 245 56 [some (2, x), l1] [(2, x)] S h n) ∧
  (∀ (d : Nat) (a : Int) (l0 l1 : Option mx_V) (S h : mx_H) (n : Int), mx_ex d 245 56 [l0, l1] [(2, a)] S h n = mx_gd (13 ≤ S a (-2) ∧ S a (-2) ≤ 13) d 245 59 [l0, l1] [(0, h a 5)] S h n) ∧
  (∀ (d : Nat) (x : Int) (l0 l1 : Option mx_V) (S h : mx_H) (n : Int), mx_ex d 245 59 [l0, l1] [(0, x)] S h n = some (some (0, x), S, h, n)) ∧
  (∀ (d : Nat) (x : Int) (l1 : Option mx_V) (S h : mx_H) (n : Int), mx_ex d 245 60 [some (2, x), l1] [] S h n = mx_ex d 245 61 [some (2, x), l1] [(2, x)] S h n) ∧
  (∀ (d : Nat) (a : Int) (l0 l1 : Option mx_V) (S h : mx_H) (n : Int), mx_ex d 245 61 [l0, l1] [(2, a)] S h n = mx_gd (13 ≤ S a (-2) ∧ S a (-2) ≤ 13) d 245 64 [l0, l1] [(0, h a 22)] S h n) ∧
  (∀ (d : Nat) (x : Int) (l0 l1 : Option mx_V) (S h : mx_H) (n : Int), mx_ex d 245 64 [l0, l1] [(0, x)] S h n = some (some (0, x), S, h, n)) ∧
  (∀ (d : Nat) (l0 l1 : Option mx_V) (S h : mx_H) (n : Int), mx_ex d 245 65 [l0, l1] [] S h n = mx_ex d 245 66 [l0, l1] [(0, (-1))] S h n) ∧
  (∀ (d : Nat) (x : Int) (l0 l1 : Option mx_V) (S h : mx_H) (n : Int), mx_ex d 245 66 [l0, l1] [(0, x)] S h n = some (some (0, x), S, h, n)) :=
  ⟨by intros; exact rfl,
   by intros; exact eq_ld rfl rfl,
   by intros; exact eq_sw rfl,
   by intros; exact eq_ld rfl rfl,
   by intros; exact eq_gr rfl,
   by intros; exact eq_push rfl,
   by intros; exact eq_iald rfl,
   by intros; exact eq_ret rfl,
   by intros; exact eq_ld rfl rfl,
   by intros; exact eq_gr rfl,
   by intros; exact eq_push rfl,
   by intros; exact eq_iald rfl,
   by intros; exact eq_ret rfl,
   by intros; exact eq_ld rfl rfl,
   by intros; exact eq_gi rfl,
   by intros; exact eq_ret rfl,
   by intros; exact eq_ld rfl rfl,
   by intros; exact eq_gi rfl,
   by intros; exact eq_ret rfl,
   by intros; exact eq_ld rfl rfl,
   by intros; exact eq_gi rfl,
   by intros; exact eq_ret rfl,
   by intros; exact eq_push rfl,
   by intros; exact eq_ret rfl⟩
theorem rw_X12_keep :
  (∀ (d : Nat) (a0 : Int) (S h : mx_H) (n : Int), mx_M d 246 [(2, a0)] S h n = mx_ex d 246 0 [some (2, a0)] [] S h n) ∧
  (∀ (d : Nat) (x : Int) (S h : mx_H) (n : Int), mx_ex d 246 0 [some (2, x)] [] S h n = mx_ex d 246 1 [some (2, x)] [(2, x)] S h n) ∧
  (∀ (d : Nat) (a : Int) (l0 : Option mx_V) (S h : mx_H) (n : Int), mx_ex d 246 1 [l0] [(2, a)] S h n = mx_gd (13 ≤ S a (-2) ∧ S a (-2) ≤ 13) d 246 4 [l0] [(2, S a 0)] S h n) ∧
  (∀ (d : Nat) (x : Int) (v0 : mx_V) (S h : mx_H) (n : Int), mx_ex d 246 4 [some (2, x)] [v0] S h n = mx_ex d 246 5 [some (2, x)] [(2, x), v0] S h n) ∧
  (∀ (d : Nat) (a : Int) (l0 : Option mx_V) (v1 : mx_V) (S h : mx_H) (n : Int), mx_ex d 246 5 [l0] [(2, a), v1] S h n = mx_gd (13 ≤ S a (-2) ∧ S a (-2) ≤ 13) d 246 8 [l0] [(2, S a 1), v1] S h n) ∧
  (∀ (d : Nat) (x0 x1 : Int) (l0 : Option mx_V) (S h : mx_H) (n : Int), mx_ex (d + 1) 246 8 [l0] [(2, x0), (2, x1)] S h n = mx_rt (mx_M d 155 [(2, x1), (2, x0)] S h n) (d + 1) 246 11 [l0] []) ∧
  (∀ (d : Nat) (x : Int) (S h : mx_H) (n : Int), mx_ex d 246 11 [some (2, x)] [] S h n = mx_ex d 246 12 [some (2, x)] [(2, x)] S h n) ∧
  (∀ (d : Nat) (l0 : Option mx_V) (v0 : mx_V) (S h : mx_H) (n : Int), mx_ex d 246 12 [l0] [v0] S h n = mx_ex d 246 13 [l0] [(0, 1), v0] S h n) ∧
  (∀ (d : Nat) (v a : Int) (l0 : Option mx_V) (S h : mx_H) (n : Int), mx_ex d 246 13 [l0] [(0, v), (2, a)] S h n = mx_gd (13 ≤ S a (-2) ∧ S a (-2) ≤ 13 ∧ 0 ≤ v ∧ v ≤ 1) d 246 16 [l0] [] S (mx_u h a 3 v) n) ∧
  (∀ (d : Nat) (l0 : Option mx_V) (S h : mx_H) (n : Int), mx_ex d 246 16 [l0] [] S h n = mx_ex d 246 17 [l0] [(0, 1)] S h n) ∧
  (∀ (d : Nat) (x : Int) (l0 : Option mx_V) (S h : mx_H) (n : Int), mx_ex d 246 17 [l0] [(0, x)] S h n = some (some (0, x), S, h, n)) :=
  ⟨by intros; exact rfl,
   by intros; exact eq_ld rfl rfl,
   by intros; exact eq_gr rfl,
   by intros; exact eq_ld rfl rfl,
   by intros; exact eq_gr rfl,
   by intros; exact eq_cs rfl (Nat.le_of_ble_eq_true rfl) rfl rfl rfl (Nat.le_of_ble_eq_true rfl),
   by intros; exact eq_ld rfl rfl,
   by intros; exact eq_push rfl,
   by intros; exact eq_pz rfl,
   by intros; exact eq_push rfl,
   by intros; exact eq_ret rfl⟩
theorem rw_X12_again :
  (∀ (d : Nat) (a0 : Int) (S h : mx_H) (n : Int), mx_M d 247 [(2, a0)] S h n = mx_ex d 247 0 [some (2, a0)] [] S h n) ∧
  (∀ (d : Nat) (x : Int) (S h : mx_H) (n : Int), mx_ex d 247 0 [some (2, x)] [] S h n = mx_ex d 247 1 [some (2, x)] [(2, x)] S h n) ∧
  (∀ (d : Nat) (a : Int) (l0 : Option mx_V) (S h : mx_H) (n : Int), mx_ex d 247 1 [l0] [(2, a)] S h n = mx_gd (13 ≤ S a (-2) ∧ S a (-2) ≤ 13) d 247 4 [l0] [(0, h a 3)] S h n) ∧
  (∀ (d : Nat) (a : Int) (l0 : Option mx_V) (S h : mx_H) (n : Int), mx_ex d 247 4 [l0] [(0, a)] S h n = mx_br (a = 0) d 247 7 10 [l0] [] S h n) ∧
  (∀ (d : Nat) (l0 : Option mx_V) (S h : mx_H) (n : Int), mx_ex d 247 7 [l0] [] S h n = mx_ex d 247 9 [l0] [(0, (-3))] S h n) ∧
  (∀ (d : Nat) (x : Int) (l0 : Option mx_V) (S h : mx_H) (n : Int), mx_ex d 247 9 [l0] [(0, x)] S h n = some (some (0, x), S, h, n)) ∧
  (∀ (d : Nat) (x : Int) (S h : mx_H) (n : Int), mx_ex d 247 10 [some (2, x)] [] S h n = mx_ex d 247 11 [some (2, x)] [(2, x)] S h n) ∧
  (∀ (d : Nat) (a : Int) (l0 : Option mx_V) (S h : mx_H) (n : Int), mx_ex d 247 11 [l0] [(2, a)] S h n = mx_gd (13 ≤ S a (-2) ∧ S a (-2) ≤ 13) d 247 14 [l0] [(2, S a 1)] S h n) ∧
  (∀ (d : Nat) (x : Int) (v0 : mx_V) (S h : mx_H) (n : Int), mx_ex d 247 14 [some (2, x)] [v0] S h n = mx_ex d 247 15 [some (2, x)] [(2, x), v0] S h n) ∧
  (∀ (d : Nat) (a : Int) (l0 : Option mx_V) (v1 : mx_V) (S h : mx_H) (n : Int), mx_ex d 247 15 [l0] [(2, a), v1] S h n = mx_gd (13 ≤ S a (-2) ∧ S a (-2) ≤ 13) d 247 18 [l0] [(2, S a 0), v1] S h n) ∧
  (∀ (d : Nat) (x0 x1 : Int) (l0 : Option mx_V) (S h : mx_H) (n : Int), mx_ex (d + 1) 247 18 [l0] [(2, x0), (2, x1)] S h n = mx_rt (mx_M d 155 [(2, x1), (2, x0)] S h n) (d + 1) 247 21 [l0] []) ∧
  (∀ (d : Nat) (x : Int) (S h : mx_H) (n : Int), mx_ex d 247 21 [some (2, x)] [] S h n = mx_ex d 247 22 [some (2, x)] [(2, x)] S h n) ∧
  (∀ (d : Nat) (a : Int) (l0 : Option mx_V) (S h : mx_H) (n : Int), mx_ex d 247 22 [l0] [(2, a)] S h n = mx_gd (13 ≤ S a (-2) ∧ S a (-2) ≤ 13) d 247 25 [l0] [(2, S a 0)] S h n) ∧
  (∀ (d : Nat) (l0 : Option mx_V) (v0 : mx_V) (S h : mx_H) (n : Int), mx_ex d 247 25 [l0] [v0] S h n = mx_ex d 247 26 [l0] [(0, 0), v0] S h n) ∧
  (∀ (d : Nat) (i a : Int) (l0 : Option mx_V) (S h : mx_H) (n : Int), mx_ex d 247 26 [l0] [(0, i), (2, a)] S h n = mx_gd ((S a (-2) = 20 ∨ S a (-2) = 24) ∧ 0 ≤ i ∧ i < S a (-1)) d 247 27 [l0] [(0, h a i)] S h n) ∧
  (∀ (d : Nat) (x : Int) (l0 : Option mx_V) (S h : mx_H) (n : Int), mx_ex d 247 27 [l0] [(0, x)] S h n = some (some (0, x), S, h, n)) :=
  ⟨by intros; exact rfl,
   by intros; exact eq_ld rfl rfl,
   by intros; exact eq_gi rfl,
   by intros; exact eq_if1 rfl,
   by intros; exact eq_push rfl,
   by intros; exact eq_ret rfl,
   by intros; exact eq_ld rfl rfl,
   by intros; exact eq_gr rfl,
   by intros; exact eq_ld rfl rfl,
   by intros; exact eq_gr rfl,
   by intros; exact eq_cs rfl (Nat.le_of_ble_eq_true rfl) rfl rfl rfl (Nat.le_of_ble_eq_true rfl),
   by intros; exact eq_ld rfl rfl,
   by intros; exact eq_gr rfl,
   by intros; exact eq_push rfl,
   by intros; exact eq_iald rfl,
   by intros; exact eq_ret rfl⟩
