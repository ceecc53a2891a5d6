/-! PRINTED (gen_rows.py): a row an instruction -/
theorem rw_X12_init :
  (∀ (d : Nat) (a0 : Int) (S h : mx_H) (n : Int), mx_M d 156 [(2, a0)] S h n = mx_ex d 156 0 [some (2, a0)] [] S h n) ∧
  (∀ (d : Nat) (x : Int) (S h : mx_H) (n : Int), mx_ex d 156 0 [some (2, x)] [] S h n = mx_ex d 156 1 [some (2, x)] [(2, x)] S h n) ∧
  (∀ (d : Nat) (a : Int) (l0 : Option mx_V) (S h : mx_H) (n : Int), mx_ex d 156 1 [l0] [(2, a)] S h n = mx_gd (0 ≤ a) d 156 4 [l0] [] S h n) ∧
  (∀ (d : Nat) (x : Int) (S h : mx_H) (n : Int), mx_ex d 156 4 [some (2, x)] [] S h n = mx_ex d 156 5 [some (2, x)] [(2, x)] S h n) ∧
  (∀ (d : Nat) (l0 : Option mx_V) (v0 : mx_V) (S h : mx_H) (n : Int), mx_ex d 156 5 [l0] [v0] S h n = mx_ex d 156 7 [l0] [(0, 93), v0] S h n) ∧
  (∀ (d : Nat) (x : Int) (l0 : Option mx_V) (v1 : mx_V) (S h : mx_H) (n : Int), mx_ex d 156 7 [l0] [(0, x), v1] S h n = mx_gd (0 ≤ x ∧ x ≤ 300) d 156 9 [l0] [(2, n), v1] (mx_t S n 20 x) (mx_z h n) (n + 1)) ∧
  (∀ (d : Nat) (v a : Int) (l0 : Option mx_V) (S h : mx_H) (n : Int), mx_ex d 156 9 [l0] [(2, v), (2, a)] S h n = mx_gd (13 ≤ S a (-2) ∧ S a (-2) ≤ 13) d 156 12 [l0] [] (mx_u S a 0 v) h n) ∧
  (∀ (d : Nat) (x : Int) (S h : mx_H) (n : Int), mx_ex d 156 12 [some (2, x)] [] S h n = mx_ex d 156 13 [some (2, x)] [(2, x)] S h n) ∧
  (∀ (d : Nat) (l0 : Option mx_V) (v0 : mx_V) (S h : mx_H) (n : Int), mx_ex d 156 13 [l0] [v0] S h n = mx_ex d 156 15 [l0] [(0, 93), v0] S h n) ∧
  (∀ (d : Nat) (x : Int) (l0 : Option mx_V) (v1 : mx_V) (S h : mx_H) (n : Int), mx_ex d 156 15 [l0] [(0, x), v1] S h n = mx_gd (0 ≤ x ∧ x ≤ 300) d 156 17 [l0] [(2, n), v1] (mx_t S n 20 x) (mx_z h n) (n + 1)) ∧
  (∀ (d : Nat) (v a : Int) (l0 : Option mx_V) (S h : mx_H) (n : Int), mx_ex d 156 17 [l0] [(2, v), (2, a)] S h n = mx_gd (13 ≤ S a (-2) ∧ S a (-2) ≤ 13) d 156 20 [l0] [] (mx_u S a 1 v) h n) ∧
  (∀ (d : Nat) (x : Int) (S h : mx_H) (n : Int), mx_ex d 156 20 [some (2, x)] [] S h n = mx_ex d 156 21 [some (2, x)] [(2, x)] S h n) ∧
  (∀ (d : Nat) (l0 : Option mx_V) (v0 : mx_V) (S h : mx_H) (n : Int), mx_ex d 156 21 [l0] [v0] S h n = mx_ex d 156 23 [l0] [(0, 93), v0] S h n) ∧
  (∀ (d : Nat) (x : Int) (l0 : Option mx_V) (v1 : mx_V) (S h : mx_H) (n : Int), mx_ex d 156 23 [l0] [(0, x), v1] S h n = mx_gd (0 ≤ x ∧ x ≤ 300) d 156 25 [l0] [(2, n), v1] (mx_t S n 20 x) (mx_z h n) (n + 1)) ∧
  (∀ (d : Nat) (v a : Int) (l0 : Option mx_V) (S h : mx_H) (n : Int), mx_ex d 156 25 [l0] [(2, v), (2, a)] S h n = mx_gd (13 ≤ S a (-2) ∧ S a (-2) ≤ 13) d 156 28 [l0] [] (mx_u S a 2 v) h n) ∧
  (∀ (d : Nat) (x : Int) (S h : mx_H) (n : Int), mx_ex d 156 28 [some (2, x)] [] S h n = mx_ex d 156 29 [some (2, x)] [(2, x)] S h n) ∧
  (∀ (d : Nat) (l0 : Option mx_V) (v0 : mx_V) (S h : mx_H) (n : Int), mx_ex d 156 29 [l0] [v0] S h n = mx_ex d 156 32 [l0] [(0, 200), v0] S h n) ∧
  (∀ (d : Nat) (x : Int) (l0 : Option mx_V) (v1 : mx_V) (S h : mx_H) (n : Int), mx_ex d 156 32 [l0] [(0, x), v1] S h n = mx_gd (0 ≤ x ∧ x ≤ 300) d 156 34 [l0] [(2, n), v1] (mx_t S n 20 x) (mx_z h n) (n + 1)) ∧
  (∀ (d : Nat) (v a : Int) (l0 : Option mx_V) (S h : mx_H) (n : Int), mx_ex d 156 34 [l0] [(2, v), (2, a)] S h n = mx_gd (13 ≤ S a (-2) ∧ S a (-2) ≤ 13) d 156 37 [l0] [] (mx_u S a 4 v) h n) ∧
  (∀ (d : Nat) (x : Int) (S h : mx_H) (n : Int), mx_ex d 156 37 [some (2, x)] [] S h n = mx_ex d 156 38 [some (2, x)] [(2, x)] S h n) ∧
  (∀ (d : Nat) (l0 : Option mx_V) (v0 : mx_V) (S h : mx_H) (n : Int), mx_ex d 156 38 [l0] [v0] S h n = mx_ex d 156 39 [l0] [(0, 3), v0] S h n) ∧
  (∀ (d : Nat) (x : Int) (l0 : Option mx_V) (v1 : mx_V) (S h : mx_H) (n : Int), mx_ex d 156 39 [l0] [(0, x), v1] S h n = mx_gd (0 ≤ x ∧ x ≤ 300) d 156 41 [l0] [(2, n), v1] (mx_t S n 20 x) (mx_z h n) (n + 1)) ∧
  (∀ (d : Nat) (v a : Int) (l0 : Option mx_V) (S h : mx_H) (n : Int), mx_ex d 156 41 [l0] [(2, v), (2, a)] S h n = mx_gd (13 ≤ S a (-2) ∧ S a (-2) ≤ 13) d 156 44 [l0] [] (mx_u S a 11 v) h n) ∧
  (∀ (d : Nat) (x : Int) (S h : mx_H) (n : Int), mx_ex d 156 44 [some (2, x)] [] S h n = mx_ex d 156 45 [some (2, x)] [(2, x)] S h n) ∧
  (∀ (d : Nat) (l0 : Option mx_V) (v0 : mx_V) (S h : mx_H) (n : Int), mx_ex d 156 45 [l0] [v0] S h n = mx_ex d 156 46 [l0] [(0, 3), v0] S h n) ∧
  (∀ (d : Nat) (x : Int) (l0 : Option mx_V) (v1 : mx_V) (S h : mx_H) (n : Int), mx_ex d 156 46 [l0] [(0, x), v1] S h n = mx_gd (0 ≤ x ∧ x ≤ 300) d 156 48 [l0] [(2, n), v1] (mx_t S n 20 x) (mx_z h n) (n + 1)) ∧
  (∀ (d : Nat) (v a : Int) (l0 : Option mx_V) (S h : mx_H) (n : Int), mx_ex d 156 48 [l0] [(2, v), (2, a)] S h n = mx_gd (13 ≤ S a (-2) ∧ S a (-2) ≤ 13) d 156 51 [l0] [] (mx_u S a 12 v) h n) ∧
  (∀ (d : Nat) (x : Int) (S h : mx_H) (n : Int), mx_ex d 156 51 [some (2, x)] [] S h n = mx_ex d 156 52 [some (2, x)] [(2, x)] S h n) ∧
  (∀ (d : Nat) (l0 : Option mx_V) (v0 : mx_V) (S h : mx_H) (n : Int), mx_ex d 156 52 [l0] [v0] S h n = mx_ex d 156 53 [l0] [(0, 3), v0] S h n) ∧
  (∀ (d : Nat) (x : Int) (l0 : Option mx_V) (v1 : mx_V) (S h : mx_H) (n : Int), mx_ex d 156 53 [l0] [(0, x), v1] S h n = mx_gd (0 ≤ x ∧ x ≤ 300) d 156 55 [l0] [(2, n), v1] (mx_t S n 20 x) (mx_z h n) (n + 1)) ∧
  (∀ (d : Nat) (v a : Int) (l0 : Option mx_V) (S h : mx_H) (n : Int), mx_ex d 156 55 [l0] [(2, v), (2, a)] S h n = mx_gd (13 ≤ S a (-2) ∧ S a (-2) ≤ 13) d 156 58 [l0] [] (mx_u S a 13 v) h n) ∧
  (∀ (d : Nat) (x : Int) (S h : mx_H) (n : Int), mx_ex d 156 58 [some (2, x)] [] S h n = mx_ex d 156 59 [some (2, x)] [(2, x)] S h n) ∧
  (∀ (d : Nat) (l0 : Option mx_V) (v0 : mx_V) (S h : mx_H) (n : Int), mx_ex d 156 59 [l0] [v0] S h n = mx_ex d 156 61 [l0] [(0, 18), v0] S h n) ∧
  (∀ (d : Nat) (x : Int) (l0 : Option mx_V) (v1 : mx_V) (S h : mx_H) (n : Int), mx_ex d 156 61 [l0] [(0, x), v1] S h n = mx_gd (0 ≤ x ∧ x ≤ 300) d 156 63 [l0] [(2, n), v1] (mx_t S n 21 x) (mx_z h n) (n + 1)) ∧
  (∀ (d : Nat) (v a : Int) (l0 : Option mx_V) (S h : mx_H) (n : Int), mx_ex d 156 63 [l0] [(2, v), (2, a)] S h n = mx_gd (13 ≤ S a (-2) ∧ S a (-2) ≤ 13) d 156 66 [l0] [] (mx_u S a 14 v) h n) ∧
  (∀ (d : Nat) (x : Int) (S h : mx_H) (n : Int), mx_ex d 156 66 [some (2, x)] [] S h n = mx_ex d 156 67 [some (2, x)] [(2, x)] S h n) ∧
  (∀ (d : Nat) (l0 : Option mx_V) (v0 : mx_V) (S h : mx_H) (n : Int), mx_ex d 156 67 [l0] [v0] S h n = mx_ex d 156 68 [l0] [(0, 4), v0] S h n) ∧
  (∀ (d : Nat) (x : Int) (l0 : Option mx_V) (v1 : mx_V) (S h : mx_H) (n : Int), mx_ex d 156 68 [l0] [(0, x), v1] S h n = mx_gd (0 ≤ x ∧ x ≤ 300) d 156 70 [l0] [(2, n), v1] (mx_t S n 20 x) (mx_z h n) (n + 1)) ∧
  (∀ (d : Nat) (a : Int) (l0 : Option mx_V) (v1 : mx_V) (S h : mx_H) (n : Int), mx_ex d 156 70 [l0] [(2, a), v1] S h n = mx_ex d 156 71 [l0] [(2, a), (2, a), v1] S h n) ∧
  (∀ (d : Nat) (l0 : Option mx_V) (v0 v1 v2 : mx_V) (S h : mx_H) (n : Int), mx_ex d 156 71 [l0] [v0, v1, v2] S h n = mx_ex d 156 72 [l0] [(0, 0), v0, v1, v2] S h n) ∧
  (∀ (d : Nat) (l0 : Option mx_V) (v0 v1 v2 v3 : mx_V) (S h : mx_H) (n : Int), mx_ex d 156 72 [l0] [v0, v1, v2, v3] S h n = mx_ex d 156 73 [l0] [(0, (-1)), v0, v1, v2, v3] S h n) ∧
  (∀ (d : Nat) (v i a : Int) (l0 : Option mx_V) (v3 v4 : mx_V) (S h : mx_H) (n : Int), mx_ex d 156 73 [l0] [(0, v), (0, i), (2, a), v3, v4] S h n = mx_gd (S a (-2) = 20 ∧ 0 ≤ i ∧ i < S a (-1)) d 156 74 [l0] [v3, v4] S (mx_u h a i v) n) ∧
  (∀ (d : Nat) (a : Int) (l0 : Option mx_V) (v1 : mx_V) (S h : mx_H) (n : Int), mx_ex d 156 74 [l0] [(2, a), v1] S h n = mx_ex d 156 75 [l0] [(2, a), (2, a), v1] S h n) ∧
  (∀ (d : Nat) (l0 : Option mx_V) (v0 v1 v2 : mx_V) (S h : mx_H) (n : Int), mx_ex d 156 75 [l0] [v0, v1, v2] S h n = mx_ex d 156 76 [l0] [(0, 1), v0, v1, v2] S h n) ∧
  (∀ (d : Nat) (l0 : Option mx_V) (v0 v1 v2 v3 : mx_V) (S h : mx_H) (n : Int), mx_ex d 156 76 [l0] [v0, v1, v2, v3] S h n = mx_ex d 156 77 [l0] [(0, (-1)), v0, v1, v2, v3] S h n) ∧
  (∀ (d : Nat) (v i a : Int) (l0 : Option mx_V) (v3 v4 : mx_V) (S h : mx_H) (n : Int), mx_ex d 156 77 [l0] [(0, v), (0, i), (2, a), v3, v4] S h n = mx_gd (S a (-2) = 20 ∧ 0 ≤ i ∧ i < S a (-1)) d 156 78 [l0] [v3, v4] S (mx_u h a i v) n) ∧
  (∀ (d : Nat) (a : Int) (l0 : Option mx_V) (v1 : mx_V) (S h : mx_H) (n : Int), mx_ex d 156 78 [l0] [(2, a), v1] S h n = mx_ex d 156 79 [l0] [(2, a), (2, a), v1] S h n) ∧
  (∀ (d : Nat) (l0 : Option mx_V) (v0 v1 v2 : mx_V) (S h : mx_H) (n : Int), mx_ex d 156 79 [l0] [v0, v1, v2] S h n = mx_ex d 156 80 [l0] [(0, 2), v0, v1, v2] S h n) ∧
  (∀ (d : Nat) (l0 : Option mx_V) (v0 v1 v2 v3 : mx_V) (S h : mx_H) (n : Int), mx_ex d 156 80 [l0] [v0, v1, v2, v3] S h n = mx_ex d 156 81 [l0] [(0, (-1)), v0, v1, v2, v3] S h n) ∧
  (∀ (d : Nat) (v i a : Int) (l0 : Option mx_V) (v3 v4 : mx_V) (S h : mx_H) (n : Int), mx_ex d 156 81 [l0] [(0, v), (0, i), (2, a), v3, v4] S h n = mx_gd (S a (-2) = 20 ∧ 0 ≤ i ∧ i < S a (-1)) d 156 82 [l0] [v3, v4] S (mx_u h a i v) n) ∧
  (∀ (d : Nat) (a : Int) (l0 : Option mx_V) (v1 : mx_V) (S h : mx_H) (n : Int), mx_ex d 156 82 [l0] [(2, a), v1] S h n = mx_ex d 156 83 [l0] [(2, a), (2, a), v1] S h n) ∧
  (∀ (d : Nat) (l0 : Option mx_V) (v0 v1 v2 : mx_V) (S h : mx_H) (n : Int), mx_ex d 156 83 [l0] [v0, v1, v2] S h n = mx_ex d 156 84 [l0] [(0, 3), v0, v1, v2] S h n) ∧
  (∀ (d : Nat) (l0 : Option mx_V) (v0 v1 v2 v3 : mx_V) (S h : mx_H) (n : Int), mx_ex d 156 84 [l0] [v0, v1, v2, v3] S h n = mx_ex d 156 85 [l0] [(0, (-1)), v0, v1, v2, v3] S h n) ∧
  (∀ (d : Nat) (v i a : Int) (l0 : Option mx_V) (v3 v4 : mx_V) (S h : mx_H) (n : Int), mx_ex d 156 85 [l0] [(0, v), (0, i), (2, a), v3, v4] S h n = mx_gd (S a (-2) = 20 ∧ 0 ≤ i ∧ i < S a (-1)) d 156 86 [l0] [v3, v4] S (mx_u h a i v) n) ∧
  (∀ (d : Nat) (v a : Int) (l0 : Option mx_V) (S h : mx_H) (n : Int), mx_ex d 156 86 [l0] [(2, v), (2, a)] S h n = mx_gd (13 ≤ S a (-2) ∧ S a (-2) ≤ 13) d 156 89 [l0] [] (mx_u S a 16 v) h n) ∧
  (∀ (d : Nat) (x : Int) (S h : mx_H) (n : Int), mx_ex d 156 89 [some (2, x)] [] S h n = mx_ex d 156 90 [some (2, x)] [(2, x)] S h n) ∧
  (∀ (d : Nat) (l0 : Option mx_V) (v0 : mx_V) (S h : mx_H) (n : Int), mx_ex d 156 90 [l0] [v0] S h n = mx_ex d 156 91 [l0] [(0, 4), v0] S h n) ∧
  (∀ (d : Nat) (x : Int) (l0 : Option mx_V) (v1 : mx_V) (S h : mx_H) (n : Int), mx_ex d 156 91 [l0] [(0, x), v1] S h n = mx_gd (0 ≤ x ∧ x ≤ 300) d 156 93 [l0] [(2, n), v1] (mx_t S n 20 x) (mx_z h n) (n + 1)) ∧
  (∀ (d : Nat) (v a : Int) (l0 : Option mx_V) (S h : mx_H) (n : Int), mx_ex d 156 93 [l0] [(2, v), (2, a)] S h n = mx_gd (13 ≤ S a (-2) ∧ S a (-2) ≤ 13) d 156 96 [l0] [] (mx_u S a 17 v) h n) ∧
  (∀ (d : Nat) (x : Int) (S h : mx_H) (n : Int), mx_ex d 156 96 [some (2, x)] [] S h n = mx_ex d 156 97 [some (2, x)] [(2, x)] S h n) ∧
  (∀ (d : Nat) (l0 : Option mx_V) (v0 : mx_V) (S h : mx_H) (n : Int), mx_ex d 156 97 [l0] [v0] S h n = mx_ex d 156 100 [l0] [(0, 160), v0] S h n) ∧
  (∀ (d : Nat) (x : Int) (l0 : Option mx_V) (v1 : mx_V) (S h : mx_H) (n : Int), mx_ex d 156 100 [l0] [(0, x), v1] S h n = mx_gd (0 ≤ x ∧ x ≤ 300) d 156 102 [l0] [(2, n), v1] (mx_t S n 21 x) (mx_z h n) (n + 1)) ∧
  (∀ (d : Nat) (v a : Int) (l0 : Option mx_V) (S h : mx_H) (n : Int), mx_ex d 156 102 [l0] [(2, v), (2, a)] S h n = mx_gd (13 ≤ S a (-2) ∧ S a (-2) ≤ 13) d 156 105 [l0] [] (mx_u S a 18 v) h n) ∧
  (∀ (d : Nat) (x : Int) (S h : mx_H) (n : Int), mx_ex d 156 105 [some (2, x)] [] S h n = mx_ex d 156 106 [some (2, x)] [(2, x)] S h n) ∧
  (∀ (d : Nat) (l0 : Option mx_V) (v0 : mx_V) (S h : mx_H) (n : Int), mx_ex d 156 106 [l0] [v0] S h n = mx_ex d 156 107 [l0] [(0, 4), v0] S h n) ∧
  (∀ (d : Nat) (x : Int) (l0 : Option mx_V) (v1 : mx_V) (S h : mx_H) (n : Int), mx_ex d 156 107 [l0] [(0, x), v1] S h n = mx_gd (0 ≤ x ∧ x ≤ 300) d 156 109 [l0] [(2, n), v1] (mx_t S n 20 x) (mx_z h n) (n + 1)) ∧
  (∀ (d : Nat) (v a : Int) (l0 : Option mx_V) (S h : mx_H) (n : Int), mx_ex d 156 109 [l0] [(2, v), (2, a)] S h n = mx_gd (13 ≤ S a (-2) ∧ S a (-2) ≤ 13) d 156 112 [l0] [] (mx_u S a 19 v) h n) ∧
  (∀ (d : Nat) (x : Int) (S h : mx_H) (n : Int), mx_ex d 156 112 [some (2, x)] [] S h n = mx_ex d 156 113 [some (2, x)] [(2, x)] S h n) ∧
  (∀ (d : Nat) (l0 : Option mx_V) (v0 : mx_V) (S h : mx_H) (n : Int), mx_ex d 156 113 [l0] [v0] S h n = mx_ex d 156 114 [l0] [(0, 4), v0] S h n) ∧
  (∀ (d : Nat) (x : Int) (l0 : Option mx_V) (v1 : mx_V) (S h : mx_H) (n : Int), mx_ex d 156 114 [l0] [(0, x), v1] S h n = mx_gd (0 ≤ x ∧ x ≤ 300) d 156 116 [l0] [(2, n), v1] (mx_t S n 20 x) (mx_z h n) (n + 1)) :=
  ⟨by intros; exact rfl,
   by intros; exact eq_ld rfl rfl,
   by intros; exact eq_oini rfl (Nat.le_of_ble_eq_true rfl),
   by intros; exact eq_ld rfl rfl,
   by intros; exact eq_push rfl,
   by intros; exact eq_newa rfl,
   by intros; exact eq_pr rfl,
   by intros; exact eq_ld rfl rfl,
   by intros; exact eq_push rfl,
   by intros; exact eq_newa rfl,
   by intros; exact eq_pr rfl,
   by intros; exact eq_ld rfl rfl,
   by intros; exact eq_push rfl,
   by intros; exact eq_newa rfl,
   by intros; exact eq_pr rfl,
   by intros; exact eq_ld rfl rfl,
   by intros; exact eq_push rfl,
   by intros; exact eq_newa rfl,
   by intros; exact eq_pr rfl,
   by intros; exact eq_ld rfl rfl,
   by intros; exact eq_push rfl,
   by intros; exact eq_newa rfl,
   by intros; exact eq_pr rfl,
   by intros; exact eq_ld rfl rfl,
   by intros; exact eq_push rfl,
   by intros; exact eq_newa rfl,
   by intros; exact eq_pr rfl,
   by intros; exact eq_ld rfl rfl,
   by intros; exact eq_push rfl,
   by intros; exact eq_newa rfl,
   by intros; exact eq_pr rfl,
   by intros; exact eq_ld rfl rfl,
   by intros; exact eq_push rfl,
   by intros; exact eq_newa rfl,
   by intros; exact eq_pr rfl,
   by intros; exact eq_ld rfl rfl,
   by intros; exact eq_push rfl,
   by intros; exact eq_newa rfl,
   by intros; exact eq_dup rfl (by decide),
   by intros; exact eq_push rfl,
   by intros; exact eq_push rfl,
   by intros; exact eq_iast rfl,
   by intros; exact eq_dup rfl (by decide),
   by intros; exact eq_push rfl,
   by intros; exact eq_push rfl,
   by intros; exact eq_iast rfl,
   by intros; exact eq_dup rfl (by decide),
   by intros; exact eq_push rfl,
   by intros; exact eq_push rfl,
   by intros; exact eq_iast rfl,
   by intros; exact eq_dup rfl (by decide),
   by intros; exact eq_push rfl,
   by intros; exact eq_push rfl,
   by intros; exact eq_iast rfl,
   by intros; exact eq_pr rfl,
   by intros; exact eq_ld rfl rfl,
   by intros; exact eq_push rfl,
   by intros; exact eq_newa rfl,
   by intros; exact eq_pr rfl,
   by intros; exact eq_ld rfl rfl,
   by intros; exact eq_push rfl,
   by intros; exact eq_newa rfl,
   by intros; exact eq_pr rfl,
   by intros; exact eq_ld rfl rfl,
   by intros; exact eq_push rfl,
   by intros; exact eq_newa rfl,
   by intros; exact eq_pr rfl,
   by intros; exact eq_ld rfl rfl,
   by intros; exact eq_push rfl,
   by intros; exact eq_newa rfl⟩
theorem rw_X12_init_1 :
  (∀ (d : Nat) (v a : Int) (l0 : Option mx_V) (S h : mx_H) (n : Int), mx_ex d 156 116 [l0] [(2, v), (2, a)] S h n = mx_gd (13 ≤ S a (-2) ∧ S a (-2) ≤ 13) d 156 119 [l0] [] (mx_u S a 20 v) h n) ∧
  (∀ (d : Nat) (x : Int) (S h : mx_H) (n : Int), mx_ex d 156 119 [some (2, x)] [] S h n = mx_ex d 156 120 [some (2, x)] [(2, x)] S h n) ∧
  (∀ (d : Nat) (l0 : Option mx_V) (v0 : mx_V) (S h : mx_H) (n : Int), mx_ex d 156 120 [l0] [v0] S h n = mx_ex d 156 122 [l0] [(0, 30), v0] S h n) ∧
  (∀ (d : Nat) (x : Int) (l0 : Option mx_V) (v1 : mx_V) (S h : mx_H) (n : Int), mx_ex d 156 122 [l0] [(0, x), v1] S h n = mx_gd (0 ≤ x ∧ x ≤ 300) d 156 124 [l0] [(2, n), v1] (mx_t S n 20 x) (mx_z h n) (n + 1)) ∧
  (∀ (d : Nat) (v a : Int) (l0 : Option mx_V) (S h : mx_H) (n : Int), mx_ex d 156 124 [l0] [(2, v), (2, a)] S h n = mx_gd (13 ≤ S a (-2) ∧ S a (-2) ≤ 13) d 156 127 [l0] [] (mx_u S a 21 v) h n) ∧
  (∀ (d : Nat) (x : Int) (S h : mx_H) (n : Int), mx_ex d 156 127 [some (2, x)] [] S h n = mx_ex d 156 128 [some (2, x)] [(2, x)] S h n) ∧
  (∀ (d : Nat) (a : Int) (l0 : Option mx_V) (S h : mx_H) (n : Int), mx_ex d 156 128 [l0] [(2, a)] S h n = mx_gd (13 ≤ S a (-2) ∧ S a (-2) ≤ 13) d 156 131 [l0] [(2, S a 0)] S h n) ∧
  (∀ (d : Nat) (l0 : Option mx_V) (v0 : mx_V) (S h : mx_H) (n : Int), mx_ex d 156 131 [l0] [v0] S h n = mx_ex d 156 132 [l0] [(0, 2), v0] S h n) ∧
  (∀ (d : Nat) (l0 : Option mx_V) (v0 v1 : mx_V) (S h : mx_H) (n : Int), mx_ex d 156 132 [l0] [v0, v1] S h n = mx_ex d 156 133 [l0] [(0, 1), v0, v1] S h n) ∧
  (∀ (d : Nat) (v i a : Int) (l0 : Option mx_V) (S h : mx_H) (n : Int), mx_ex d 156 133 [l0] [(0, v), (0, i), (2, a)] S h n = mx_gd (S a (-2) = 20 ∧ 0 ≤ i ∧ i < S a (-1)) d 156 134 [l0] [] S (mx_u h a i v) n) ∧
  (∀ (d : Nat) (x : Int) (S h : mx_H) (n : Int), mx_ex d 156 134 [some (2, x)] [] S h n = mx_ex d 156 135 [some (2, x)] [(2, x)] S h n) ∧
  (∀ (d : Nat) (a : Int) (l0 : Option mx_V) (S h : mx_H) (n : Int), mx_ex (d + 1) 156 135 [l0] [(2, a)] S h n = mx_cl (S a (-2) = 13) d 158 [(2, a)] 156 138 [l0] [] S h n) ∧
  (∀ (d : Nat) (l0 : Option mx_V) (S h : mx_H) (n : Int), mx_ex d 156 138 [l0] [] S h n = some (none, S, h, n)) :=
  ⟨by intros; exact eq_pr rfl,
   by intros; exact eq_ld rfl rfl,
   by intros; exact eq_push rfl,
   by intros; exact eq_newa rfl,
   by intros; exact eq_pr rfl,
   by intros; exact eq_ld rfl rfl,
   by intros; exact eq_gr rfl,
   by intros; exact eq_push rfl,
   by intros; exact eq_push rfl,
   by intros; exact eq_iast rfl,
   by intros; exact eq_ld rfl rfl,
   by intros; exact eq_cv rfl (Nat.le_of_ble_eq_true rfl) rfl rfl rfl (Nat.le_of_ble_eq_true rfl),
   by intros; exact eq_retv rfl⟩
theorem rh_X12_carry_2 : ∀ (d : Nat) (x : Int) (l0 l1 : Option mx_V) (S h : mx_H) (n : Int), mx_ex d 157 2 [l0, l1, some (0, x)] [] S h n = mx_ex d 157 3 [l0, l1, some (0, x)] [(0, x)] S h n := by intros; exact eq_ld rfl rfl
theorem rw_X12_carry :
  (∀ (d : Nat) (a0 a1 : Int) (S h : mx_H) (n : Int), mx_M d 157 [(2, a0), (2, a1)] S h n = mx_ex d 157 0 [some (2, a0), some (2, a1), none] [] S h n) ∧
  (∀ (d : Nat) (l0 l1 l2 : Option mx_V) (S h : mx_H) (n : Int), mx_ex d 157 0 [l0, l1, l2] [] S h n = mx_ex d 157 1 [l0, l1, l2] [(0, 0)] S h n) ∧
  (∀ (d : Nat) (x : Int) (l0 l1 l2 : Option mx_V) (S h : mx_H) (n : Int), mx_ex d 157 1 [l0, l1, l2] [(0, x)] S h n = mx_ex d 157 2 [l0, mx_nl l1, some (0, x)] [] S h n) ∧
  (∀ (d : Nat) (l0 l1 l2 : Option mx_V) (v0 : mx_V) (S h : mx_H) (n : Int), mx_ex d 157 3 [l0, l1, l2] [v0] S h n = mx_ex d 157 5 [l0, l1, l2] [(0, 93), v0] S h n) ∧
  (∀ (d : Nat) (b a : Int) (l0 l1 l2 : Option mx_V) (S h : mx_H) (n : Int), mx_ex d 157 5 [l0, l1, l2] [(0, b), (0, a)] S h n = mx_br (a < b) d 157 8 20 [l0, l1, l2] [] S h n) ∧
  (∀ (d : Nat) (x : Int) (l0 l2 : Option mx_V) (S h : mx_H) (n : Int), mx_ex d 157 8 [l0, some (2, x), l2] [] S h n = mx_ex d 157 9 [l0, some (2, x), l2] [(2, x)] S h n) ∧
  (∀ (d : Nat) (x : Int) (l0 l1 : Option mx_V) (v0 : mx_V) (S h : mx_H) (n : Int), mx_ex d 157 9 [l0, l1, some (0, x)] [v0] S h n = mx_ex d 157 10 [l0, l1, some (0, x)] [(0, x), v0] S h n) ∧
  (∀ (d : Nat) (x : Int) (l1 l2 : Option mx_V) (v0 v1 : mx_V) (S h : mx_H) (n : Int), mx_ex d 157 10 [some (2, x), l1, l2] [v0, v1] S h n = mx_ex d 157 11 [some (2, x), l1, l2] [(2, x), v0, v1] S h n) ∧
  (∀ (d : Nat) (x : Int) (l0 l1 : Option mx_V) (v0 v1 v2 : mx_V) (S h : mx_H) (n : Int), mx_ex d 157 11 [l0, l1, some (0, x)] [v0, v1, v2] S h n = mx_ex d 157 12 [l0, l1, some (0, x)] [(0, x), v0, v1, v2] S h n) ∧
  (∀ (d : Nat) (i a : Int) (l0 l1 l2 : Option mx_V) (v2 v3 : mx_V) (S h : mx_H) (n : Int), mx_ex d 157 12 [l0, l1, l2] [(0, i), (2, a), v2, v3] S h n = mx_gd ((S a (-2) = 20 ∨ S a (-2) = 24) ∧ 0 ≤ i ∧ i < S a (-1)) d 157 13 [l0, l1, l2] [(0, h a i), v2, v3] S h n) ∧
  (∀ (d : Nat) (v i a : Int) (l0 l1 l2 : Option mx_V) (S h : mx_H) (n : Int), mx_ex d 157 13 [l0, l1, l2] [(0, v), (0, i), (2, a)] S h n = mx_gd (S a (-2) = 20 ∧ 0 ≤ i ∧ i < S a (-1)) d 157 14 [l0, l1, l2] [] S (mx_u h a i v) n) ∧
  (∀ (d : Nat) (x : Int) (l0 l1 : Option mx_V) (S h : mx_H) (n : Int), mx_ex d 157 14 [l0, l1, some (0, x)] [] S h n = mx_ex d 157 17 [l0, mx_nl l1, some (0, mx_w (x + 1))] [] S h n) ∧
  (∀ (d : Nat) (l0 l1 l2 : Option mx_V) (S h : mx_H) (n : Int), mx_ex d 157 17 [l0, l1, l2] [] S h n = mx_ex d 157 2 [l0, l1, l2] [] S h n) ∧
  (∀ (d : Nat) (l0 l1 l2 : Option mx_V) (S h : mx_H) (n : Int), mx_ex d 157 20 [l0, l1, l2] [] S h n = some (none, S, h, n)) :=
  ⟨by intros; exact rfl,
   by intros; exact eq_push rfl,
   by intros; exact eq_st rfl (by decide) (Nat.le_of_ble_eq_true rfl) rfl,
   by intros; exact eq_push rfl,
   by intros; exact eq_ic3 rfl,
   by intros; exact eq_ld rfl rfl,
   by intros; exact eq_ld rfl rfl,
   by intros; exact eq_ld rfl rfl,
   by intros; exact eq_ld rfl rfl,
   by intros; exact eq_iald rfl,
   by intros; exact eq_iast rfl,
   by intros; exact eq_inc rfl rfl rfl,
   by intros; exact eq_go rfl,
   by intros; exact eq_retv rfl⟩
theorem rh_X12_clears_16 : ∀ (d : Nat) (x : Int) (l0 : Option mx_V) (S h : mx_H) (n : Int), mx_ex d 158 16 [l0, some (0, x)] [] S h n = mx_ex d 158 17 [l0, some (0, x)] [(0, x)] S h n := by intros; exact eq_ld rfl rfl
theorem rw_X12_clears :
  (∀ (d : Nat) (a0 : Int) (S h : mx_H) (n : Int), mx_M d 158 [(2, a0)] S h n = mx_ex d 158 0 [some (2, a0), none] [] S h n) ∧
  (∀ (d : Nat) (x : Int) (l1 : Option mx_V) (S h : mx_H) (n : Int), mx_ex d 158 0 [some (2, x), l1] [] S h n = mx_ex d 158 1 [some (2, x), l1] [(2, x)] S h n) ∧
  (∀ (d : Nat) (a : Int) (l0 l1 : Option mx_V) (S h : mx_H) (n : Int), mx_ex d 158 1 [l0, l1] [(2, a)] S h n = mx_gd (13 ≤ S a (-2) ∧ S a (-2) ≤ 13) d 158 4 [l0, l1] [(2, S a 0)] S h n) ∧
  (∀ (d : Nat) (l0 l1 : Option mx_V) (v0 : mx_V) (S h : mx_H) (n : Int), mx_ex d 158 4 [l0, l1] [v0] S h n = mx_ex d 158 5 [l0, l1] [(0, 0), v0] S h n) ∧
  (∀ (d : Nat) (l0 l1 : Option mx_V) (v0 v1 : mx_V) (S h : mx_H) (n : Int), mx_ex d 158 5 [l0, l1] [v0, v1] S h n = mx_ex d 158 6 [l0, l1] [(0, 0), v0, v1] S h n) ∧
  (∀ (d : Nat) (v i a : Int) (l0 l1 : Option mx_V) (S h : mx_H) (n : Int), mx_ex d 158 6 [l0, l1] [(0, v), (0, i), (2, a)] S h n = mx_gd (S a (-2) = 20 ∧ 0 ≤ i ∧ i < S a (-1)) d 158 7 [l0, l1] [] S (mx_u h a i v) n) ∧
  (∀ (d : Nat) (x : Int) (l1 : Option mx_V) (S h : mx_H) (n : Int), mx_ex d 158 7 [some (2, x), l1] [] S h n = mx_ex d 158 8 [some (2, x), l1] [(2, x)] S h n) ∧
  (∀ (d : Nat) (a : Int) (l0 l1 : Option mx_V) (S h : mx_H) (n : Int), mx_ex d 158 8 [l0, l1] [(2, a)] S h n = mx_gd (13 ≤ S a (-2) ∧ S a (-2) ≤ 13) d 158 11 [l0, l1] [(2, S a 0)] S h n) ∧
  (∀ (d : Nat) (l0 l1 : Option mx_V) (v0 : mx_V) (S h : mx_H) (n : Int), mx_ex d 158 11 [l0, l1] [v0] S h n = mx_ex d 158 12 [l0, l1] [(0, 1), v0] S h n) ∧
  (∀ (d : Nat) (l0 l1 : Option mx_V) (v0 v1 : mx_V) (S h : mx_H) (n : Int), mx_ex d 158 12 [l0, l1] [v0, v1] S h n = mx_ex d 158 13 [l0, l1] [(0, 0), v0, v1] S h n) ∧
  (∀ (d : Nat) (v i a : Int) (l0 l1 : Option mx_V) (S h : mx_H) (n : Int), mx_ex d 158 13 [l0, l1] [(0, v), (0, i), (2, a)] S h n = mx_gd (S a (-2) = 20 ∧ 0 ≤ i ∧ i < S a (-1)) d 158 14 [l0, l1] [] S (mx_u h a i v) n) ∧
  (∀ (d : Nat) (l0 l1 : Option mx_V) (S h : mx_H) (n : Int), mx_ex d 158 14 [l0, l1] [] S h n = mx_ex d 158 15 [l0, l1] [(0, 0)] S h n) ∧
  (∀ (d : Nat) (x : Int) (l0 l1 : Option mx_V) (S h : mx_H) (n : Int), mx_ex d 158 15 [l0, l1] [(0, x)] S h n = mx_ex d 158 16 [mx_nl l0, some (0, x)] [] S h n) ∧
  (∀ (d : Nat) (l0 l1 : Option mx_V) (v0 : mx_V) (S h : mx_H) (n : Int), mx_ex d 158 17 [l0, l1] [v0] S h n = mx_ex d 158 18 [l0, l1] [(0, 3), v0] S h n) ∧
  (∀ (d : Nat) (b a : Int) (l0 l1 : Option mx_V) (S h : mx_H) (n : Int), mx_ex d 158 18 [l0, l1] [(0, b), (0, a)] S h n = mx_br (a < b) d 158 21 52 [l0, l1] [] S h n) ∧
  (∀ (d : Nat) (x : Int) (l1 : Option mx_V) (S h : mx_H) (n : Int), mx_ex d 158 21 [some (2, x), l1] [] S h n = mx_ex d 158 22 [some (2, x), l1] [(2, x)] S h n) ∧
  (∀ (d : Nat) (a : Int) (l0 l1 : Option mx_V) (S h : mx_H) (n : Int), mx_ex d 158 22 [l0, l1] [(2, a)] S h n = mx_gd (13 ≤ S a (-2) ∧ S a (-2) ≤ 13) d 158 25 [l0, l1] [(2, S a 0)] S h n) ∧
  (∀ (d : Nat) (l0 l1 : Option mx_V) (v0 : mx_V) (S h : mx_H) (n : Int), mx_ex d 158 25 [l0, l1] [v0] S h n = mx_ex d 158 26 [l0, l1] [(0, 3), v0] S h n) ∧
  (∀ (d : Nat) (l0 l1 : Option mx_V) (v0 v1 : mx_V) (S h : mx_H) (n : Int), mx_ex d 158 26 [l0, l1] [v0, v1] S h n = mx_ex d 158 27 [l0, l1] [(0, 2), v0, v1] S h n) ∧
  (∀ (d : Nat) (x : Int) (l0 : Option mx_V) (v0 v1 v2 : mx_V) (S h : mx_H) (n : Int), mx_ex d 158 27 [l0, some (0, x)] [v0, v1, v2] S h n = mx_ex d 158 28 [l0, some (0, x)] [(0, x), v0, v1, v2] S h n) ∧
  (∀ (d : Nat) (b a : Int) (l0 l1 : Option mx_V) (v2 v3 : mx_V) (S h : mx_H) (n : Int), mx_ex d 158 28 [l0, l1] [(0, b), (0, a), v2, v3] S h n = mx_ex d 158 29 [l0, l1] [(0, mx_w (a * b)), v2, v3] S h n) ∧
  (∀ (d : Nat) (b a : Int) (l0 l1 : Option mx_V) (v2 : mx_V) (S h : mx_H) (n : Int), mx_ex d 158 29 [l0, l1] [(0, b), (0, a), v2] S h n = mx_ex d 158 30 [l0, l1] [(0, mx_w (a + b)), v2] S h n) ∧
  (∀ (d : Nat) (l0 l1 : Option mx_V) (v0 v1 : mx_V) (S h : mx_H) (n : Int), mx_ex d 158 30 [l0, l1] [v0, v1] S h n = mx_ex d 158 31 [l0, l1] [(0, 2), v0, v1] S h n) ∧
  (∀ (d : Nat) (v i a : Int) (l0 l1 : Option mx_V) (S h : mx_H) (n : Int), mx_ex d 158 31 [l0, l1] [(0, v), (0, i), (2, a)] S h n = mx_gd (S a (-2) = 20 ∧ 0 ≤ i ∧ i < S a (-1)) d 158 32 [l0, l1] [] S (mx_u h a i v) n) ∧
  (∀ (d : Nat) (x : Int) (l1 : Option mx_V) (S h : mx_H) (n : Int), mx_ex d 158 32 [some (2, x), l1] [] S h n = mx_ex d 158 33 [some (2, x), l1] [(2, x)] S h n) ∧
  (∀ (d : Nat) (a : Int) (l0 l1 : Option mx_V) (S h : mx_H) (n : Int), mx_ex d 158 33 [l0, l1] [(2, a)] S h n = mx_gd (13 ≤ S a (-2) ∧ S a (-2) ≤ 13) d 158 36 [l0, l1] [(2, S a 0)] S h n) ∧
  (∀ (d : Nat) (l0 l1 : Option mx_V) (v0 : mx_V) (S h : mx_H) (n : Int), mx_ex d 158 36 [l0, l1] [v0] S h n = mx_ex d 158 37 [l0, l1] [(0, 3), v0] S h n) ∧
  (∀ (d : Nat) (l0 l1 : Option mx_V) (v0 v1 : mx_V) (S h : mx_H) (n : Int), mx_ex d 158 37 [l0, l1] [v0, v1] S h n = mx_ex d 158 38 [l0, l1] [(0, 2), v0, v1] S h n) ∧
  (∀ (d : Nat) (x : Int) (l0 : Option mx_V) (v0 v1 v2 : mx_V) (S h : mx_H) (n : Int), mx_ex d 158 38 [l0, some (0, x)] [v0, v1, v2] S h n = mx_ex d 158 39 [l0, some (0, x)] [(0, x), v0, v1, v2] S h n) ∧
  (∀ (d : Nat) (b a : Int) (l0 l1 : Option mx_V) (v2 v3 : mx_V) (S h : mx_H) (n : Int), mx_ex d 158 39 [l0, l1] [(0, b), (0, a), v2, v3] S h n = mx_ex d 158 40 [l0, l1] [(0, mx_w (a * b)), v2, v3] S h n) ∧
  (∀ (d : Nat) (b a : Int) (l0 l1 : Option mx_V) (v2 : mx_V) (S h : mx_H) (n : Int), mx_ex d 158 40 [l0, l1] [(0, b), (0, a), v2] S h n = mx_ex d 158 41 [l0, l1] [(0, mx_w (a + b)), v2] S h n) ∧
  (∀ (d : Nat) (l0 l1 : Option mx_V) (v0 v1 : mx_V) (S h : mx_H) (n : Int), mx_ex d 158 41 [l0, l1] [v0, v1] S h n = mx_ex d 158 42 [l0, l1] [(0, 1), v0, v1] S h n) ∧
  (∀ (d : Nat) (b a : Int) (l0 l1 : Option mx_V) (v2 : mx_V) (S h : mx_H) (n : Int), mx_ex d 158 42 [l0, l1] [(0, b), (0, a), v2] S h n = mx_ex d 158 43 [l0, l1] [(0, mx_w (a + b)), v2] S h n) ∧
  (∀ (d : Nat) (l0 l1 : Option mx_V) (v0 v1 : mx_V) (S h : mx_H) (n : Int), mx_ex d 158 43 [l0, l1] [v0, v1] S h n = mx_ex d 158 45 [l0, l1] [(0, 16), v0, v1] S h n) ∧
  (∀ (d : Nat) (v i a : Int) (l0 l1 : Option mx_V) (S h : mx_H) (n : Int), mx_ex d 158 45 [l0, l1] [(0, v), (0, i), (2, a)] S h n = mx_gd (S a (-2) = 20 ∧ 0 ≤ i ∧ i < S a (-1)) d 158 46 [l0, l1] [] S (mx_u h a i v) n) ∧
  (∀ (d : Nat) (x : Int) (l0 : Option mx_V) (S h : mx_H) (n : Int), mx_ex d 158 46 [l0, some (0, x)] [] S h n = mx_ex d 158 49 [mx_nl l0, some (0, mx_w (x + 1))] [] S h n) ∧
  (∀ (d : Nat) (l0 l1 : Option mx_V) (S h : mx_H) (n : Int), mx_ex d 158 49 [l0, l1] [] S h n = mx_ex d 158 16 [l0, l1] [] S h n) ∧
  (∀ (d : Nat) (l0 l1 : Option mx_V) (S h : mx_H) (n : Int), mx_ex d 158 52 [l0, l1] [] S h n = some (none, S, h, n)) :=
  ⟨by intros; exact rfl,
   by intros; exact eq_ld rfl rfl,
   by intros; exact eq_gr rfl,
   by intros; exact eq_push rfl,
   by intros; exact eq_push rfl,
   by intros; exact eq_iast rfl,
   by intros; exact eq_ld rfl rfl,
   by intros; exact eq_gr rfl,
   by intros; exact eq_push rfl,
   by intros; exact eq_push rfl,
   by intros; exact eq_iast rfl,
   by intros; exact eq_push rfl,
   by intros; exact eq_st rfl (by decide) (Nat.le_of_ble_eq_true rfl) rfl,
   by intros; exact eq_push rfl,
   by intros; exact eq_ic3 rfl,
   by intros; exact eq_ld rfl rfl,
   by intros; exact eq_gr rfl,
   by intros; exact eq_push rfl,
   by intros; exact eq_push rfl,
   by intros; exact eq_ld rfl rfl,
   by intros; exact eq_i2 (o := mx_mul) rfl,
   by intros; exact eq_i2 (o := mx_add) rfl,
   by intros; exact eq_push rfl,
   by intros; exact eq_iast rfl,
   by intros; exact eq_ld rfl rfl,
   by intros; exact eq_gr rfl,
   by intros; exact eq_push rfl,
   by intros; exact eq_push rfl,
   by intros; exact eq_ld rfl rfl,
   by intros; exact eq_i2 (o := mx_mul) rfl,
   by intros; exact eq_i2 (o := mx_add) rfl,
   by intros; exact eq_push rfl,
   by intros; exact eq_i2 (o := mx_add) rfl,
   by intros; exact eq_push rfl,
   by intros; exact eq_iast rfl,
   by intros; exact eq_inc rfl rfl rfl,
   by intros; exact eq_go rfl,
   by intros; exact eq_retv rfl⟩
theorem rw_X12_in :
  (∀ (d : Nat) (a0 a1 a2 : Int) (S h : mx_H) (n : Int), mx_M d 159 [(0, a0), (0, a1), (0, a2)] S h n = mx_ex d 159 0 [some (0, a0), some (0, a1), some (0, a2)] [] S h n) ∧
  (∀ (d : Nat) (x : Int) (l1 l2 : Option mx_V) (S h : mx_H) (n : Int), mx_ex d 159 0 [some (0, x), l1, l2] [] S h n = mx_ex d 159 1 [some (0, x), l1, l2] [(0, x)] S h n) ∧
  (∀ (d : Nat) (x : Int) (l0 l2 : Option mx_V) (v0 : mx_V) (S h : mx_H) (n : Int), mx_ex d 159 1 [l0, some (0, x), l2] [v0] S h n = mx_ex d 159 2 [l0, some (0, x), l2] [(0, x), v0] S h n) ∧
  (∀ (d : Nat) (b a : Int) (l0 l1 l2 : Option mx_V) (S h : mx_H) (n : Int), mx_ex d 159 2 [l0, l1, l2] [(0, b), (0, a)] S h n = mx_br (a < b) d 159 14 5 [l0, l1, l2] [] S h n) ∧
  (∀ (d : Nat) (x : Int) (l1 l2 : Option mx_V) (S h : mx_H) (n : Int), mx_ex d 159 5 [some (0, x), l1, l2] [] S h n = mx_ex d 159 6 [some (0, x), l1, l2] [(0, x)] S h n) ∧
  (∀ (d : Nat) (x : Int) (l0 l1 : Option mx_V) (v0 : mx_V) (S h : mx_H) (n : Int), mx_ex d 159 6 [l0, l1, some (0, x)] [v0] S h n = mx_ex d 159 7 [l0, l1, some (0, x)] [(0, x), v0] S h n) ∧
  (∀ (d : Nat) (b a : Int) (l0 l1 l2 : Option mx_V) (S h : mx_H) (n : Int), mx_ex d 159 7 [l0, l1, l2] [(0, b), (0, a)] S h n = mx_br (b < a) d 159 14 10 [l0, l1, l2] [] S h n) ∧
  (∀ (d : Nat) (l0 l1 l2 : Option mx_V) (S h : mx_H) (n : Int), mx_ex d 159 10 [l0, l1, l2] [] S h n = mx_ex d 159 11 [l0, l1, l2] [(0, 1)] S h n) ∧
  (∀ (d : Nat) (l0 l1 l2 : Option mx_V) (v0 : mx_V) (S h : mx_H) (n : Int), mx_ex d 159 11 [l0, l1, l2] [v0] S h n = mx_ex d 159 15 [l0, l1, l2] [v0] S h n) ∧
  (∀ (d : Nat) (l0 l1 l2 : Option mx_V) (S h : mx_H) (n : Int), mx_ex d 159 14 [l0, l1, l2] [] S h n = mx_ex d 159 15 [l0, l1, l2] [(0, 0)] S h n) ∧
  (∀ (d : Nat) (x : Int) (l0 l1 l2 : Option mx_V) (S h : mx_H) (n : Int), mx_ex d 159 15 [l0, l1, l2] [(0, x)] S h n = mx_re (0 ≤ x ∧ x ≤ 1) (some (0, x)) S h n) :=
  ⟨by intros; exact rfl,
   by intros; exact eq_ld rfl rfl,
   by intros; exact eq_ld rfl rfl,
   by intros; exact eq_ic2 rfl,
   by intros; exact eq_ld rfl rfl,
   by intros; exact eq_ld rfl rfl,
   by intros; exact eq_ic4 rfl,
   by intros; exact eq_push rfl,
   by intros; exact eq_go rfl,
   by intros; exact eq_push rfl,
   by intros; exact eq_rr rfl⟩
theorem rw_X12_isNote :
  (∀ (d : Nat) (a0 a1 : Int) (S h : mx_H) (n : Int), mx_M d 160 [(2, a0), (0, a1)] S h n = mx_ex d 160 0 [some (2, a0), some (0, a1)] [] S h n) ∧
  (∀ (d : Nat) (x : Int) (l0 : Option mx_V) (S h : mx_H) (n : Int), mx_ex d 160 0 [l0, some (0, x)] [] S h n = mx_ex d 160 1 [l0, some (0, x)] [(0, x)] S h n) ∧
  (∀ (d : Nat) (l0 l1 : Option mx_V) (v0 : mx_V) (S h : mx_H) (n : Int), mx_ex d 160 1 [l0, l1] [v0] S h n = mx_ex d 160 2 [l0, l1] [(0, 0), v0] S h n) ∧
  (∀ (d : Nat) (x : Int) (l1 : Option mx_V) (v0 v1 : mx_V) (S h : mx_H) (n : Int), mx_ex d 160 2 [some (2, x), l1] [v0, v1] S h n = mx_ex d 160 3 [some (2, x), l1] [(2, x), v0, v1] S h n) ∧
  (∀ (d : Nat) (a : Int) (l0 l1 : Option mx_V) (v1 v2 : mx_V) (S h : mx_H) (n : Int), mx_ex d 160 3 [l0, l1] [(2, a), v1, v2] S h n = mx_gd (13 ≤ S a (-2) ∧ S a (-2) ≤ 13) d 160 6 [l0, l1] [(2, S a 0), v1, v2] S h n) ∧
  (∀ (d : Nat) (l0 l1 : Option mx_V) (v0 v1 v2 : mx_V) (S h : mx_H) (n : Int), mx_ex d 160 6 [l0, l1] [v0, v1, v2] S h n = mx_ex d 160 7 [l0, l1] [(0, 0), v0, v1, v2] S h n) ∧
  (∀ (d : Nat) (i a : Int) (l0 l1 : Option mx_V) (v2 v3 : mx_V) (S h : mx_H) (n : Int), mx_ex d 160 7 [l0, l1] [(0, i), (2, a), v2, v3] S h n = mx_gd ((S a (-2) = 20 ∨ S a (-2) = 24) ∧ 0 ≤ i ∧ i < S a (-1)) d 160 8 [l0, l1] [(0, h a i), v2, v3] S h n) ∧
  (∀ (d : Nat) (l0 l1 : Option mx_V) (v0 v1 v2 : mx_V) (S h : mx_H) (n : Int), mx_ex d 160 8 [l0, l1] [v0, v1, v2] S h n = mx_ex d 160 9 [l0, l1] [(0, 1), v0, v1, v2] S h n) ∧
  (∀ (d : Nat) (b a : Int) (l0 l1 : Option mx_V) (v2 v3 : mx_V) (S h : mx_H) (n : Int), mx_ex d 160 9 [l0, l1] [(0, b), (0, a), v2, v3] S h n = mx_ex d 160 10 [l0, l1] [(0, mx_w (a - b)), v2, v3] S h n) ∧
  (∀ (d : Nat) (x0 x1 x2 : Int) (l0 l1 : Option mx_V) (S h : mx_H) (n : Int), mx_ex (d + 1) 160 10 [l0, l1] [(0, x0), (0, x1), (0, x2)] S h n = mx_rt (mx_M d 159 [(0, x2), (0, x1), (0, x0)] S h n) (d + 1) 160 13 [l0, l1] []) ∧
  (∀ (d : Nat) (x : Int) (l0 l1 : Option mx_V) (S h : mx_H) (n : Int), mx_ex d 160 13 [l0, l1] [(0, x)] S h n = mx_re (0 ≤ x ∧ x ≤ 1) (some (0, x)) S h n) :=
  ⟨by intros; exact rfl,
   by intros; exact eq_ld rfl rfl,
   by intros; exact eq_push rfl,
   by intros; exact eq_ld rfl rfl,
   by intros; exact eq_gr rfl,
   by intros; exact eq_push rfl,
   by intros; exact eq_iald rfl,
   by intros; exact eq_push rfl,
   by intros; exact eq_i2 (o := mx_sub) rfl,
   by intros; exact eq_cs rfl (Nat.le_of_ble_eq_true rfl) rfl rfl rfl (Nat.le_of_ble_eq_true rfl),
   by intros; exact eq_rr rfl⟩
theorem rw_X12_isEvening :
  (∀ (d : Nat) (a0 : Int) (S h : mx_H) (n : Int), mx_M d 161 [(0, a0)] S h n = mx_ex d 161 0 [some (0, a0)] [] S h n) ∧
  (∀ (d : Nat) (x : Int) (S h : mx_H) (n : Int), mx_ex d 161 0 [some (0, x)] [] S h n = mx_ex d 161 1 [some (0, x)] [(0, x)] S h n) ∧
  (∀ (d : Nat) (l0 : Option mx_V) (v0 : mx_V) (S h : mx_H) (n : Int), mx_ex d 161 1 [l0] [v0] S h n = mx_ex d 161 2 [l0] [(0, 0), v0] S h n) ∧
  (∀ (d : Nat) (l0 : Option mx_V) (v0 v1 : mx_V) (S h : mx_H) (n : Int), mx_ex d 161 2 [l0] [v0, v1] S h n = mx_ex d 161 3 [l0] [(0, 2), v0, v1] S h n) ∧
  (∀ (d : Nat) (x0 x1 x2 : Int) (l0 : Option mx_V) (S h : mx_H) (n : Int), mx_ex (d + 1) 161 3 [l0] [(0, x0), (0, x1), (0, x2)] S h n = mx_rt (mx_M d 159 [(0, x2), (0, x1), (0, x0)] S h n) (d + 1) 161 6 [l0] []) ∧
  (∀ (d : Nat) (x : Int) (l0 : Option mx_V) (S h : mx_H) (n : Int), mx_ex d 161 6 [l0] [(0, x)] S h n = mx_re (0 ≤ x ∧ x ≤ 1) (some (0, x)) S h n) :=
  ⟨by intros; exact rfl,
   by intros; exact eq_ld rfl rfl,
   by intros; exact eq_push rfl,
   by intros; exact eq_push rfl,
   by intros; exact eq_cs rfl (Nat.le_of_ble_eq_true rfl) rfl rfl rfl (Nat.le_of_ble_eq_true rfl),
   by intros; exact eq_rr rfl⟩
theorem rw_X12_isBase :
  (∀ (d : Nat) (a0 : Int) (S h : mx_H) (n : Int), mx_M d 162 [(0, a0)] S h n = mx_ex d 162 0 [some (0, a0)] [] S h n) ∧
  (∀ (d : Nat) (x : Int) (S h : mx_H) (n : Int), mx_ex d 162 0 [some (0, x)] [] S h n = mx_ex d 162 1 [some (0, x)] [(0, x)] S h n) ∧
  (∀ (d : Nat) (l0 : Option mx_V) (v0 : mx_V) (S h : mx_H) (n : Int), mx_ex d 162 1 [l0] [v0] S h n = mx_ex d 162 2 [l0] [(0, 2), v0] S h n) ∧
  (∀ (d : Nat) (l0 : Option mx_V) (v0 v1 : mx_V) (S h : mx_H) (n : Int), mx_ex d 162 2 [l0] [v0, v1] S h n = mx_ex d 162 4 [l0] [(0, 16), v0, v1] S h n) ∧
  (∀ (d : Nat) (x0 x1 x2 : Int) (l0 : Option mx_V) (S h : mx_H) (n : Int), mx_ex (d + 1) 162 4 [l0] [(0, x0), (0, x1), (0, x2)] S h n = mx_rt (mx_M d 159 [(0, x2), (0, x1), (0, x0)] S h n) (d + 1) 162 7 [l0] []) ∧
  (∀ (d : Nat) (x : Int) (l0 : Option mx_V) (S h : mx_H) (n : Int), mx_ex d 162 7 [l0] [(0, x)] S h n = mx_re (0 ≤ x ∧ x ≤ 1) (some (0, x)) S h n) :=
  ⟨by intros; exact rfl,
   by intros; exact eq_ld rfl rfl,
   by intros; exact eq_push rfl,
   by intros; exact eq_push rfl,
   by intros; exact eq_cs rfl (Nat.le_of_ble_eq_true rfl) rfl rfl rfl (Nat.le_of_ble_eq_true rfl),
   by intros; exact eq_rr rfl⟩
theorem rw_X12_its :
  (∀ (d : Nat) (a0 a1 a2 : Int) (S h : mx_H) (n : Int), mx_M d 163 [(2, a0), (0, a1), (0, a2)] S h n = mx_ex d 163 0 [some (2, a0), some (0, a1), some (0, a2)] [] S h n) ∧
  (∀ (d : Nat) (x : Int) (l1 l2 : Option mx_V) (S h : mx_H) (n : Int), mx_ex d 163 0 [some (2, x), l1, l2] [] S h n = mx_ex d 163 1 [some (2, x), l1, l2] [(2, x)] S h n) ∧
  (∀ (d : Nat) (a : Int) (l0 l1 l2 : Option mx_V) (S h : mx_H) (n : Int), mx_ex d 163 1 [l0, l1, l2] [(2, a)] S h n = mx_gd (13 ≤ S a (-2) ∧ S a (-2) ≤ 13) d 163 4 [l0, l1, l2] [(2, S a 0)] S h n) ∧
  (∀ (d : Nat) (l0 l1 l2 : Option mx_V) (v0 : mx_V) (S h : mx_H) (n : Int), mx_ex d 163 4 [l0, l1, l2] [v0] S h n = mx_ex d 163 6 [l0, l1, l2] [(0, 9), v0] S h n) ∧
  (∀ (d : Nat) (l0 l1 l2 : Option mx_V) (v0 v1 : mx_V) (S h : mx_H) (n : Int), mx_ex d 163 6 [l0, l1, l2] [v0, v1] S h n = mx_ex d 163 8 [l0, l1, l2] [(0, 10), v0, v1] S h n) ∧
  (∀ (d : Nat) (x : Int) (l0 l2 : Option mx_V) (v0 v1 v2 : mx_V) (S h : mx_H) (n : Int), mx_ex d 163 8 [l0, some (0, x), l2] [v0, v1, v2] S h n = mx_ex d 163 9 [l0, some (0, x), l2] [(0, x), v0, v1, v2] S h n) ∧
  (∀ (d : Nat) (b a : Int) (l0 l1 l2 : Option mx_V) (v2 v3 : mx_V) (S h : mx_H) (n : Int), mx_ex d 163 9 [l0, l1, l2] [(0, b), (0, a), v2, v3] S h n = mx_ex d 163 10 [l0, l1, l2] [(0, mx_w (a * b)), v2, v3] S h n) ∧
  (∀ (d : Nat) (b a : Int) (l0 l1 l2 : Option mx_V) (v2 : mx_V) (S h : mx_H) (n : Int), mx_ex d 163 10 [l0, l1, l2] [(0, b), (0, a), v2] S h n = mx_ex d 163 11 [l0, l1, l2] [(0, mx_w (a + b)), v2] S h n) ∧
  (∀ (d : Nat) (x : Int) (l0 l1 : Option mx_V) (v0 v1 : mx_V) (S h : mx_H) (n : Int), mx_ex d 163 11 [l0, l1, some (0, x)] [v0, v1] S h n = mx_ex d 163 12 [l0, l1, some (0, x)] [(0, x), v0, v1] S h n) ∧
  (∀ (d : Nat) (b a : Int) (l0 l1 l2 : Option mx_V) (v2 : mx_V) (S h : mx_H) (n : Int), mx_ex d 163 12 [l0, l1, l2] [(0, b), (0, a), v2] S h n = mx_ex d 163 13 [l0, l1, l2] [(0, mx_w (a + b)), v2] S h n) ∧
  (∀ (d : Nat) (i a : Int) (l0 l1 l2 : Option mx_V) (S h : mx_H) (n : Int), mx_ex d 163 13 [l0, l1, l2] [(0, i), (2, a)] S h n = mx_gd ((S a (-2) = 20 ∨ S a (-2) = 24) ∧ 0 ≤ i ∧ i < S a (-1)) d 163 14 [l0, l1, l2] [(0, h a i)] S h n) ∧
  (∀ (d : Nat) (x : Int) (l0 l1 l2 : Option mx_V) (S h : mx_H) (n : Int), mx_ex d 163 14 [l0, l1, l2] [(0, x)] S h n = some (some (0, x), S, h, n)) :=
  ⟨by intros; exact rfl,
   by intros; exact eq_ld rfl rfl,
   by intros; exact eq_gr rfl,
   by intros; exact eq_push rfl,
   by intros; exact eq_push rfl,
   by intros; exact eq_ld rfl rfl,
   by intros; exact eq_i2 (o := mx_mul) rfl,
   by intros; exact eq_i2 (o := mx_add) rfl,
   by intros; exact eq_ld rfl rfl,
   by intros; exact eq_i2 (o := mx_add) rfl,
   by intros; exact eq_iald rfl,
   by intros; exact eq_ret rfl⟩
theorem rw_X12_of :
  (∀ (d : Nat) (a0 a1 a2 : Int) (S h : mx_H) (n : Int), mx_M d 164 [(2, a0), (0, a1), (0, a2)] S h n = mx_ex d 164 0 [some (2, a0), some (0, a1), some (0, a2)] [] S h n) ∧
  (∀ (d : Nat) (x : Int) (l1 l2 : Option mx_V) (S h : mx_H) (n : Int), mx_ex d 164 0 [some (2, x), l1, l2] [] S h n = mx_ex d 164 1 [some (2, x), l1, l2] [(2, x)] S h n) ∧
  (∀ (d : Nat) (a : Int) (l0 l1 l2 : Option mx_V) (S h : mx_H) (n : Int), mx_ex d 164 1 [l0, l1, l2] [(2, a)] S h n = mx_gd (13 ≤ S a (-2) ∧ S a (-2) ≤ 13) d 164 4 [l0, l1, l2] [(2, S a 0)] S h n) ∧
  (∀ (d : Nat) (l0 l1 l2 : Option mx_V) (v0 : mx_V) (S h : mx_H) (n : Int), mx_ex d 164 4 [l0, l1, l2] [v0] S h n = mx_ex d 164 6 [l0, l1, l2] [(0, 69), v0] S h n) ∧
  (∀ (d : Nat) (l0 l1 l2 : Option mx_V) (v0 v1 : mx_V) (S h : mx_H) (n : Int), mx_ex d 164 6 [l0, l1, l2] [v0, v1] S h n = mx_ex d 164 7 [l0, l1, l2] [(0, 4), v0, v1] S h n) ∧
  (∀ (d : Nat) (x : Int) (l0 l2 : Option mx_V) (v0 v1 v2 : mx_V) (S h : mx_H) (n : Int), mx_ex d 164 7 [l0, some (0, x), l2] [v0, v1, v2] S h n = mx_ex d 164 8 [l0, some (0, x), l2] [(0, x), v0, v1, v2] S h n) ∧
  (∀ (d : Nat) (b a : Int) (l0 l1 l2 : Option mx_V) (v2 v3 : mx_V) (S h : mx_H) (n : Int), mx_ex d 164 8 [l0, l1, l2] [(0, b), (0, a), v2, v3] S h n = mx_ex d 164 9 [l0, l1, l2] [(0, mx_w (a * b)), v2, v3] S h n) ∧
  (∀ (d : Nat) (b a : Int) (l0 l1 l2 : Option mx_V) (v2 : mx_V) (S h : mx_H) (n : Int), mx_ex d 164 9 [l0, l1, l2] [(0, b), (0, a), v2] S h n = mx_ex d 164 10 [l0, l1, l2] [(0, mx_w (a + b)), v2] S h n) ∧
  (∀ (d : Nat) (x : Int) (l0 l1 : Option mx_V) (v0 v1 : mx_V) (S h : mx_H) (n : Int), mx_ex d 164 10 [l0, l1, some (0, x)] [v0, v1] S h n = mx_ex d 164 11 [l0, l1, some (0, x)] [(0, x), v0, v1] S h n) ∧
  (∀ (d : Nat) (b a : Int) (l0 l1 l2 : Option mx_V) (v2 : mx_V) (S h : mx_H) (n : Int), mx_ex d 164 11 [l0, l1, l2] [(0, b), (0, a), v2] S h n = mx_ex d 164 12 [l0, l1, l2] [(0, mx_w (a + b)), v2] S h n) ∧
  (∀ (d : Nat) (i a : Int) (l0 l1 l2 : Option mx_V) (S h : mx_H) (n : Int), mx_ex d 164 12 [l0, l1, l2] [(0, i), (2, a)] S h n = mx_gd ((S a (-2) = 20 ∨ S a (-2) = 24) ∧ 0 ≤ i ∧ i < S a (-1)) d 164 13 [l0, l1, l2] [(0, h a i)] S h n) ∧
  (∀ (d : Nat) (x : Int) (l0 l1 l2 : Option mx_V) (S h : mx_H) (n : Int), mx_ex d 164 13 [l0, l1, l2] [(0, x)] S h n = some (some (0, x), S, h, n)) :=
  ⟨by intros; exact rfl,
   by intros; exact eq_ld rfl rfl,
   by intros; exact eq_gr rfl,
   by intros; exact eq_push rfl,
   by intros; exact eq_push rfl,
   by intros; exact eq_ld rfl rfl,
   by intros; exact eq_i2 (o := mx_mul) rfl,
   by intros; exact eq_i2 (o := mx_add) rfl,
   by intros; exact eq_ld rfl rfl,
   by intros; exact eq_i2 (o := mx_add) rfl,
   by intros; exact eq_iald rfl,
   by intros; exact eq_ret rfl⟩
theorem rh_X12_feed_30 : ∀ (d : Nat) (x : Int) (l0 l1 l2 l3 : Option mx_V) (S h : mx_H) (n : Int), mx_ex d 165 30 [l0, l1, l2, l3, some (0, x)] [] S h n = mx_ex d 165 32 [l0, l1, l2, l3, some (0, x)] [(0, x)] S h n := by intros; exact eq_ld rfl rfl
theorem rw_X12_feed :
  (∀ (d : Nat) (a0 a1 a2 : Int) (S h : mx_H) (n : Int), mx_M d 165 [(2, a0), (1, a1), (0, a2)] S h n = mx_ex d 165 0 [some (2, a0), some (1, a1), none, some (0, a2), none] [] S h n) ∧
  (∀ (d : Nat) (x : Int) (l0 l1 l2 l4 : Option mx_V) (S h : mx_H) (n : Int), mx_ex d 165 0 [l0, l1, l2, some (0, x), l4] [] S h n = mx_ex d 165 1 [l0, l1, l2, some (0, x), l4] [(0, x)] S h n) ∧
  (∀ (d : Nat) (l0 l1 l2 l3 l4 : Option mx_V) (v0 : mx_V) (S h : mx_H) (n : Int), mx_ex d 165 1 [l0, l1, l2, l3, l4] [v0] S h n = mx_ex d 165 2 [l0, l1, l2, l3, l4] [(0, 1), v0] S h n) ∧
  (∀ (d : Nat) (l0 l1 l2 l3 l4 : Option mx_V) (v0 v1 : mx_V) (S h : mx_H) (n : Int), mx_ex d 165 2 [l0, l1, l2, l3, l4] [v0, v1] S h n = mx_ex d 165 4 [l0, l1, l2, l3, l4] [(0, 8), v0, v1] S h n) ∧
  (∀ (d : Nat) (x0 x1 x2 : Int) (l0 l1 l2 l3 l4 : Option mx_V) (S h : mx_H) (n : Int), mx_ex (d + 1) 165 4 [l0, l1, l2, l3, l4] [(0, x0), (0, x1), (0, x2)] S h n = mx_rt (mx_M d 159 [(0, x2), (0, x1), (0, x0)] S h n) (d + 1) 165 7 [l0, l1, l2, l3, l4] []) ∧
  (∀ (d : Nat) (a : Int) (l0 l1 l2 l3 l4 : Option mx_V) (S h : mx_H) (n : Int), mx_ex d 165 7 [l0, l1, l2, l3, l4] [(0, a)] S h n = mx_br (a = 0) d 165 10 12 [l0, l1, l2, l3, l4] [] S h n) ∧
  (∀ (d : Nat) (l0 l1 l2 l3 l4 : Option mx_V) (S h : mx_H) (n : Int), mx_ex d 165 10 [l0, l1, l2, l3, l4] [] S h n = mx_ex d 165 11 [l0, l1, l2, l3, l4] [(0, (-1))] S h n) ∧
  (∀ (d : Nat) (x : Int) (l0 l1 l2 l3 l4 : Option mx_V) (S h : mx_H) (n : Int), mx_ex d 165 11 [l0, l1, l2, l3, l4] [(0, x)] S h n = some (some (0, x), S, h, n)) ∧
  (∀ (d : Nat) (x : Int) (l1 l2 l3 l4 : Option mx_V) (S h : mx_H) (n : Int), mx_ex d 165 12 [some (2, x), l1, l2, l3, l4] [] S h n = mx_ex d 165 13 [some (2, x), l1, l2, l3, l4] [(2, x)] S h n) ∧
  (∀ (d : Nat) (a : Int) (l0 l1 l2 l3 l4 : Option mx_V) (S h : mx_H) (n : Int), mx_ex d 165 13 [l0, l1, l2, l3, l4] [(2, a)] S h n = mx_gd (13 ≤ S a (-2) ∧ S a (-2) ≤ 13) d 165 16 [l0, l1, l2, l3, l4] [(0, h a 5)] S h n) ∧
  (∀ (d : Nat) (x : Int) (l0 l1 l2 l4 : Option mx_V) (v0 : mx_V) (S h : mx_H) (n : Int), mx_ex d 165 16 [l0, l1, l2, some (0, x), l4] [v0] S h n = mx_ex d 165 17 [l0, l1, l2, some (0, x), l4] [(0, x), v0] S h n) ∧
  (∀ (d : Nat) (b a : Int) (l0 l1 l2 l3 l4 : Option mx_V) (S h : mx_H) (n : Int), mx_ex d 165 17 [l0, l1, l2, l3, l4] [(0, b), (0, a)] S h n = mx_ex d 165 18 [l0, l1, l2, l3, l4] [(0, mx_w (a + b))] S h n) ∧
  (∀ (d : Nat) (l0 l1 l2 l3 l4 : Option mx_V) (v0 : mx_V) (S h : mx_H) (n : Int), mx_ex d 165 18 [l0, l1, l2, l3, l4] [v0] S h n = mx_ex d 165 21 [l0, l1, l2, l3, l4] [(0, 200), v0] S h n) ∧
  (∀ (d : Nat) (b a : Int) (l0 l1 l2 l3 l4 : Option mx_V) (S h : mx_H) (n : Int), mx_ex d 165 21 [l0, l1, l2, l3, l4] [(0, b), (0, a)] S h n = mx_br (b < a) d 165 24 27 [l0, l1, l2, l3, l4] [] S h n) ∧
  (∀ (d : Nat) (l0 l1 l2 l3 l4 : Option mx_V) (S h : mx_H) (n : Int), mx_ex d 165 24 [l0, l1, l2, l3, l4] [] S h n = mx_ex d 165 26 [l0, l1, l2, l3, l4] [(0, (-2))] S h n) ∧
  (∀ (d : Nat) (x : Int) (l0 l1 l2 l3 l4 : Option mx_V) (S h : mx_H) (n : Int), mx_ex d 165 26 [l0, l1, l2, l3, l4] [(0, x)] S h n = some (some (0, x), S, h, n)) ∧
  (∀ (d : Nat) (l0 l1 l2 l3 l4 : Option mx_V) (S h : mx_H) (n : Int), mx_ex d 165 27 [l0, l1, l2, l3, l4] [] S h n = mx_ex d 165 28 [l0, l1, l2, l3, l4] [(0, 0)] S h n) ∧
  (∀ (d : Nat) (x : Int) (l0 l1 l2 l3 l4 : Option mx_V) (S h : mx_H) (n : Int), mx_ex d 165 28 [l0, l1, l2, l3, l4] [(0, x)] S h n = mx_ex d 165 30 [l0, l1, l2, mx_nl l3, some (0, x)] [] S h n) ∧
  (∀ (d : Nat) (x : Int) (l0 l1 l2 l4 : Option mx_V) (v0 : mx_V) (S h : mx_H) (n : Int), mx_ex d 165 32 [l0, l1, l2, some (0, x), l4] [v0] S h n = mx_ex d 165 33 [l0, l1, l2, some (0, x), l4] [(0, x), v0] S h n) ∧
  (∀ (d : Nat) (b a : Int) (l0 l1 l2 l3 l4 : Option mx_V) (S h : mx_H) (n : Int), mx_ex d 165 33 [l0, l1, l2, l3, l4] [(0, b), (0, a)] S h n = mx_br (a < b) d 165 36 73 [l0, l1, l2, l3, l4] [] S h n) ∧
  (∀ (d : Nat) (x : Int) (l1 l2 l3 l4 : Option mx_V) (S h : mx_H) (n : Int), mx_ex d 165 36 [some (2, x), l1, l2, l3, l4] [] S h n = mx_ex d 165 37 [some (2, x), l1, l2, l3, l4] [(2, x)] S h n) ∧
  (∀ (d : Nat) (a : Int) (l0 l1 l2 l3 l4 : Option mx_V) (S h : mx_H) (n : Int), mx_ex d 165 37 [l0, l1, l2, l3, l4] [(2, a)] S h n = mx_gd (13 ≤ S a (-2) ∧ S a (-2) ≤ 13) d 165 40 [l0, l1, l2, l3, l4] [(2, S a 4)] S h n) ∧
  (∀ (d : Nat) (x : Int) (l1 l2 l3 l4 : Option mx_V) (v0 : mx_V) (S h : mx_H) (n : Int), mx_ex d 165 40 [some (2, x), l1, l2, l3, l4] [v0] S h n = mx_ex d 165 41 [some (2, x), l1, l2, l3, l4] [(2, x), v0] S h n) ∧
  (∀ (d : Nat) (a : Int) (l0 l1 l2 l3 l4 : Option mx_V) (v1 : mx_V) (S h : mx_H) (n : Int), mx_ex d 165 41 [l0, l1, l2, l3, l4] [(2, a), v1] S h n = mx_gd (13 ≤ S a (-2) ∧ S a (-2) ≤ 13) d 165 44 [l0, l1, l2, l3, l4] [(0, h a 5), v1] S h n) ∧
  (∀ (d : Nat) (x : Int) (l0 l2 l3 l4 : Option mx_V) (v0 v1 : mx_V) (S h : mx_H) (n : Int), mx_ex d 165 44 [l0, some (1, x), l2, l3, l4] [v0, v1] S h n = mx_ex d 165 45 [l0, some (1, x), l2, l3, l4] [(1, x), v0, v1] S h n) ∧
  (∀ (d : Nat) (l0 l1 l2 l3 l4 : Option mx_V) (v0 v1 v2 : mx_V) (S h : mx_H) (n : Int), mx_ex d 165 45 [l0, l1, l2, l3, l4] [v0, v1, v2] S h n = mx_ex d 165 47 [l0, l1, l2, l3, l4] [(0, 8), v0, v1, v2] S h n) ∧
  (∀ (d : Nat) (x : Int) (l0 l1 l2 l3 : Option mx_V) (v0 v1 v2 v3 : mx_V) (S h : mx_H) (n : Int), mx_ex d 165 47 [l0, l1, l2, l3, some (0, x)] [v0, v1, v2, v3] S h n = mx_ex d 165 49 [l0, l1, l2, l3, some (0, x)] [(0, x), v0, v1, v2, v3] S h n) ∧
  (∀ (d : Nat) (b a : Int) (l0 l1 l2 l3 l4 : Option mx_V) (v2 v3 v4 : mx_V) (S h : mx_H) (n : Int), mx_ex d 165 49 [l0, l1, l2, l3, l4] [(0, b), (0, a), v2, v3, v4] S h n = mx_ex d 165 50 [l0, l1, l2, l3, l4] [(0, mx_w (a * b)), v2, v3, v4] S h n) ∧
  (∀ (d : Nat) (b a : Int) (l0 l1 l2 l3 l4 : Option mx_V) (v2 v3 : mx_V) (S h : mx_H) (n : Int), mx_ex d 165 50 [l0, l1, l2, l3, l4] [(0, b), (1, a), v2, v3] S h n = mx_ex d 165 51 [l0, l1, l2, l3, l4] [(1, ml_shr a b), v2, v3] S h n) ∧
  (∀ (d : Nat) (l0 l1 l2 l3 l4 : Option mx_V) (v0 v1 v2 : mx_V) (S h : mx_H) (n : Int), mx_ex d 165 51 [l0, l1, l2, l3, l4] [v0, v1, v2] S h n = mx_ex d 165 54 [l0, l1, l2, l3, l4] [(1, 255), v0, v1, v2] S h n) ∧
  (∀ (d : Nat) (b a : Int) (l0 l1 l2 l3 l4 : Option mx_V) (v2 v3 : mx_V) (S h : mx_H) (n : Int), mx_ex d 165 54 [l0, l1, l2, l3, l4] [(1, b), (1, a), v2, v3] S h n = mx_ex d 165 55 [l0, l1, l2, l3, l4] [(1, ml_and a b), v2, v3] S h n) ∧
  (∀ (d : Nat) (a : Int) (l0 l1 l2 l3 l4 : Option mx_V) (v1 v2 : mx_V) (S h : mx_H) (n : Int), mx_ex d 165 55 [l0, l1, l2, l3, l4] [(1, a), v1, v2] S h n = mx_ex d 165 56 [l0, l1, l2, l3, l4] [(0, mx_w a), v1, v2] S h n) ∧
  (∀ (d : Nat) (v i a : Int) (l0 l1 l2 l3 l4 : Option mx_V) (S h : mx_H) (n : Int), mx_ex d 165 56 [l0, l1, l2, l3, l4] [(0, v), (0, i), (2, a)] S h n = mx_gd (S a (-2) = 20 ∧ 0 ≤ i ∧ i < S a (-1)) d 165 57 [l0, l1, l2, l3, l4] [] S (mx_u h a i v) n) ∧
  (∀ (d : Nat) (x : Int) (l1 l2 l3 l4 : Option mx_V) (S h : mx_H) (n : Int), mx_ex d 165 57 [some (2, x), l1, l2, l3, l4] [] S h n = mx_ex d 165 58 [some (2, x), l1, l2, l3, l4] [(2, x)] S h n) ∧
  (∀ (d : Nat) (a : Int) (l0 l1 l2 l3 l4 : Option mx_V) (S h : mx_H) (n : Int), mx_ex d 165 58 [l0, l1, l2, l3, l4] [(2, a)] S h n = mx_ex d 165 59 [l0, l1, l2, l3, l4] [(2, a), (2, a)] S h n) ∧
  (∀ (d : Nat) (a : Int) (l0 l1 l2 l3 l4 : Option mx_V) (v1 : mx_V) (S h : mx_H) (n : Int), mx_ex d 165 59 [l0, l1, l2, l3, l4] [(2, a), v1] S h n = mx_gd (13 ≤ S a (-2) ∧ S a (-2) ≤ 13) d 165 62 [l0, l1, l2, l3, l4] [(0, h a 5), v1] S h n) ∧
  (∀ (d : Nat) (l0 l1 l2 l3 l4 : Option mx_V) (v0 v1 : mx_V) (S h : mx_H) (n : Int), mx_ex d 165 62 [l0, l1, l2, l3, l4] [v0, v1] S h n = mx_ex d 165 63 [l0, l1, l2, l3, l4] [(0, 1), v0, v1] S h n) ∧
  (∀ (d : Nat) (b a : Int) (l0 l1 l2 l3 l4 : Option mx_V) (v2 : mx_V) (S h : mx_H) (n : Int), mx_ex d 165 63 [l0, l1, l2, l3, l4] [(0, b), (0, a), v2] S h n = mx_ex d 165 64 [l0, l1, l2, l3, l4] [(0, mx_w (a + b)), v2] S h n) ∧
  (∀ (d : Nat) (v a : Int) (l0 l1 l2 l3 l4 : Option mx_V) (S h : mx_H) (n : Int), mx_ex d 165 64 [l0, l1, l2, l3, l4] [(0, v), (2, a)] S h n = mx_gd (13 ≤ S a (-2) ∧ S a (-2) ≤ 13) d 165 67 [l0, l1, l2, l3, l4] [] S (mx_u h a 5 v) n) ∧
  (∀ (d : Nat) (x : Int) (l0 l1 l2 l3 : Option mx_V) (S h : mx_H) (n : Int), mx_ex d 165 67 [l0, l1, l2, l3, some (0, x)] [] S h n = mx_ex d 165 70 [l0, l1, l2, mx_nl l3, some (0, mx_w (x + 1))] [] S h n) ∧
  (∀ (d : Nat) (l0 l1 l2 l3 l4 : Option mx_V) (S h : mx_H) (n : Int), mx_ex d 165 70 [l0, l1, l2, l3, l4] [] S h n = mx_ex d 165 30 [l0, l1, l2, l3, l4] [] S h n) ∧
  (∀ (d : Nat) (x : Int) (l1 l2 l3 l4 : Option mx_V) (S h : mx_H) (n : Int), mx_ex d 165 73 [some (2, x), l1, l2, l3, l4] [] S h n = mx_ex d 165 74 [some (2, x), l1, l2, l3, l4] [(2, x)] S h n) ∧
  (∀ (d : Nat) (a : Int) (l0 l1 l2 l3 l4 : Option mx_V) (S h : mx_H) (n : Int), mx_ex d 165 74 [l0, l1, l2, l3, l4] [(2, a)] S h n = mx_gd (13 ≤ S a (-2) ∧ S a (-2) ≤ 13) d 165 77 [l0, l1, l2, l3, l4] [(0, h a 5)] S h n) ∧
  (∀ (d : Nat) (x : Int) (l0 l1 l2 l3 l4 : Option mx_V) (S h : mx_H) (n : Int), mx_ex d 165 77 [l0, l1, l2, l3, l4] [(0, x)] S h n = some (some (0, x), S, h, n)) :=
  ⟨by intros; exact rfl,
   by intros; exact eq_ld rfl rfl,
   by intros; exact eq_push rfl,
   by intros; exact eq_push rfl,
   by intros; exact eq_cs rfl (Nat.le_of_ble_eq_true rfl) rfl rfl rfl (Nat.le_of_ble_eq_true rfl),
   by intros; exact eq_if1 rfl,
   by intros; exact eq_push rfl,
   by intros; exact eq_ret rfl,
   by intros; exact eq_ld rfl rfl,
   by intros; exact eq_gi rfl,
   by intros; exact eq_ld rfl rfl,
   by intros; exact eq_i2 (o := mx_add) rfl,
   by intros; exact eq_push rfl,
   by intros; exact eq_ic5 rfl,
   by intros; exact eq_push rfl,
   by intros; exact eq_ret rfl,
   by intros; exact eq_push rfl,
   by intros; exact eq_st rfl (by decide) (Nat.le_of_ble_eq_true rfl) rfl,
   by intros; exact eq_ld rfl rfl,
   by intros; exact eq_ic3 rfl,
   by intros; exact eq_ld rfl rfl,
   by intros; exact eq_gr rfl,
   by intros; exact eq_ld rfl rfl,
   by intros; exact eq_gi rfl,
   by intros; exact eq_ld rfl rfl,
   by intros; exact eq_push rfl,
   by intros; exact eq_ld rfl rfl,
   by intros; exact eq_i2 (o := mx_mul) rfl,
   by intros; exact eq_ls (o := ml_shr) rfl,
   by intros; exact eq_push rfl,
   by intros; exact eq_l2 (o := ml_and) rfl,
   by intros; exact eq_l2i rfl,
   by intros; exact eq_iast rfl,
   by intros; exact eq_ld rfl rfl,
   by intros; exact eq_dup rfl (by decide),
   by intros; exact eq_gi rfl,
   by intros; exact eq_push rfl,
   by intros; exact eq_i2 (o := mx_add) rfl,
   by intros; exact eq_pi rfl,
   by intros; exact eq_inc rfl rfl rfl,
   by intros; exact eq_go rfl,
   by intros; exact eq_ld rfl rfl,
   by intros; exact eq_gi rfl,
   by intros; exact eq_ret rfl⟩
theorem rw_X12_byteAt :
  (∀ (d : Nat) (a0 a1 : Int) (S h : mx_H) (n : Int), mx_M d 166 [(2, a0), (0, a1)] S h n = mx_ex d 166 0 [some (2, a0), some (0, a1)] [] S h n) ∧
  (∀ (d : Nat) (x : Int) (l0 : Option mx_V) (S h : mx_H) (n : Int), mx_ex d 166 0 [l0, some (0, x)] [] S h n = mx_ex d 166 1 [l0, some (0, x)] [(0, x)] S h n) ∧
  (∀ (d : Nat) (x : Int) (l1 : Option mx_V) (v0 : mx_V) (S h : mx_H) (n : Int), mx_ex d 166 1 [some (2, x), l1] [v0] S h n = mx_ex d 166 2 [some (2, x), l1] [(2, x), v0] S h n) ∧
  (∀ (d : Nat) (a : Int) (l0 l1 : Option mx_V) (v1 : mx_V) (S h : mx_H) (n : Int), mx_ex d 166 2 [l0, l1] [(2, a), v1] S h n = mx_gd (13 ≤ S a (-2) ∧ S a (-2) ≤ 13) d 166 5 [l0, l1] [(0, h a 5), v1] S h n) ∧
  (∀ (d : Nat) (b a : Int) (l0 l1 : Option mx_V) (S h : mx_H) (n : Int), mx_ex d 166 5 [l0, l1] [(0, b), (0, a)] S h n = mx_br (a < b) d 166 8 17 [l0, l1] [] S h n) ∧
  (∀ (d : Nat) (x : Int) (l1 : Option mx_V) (S h : mx_H) (n : Int), mx_ex d 166 8 [some (2, x), l1] [] S h n = mx_ex d 166 9 [some (2, x), l1] [(2, x)] S h n) ∧
  (∀ (d : Nat) (a : Int) (l0 l1 : Option mx_V) (S h : mx_H) (n : Int), mx_ex d 166 9 [l0, l1] [(2, a)] S h n = mx_gd (13 ≤ S a (-2) ∧ S a (-2) ≤ 13) d 166 12 [l0, l1] [(2, S a 4)] S h n) ∧
  (∀ (d : Nat) (x : Int) (l0 : Option mx_V) (v0 : mx_V) (S h : mx_H) (n : Int), mx_ex d 166 12 [l0, some (0, x)] [v0] S h n = mx_ex d 166 13 [l0, some (0, x)] [(0, x), v0] S h n) ∧
  (∀ (d : Nat) (i a : Int) (l0 l1 : Option mx_V) (S h : mx_H) (n : Int), mx_ex d 166 13 [l0, l1] [(0, i), (2, a)] S h n = mx_gd ((S a (-2) = 20 ∨ S a (-2) = 24) ∧ 0 ≤ i ∧ i < S a (-1)) d 166 14 [l0, l1] [(0, h a i)] S h n) ∧
  (∀ (d : Nat) (l0 l1 : Option mx_V) (v0 : mx_V) (S h : mx_H) (n : Int), mx_ex d 166 14 [l0, l1] [v0] S h n = mx_ex d 166 18 [l0, l1] [v0] S h n) ∧
  (∀ (d : Nat) (l0 l1 : Option mx_V) (S h : mx_H) (n : Int), mx_ex d 166 17 [l0, l1] [] S h n = mx_ex d 166 18 [l0, l1] [(0, (-1))] S h n) ∧
  (∀ (d : Nat) (x : Int) (l0 l1 : Option mx_V) (S h : mx_H) (n : Int), mx_ex d 166 18 [l0, l1] [(0, x)] S h n = some (some (0, x), S, h, n)) :=
  ⟨by intros; exact rfl,
   by intros; exact eq_ld rfl rfl,
   by intros; exact eq_ld rfl rfl,
   by intros; exact eq_gi rfl,
   by intros; exact eq_ic3 rfl,
   by intros; exact eq_ld rfl rfl,
   by intros; exact eq_gr rfl,
   by intros; exact eq_ld rfl rfl,
   by intros; exact eq_iald rfl,
   by intros; exact eq_go rfl,
   by intros; exact eq_push rfl,
   by intros; exact eq_ret rfl⟩
theorem rh_X12_next_0 : ∀ (d : Nat) (x : Int) (l1 : Option mx_V) (S h : mx_H) (n : Int), mx_ex d 167 0 [some (2, x), l1] [] S h n = mx_ex d 167 1 [some (2, x), l1] [(2, x)] S h n := by intros; exact eq_ld rfl rfl
theorem rh_X12_next_71 : ∀ (d : Nat) (x : Int) (l1 : Option mx_V) (S h : mx_H) (n : Int), mx_ex d 167 71 [some (2, x), l1] [] S h n = mx_ex d 167 72 [some (2, x), l1] [(2, x)] S h n := by intros; exact eq_ld rfl rfl
theorem rh_X12_next_123 : ∀ (d : Nat) (x : Int) (l1 : Option mx_V) (S h : mx_H) (n : Int), mx_ex d 167 123 [some (2, x), l1] [] S h n = mx_ex d 167 124 [some (2, x), l1] [(2, x)] S h n := by intros; exact eq_ld rfl rfl
theorem rw_X12_next :
  (∀ (d : Nat) (a0 : Int) (S h : mx_H) (n : Int), mx_M d 167 [(2, a0)] S h n = mx_ex d 167 0 [some (2, a0), none] [] S h n) ∧
  (∀ (d : Nat) (x : Int) (l1 : Option mx_V) (v0 : mx_V) (S h : mx_H) (n : Int), mx_ex d 167 1 [some (2, x), l1] [v0] S h n = mx_ex d 167 2 [some (2, x), l1] [(2, x), v0] S h n) ∧
  (∀ (d : Nat) (a : Int) (l0 l1 : Option mx_V) (v1 : mx_V) (S h : mx_H) (n : Int), mx_ex d 167 2 [l0, l1] [(2, a), v1] S h n = mx_gd (13 ≤ S a (-2) ∧ S a (-2) ≤ 13) d 167 5 [l0, l1] [(0, h a 6), v1] S h n) ∧
  (∀ (d : Nat) (x0 a : Int) (l0 l1 : Option mx_V) (S h : mx_H) (n : Int), mx_ex (d + 1) 167 5 [l0, l1] [(0, x0), (2, a)] S h n = mx_cl (S a (-2) = 13) d 166 [(2, a), (0, x0)] 167 8 [l0, l1] [] S h n) ∧
  (∀ (d : Nat) (l0 l1 : Option mx_V) (v0 : mx_V) (S h : mx_H) (n : Int), mx_ex d 167 8 [l0, l1] [v0] S h n = mx_ex d 167 10 [l0, l1] [(0, 32), v0] S h n) ∧
  (∀ (d : Nat) (b a : Int) (l0 l1 : Option mx_V) (S h : mx_H) (n : Int), mx_ex d 167 10 [l0, l1] [(0, b), (0, a)] S h n = mx_br (a = b) d 167 13 26 [l0, l1] [] S h n) ∧
  (∀ (d : Nat) (x : Int) (l1 : Option mx_V) (S h : mx_H) (n : Int), mx_ex d 167 13 [some (2, x), l1] [] S h n = mx_ex d 167 14 [some (2, x), l1] [(2, x)] S h n) ∧
  (∀ (d : Nat) (a : Int) (l0 l1 : Option mx_V) (S h : mx_H) (n : Int), mx_ex d 167 14 [l0, l1] [(2, a)] S h n = mx_ex d 167 15 [l0, l1] [(2, a), (2, a)] S h n) ∧
  (∀ (d : Nat) (a : Int) (l0 l1 : Option mx_V) (v1 : mx_V) (S h : mx_H) (n : Int), mx_ex d 167 15 [l0, l1] [(2, a), v1] S h n = mx_gd (13 ≤ S a (-2) ∧ S a (-2) ≤ 13) d 167 18 [l0, l1] [(0, h a 6), v1] S h n) ∧
  (∀ (d : Nat) (l0 l1 : Option mx_V) (v0 v1 : mx_V) (S h : mx_H) (n : Int), mx_ex d 167 18 [l0, l1] [v0, v1] S h n = mx_ex d 167 19 [l0, l1] [(0, 1), v0, v1] S h n) ∧
  (∀ (d : Nat) (b a : Int) (l0 l1 : Option mx_V) (v2 : mx_V) (S h : mx_H) (n : Int), mx_ex d 167 19 [l0, l1] [(0, b), (0, a), v2] S h n = mx_ex d 167 20 [l0, l1] [(0, mx_w (a + b)), v2] S h n) ∧
  (∀ (d : Nat) (v a : Int) (l0 l1 : Option mx_V) (S h : mx_H) (n : Int), mx_ex d 167 20 [l0, l1] [(0, v), (2, a)] S h n = mx_gd (13 ≤ S a (-2) ∧ S a (-2) ≤ 13) d 167 23 [l0, l1] [] S (mx_u h a 6 v) n) ∧
  (∀ (d : Nat) (l0 l1 : Option mx_V) (S h : mx_H) (n : Int), mx_ex d 167 23 [l0, l1] [] S h n = mx_ex d 167 0 [l0, l1] [] S h n) ∧
  (∀ (d : Nat) (x : Int) (l1 : Option mx_V) (S h : mx_H) (n : Int), mx_ex d 167 26 [some (2, x), l1] [] S h n = mx_ex d 167 27 [some (2, x), l1] [(2, x)] S h n) ∧
  (∀ (d : Nat) (x : Int) (l1 : Option mx_V) (v0 : mx_V) (S h : mx_H) (n : Int), mx_ex d 167 27 [some (2, x), l1] [v0] S h n = mx_ex d 167 28 [some (2, x), l1] [(2, x), v0] S h n) ∧
  (∀ (d : Nat) (a : Int) (l0 l1 : Option mx_V) (v1 : mx_V) (S h : mx_H) (n : Int), mx_ex d 167 28 [l0, l1] [(2, a), v1] S h n = mx_gd (13 ≤ S a (-2) ∧ S a (-2) ≤ 13) d 167 31 [l0, l1] [(0, h a 6), v1] S h n) ∧
  (∀ (d : Nat) (v a : Int) (l0 l1 : Option mx_V) (S h : mx_H) (n : Int), mx_ex d 167 31 [l0, l1] [(0, v), (2, a)] S h n = mx_gd (13 ≤ S a (-2) ∧ S a (-2) ≤ 13) d 167 34 [l0, l1] [] S (mx_u h a 7 v) n) ∧
  (∀ (d : Nat) (x : Int) (l1 : Option mx_V) (S h : mx_H) (n : Int), mx_ex d 167 34 [some (2, x), l1] [] S h n = mx_ex d 167 35 [some (2, x), l1] [(2, x)] S h n) ∧
  (∀ (d : Nat) (x : Int) (l1 : Option mx_V) (v0 : mx_V) (S h : mx_H) (n : Int), mx_ex d 167 35 [some (2, x), l1] [v0] S h n = mx_ex d 167 36 [some (2, x), l1] [(2, x), v0] S h n) ∧
  (∀ (d : Nat) (a : Int) (l0 l1 : Option mx_V) (v1 : mx_V) (S h : mx_H) (n : Int), mx_ex d 167 36 [l0, l1] [(2, a), v1] S h n = mx_gd (13 ≤ S a (-2) ∧ S a (-2) ≤ 13) d 167 39 [l0, l1] [(0, h a 6), v1] S h n) ∧
  (∀ (d : Nat) (x0 a : Int) (l0 l1 : Option mx_V) (S h : mx_H) (n : Int), mx_ex (d + 1) 167 39 [l0, l1] [(0, x0), (2, a)] S h n = mx_cl (S a (-2) = 13) d 166 [(2, a), (0, x0)] 167 42 [l0, l1] [] S h n) ∧
  (∀ (d : Nat) (x : Int) (l0 l1 : Option mx_V) (S h : mx_H) (n : Int), mx_ex d 167 42 [l0, l1] [(0, x)] S h n = mx_ex d 167 43 [mx_nl l0, some (0, x)] [] S h n) ∧
  (∀ (d : Nat) (x : Int) (l0 : Option mx_V) (S h : mx_H) (n : Int), mx_ex d 167 43 [l0, some (0, x)] [] S h n = mx_ex d 167 44 [l0, some (0, x)] [(0, x)] S h n) ∧
  (∀ (d : Nat) (a : Int) (l0 l1 : Option mx_V) (S h : mx_H) (n : Int), mx_ex d 167 44 [l0, l1] [(0, a)] S h n = mx_br (a < 0) d 167 47 55 [l0, l1] [] S h n) ∧
  (∀ (d : Nat) (x : Int) (l1 : Option mx_V) (S h : mx_H) (n : Int), mx_ex d 167 47 [some (2, x), l1] [] S h n = mx_ex d 167 48 [some (2, x), l1] [(2, x)] S h n) ∧
  (∀ (d : Nat) (l0 l1 : Option mx_V) (v0 : mx_V) (S h : mx_H) (n : Int), mx_ex d 167 48 [l0, l1] [v0] S h n = mx_ex d 167 49 [l0, l1] [(0, 0), v0] S h n) ∧
  (∀ (d : Nat) (v a : Int) (l0 l1 : Option mx_V) (S h : mx_H) (n : Int), mx_ex d 167 49 [l0, l1] [(0, v), (2, a)] S h n = mx_gd (13 ≤ S a (-2) ∧ S a (-2) ≤ 13) d 167 52 [l0, l1] [] S (mx_u h a 8 v) n) ∧
  (∀ (d : Nat) (l0 l1 : Option mx_V) (S h : mx_H) (n : Int), mx_ex d 167 52 [l0, l1] [] S h n = mx_ex d 167 213 [l0, l1] [] S h n) ∧
  (∀ (d : Nat) (x : Int) (l0 : Option mx_V) (S h : mx_H) (n : Int), mx_ex d 167 55 [l0, some (0, x)] [] S h n = mx_ex d 167 56 [l0, some (0, x)] [(0, x)] S h n) ∧
  (∀ (d : Nat) (l0 l1 : Option mx_V) (v0 : mx_V) (S h : mx_H) (n : Int), mx_ex d 167 56 [l0, l1] [v0] S h n = mx_ex d 167 58 [l0, l1] [(0, 97), v0] S h n) ∧
  (∀ (d : Nat) (l0 l1 : Option mx_V) (v0 v1 : mx_V) (S h : mx_H) (n : Int), mx_ex d 167 58 [l0, l1] [v0, v1] S h n = mx_ex d 167 60 [l0, l1] [(0, 122), v0, v1] S h n) ∧
  (∀ (d : Nat) (x0 x1 x2 : Int) (l0 l1 : Option mx_V) (S h : mx_H) (n : Int), mx_ex (d + 1) 167 60 [l0, l1] [(0, x0), (0, x1), (0, x2)] S h n = mx_rt (mx_M d 159 [(0, x2), (0, x1), (0, x0)] S h n) (d + 1) 167 63 [l0, l1] []) ∧
  (∀ (d : Nat) (a : Int) (l0 l1 : Option mx_V) (S h : mx_H) (n : Int), mx_ex d 167 63 [l0, l1] [(0, a)] S h n = mx_br (a = 0) d 167 102 66 [l0, l1] [] S h n) ∧
  (∀ (d : Nat) (x : Int) (l1 : Option mx_V) (S h : mx_H) (n : Int), mx_ex d 167 66 [some (2, x), l1] [] S h n = mx_ex d 167 67 [some (2, x), l1] [(2, x)] S h n) ∧
  (∀ (d : Nat) (l0 l1 : Option mx_V) (v0 : mx_V) (S h : mx_H) (n : Int), mx_ex d 167 67 [l0, l1] [v0] S h n = mx_ex d 167 68 [l0, l1] [(0, 1), v0] S h n) ∧
  (∀ (d : Nat) (v a : Int) (l0 l1 : Option mx_V) (S h : mx_H) (n : Int), mx_ex d 167 68 [l0, l1] [(0, v), (2, a)] S h n = mx_gd (13 ≤ S a (-2) ∧ S a (-2) ≤ 13) d 167 71 [l0, l1] [] S (mx_u h a 8 v) n) ∧
  (∀ (d : Nat) (x : Int) (l1 : Option mx_V) (v0 : mx_V) (S h : mx_H) (n : Int), mx_ex d 167 72 [some (2, x), l1] [v0] S h n = mx_ex d 167 73 [some (2, x), l1] [(2, x), v0] S h n) ∧
  (∀ (d : Nat) (a : Int) (l0 l1 : Option mx_V) (v1 : mx_V) (S h : mx_H) (n : Int), mx_ex d 167 73 [l0, l1] [(2, a), v1] S h n = mx_gd (13 ≤ S a (-2) ∧ S a (-2) ≤ 13) d 167 76 [l0, l1] [(0, h a 6), v1] S h n) ∧
  (∀ (d : Nat) (x0 a : Int) (l0 l1 : Option mx_V) (S h : mx_H) (n : Int), mx_ex (d + 1) 167 76 [l0, l1] [(0, x0), (2, a)] S h n = mx_cl (S a (-2) = 13) d 166 [(2, a), (0, x0)] 167 79 [l0, l1] [] S h n) ∧
  (∀ (d : Nat) (l0 l1 : Option mx_V) (v0 : mx_V) (S h : mx_H) (n : Int), mx_ex d 167 79 [l0, l1] [v0] S h n = mx_ex d 167 81 [l0, l1] [(0, 97), v0] S h n) ∧
  (∀ (d : Nat) (l0 l1 : Option mx_V) (v0 v1 : mx_V) (S h : mx_H) (n : Int), mx_ex d 167 81 [l0, l1] [v0, v1] S h n = mx_ex d 167 83 [l0, l1] [(0, 122), v0, v1] S h n) ∧
  (∀ (d : Nat) (x0 x1 x2 : Int) (l0 l1 : Option mx_V) (S h : mx_H) (n : Int), mx_ex (d + 1) 167 83 [l0, l1] [(0, x0), (0, x1), (0, x2)] S h n = mx_rt (mx_M d 159 [(0, x2), (0, x1), (0, x0)] S h n) (d + 1) 167 86 [l0, l1] []) ∧
  (∀ (d : Nat) (a : Int) (l0 l1 : Option mx_V) (S h : mx_H) (n : Int), mx_ex d 167 86 [l0, l1] [(0, a)] S h n = mx_br (a = 0) d 167 213 89 [l0, l1] [] S h n) ∧
  (∀ (d : Nat) (x : Int) (l1 : Option mx_V) (S h : mx_H) (n : Int), mx_ex d 167 89 [some (2, x), l1] [] S h n = mx_ex d 167 90 [some (2, x), l1] [(2, x)] S h n) ∧
  (∀ (d : Nat) (a : Int) (l0 l1 : Option mx_V) (S h : mx_H) (n : Int), mx_ex d 167 90 [l0, l1] [(2, a)] S h n = mx_ex d 167 91 [l0, l1] [(2, a), (2, a)] S h n) ∧
  (∀ (d : Nat) (a : Int) (l0 l1 : Option mx_V) (v1 : mx_V) (S h : mx_H) (n : Int), mx_ex d 167 91 [l0, l1] [(2, a), v1] S h n = mx_gd (13 ≤ S a (-2) ∧ S a (-2) ≤ 13) d 167 94 [l0, l1] [(0, h a 6), v1] S h n) ∧
  (∀ (d : Nat) (l0 l1 : Option mx_V) (v0 v1 : mx_V) (S h : mx_H) (n : Int), mx_ex d 167 94 [l0, l1] [v0, v1] S h n = mx_ex d 167 95 [l0, l1] [(0, 1), v0, v1] S h n) ∧
  (∀ (d : Nat) (b a : Int) (l0 l1 : Option mx_V) (v2 : mx_V) (S h : mx_H) (n : Int), mx_ex d 167 95 [l0, l1] [(0, b), (0, a), v2] S h n = mx_ex d 167 96 [l0, l1] [(0, mx_w (a + b)), v2] S h n) ∧
  (∀ (d : Nat) (v a : Int) (l0 l1 : Option mx_V) (S h : mx_H) (n : Int), mx_ex d 167 96 [l0, l1] [(0, v), (2, a)] S h n = mx_gd (13 ≤ S a (-2) ∧ S a (-2) ≤ 13) d 167 99 [l0, l1] [] S (mx_u h a 6 v) n) ∧
  (∀ (d : Nat) (l0 l1 : Option mx_V) (S h : mx_H) (n : Int), mx_ex d 167 99 [l0, l1] [] S h n = mx_ex d 167 71 [l0, l1] [] S h n) ∧
  (∀ (d : Nat) (x : Int) (l0 : Option mx_V) (S h : mx_H) (n : Int), mx_ex d 167 102 [l0, some (0, x)] [] S h n = mx_ex d 167 103 [l0, some (0, x)] [(0, x)] S h n) ∧
  (∀ (d : Nat) (l0 l1 : Option mx_V) (v0 : mx_V) (S h : mx_H) (n : Int), mx_ex d 167 103 [l0, l1] [v0] S h n = mx_ex d 167 105 [l0, l1] [(0, 48), v0] S h n) ∧
  (∀ (d : Nat) (l0 l1 : Option mx_V) (v0 v1 : mx_V) (S h : mx_H) (n : Int), mx_ex d 167 105 [l0, l1] [v0, v1] S h n = mx_ex d 167 107 [l0, l1] [(0, 57), v0, v1] S h n) ∧
  (∀ (d : Nat) (x0 x1 x2 : Int) (l0 l1 : Option mx_V) (S h : mx_H) (n : Int), mx_ex (d + 1) 167 107 [l0, l1] [(0, x0), (0, x1), (0, x2)] S h n = mx_rt (mx_M d 159 [(0, x2), (0, x1), (0, x0)] S h n) (d + 1) 167 110 [l0, l1] []) ∧
  (∀ (d : Nat) (a : Int) (l0 l1 : Option mx_V) (S h : mx_H) (n : Int), mx_ex d 167 110 [l0, l1] [(0, a)] S h n = mx_br (a = 0) d 167 196 113 [l0, l1] [] S h n) ∧
  (∀ (d : Nat) (x : Int) (l1 : Option mx_V) (S h : mx_H) (n : Int), mx_ex d 167 113 [some (2, x), l1] [] S h n = mx_ex d 167 114 [some (2, x), l1] [(2, x)] S h n) ∧
  (∀ (d : Nat) (l0 l1 : Option mx_V) (v0 : mx_V) (S h : mx_H) (n : Int), mx_ex d 167 114 [l0, l1] [v0] S h n = mx_ex d 167 115 [l0, l1] [(0, 2), v0] S h n) ∧
  (∀ (d : Nat) (v a : Int) (l0 l1 : Option mx_V) (S h : mx_H) (n : Int), mx_ex d 167 115 [l0, l1] [(0, v), (2, a)] S h n = mx_gd (13 ≤ S a (-2) ∧ S a (-2) ≤ 13) d 167 118 [l0, l1] [] S (mx_u h a 8 v) n) ∧
  (∀ (d : Nat) (x : Int) (l1 : Option mx_V) (S h : mx_H) (n : Int), mx_ex d 167 118 [some (2, x), l1] [] S h n = mx_ex d 167 119 [some (2, x), l1] [(2, x)] S h n) ∧
  (∀ (d : Nat) (l0 l1 : Option mx_V) (v0 : mx_V) (S h : mx_H) (n : Int), mx_ex d 167 119 [l0, l1] [v0] S h n = mx_ex d 167 120 [l0, l1] [(0, 0), v0] S h n) ∧
  (∀ (d : Nat) (v a : Int) (l0 l1 : Option mx_V) (S h : mx_H) (n : Int), mx_ex d 167 120 [l0, l1] [(0, v), (2, a)] S h n = mx_gd (13 ≤ S a (-2) ∧ S a (-2) ≤ 13) d 167 123 [l0, l1] [] S (mx_u h a 9 v) n) ∧
  (∀ (d : Nat) (x : Int) (l1 : Option mx_V) (v0 : mx_V) (S h : mx_H) (n : Int), mx_ex d 167 124 [some (2, x), l1] [v0] S h n = mx_ex d 167 125 [some (2, x), l1] [(2, x), v0] S h n) ∧
  (∀ (d : Nat) (a : Int) (l0 l1 : Option mx_V) (v1 : mx_V) (S h : mx_H) (n : Int), mx_ex d 167 125 [l0, l1] [(2, a), v1] S h n = mx_gd (13 ≤ S a (-2) ∧ S a (-2) ≤ 13) d 167 128 [l0, l1] [(0, h a 6), v1] S h n) ∧
  (∀ (d : Nat) (x0 a : Int) (l0 l1 : Option mx_V) (S h : mx_H) (n : Int), mx_ex (d + 1) 167 128 [l0, l1] [(0, x0), (2, a)] S h n = mx_cl (S a (-2) = 13) d 166 [(2, a), (0, x0)] 167 131 [l0, l1] [] S h n) ∧
  (∀ (d : Nat) (l0 l1 : Option mx_V) (v0 : mx_V) (S h : mx_H) (n : Int), mx_ex d 167 131 [l0, l1] [v0] S h n = mx_ex d 167 133 [l0, l1] [(0, 48), v0] S h n) ∧
  (∀ (d : Nat) (l0 l1 : Option mx_V) (v0 v1 : mx_V) (S h : mx_H) (n : Int), mx_ex d 167 133 [l0, l1] [v0, v1] S h n = mx_ex d 167 135 [l0, l1] [(0, 57), v0, v1] S h n) ∧
  (∀ (d : Nat) (x0 x1 x2 : Int) (l0 l1 : Option mx_V) (S h : mx_H) (n : Int), mx_ex (d + 1) 167 135 [l0, l1] [(0, x0), (0, x1), (0, x2)] S h n = mx_rt (mx_M d 159 [(0, x2), (0, x1), (0, x0)] S h n) (d + 1) 167 138 [l0, l1] []) ∧
  (∀ (d : Nat) (a : Int) (l0 l1 : Option mx_V) (S h : mx_H) (n : Int), mx_ex d 167 138 [l0, l1] [(0, a)] S h n = mx_br (a = 0) d 167 213 141 [l0, l1] [] S h n) ∧
  (∀ (d : Nat) (x : Int) (l1 : Option mx_V) (S h : mx_H) (n : Int), mx_ex d 167 141 [some (2, x), l1] [] S h n = mx_ex d 167 142 [some (2, x), l1] [(2, x)] S h n) ∧
  (∀ (d : Nat) (x : Int) (l1 : Option mx_V) (v0 : mx_V) (S h : mx_H) (n : Int), mx_ex d 167 142 [some (2, x), l1] [v0] S h n = mx_ex d 167 143 [some (2, x), l1] [(2, x), v0] S h n) :=
  ⟨by intros; exact rfl,
   by intros; exact eq_ld rfl rfl,
   by intros; exact eq_gi rfl,
   by intros; exact eq_cv rfl (Nat.le_of_ble_eq_true rfl) rfl rfl rfl (Nat.le_of_ble_eq_true rfl),
   by intros; exact eq_push rfl,
   by intros; exact eq_ic1 rfl,
   by intros; exact eq_ld rfl rfl,
   by intros; exact eq_dup rfl (by decide),
   by intros; exact eq_gi rfl,
   by intros; exact eq_push rfl,
   by intros; exact eq_i2 (o := mx_add) rfl,
   by intros; exact eq_pi rfl,
   by intros; exact eq_go rfl,
   by intros; exact eq_ld rfl rfl,
   by intros; exact eq_ld rfl rfl,
   by intros; exact eq_gi rfl,
   by intros; exact eq_pi rfl,
   by intros; exact eq_ld rfl rfl,
   by intros; exact eq_ld rfl rfl,
   by intros; exact eq_gi rfl,
   by intros; exact eq_cv rfl (Nat.le_of_ble_eq_true rfl) rfl rfl rfl (Nat.le_of_ble_eq_true rfl),
   by intros; exact eq_st rfl (by decide) (Nat.le_of_ble_eq_true rfl) rfl,
   by intros; exact eq_ld rfl rfl,
   by intros; exact eq_if3 rfl,
   by intros; exact eq_ld rfl rfl,
   by intros; exact eq_push rfl,
   by intros; exact eq_pi rfl,
   by intros; exact eq_go rfl,
   by intros; exact eq_ld rfl rfl,
   by intros; exact eq_push rfl,
   by intros; exact eq_push rfl,
   by intros; exact eq_cs rfl (Nat.le_of_ble_eq_true rfl) rfl rfl rfl (Nat.le_of_ble_eq_true rfl),
   by intros; exact eq_if0 rfl,
   by intros; exact eq_ld rfl rfl,
   by intros; exact eq_push rfl,
   by intros; exact eq_pi rfl,
   by intros; exact eq_ld rfl rfl,
   by intros; exact eq_gi rfl,
   by intros; exact eq_cv rfl (Nat.le_of_ble_eq_true rfl) rfl rfl rfl (Nat.le_of_ble_eq_true rfl),
   by intros; exact eq_push rfl,
   by intros; exact eq_push rfl,
   by intros; exact eq_cs rfl (Nat.le_of_ble_eq_true rfl) rfl rfl rfl (Nat.le_of_ble_eq_true rfl),
   by intros; exact eq_if0 rfl,
   by intros; exact eq_ld rfl rfl,
   by intros; exact eq_dup rfl (by decide),
   by intros; exact eq_gi rfl,
   by intros; exact eq_push rfl,
   by intros; exact eq_i2 (o := mx_add) rfl,
   by intros; exact eq_pi rfl,
   by intros; exact eq_go rfl,
   by intros; exact eq_ld rfl rfl,
   by intros; exact eq_push rfl,
   by intros; exact eq_push rfl,
   by intros; exact eq_cs rfl (Nat.le_of_ble_eq_true rfl) rfl rfl rfl (Nat.le_of_ble_eq_true rfl),
   by intros; exact eq_if0 rfl,
   by intros; exact eq_ld rfl rfl,
   by intros; exact eq_push rfl,
   by intros; exact eq_pi rfl,
   by intros; exact eq_ld rfl rfl,
   by intros; exact eq_push rfl,
   by intros; exact eq_pi rfl,
   by intros; exact eq_ld rfl rfl,
   by intros; exact eq_gi rfl,
   by intros; exact eq_cv rfl (Nat.le_of_ble_eq_true rfl) rfl rfl rfl (Nat.le_of_ble_eq_true rfl),
   by intros; exact eq_push rfl,
   by intros; exact eq_push rfl,
   by intros; exact eq_cs rfl (Nat.le_of_ble_eq_true rfl) rfl rfl rfl (Nat.le_of_ble_eq_true rfl),
   by intros; exact eq_if0 rfl,
   by intros; exact eq_ld rfl rfl,
   by intros; exact eq_ld rfl rfl⟩
theorem rw_X12_next_1 :
  (∀ (d : Nat) (a : Int) (l0 l1 : Option mx_V) (v1 : mx_V) (S h : mx_H) (n : Int), mx_ex d 167 143 [l0, l1] [(2, a), v1] S h n = mx_gd (13 ≤ S a (-2) ∧ S a (-2) ≤ 13) d 167 146 [l0, l1] [(0, h a 6), v1] S h n) ∧
  (∀ (d : Nat) (x : Int) (l1 : Option mx_V) (v0 v1 : mx_V) (S h : mx_H) (n : Int), mx_ex d 167 146 [some (2, x), l1] [v0, v1] S h n = mx_ex d 167 147 [some (2, x), l1] [(2, x), v0, v1] S h n) ∧
  (∀ (d : Nat) (a : Int) (l0 l1 : Option mx_V) (v1 v2 : mx_V) (S h : mx_H) (n : Int), mx_ex d 167 147 [l0, l1] [(2, a), v1, v2] S h n = mx_gd (13 ≤ S a (-2) ∧ S a (-2) ≤ 13) d 167 150 [l0, l1] [(0, h a 7), v1, v2] S h n) ∧
  (∀ (d : Nat) (b a : Int) (l0 l1 : Option mx_V) (v2 : mx_V) (S h : mx_H) (n : Int), mx_ex d 167 150 [l0, l1] [(0, b), (0, a), v2] S h n = mx_ex d 167 151 [l0, l1] [(0, mx_w (a - b)), v2] S h n) ∧
  (∀ (d : Nat) (l0 l1 : Option mx_V) (v0 v1 : mx_V) (S h : mx_H) (n : Int), mx_ex d 167 151 [l0, l1] [v0, v1] S h n = mx_ex d 167 152 [l0, l1] [(0, 1), v0, v1] S h n) ∧
  (∀ (d : Nat) (b a : Int) (l0 l1 : Option mx_V) (v2 : mx_V) (S h : mx_H) (n : Int), mx_ex d 167 152 [l0, l1] [(0, b), (0, a), v2] S h n = mx_br (b < a) d 167 155 161 [l0, l1] [v2] S h n) ∧
  (∀ (d : Nat) (l0 l1 : Option mx_V) (v0 : mx_V) (S h : mx_H) (n : Int), mx_ex d 167 155 [l0, l1] [v0] S h n = mx_ex d 167 158 [l0, l1] [(0, 999), v0] S h n) ∧
  (∀ (d : Nat) (l0 l1 : Option mx_V) (v0 v1 : mx_V) (S h : mx_H) (n : Int), mx_ex d 167 158 [l0, l1] [v0, v1] S h n = mx_ex d 167 180 [l0, l1] [v0, v1] S h n) ∧
  (∀ (d : Nat) (l0 l1 : Option mx_V) (v0 : mx_V) (S h : mx_H) (n : Int), mx_ex d 167 161 [l0, l1] [v0] S h n = mx_ex d 167 163 [l0, l1] [(0, 10), v0] S h n) ∧
  (∀ (d : Nat) (x : Int) (l1 : Option mx_V) (v0 v1 : mx_V) (S h : mx_H) (n : Int), mx_ex d 167 163 [some (2, x), l1] [v0, v1] S h n = mx_ex d 167 164 [some (2, x), l1] [(2, x), v0, v1] S h n) ∧
  (∀ (d : Nat) (a : Int) (l0 l1 : Option mx_V) (v1 v2 : mx_V) (S h : mx_H) (n : Int), mx_ex d 167 164 [l0, l1] [(2, a), v1, v2] S h n = mx_gd (13 ≤ S a (-2) ∧ S a (-2) ≤ 13) d 167 167 [l0, l1] [(0, h a 9), v1, v2] S h n) ∧
  (∀ (d : Nat) (b a : Int) (l0 l1 : Option mx_V) (v2 : mx_V) (S h : mx_H) (n : Int), mx_ex d 167 167 [l0, l1] [(0, b), (0, a), v2] S h n = mx_ex d 167 168 [l0, l1] [(0, mx_w (a * b)), v2] S h n) ∧
  (∀ (d : Nat) (x : Int) (l1 : Option mx_V) (v0 v1 : mx_V) (S h : mx_H) (n : Int), mx_ex d 167 168 [some (2, x), l1] [v0, v1] S h n = mx_ex d 167 169 [some (2, x), l1] [(2, x), v0, v1] S h n) ∧
  (∀ (d : Nat) (x : Int) (l1 : Option mx_V) (v0 v1 v2 : mx_V) (S h : mx_H) (n : Int), mx_ex d 167 169 [some (2, x), l1] [v0, v1, v2] S h n = mx_ex d 167 170 [some (2, x), l1] [(2, x), v0, v1, v2] S h n) ∧
  (∀ (d : Nat) (a : Int) (l0 l1 : Option mx_V) (v1 v2 v3 : mx_V) (S h : mx_H) (n : Int), mx_ex d 167 170 [l0, l1] [(2, a), v1, v2, v3] S h n = mx_gd (13 ≤ S a (-2) ∧ S a (-2) ≤ 13) d 167 173 [l0, l1] [(0, h a 6), v1, v2, v3] S h n) ∧
  (∀ (d : Nat) (x0 a : Int) (l0 l1 : Option mx_V) (v2 v3 : mx_V) (S h : mx_H) (n : Int), mx_ex (d + 1) 167 173 [l0, l1] [(0, x0), (2, a), v2, v3] S h n = mx_cl (S a (-2) = 13) d 166 [(2, a), (0, x0)] 167 176 [l0, l1] [v2, v3] S h n) ∧
  (∀ (d : Nat) (b a : Int) (l0 l1 : Option mx_V) (v2 : mx_V) (S h : mx_H) (n : Int), mx_ex d 167 176 [l0, l1] [(0, b), (0, a), v2] S h n = mx_ex d 167 177 [l0, l1] [(0, mx_w (a + b)), v2] S h n) ∧
  (∀ (d : Nat) (l0 l1 : Option mx_V) (v0 v1 : mx_V) (S h : mx_H) (n : Int), mx_ex d 167 177 [l0, l1] [v0, v1] S h n = mx_ex d 167 179 [l0, l1] [(0, 48), v0, v1] S h n) ∧
  (∀ (d : Nat) (b a : Int) (l0 l1 : Option mx_V) (v2 : mx_V) (S h : mx_H) (n : Int), mx_ex d 167 179 [l0, l1] [(0, b), (0, a), v2] S h n = mx_ex d 167 180 [l0, l1] [(0, mx_w (a - b)), v2] S h n) ∧
  (∀ (d : Nat) (v a : Int) (l0 l1 : Option mx_V) (S h : mx_H) (n : Int), mx_ex d 167 180 [l0, l1] [(0, v), (2, a)] S h n = mx_gd (13 ≤ S a (-2) ∧ S a (-2) ≤ 13) d 167 183 [l0, l1] [] S (mx_u h a 9 v) n) ∧
  (∀ (d : Nat) (x : Int) (l1 : Option mx_V) (S h : mx_H) (n : Int), mx_ex d 167 183 [some (2, x), l1] [] S h n = mx_ex d 167 184 [some (2, x), l1] [(2, x)] S h n) ∧
  (∀ (d : Nat) (a : Int) (l0 l1 : Option mx_V) (S h : mx_H) (n : Int), mx_ex d 167 184 [l0, l1] [(2, a)] S h n = mx_ex d 167 185 [l0, l1] [(2, a), (2, a)] S h n) ∧
  (∀ (d : Nat) (a : Int) (l0 l1 : Option mx_V) (v1 : mx_V) (S h : mx_H) (n : Int), mx_ex d 167 185 [l0, l1] [(2, a), v1] S h n = mx_gd (13 ≤ S a (-2) ∧ S a (-2) ≤ 13) d 167 188 [l0, l1] [(0, h a 6), v1] S h n) ∧
  (∀ (d : Nat) (l0 l1 : Option mx_V) (v0 v1 : mx_V) (S h : mx_H) (n : Int), mx_ex d 167 188 [l0, l1] [v0, v1] S h n = mx_ex d 167 189 [l0, l1] [(0, 1), v0, v1] S h n) ∧
  (∀ (d : Nat) (b a : Int) (l0 l1 : Option mx_V) (v2 : mx_V) (S h : mx_H) (n : Int), mx_ex d 167 189 [l0, l1] [(0, b), (0, a), v2] S h n = mx_ex d 167 190 [l0, l1] [(0, mx_w (a + b)), v2] S h n) ∧
  (∀ (d : Nat) (v a : Int) (l0 l1 : Option mx_V) (S h : mx_H) (n : Int), mx_ex d 167 190 [l0, l1] [(0, v), (2, a)] S h n = mx_gd (13 ≤ S a (-2) ∧ S a (-2) ≤ 13) d 167 193 [l0, l1] [] S (mx_u h a 6 v) n) ∧
  (∀ (d : Nat) (l0 l1 : Option mx_V) (S h : mx_H) (n : Int), mx_ex d 167 193 [l0, l1] [] S h n = mx_ex d 167 123 [l0, l1] [] S h n) ∧
  (∀ (d : Nat) (x : Int) (l1 : Option mx_V) (S h : mx_H) (n : Int), mx_ex d 167 196 [some (2, x), l1] [] S h n = mx_ex d 167 197 [some (2, x), l1] [(2, x)] S h n) ∧
  (∀ (d : Nat) (l0 l1 : Option mx_V) (v0 : mx_V) (S h : mx_H) (n : Int), mx_ex d 167 197 [l0, l1] [v0] S h n = mx_ex d 167 198 [l0, l1] [(0, 3), v0] S h n) ∧
  (∀ (d : Nat) (x : Int) (l0 : Option mx_V) (v0 v1 : mx_V) (S h : mx_H) (n : Int), mx_ex d 167 198 [l0, some (0, x)] [v0, v1] S h n = mx_ex d 167 199 [l0, some (0, x)] [(0, x), v0, v1] S h n) ∧
  (∀ (d : Nat) (b a : Int) (l0 l1 : Option mx_V) (v2 : mx_V) (S h : mx_H) (n : Int), mx_ex d 167 199 [l0, l1] [(0, b), (0, a), v2] S h n = mx_ex d 167 200 [l0, l1] [(0, mx_w (a + b)), v2] S h n) ∧
  (∀ (d : Nat) (v a : Int) (l0 l1 : Option mx_V) (S h : mx_H) (n : Int), mx_ex d 167 200 [l0, l1] [(0, v), (2, a)] S h n = mx_gd (13 ≤ S a (-2) ∧ S a (-2) ≤ 13) d 167 203 [l0, l1] [] S (mx_u h a 8 v) n) ∧
  (∀ (d : Nat) (x : Int) (l1 : Option mx_V) (S h : mx_H) (n : Int), mx_ex d 167 203 [some (2, x), l1] [] S h n = mx_ex d 167 204 [some (2, x), l1] [(2, x)] S h n) ∧
  (∀ (d : Nat) (a : Int) (l0 l1 : Option mx_V) (S h : mx_H) (n : Int), mx_ex d 167 204 [l0, l1] [(2, a)] S h n = mx_ex d 167 205 [l0, l1] [(2, a), (2, a)] S h n) ∧
  (∀ (d : Nat) (a : Int) (l0 l1 : Option mx_V) (v1 : mx_V) (S h : mx_H) (n : Int), mx_ex d 167 205 [l0, l1] [(2, a), v1] S h n = mx_gd (13 ≤ S a (-2) ∧ S a (-2) ≤ 13) d 167 208 [l0, l1] [(0, h a 6), v1] S h n) ∧
  (∀ (d : Nat) (l0 l1 : Option mx_V) (v0 v1 : mx_V) (S h : mx_H) (n : Int), mx_ex d 167 208 [l0, l1] [v0, v1] S h n = mx_ex d 167 209 [l0, l1] [(0, 1), v0, v1] S h n) ∧
  (∀ (d : Nat) (b a : Int) (l0 l1 : Option mx_V) (v2 : mx_V) (S h : mx_H) (n : Int), mx_ex d 167 209 [l0, l1] [(0, b), (0, a), v2] S h n = mx_ex d 167 210 [l0, l1] [(0, mx_w (a + b)), v2] S h n) ∧
  (∀ (d : Nat) (v a : Int) (l0 l1 : Option mx_V) (S h : mx_H) (n : Int), mx_ex d 167 210 [l0, l1] [(0, v), (2, a)] S h n = mx_gd (13 ≤ S a (-2) ∧ S a (-2) ≤ 13) d 167 213 [l0, l1] [] S (mx_u h a 6 v) n) ∧
  (∀ (d : Nat) (l0 l1 : Option mx_V) (S h : mx_H) (n : Int), mx_ex d 167 213 [l0, l1] [] S h n = some (none, S, h, n)) :=
  ⟨by intros; exact eq_gi rfl,
   by intros; exact eq_ld rfl rfl,
   by intros; exact eq_gi rfl,
   by intros; exact eq_i2 (o := mx_sub) rfl,
   by intros; exact eq_push rfl,
   by intros; exact eq_ic5 rfl,
   by intros; exact eq_push rfl,
   by intros; exact eq_go rfl,
   by intros; exact eq_push rfl,
   by intros; exact eq_ld rfl rfl,
   by intros; exact eq_gi rfl,
   by intros; exact eq_i2 (o := mx_mul) rfl,
   by intros; exact eq_ld rfl rfl,
   by intros; exact eq_ld rfl rfl,
   by intros; exact eq_gi rfl,
   by intros; exact eq_cv rfl (Nat.le_of_ble_eq_true rfl) rfl rfl rfl (Nat.le_of_ble_eq_true rfl),
   by intros; exact eq_i2 (o := mx_add) rfl,
   by intros; exact eq_push rfl,
   by intros; exact eq_i2 (o := mx_sub) rfl,
   by intros; exact eq_pi rfl,
   by intros; exact eq_ld rfl rfl,
   by intros; exact eq_dup rfl (by decide),
   by intros; exact eq_gi rfl,
   by intros; exact eq_push rfl,
   by intros; exact eq_i2 (o := mx_add) rfl,
   by intros; exact eq_pi rfl,
   by intros; exact eq_go rfl,
   by intros; exact eq_ld rfl rfl,
   by intros; exact eq_push rfl,
   by intros; exact eq_ld rfl rfl,
   by intros; exact eq_i2 (o := mx_add) rfl,
   by intros; exact eq_pi rfl,
   by intros; exact eq_ld rfl rfl,
   by intros; exact eq_dup rfl (by decide),
   by intros; exact eq_gi rfl,
   by intros; exact eq_push rfl,
   by intros; exact eq_i2 (o := mx_add) rfl,
   by intros; exact eq_pi rfl,
   by intros; exact eq_retv rfl⟩
theorem rh_X12_isName_32 : ∀ (d : Nat) (x : Int) (l0 l1 l2 : Option mx_V) (S h : mx_H) (n : Int), mx_ex d 168 32 [l0, l1, l2, some (0, x)] [] S h n = mx_ex d 168 33 [l0, l1, l2, some (0, x)] [(0, x)] S h n := by intros; exact eq_ld rfl rfl
theorem rw_X12_isName :
  (∀ (d : Nat) (a0 a1 : Int) (S h : mx_H) (n : Int), mx_M d 168 [(2, a0), (2, a1)] S h n = mx_ex d 168 0 [some (2, a0), some (2, a1), none, none] [] S h n) ∧
  (∀ (d : Nat) (x : Int) (l1 l2 l3 : Option mx_V) (S h : mx_H) (n : Int), mx_ex d 168 0 [some (2, x), l1, l2, l3] [] S h n = mx_ex d 168 1 [some (2, x), l1, l2, l3] [(2, x)] S h n) ∧
  (∀ (d : Nat) (a : Int) (l0 l1 l2 l3 : Option mx_V) (S h : mx_H) (n : Int), mx_ex d 168 1 [l0, l1, l2, l3] [(2, a)] S h n = mx_gd (13 ≤ S a (-2) ∧ S a (-2) ≤ 13) d 168 4 [l0, l1, l2, l3] [(0, h a 8)] S h n) ∧
  (∀ (d : Nat) (l0 l1 l2 l3 : Option mx_V) (v0 : mx_V) (S h : mx_H) (n : Int), mx_ex d 168 4 [l0, l1, l2, l3] [v0] S h n = mx_ex d 168 5 [l0, l1, l2, l3] [(0, 1), v0] S h n) ∧
  (∀ (d : Nat) (b a : Int) (l0 l1 l2 l3 : Option mx_V) (S h : mx_H) (n : Int), mx_ex d 168 5 [l0, l1, l2, l3] [(0, b), (0, a)] S h n = mx_br (a = b) d 168 8 28 [l0, l1, l2, l3] [] S h n) ∧
  (∀ (d : Nat) (x : Int) (l1 l2 l3 : Option mx_V) (S h : mx_H) (n : Int), mx_ex d 168 8 [some (2, x), l1, l2, l3] [] S h n = mx_ex d 168 9 [some (2, x), l1, l2, l3] [(2, x)] S h n) ∧
  (∀ (d : Nat) (a : Int) (l0 l1 l2 l3 : Option mx_V) (S h : mx_H) (n : Int), mx_ex d 168 9 [l0, l1, l2, l3] [(2, a)] S h n = mx_gd (13 ≤ S a (-2) ∧ S a (-2) ≤ 13) d 168 12 [l0, l1, l2, l3] [(0, h a 6)] S h n) ∧
  (∀ (d : Nat) (x : Int) (l1 l2 l3 : Option mx_V) (v0 : mx_V) (S h : mx_H) (n : Int), mx_ex d 168 12 [some (2, x), l1, l2, l3] [v0] S h n = mx_ex d 168 13 [some (2, x), l1, l2, l3] [(2, x), v0] S h n) ∧
  (∀ (d : Nat) (a : Int) (l0 l1 l2 l3 : Option mx_V) (v1 : mx_V) (S h : mx_H) (n : Int), mx_ex d 168 13 [l0, l1, l2, l3] [(2, a), v1] S h n = mx_gd (13 ≤ S a (-2) ∧ S a (-2) ≤ 13) d 168 16 [l0, l1, l2, l3] [(0, h a 7), v1] S h n) ∧
  (∀ (d : Nat) (b a : Int) (l0 l1 l2 l3 : Option mx_V) (S h : mx_H) (n : Int), mx_ex d 168 16 [l0, l1, l2, l3] [(0, b), (0, a)] S h n = mx_ex d 168 17 [l0, l1, l2, l3] [(0, mx_w (a - b))] S h n) ∧
  (∀ (d : Nat) (x : Int) (l0 l2 l3 : Option mx_V) (v0 : mx_V) (S h : mx_H) (n : Int), mx_ex d 168 17 [l0, some (2, x), l2, l3] [v0] S h n = mx_ex d 168 18 [l0, some (2, x), l2, l3] [(2, x), v0] S h n) ∧
  (∀ (d : Nat) (a : Int) (l0 l1 l2 l3 : Option mx_V) (v1 : mx_V) (S h : mx_H) (n : Int), mx_ex (d + 1) 168 18 [l0, l1, l2, l3] [(2, a), v1] S h n = mx_cl (S a (-2) = 30) d 251 [(2, a)] 168 21 [l0, l1, l2, l3] [v1] S h n) ∧
  (∀ (d : Nat) (b a : Int) (l0 l1 l2 l3 : Option mx_V) (S h : mx_H) (n : Int), mx_ex d 168 21 [l0, l1, l2, l3] [(0, b), (0, a)] S h n = mx_br (a = b) d 168 24 28 [l0, l1, l2, l3] [] S h n) ∧
  (∀ (d : Nat) (l0 l1 l2 l3 : Option mx_V) (S h : mx_H) (n : Int), mx_ex d 168 24 [l0, l1, l2, l3] [] S h n = mx_ex d 168 25 [l0, l1, l2, l3] [(0, 1)] S h n) ∧
  (∀ (d : Nat) (l0 l1 l2 l3 : Option mx_V) (v0 : mx_V) (S h : mx_H) (n : Int), mx_ex d 168 25 [l0, l1, l2, l3] [v0] S h n = mx_ex d 168 29 [l0, l1, l2, l3] [v0] S h n) ∧
  (∀ (d : Nat) (l0 l1 l2 l3 : Option mx_V) (S h : mx_H) (n : Int), mx_ex d 168 28 [l0, l1, l2, l3] [] S h n = mx_ex d 168 29 [l0, l1, l2, l3] [(0, 0)] S h n) ∧
  (∀ (d : Nat) (x : Int) (l0 l1 l2 l3 : Option mx_V) (S h : mx_H) (n : Int), mx_ex d 168 29 [l0, l1, l2, l3] [(0, x)] S h n = mx_ex d 168 30 [l0, mx_nl l1, some (0, x), l3] [] S h n) ∧
  (∀ (d : Nat) (l0 l1 l2 l3 : Option mx_V) (S h : mx_H) (n : Int), mx_ex d 168 30 [l0, l1, l2, l3] [] S h n = mx_ex d 168 31 [l0, l1, l2, l3] [(0, 0)] S h n) ∧
  (∀ (d : Nat) (x : Int) (l0 l1 l2 l3 : Option mx_V) (S h : mx_H) (n : Int), mx_ex d 168 31 [l0, l1, l2, l3] [(0, x)] S h n = mx_ex d 168 32 [l0, l1, mx_nl l2, some (0, x)] [] S h n) ∧
  (∀ (d : Nat) (x : Int) (l0 l2 l3 : Option mx_V) (v0 : mx_V) (S h : mx_H) (n : Int), mx_ex d 168 33 [l0, some (2, x), l2, l3] [v0] S h n = mx_ex d 168 34 [l0, some (2, x), l2, l3] [(2, x), v0] S h n) ∧
  (∀ (d : Nat) (a : Int) (l0 l1 l2 l3 : Option mx_V) (v1 : mx_V) (S h : mx_H) (n : Int), mx_ex (d + 1) 168 34 [l0, l1, l2, l3] [(2, a), v1] S h n = mx_cl (S a (-2) = 30) d 251 [(2, a)] 168 37 [l0, l1, l2, l3] [v1] S h n) ∧
  (∀ (d : Nat) (b a : Int) (l0 l1 l2 l3 : Option mx_V) (S h : mx_H) (n : Int), mx_ex d 168 37 [l0, l1, l2, l3] [(0, b), (0, a)] S h n = mx_br (a < b) d 168 40 75 [l0, l1, l2, l3] [] S h n) ∧
  (∀ (d : Nat) (x : Int) (l0 l1 l3 : Option mx_V) (S h : mx_H) (n : Int), mx_ex d 168 40 [l0, l1, some (0, x), l3] [] S h n = mx_ex d 168 41 [l0, l1, some (0, x), l3] [(0, x)] S h n) ∧
  (∀ (d : Nat) (a : Int) (l0 l1 l2 l3 : Option mx_V) (S h : mx_H) (n : Int), mx_ex d 168 41 [l0, l1, l2, l3] [(0, a)] S h n = mx_br (a = 0) d 168 75 44 [l0, l1, l2, l3] [] S h n) ∧
  (∀ (d : Nat) (x : Int) (l1 l2 l3 : Option mx_V) (S h : mx_H) (n : Int), mx_ex d 168 44 [some (2, x), l1, l2, l3] [] S h n = mx_ex d 168 45 [some (2, x), l1, l2, l3] [(2, x)] S h n) ∧
  (∀ (d : Nat) (a : Int) (l0 l1 l2 l3 : Option mx_V) (S h : mx_H) (n : Int), mx_ex d 168 45 [l0, l1, l2, l3] [(2, a)] S h n = mx_gd (13 ≤ S a (-2) ∧ S a (-2) ≤ 13) d 168 48 [l0, l1, l2, l3] [(2, S a 4)] S h n) ∧
  (∀ (d : Nat) (x : Int) (l1 l2 l3 : Option mx_V) (v0 : mx_V) (S h : mx_H) (n : Int), mx_ex d 168 48 [some (2, x), l1, l2, l3] [v0] S h n = mx_ex d 168 49 [some (2, x), l1, l2, l3] [(2, x), v0] S h n) ∧
  (∀ (d : Nat) (a : Int) (l0 l1 l2 l3 : Option mx_V) (v1 : mx_V) (S h : mx_H) (n : Int), mx_ex d 168 49 [l0, l1, l2, l3] [(2, a), v1] S h n = mx_gd (13 ≤ S a (-2) ∧ S a (-2) ≤ 13) d 168 52 [l0, l1, l2, l3] [(0, h a 7), v1] S h n) ∧
  (∀ (d : Nat) (x : Int) (l0 l1 l2 : Option mx_V) (v0 v1 : mx_V) (S h : mx_H) (n : Int), mx_ex d 168 52 [l0, l1, l2, some (0, x)] [v0, v1] S h n = mx_ex d 168 53 [l0, l1, l2, some (0, x)] [(0, x), v0, v1] S h n) ∧
  (∀ (d : Nat) (b a : Int) (l0 l1 l2 l3 : Option mx_V) (v2 : mx_V) (S h : mx_H) (n : Int), mx_ex d 168 53 [l0, l1, l2, l3] [(0, b), (0, a), v2] S h n = mx_ex d 168 54 [l0, l1, l2, l3] [(0, mx_w (a + b)), v2] S h n) ∧
  (∀ (d : Nat) (i a : Int) (l0 l1 l2 l3 : Option mx_V) (S h : mx_H) (n : Int), mx_ex d 168 54 [l0, l1, l2, l3] [(0, i), (2, a)] S h n = mx_gd ((S a (-2) = 20 ∨ S a (-2) = 24) ∧ 0 ≤ i ∧ i < S a (-1)) d 168 55 [l0, l1, l2, l3] [(0, h a i)] S h n) ∧
  (∀ (d : Nat) (x : Int) (l0 l2 l3 : Option mx_V) (v0 : mx_V) (S h : mx_H) (n : Int), mx_ex d 168 55 [l0, some (2, x), l2, l3] [v0] S h n = mx_ex d 168 56 [l0, some (2, x), l2, l3] [(2, x), v0] S h n) ∧
  (∀ (d : Nat) (x : Int) (l0 l1 l2 : Option mx_V) (v0 v1 : mx_V) (S h : mx_H) (n : Int), mx_ex d 168 56 [l0, l1, l2, some (0, x)] [v0, v1] S h n = mx_ex d 168 57 [l0, l1, l2, some (0, x)] [(0, x), v0, v1] S h n) ∧
  (∀ (d : Nat) (x0 a : Int) (l0 l1 l2 l3 : Option mx_V) (v2 : mx_V) (S h : mx_H) (n : Int), mx_ex (d + 1) 168 57 [l0, l1, l2, l3] [(0, x0), (2, a), v2] S h n = mx_cl (S a (-2) = 30) d 252 [(2, a), (0, x0)] 168 60 [l0, l1, l2, l3] [v2] S h n) ∧
  (∀ (d : Nat) (b a : Int) (l0 l1 l2 l3 : Option mx_V) (S h : mx_H) (n : Int), mx_ex d 168 60 [l0, l1, l2, l3] [(0, b), (0, a)] S h n = mx_br (a = b) d 168 63 67 [l0, l1, l2, l3] [] S h n) ∧
  (∀ (d : Nat) (l0 l1 l2 l3 : Option mx_V) (S h : mx_H) (n : Int), mx_ex d 168 63 [l0, l1, l2, l3] [] S h n = mx_ex d 168 64 [l0, l1, l2, l3] [(0, 1)] S h n) ∧
  (∀ (d : Nat) (l0 l1 l2 l3 : Option mx_V) (v0 : mx_V) (S h : mx_H) (n : Int), mx_ex d 168 64 [l0, l1, l2, l3] [v0] S h n = mx_ex d 168 68 [l0, l1, l2, l3] [v0] S h n) ∧
  (∀ (d : Nat) (l0 l1 l2 l3 : Option mx_V) (S h : mx_H) (n : Int), mx_ex d 168 67 [l0, l1, l2, l3] [] S h n = mx_ex d 168 68 [l0, l1, l2, l3] [(0, 0)] S h n) ∧
  (∀ (d : Nat) (x : Int) (l0 l1 l2 l3 : Option mx_V) (S h : mx_H) (n : Int), mx_ex d 168 68 [l0, l1, l2, l3] [(0, x)] S h n = mx_ex d 168 69 [l0, mx_nl l1, some (0, x), l3] [] S h n) ∧
  (∀ (d : Nat) (x : Int) (l0 l1 l2 : Option mx_V) (S h : mx_H) (n : Int), mx_ex d 168 69 [l0, l1, l2, some (0, x)] [] S h n = mx_ex d 168 72 [l0, l1, mx_nl l2, some (0, mx_w (x + 1))] [] S h n) ∧
  (∀ (d : Nat) (l0 l1 l2 l3 : Option mx_V) (S h : mx_H) (n : Int), mx_ex d 168 72 [l0, l1, l2, l3] [] S h n = mx_ex d 168 32 [l0, l1, l2, l3] [] S h n) ∧
  (∀ (d : Nat) (x : Int) (l0 l1 l3 : Option mx_V) (S h : mx_H) (n : Int), mx_ex d 168 75 [l0, l1, some (0, x), l3] [] S h n = mx_ex d 168 76 [l0, l1, some (0, x), l3] [(0, x)] S h n) ∧
  (∀ (d : Nat) (x : Int) (l0 l1 l2 l3 : Option mx_V) (S h : mx_H) (n : Int), mx_ex d 168 76 [l0, l1, l2, l3] [(0, x)] S h n = mx_re (0 ≤ x ∧ x ≤ 1) (some (0, x)) S h n) :=
  ⟨by intros; exact rfl,
   by intros; exact eq_ld rfl rfl,
   by intros; exact eq_gi rfl,
   by intros; exact eq_push rfl,
   by intros; exact eq_ic1 rfl,
   by intros; exact eq_ld rfl rfl,
   by intros; exact eq_gi rfl,
   by intros; exact eq_ld rfl rfl,
   by intros; exact eq_gi rfl,
   by intros; exact eq_i2 (o := mx_sub) rfl,
   by intros; exact eq_ld rfl rfl,
   by intros; exact eq_cv rfl (Nat.le_of_ble_eq_true rfl) rfl rfl rfl (Nat.le_of_ble_eq_true rfl),
   by intros; exact eq_ic1 rfl,
   by intros; exact eq_push rfl,
   by intros; exact eq_go rfl,
   by intros; exact eq_push rfl,
   by intros; exact eq_st rfl (by decide) (Nat.le_of_ble_eq_true rfl) rfl,
   by intros; exact eq_push rfl,
   by intros; exact eq_st rfl (by decide) (Nat.le_of_ble_eq_true rfl) rfl,
   by intros; exact eq_ld rfl rfl,
   by intros; exact eq_cv rfl (Nat.le_of_ble_eq_true rfl) rfl rfl rfl (Nat.le_of_ble_eq_true rfl),
   by intros; exact eq_ic3 rfl,
   by intros; exact eq_ld rfl rfl,
   by intros; exact eq_if0 rfl,
   by intros; exact eq_ld rfl rfl,
   by intros; exact eq_gr rfl,
   by intros; exact eq_ld rfl rfl,
   by intros; exact eq_gi rfl,
   by intros; exact eq_ld rfl rfl,
   by intros; exact eq_i2 (o := mx_add) rfl,
   by intros; exact eq_iald rfl,
   by intros; exact eq_ld rfl rfl,
   by intros; exact eq_ld rfl rfl,
   by intros; exact eq_cv rfl (Nat.le_of_ble_eq_true rfl) rfl rfl rfl (Nat.le_of_ble_eq_true rfl),
   by intros; exact eq_ic1 rfl,
   by intros; exact eq_push rfl,
   by intros; exact eq_go rfl,
   by intros; exact eq_push rfl,
   by intros; exact eq_st rfl (by decide) (Nat.le_of_ble_eq_true rfl) rfl,
   by intros; exact eq_inc rfl rfl rfl,
   by intros; exact eq_go rfl,
   by intros; exact eq_ld rfl rfl,
   by intros; exact eq_rr rfl⟩
theorem rw_X12_takesByte :
  (∀ (d : Nat) (a0 a1 : Int) (S h : mx_H) (n : Int), mx_M d 169 [(2, a0), (0, a1)] S h n = mx_ex d 169 0 [some (2, a0), some (0, a1)] [] S h n) ∧
  (∀ (d : Nat) (x : Int) (l1 : Option mx_V) (S h : mx_H) (n : Int), mx_ex d 169 0 [some (2, x), l1] [] S h n = mx_ex d 169 1 [some (2, x), l1] [(2, x)] S h n) ∧
  (∀ (d : Nat) (a : Int) (l0 l1 : Option mx_V) (S h : mx_H) (n : Int), mx_ex d 169 1 [l0, l1] [(2, a)] S h n = mx_gd (13 ≤ S a (-2) ∧ S a (-2) ≤ 13) d 169 4 [l0, l1] [(0, h a 8)] S h n) ∧
  (∀ (d : Nat) (l0 l1 : Option mx_V) (v0 : mx_V) (S h : mx_H) (n : Int), mx_ex d 169 4 [l0, l1] [v0] S h n = mx_ex d 169 5 [l0, l1] [(0, 3), v0] S h n) ∧
  (∀ (d : Nat) (x : Int) (l0 : Option mx_V) (v0 v1 : mx_V) (S h : mx_H) (n : Int), mx_ex d 169 5 [l0, some (0, x)] [v0, v1] S h n = mx_ex d 169 6 [l0, some (0, x)] [(0, x), v0, v1] S h n) ∧
  (∀ (d : Nat) (b a : Int) (l0 l1 : Option mx_V) (v2 : mx_V) (S h : mx_H) (n : Int), mx_ex d 169 6 [l0, l1] [(0, b), (0, a), v2] S h n = mx_ex d 169 7 [l0, l1] [(0, mx_w (a + b)), v2] S h n) ∧
  (∀ (d : Nat) (b a : Int) (l0 l1 : Option mx_V) (S h : mx_H) (n : Int), mx_ex d 169 7 [l0, l1] [(0, b), (0, a)] S h n = mx_br (a = b) d 169 12 10 [l0, l1] [] S h n) ∧
  (∀ (d : Nat) (l0 l1 : Option mx_V) (S h : mx_H) (n : Int), mx_ex d 169 10 [l0, l1] [] S h n = mx_ex d 169 11 [l0, l1] [(0, 0)] S h n) ∧
  (∀ (d : Nat) (x : Int) (l0 l1 : Option mx_V) (S h : mx_H) (n : Int), mx_ex d 169 11 [l0, l1] [(0, x)] S h n = mx_re (0 ≤ x ∧ x ≤ 1) (some (0, x)) S h n) ∧
  (∀ (d : Nat) (x : Int) (l1 : Option mx_V) (S h : mx_H) (n : Int), mx_ex d 169 12 [some (2, x), l1] [] S h n = mx_ex d 169 13 [some (2, x), l1] [(2, x)] S h n) ∧
  (∀ (d : Nat) (a : Int) (l0 l1 : Option mx_V) (S h : mx_H) (n : Int), mx_ex (d + 1) 169 13 [l0, l1] [(2, a)] S h n = mx_cl (S a (-2) = 13) d 167 [(2, a)] 169 16 [l0, l1] [] S h n) ∧
  (∀ (d : Nat) (l0 l1 : Option mx_V) (S h : mx_H) (n : Int), mx_ex d 169 16 [l0, l1] [] S h n = mx_ex d 169 17 [l0, l1] [(0, 1)] S h n) ∧
  (∀ (d : Nat) (x : Int) (l0 l1 : Option mx_V) (S h : mx_H) (n : Int), mx_ex d 169 17 [l0, l1] [(0, x)] S h n = mx_re (0 ≤ x ∧ x ≤ 1) (some (0, x)) S h n) :=
  ⟨by intros; exact rfl,
   by intros; exact eq_ld rfl rfl,
   by intros; exact eq_gi rfl,
   by intros; exact eq_push rfl,
   by intros; exact eq_ld rfl rfl,
   by intros; exact eq_i2 (o := mx_add) rfl,
   by intros; exact eq_ic0 rfl,
   by intros; exact eq_push rfl,
   by intros; exact eq_rr rfl,
   by intros; exact eq_ld rfl rfl,
   by intros; exact eq_cv rfl (Nat.le_of_ble_eq_true rfl) rfl rfl rfl (Nat.le_of_ble_eq_true rfl),
   by intros; exact eq_push rfl,
   by intros; exact eq_rr rfl⟩
theorem rw_X12_takesNumber :
  (∀ (d : Nat) (a0 a1 a2 : Int) (S h : mx_H) (n : Int), mx_M d 170 [(2, a0), (0, a1), (0, a2)] S h n = mx_ex d 170 0 [some (2, a0), some (0, a1), some (0, a2)] [] S h n) ∧
  (∀ (d : Nat) (x : Int) (l1 l2 : Option mx_V) (S h : mx_H) (n : Int), mx_ex d 170 0 [some (2, x), l1, l2] [] S h n = mx_ex d 170 1 [some (2, x), l1, l2] [(2, x)] S h n) ∧
  (∀ (d : Nat) (a : Int) (l0 l1 l2 : Option mx_V) (S h : mx_H) (n : Int), mx_ex d 170 1 [l0, l1, l2] [(2, a)] S h n = mx_gd (13 ≤ S a (-2) ∧ S a (-2) ≤ 13) d 170 4 [l0, l1, l2] [(0, h a 8)] S h n) ∧
  (∀ (d : Nat) (l0 l1 l2 : Option mx_V) (v0 : mx_V) (S h : mx_H) (n : Int), mx_ex d 170 4 [l0, l1, l2] [v0] S h n = mx_ex d 170 5 [l0, l1, l2] [(0, 2), v0] S h n) ∧
  (∀ (d : Nat) (b a : Int) (l0 l1 l2 : Option mx_V) (S h : mx_H) (n : Int), mx_ex d 170 5 [l0, l1, l2] [(0, b), (0, a)] S h n = mx_br (a = b) d 170 8 20 [l0, l1, l2] [] S h n) ∧
  (∀ (d : Nat) (x : Int) (l1 l2 : Option mx_V) (S h : mx_H) (n : Int), mx_ex d 170 8 [some (2, x), l1, l2] [] S h n = mx_ex d 170 9 [some (2, x), l1, l2] [(2, x)] S h n) ∧
  (∀ (d : Nat) (a : Int) (l0 l1 l2 : Option mx_V) (S h : mx_H) (n : Int), mx_ex d 170 9 [l0, l1, l2] [(2, a)] S h n = mx_gd (13 ≤ S a (-2) ∧ S a (-2) ≤ 13) d 170 12 [l0, l1, l2] [(0, h a 9)] S h n) ∧
  (∀ (d : Nat) (x : Int) (l0 l2 : Option mx_V) (v0 : mx_V) (S h : mx_H) (n : Int), mx_ex d 170 12 [l0, some (0, x), l2] [v0] S h n = mx_ex d 170 13 [l0, some (0, x), l2] [(0, x), v0] S h n) ∧
  (∀ (d : Nat) (x : Int) (l0 l1 : Option mx_V) (v0 v1 : mx_V) (S h : mx_H) (n : Int), mx_ex d 170 13 [l0, l1, some (0, x)] [v0, v1] S h n = mx_ex d 170 14 [l0, l1, some (0, x)] [(0, x), v0, v1] S h n) ∧
  (∀ (d : Nat) (x0 x1 x2 : Int) (l0 l1 l2 : Option mx_V) (S h : mx_H) (n : Int), mx_ex (d + 1) 170 14 [l0, l1, l2] [(0, x0), (0, x1), (0, x2)] S h n = mx_rt (mx_M d 159 [(0, x2), (0, x1), (0, x0)] S h n) (d + 1) 170 17 [l0, l1, l2] []) ∧
  (∀ (d : Nat) (a : Int) (l0 l1 l2 : Option mx_V) (S h : mx_H) (n : Int), mx_ex d 170 17 [l0, l1, l2] [(0, a)] S h n = mx_br (a = 0) d 170 20 22 [l0, l1, l2] [] S h n) ∧
  (∀ (d : Nat) (l0 l1 l2 : Option mx_V) (S h : mx_H) (n : Int), mx_ex d 170 20 [l0, l1, l2] [] S h n = mx_ex d 170 21 [l0, l1, l2] [(0, 0)] S h n) ∧
  (∀ (d : Nat) (x : Int) (l0 l1 l2 : Option mx_V) (S h : mx_H) (n : Int), mx_ex d 170 21 [l0, l1, l2] [(0, x)] S h n = mx_re (0 ≤ x ∧ x ≤ 1) (some (0, x)) S h n) ∧
  (∀ (d : Nat) (x : Int) (l1 l2 : Option mx_V) (S h : mx_H) (n : Int), mx_ex d 170 22 [some (2, x), l1, l2] [] S h n = mx_ex d 170 23 [some (2, x), l1, l2] [(2, x)] S h n) ∧
  (∀ (d : Nat) (x : Int) (l1 l2 : Option mx_V) (v0 : mx_V) (S h : mx_H) (n : Int), mx_ex d 170 23 [some (2, x), l1, l2] [v0] S h n = mx_ex d 170 24 [some (2, x), l1, l2] [(2, x), v0] S h n) ∧
  (∀ (d : Nat) (a : Int) (l0 l1 l2 : Option mx_V) (v1 : mx_V) (S h : mx_H) (n : Int), mx_ex d 170 24 [l0, l1, l2] [(2, a), v1] S h n = mx_gd (13 ≤ S a (-2) ∧ S a (-2) ≤ 13) d 170 27 [l0, l1, l2] [(0, h a 9), v1] S h n) ∧
  (∀ (d : Nat) (v a : Int) (l0 l1 l2 : Option mx_V) (S h : mx_H) (n : Int), mx_ex d 170 27 [l0, l1, l2] [(0, v), (2, a)] S h n = mx_gd (13 ≤ S a (-2) ∧ S a (-2) ≤ 13) d 170 30 [l0, l1, l2] [] S (mx_u h a 10 v) n) ∧
  (∀ (d : Nat) (x : Int) (l1 l2 : Option mx_V) (S h : mx_H) (n : Int), mx_ex d 170 30 [some (2, x), l1, l2] [] S h n = mx_ex d 170 31 [some (2, x), l1, l2] [(2, x)] S h n) ∧
  (∀ (d : Nat) (a : Int) (l0 l1 l2 : Option mx_V) (S h : mx_H) (n : Int), mx_ex (d + 1) 170 31 [l0, l1, l2] [(2, a)] S h n = mx_cl (S a (-2) = 13) d 167 [(2, a)] 170 34 [l0, l1, l2] [] S h n) ∧
  (∀ (d : Nat) (l0 l1 l2 : Option mx_V) (S h : mx_H) (n : Int), mx_ex d 170 34 [l0, l1, l2] [] S h n = mx_ex d 170 35 [l0, l1, l2] [(0, 1)] S h n) ∧
  (∀ (d : Nat) (x : Int) (l0 l1 l2 : Option mx_V) (S h : mx_H) (n : Int), mx_ex d 170 35 [l0, l1, l2] [(0, x)] S h n = mx_re (0 ≤ x ∧ x ≤ 1) (some (0, x)) S h n) :=
  ⟨by intros; exact rfl,
   by intros; exact eq_ld rfl rfl,
   by intros; exact eq_gi rfl,
   by intros; exact eq_push rfl,
   by intros; exact eq_ic1 rfl,
   by intros; exact eq_ld rfl rfl,
   by intros; exact eq_gi rfl,
   by intros; exact eq_ld rfl rfl,
   by intros; exact eq_ld rfl rfl,
   by intros; exact eq_cs rfl (Nat.le_of_ble_eq_true rfl) rfl rfl rfl (Nat.le_of_ble_eq_true rfl),
   by intros; exact eq_if1 rfl,
   by intros; exact eq_push rfl,
   by intros; exact eq_rr rfl,
   by intros; exact eq_ld rfl rfl,
   by intros; exact eq_ld rfl rfl,
   by intros; exact eq_gi rfl,
   by intros; exact eq_pi rfl,
   by intros; exact eq_ld rfl rfl,
   by intros; exact eq_cv rfl (Nat.le_of_ble_eq_true rfl) rfl rfl rfl (Nat.le_of_ble_eq_true rfl),
   by intros; exact eq_push rfl,
   by intros; exact eq_rr rfl⟩
theorem rw_X12_kindNamed :
  (∀ (d : Nat) (a0 : Int) (S h : mx_H) (n : Int), mx_M d 171 [(2, a0)] S h n = mx_ex d 171 0 [some (2, a0)] [] S h n) ∧
  (∀ (d : Nat) (x : Int) (S h : mx_H) (n : Int), mx_ex d 171 0 [some (2, x)] [] S h n = mx_ex d 171 1 [some (2, x)] [(2, x)] S h n) ∧
  (∀ (d : Nat) (l0 : Option mx_V) (v0 : mx_V) (S h : mx_H) (n : Int), mx_ex d 171 1 [l0] [v0] S h n = mx_ex d 171 3 [l0] [(2, (-22)), v0] S h n) ∧
  (∀ (d : Nat) (x0 a : Int) (l0 : Option mx_V) (S h : mx_H) (n : Int), mx_ex (d + 1) 171 3 [l0] [(2, x0), (2, a)] S h n = mx_cl (S a (-2) = 13) d 168 [(2, a), (2, x0)] 171 6 [l0] [] S h n) ∧
  (∀ (d : Nat) (a : Int) (l0 : Option mx_V) (S h : mx_H) (n : Int), mx_ex d 171 6 [l0] [(0, a)] S h n = mx_br (a = 0) d 171 13 9 [l0] [] S h n) ∧
  (∀ (d : Nat) (l0 : Option mx_V) (S h : mx_H) (n : Int), mx_ex d 171 9 [l0] [] S h n = mx_ex d 171 10 [l0] [(0, 0)] S h n) ∧
  (∀ (d : Nat) (l0 : Option mx_V) (v0 : mx_V) (S h : mx_H) (n : Int), mx_ex d 171 10 [l0] [v0] S h n = mx_ex d 171 79 [l0] [v0] S h n) ∧
  (∀ (d : Nat) (x : Int) (S h : mx_H) (n : Int), mx_ex d 171 13 [some (2, x)] [] S h n = mx_ex d 171 14 [some (2, x)] [(2, x)] S h n) ∧
  (∀ (d : Nat) (l0 : Option mx_V) (v0 : mx_V) (S h : mx_H) (n : Int), mx_ex d 171 14 [l0] [v0] S h n = mx_ex d 171 16 [l0] [(2, (-23)), v0] S h n) ∧
  (∀ (d : Nat) (x0 a : Int) (l0 : Option mx_V) (S h : mx_H) (n : Int), mx_ex (d + 1) 171 16 [l0] [(2, x0), (2, a)] S h n = mx_cl (S a (-2) = 13) d 168 [(2, a), (2, x0)] 171 19 [l0] [] S h n) ∧
  (∀ (d : Nat) (a : Int) (l0 : Option mx_V) (S h : mx_H) (n : Int), mx_ex d 171 19 [l0] [(0, a)] S h n = mx_br (a = 0) d 171 26 22 [l0] [] S h n) ∧
  (∀ (d : Nat) (l0 : Option mx_V) (S h : mx_H) (n : Int), mx_ex d 171 22 [l0] [] S h n = mx_ex d 171 23 [l0] [(0, 1)] S h n) ∧
  (∀ (d : Nat) (l0 : Option mx_V) (v0 : mx_V) (S h : mx_H) (n : Int), mx_ex d 171 23 [l0] [v0] S h n = mx_ex d 171 79 [l0] [v0] S h n) ∧
  (∀ (d : Nat) (x : Int) (S h : mx_H) (n : Int), mx_ex d 171 26 [some (2, x)] [] S h n = mx_ex d 171 27 [some (2, x)] [(2, x)] S h n) ∧
  (∀ (d : Nat) (l0 : Option mx_V) (v0 : mx_V) (S h : mx_H) (n : Int), mx_ex d 171 27 [l0] [v0] S h n = mx_ex d 171 29 [l0] [(2, (-24)), v0] S h n) ∧
  (∀ (d : Nat) (x0 a : Int) (l0 : Option mx_V) (S h : mx_H) (n : Int), mx_ex (d + 1) 171 29 [l0] [(2, x0), (2, a)] S h n = mx_cl (S a (-2) = 13) d 168 [(2, a), (2, x0)] 171 32 [l0] [] S h n) ∧
  (∀ (d : Nat) (a : Int) (l0 : Option mx_V) (S h : mx_H) (n : Int), mx_ex d 171 32 [l0] [(0, a)] S h n = mx_br (a = 0) d 171 39 35 [l0] [] S h n) ∧
  (∀ (d : Nat) (l0 : Option mx_V) (S h : mx_H) (n : Int), mx_ex d 171 35 [l0] [] S h n = mx_ex d 171 36 [l0] [(0, 2)] S h n) ∧
  (∀ (d : Nat) (l0 : Option mx_V) (v0 : mx_V) (S h : mx_H) (n : Int), mx_ex d 171 36 [l0] [v0] S h n = mx_ex d 171 79 [l0] [v0] S h n) ∧
  (∀ (d : Nat) (x : Int) (S h : mx_H) (n : Int), mx_ex d 171 39 [some (2, x)] [] S h n = mx_ex d 171 40 [some (2, x)] [(2, x)] S h n) ∧
  (∀ (d : Nat) (l0 : Option mx_V) (v0 : mx_V) (S h : mx_H) (n : Int), mx_ex d 171 40 [l0] [v0] S h n = mx_ex d 171 42 [l0] [(2, (-25)), v0] S h n) ∧
  (∀ (d : Nat) (x0 a : Int) (l0 : Option mx_V) (S h : mx_H) (n : Int), mx_ex (d + 1) 171 42 [l0] [(2, x0), (2, a)] S h n = mx_cl (S a (-2) = 13) d 168 [(2, a), (2, x0)] 171 45 [l0] [] S h n) ∧
  (∀ (d : Nat) (a : Int) (l0 : Option mx_V) (S h : mx_H) (n : Int), mx_ex d 171 45 [l0] [(0, a)] S h n = mx_br (a = 0) d 171 52 48 [l0] [] S h n) ∧
  (∀ (d : Nat) (l0 : Option mx_V) (S h : mx_H) (n : Int), mx_ex d 171 48 [l0] [] S h n = mx_ex d 171 49 [l0] [(0, 3)] S h n) ∧
  (∀ (d : Nat) (l0 : Option mx_V) (v0 : mx_V) (S h : mx_H) (n : Int), mx_ex d 171 49 [l0] [v0] S h n = mx_ex d 171 79 [l0] [v0] S h n) ∧
  (∀ (d : Nat) (x : Int) (S h : mx_H) (n : Int), mx_ex d 171 52 [some (2, x)] [] S h n = mx_ex d 171 53 [some (2, x)] [(2, x)] S h n) ∧
  (∀ (d : Nat) (l0 : Option mx_V) (v0 : mx_V) (S h : mx_H) (n : Int), mx_ex d 171 53 [l0] [v0] S h n = mx_ex d 171 55 [l0] [(2, (-26)), v0] S h n) ∧
  (∀ (d : Nat) (x0 a : Int) (l0 : Option mx_V) (S h : mx_H) (n : Int), mx_ex (d + 1) 171 55 [l0] [(2, x0), (2, a)] S h n = mx_cl (S a (-2) = 13) d 168 [(2, a), (2, x0)] 171 58 [l0] [] S h n) ∧
  (∀ (d : Nat) (a : Int) (l0 : Option mx_V) (S h : mx_H) (n : Int), mx_ex d 171 58 [l0] [(0, a)] S h n = mx_br (a = 0) d 171 65 61 [l0] [] S h n) ∧
  (∀ (d : Nat) (l0 : Option mx_V) (S h : mx_H) (n : Int), mx_ex d 171 61 [l0] [] S h n = mx_ex d 171 62 [l0] [(0, 4)] S h n) ∧
  (∀ (d : Nat) (l0 : Option mx_V) (v0 : mx_V) (S h : mx_H) (n : Int), mx_ex d 171 62 [l0] [v0] S h n = mx_ex d 171 79 [l0] [v0] S h n) ∧
  (∀ (d : Nat) (x : Int) (S h : mx_H) (n : Int), mx_ex d 171 65 [some (2, x)] [] S h n = mx_ex d 171 66 [some (2, x)] [(2, x)] S h n) ∧
  (∀ (d : Nat) (l0 : Option mx_V) (v0 : mx_V) (S h : mx_H) (n : Int), mx_ex d 171 66 [l0] [v0] S h n = mx_ex d 171 68 [l0] [(2, (-27)), v0] S h n) ∧
  (∀ (d : Nat) (x0 a : Int) (l0 : Option mx_V) (S h : mx_H) (n : Int), mx_ex (d + 1) 171 68 [l0] [(2, x0), (2, a)] S h n = mx_cl (S a (-2) = 13) d 168 [(2, a), (2, x0)] 171 71 [l0] [] S h n) ∧
  (∀ (d : Nat) (a : Int) (l0 : Option mx_V) (S h : mx_H) (n : Int), mx_ex d 171 71 [l0] [(0, a)] S h n = mx_br (a = 0) d 171 78 74 [l0] [] S h n) ∧
  (∀ (d : Nat) (l0 : Option mx_V) (S h : mx_H) (n : Int), mx_ex d 171 74 [l0] [] S h n = mx_ex d 171 75 [l0] [(0, 5)] S h n) ∧
  (∀ (d : Nat) (l0 : Option mx_V) (v0 : mx_V) (S h : mx_H) (n : Int), mx_ex d 171 75 [l0] [v0] S h n = mx_ex d 171 79 [l0] [v0] S h n) ∧
  (∀ (d : Nat) (l0 : Option mx_V) (S h : mx_H) (n : Int), mx_ex d 171 78 [l0] [] S h n = mx_ex d 171 79 [l0] [(0, (-1))] S h n) ∧
  (∀ (d : Nat) (x : Int) (l0 : Option mx_V) (S h : mx_H) (n : Int), mx_ex d 171 79 [l0] [(0, x)] S h n = some (some (0, x), S, h, n)) :=
  ⟨by intros; exact rfl,
   by intros; exact eq_ld rfl rfl,
   by intros; exact eq_push rfl,
   by intros; exact eq_cv rfl (Nat.le_of_ble_eq_true rfl) rfl rfl rfl (Nat.le_of_ble_eq_true rfl),
   by intros; exact eq_if0 rfl,
   by intros; exact eq_push rfl,
   by intros; exact eq_go rfl,
   by intros; exact eq_ld rfl rfl,
   by intros; exact eq_push rfl,
   by intros; exact eq_cv rfl (Nat.le_of_ble_eq_true rfl) rfl rfl rfl (Nat.le_of_ble_eq_true rfl),
   by intros; exact eq_if0 rfl,
   by intros; exact eq_push rfl,
   by intros; exact eq_go rfl,
   by intros; exact eq_ld rfl rfl,
   by intros; exact eq_push rfl,
   by intros; exact eq_cv rfl (Nat.le_of_ble_eq_true rfl) rfl rfl rfl (Nat.le_of_ble_eq_true rfl),
   by intros; exact eq_if0 rfl,
   by intros; exact eq_push rfl,
   by intros; exact eq_go rfl,
   by intros; exact eq_ld rfl rfl,
   by intros; exact eq_push rfl,
   by intros; exact eq_cv rfl (Nat.le_of_ble_eq_true rfl) rfl rfl rfl (Nat.le_of_ble_eq_true rfl),
   by intros; exact eq_if0 rfl,
   by intros; exact eq_push rfl,
   by intros; exact eq_go rfl,
   by intros; exact eq_ld rfl rfl,
   by intros; exact eq_push rfl,
   by intros; exact eq_cv rfl (Nat.le_of_ble_eq_true rfl) rfl rfl rfl (Nat.le_of_ble_eq_true rfl),
   by intros; exact eq_if0 rfl,
   by intros; exact eq_push rfl,
   by intros; exact eq_go rfl,
   by intros; exact eq_ld rfl rfl,
   by intros; exact eq_push rfl,
   by intros; exact eq_cv rfl (Nat.le_of_ble_eq_true rfl) rfl rfl rfl (Nat.le_of_ble_eq_true rfl),
   by intros; exact eq_if0 rfl,
   by intros; exact eq_push rfl,
   by intros; exact eq_go rfl,
   by intros; exact eq_push rfl,
   by intros; exact eq_ret rfl⟩
theorem rh_X12_takesNote_124 : ∀ (d : Nat) (x : Int) (l0 l1 l2 l3 : Option mx_V) (S h : mx_H) (n : Int), mx_ex d 172 124 [l0, l1, l2, l3, some (0, x)] [] S h n = mx_ex d 172 126 [l0, l1, l2, l3, some (0, x)] [(0, x)] S h n := by intros; exact eq_ld rfl rfl
theorem rw_X12_takesNote :
  (∀ (d : Nat) (a0 a1 : Int) (S h : mx_H) (n : Int), mx_M d 172 [(2, a0), (0, a1)] S h n = mx_ex d 172 0 [some (2, a0), some (0, a1), none, none, none] [] S h n) ∧
  (∀ (d : Nat) (x : Int) (l1 l2 l3 l4 : Option mx_V) (S h : mx_H) (n : Int), mx_ex d 172 0 [some (2, x), l1, l2, l3, l4] [] S h n = mx_ex d 172 1 [some (2, x), l1, l2, l3, l4] [(2, x)] S h n) ∧
  (∀ (d : Nat) (a : Int) (l0 l1 l2 l3 l4 : Option mx_V) (S h : mx_H) (n : Int), mx_ex d 172 1 [l0, l1, l2, l3, l4] [(2, a)] S h n = mx_gd (13 ≤ S a (-2) ∧ S a (-2) ≤ 13) d 172 4 [l0, l1, l2, l3, l4] [(2, S a 0)] S h n) ∧
  (∀ (d : Nat) (l0 l1 l2 l3 l4 : Option mx_V) (v0 : mx_V) (S h : mx_H) (n : Int), mx_ex d 172 4 [l0, l1, l2, l3, l4] [v0] S h n = mx_ex d 172 5 [l0, l1, l2, l3, l4] [(0, 0), v0] S h n) ∧
  (∀ (d : Nat) (i a : Int) (l0 l1 l2 l3 l4 : Option mx_V) (S h : mx_H) (n : Int), mx_ex d 172 5 [l0, l1, l2, l3, l4] [(0, i), (2, a)] S h n = mx_gd ((S a (-2) = 20 ∨ S a (-2) = 24) ∧ 0 ≤ i ∧ i < S a (-1)) d 172 6 [l0, l1, l2, l3, l4] [(0, h a i)] S h n) ∧
  (∀ (d : Nat) (l0 l1 l2 l3 l4 : Option mx_V) (v0 : mx_V) (S h : mx_H) (n : Int), mx_ex d 172 6 [l0, l1, l2, l3, l4] [v0] S h n = mx_ex d 172 8 [l0, l1, l2, l3, l4] [(0, 6), v0] S h n) ∧
  (∀ (d : Nat) (b a : Int) (l0 l1 l2 l3 l4 : Option mx_V) (S h : mx_H) (n : Int), mx_ex d 172 8 [l0, l1, l2, l3, l4] [(0, b), (0, a)] S h n = mx_br (a = b) d 172 11 13 [l0, l1, l2, l3, l4] [] S h n) ∧
  (∀ (d : Nat) (l0 l1 l2 l3 l4 : Option mx_V) (S h : mx_H) (n : Int), mx_ex d 172 11 [l0, l1, l2, l3, l4] [] S h n = mx_ex d 172 12 [l0, l1, l2, l3, l4] [(0, 0)] S h n) ∧
  (∀ (d : Nat) (x : Int) (l0 l1 l2 l3 l4 : Option mx_V) (S h : mx_H) (n : Int), mx_ex d 172 12 [l0, l1, l2, l3, l4] [(0, x)] S h n = mx_re (0 ≤ x ∧ x ≤ 1) (some (0, x)) S h n) ∧
  (∀ (d : Nat) (x : Int) (l1 l2 l3 l4 : Option mx_V) (S h : mx_H) (n : Int), mx_ex d 172 13 [some (2, x), l1, l2, l3, l4] [] S h n = mx_ex d 172 14 [some (2, x), l1, l2, l3, l4] [(2, x)] S h n) ∧
  (∀ (d : Nat) (a : Int) (l0 l1 l2 l3 l4 : Option mx_V) (S h : mx_H) (n : Int), mx_ex (d + 1) 172 14 [l0, l1, l2, l3, l4] [(2, a)] S h n = mx_cl (S a (-2) = 13) d 167 [(2, a)] 172 17 [l0, l1, l2, l3, l4] [] S h n) ∧
  (∀ (d : Nat) (l0 l1 l2 l3 l4 : Option mx_V) (S h : mx_H) (n : Int), mx_ex d 172 17 [l0, l1, l2, l3, l4] [] S h n = mx_ex d 172 19 [l0, l1, l2, l3, l4] [(0, 9)] S h n) ∧
  (∀ (d : Nat) (l0 l1 l2 l3 l4 : Option mx_V) (v0 : mx_V) (S h : mx_H) (n : Int), mx_ex d 172 19 [l0, l1, l2, l3, l4] [v0] S h n = mx_ex d 172 21 [l0, l1, l2, l3, l4] [(0, 10), v0] S h n) ∧
  (∀ (d : Nat) (x : Int) (l1 l2 l3 l4 : Option mx_V) (v0 v1 : mx_V) (S h : mx_H) (n : Int), mx_ex d 172 21 [some (2, x), l1, l2, l3, l4] [v0, v1] S h n = mx_ex d 172 22 [some (2, x), l1, l2, l3, l4] [(2, x), v0, v1] S h n) ∧
  (∀ (d : Nat) (a : Int) (l0 l1 l2 l3 l4 : Option mx_V) (v1 v2 : mx_V) (S h : mx_H) (n : Int), mx_ex d 172 22 [l0, l1, l2, l3, l4] [(2, a), v1, v2] S h n = mx_gd (13 ≤ S a (-2) ∧ S a (-2) ≤ 13) d 172 25 [l0, l1, l2, l3, l4] [(2, S a 0), v1, v2] S h n) ∧
  (∀ (d : Nat) (l0 l1 l2 l3 l4 : Option mx_V) (v0 v1 v2 : mx_V) (S h : mx_H) (n : Int), mx_ex d 172 25 [l0, l1, l2, l3, l4] [v0, v1, v2] S h n = mx_ex d 172 26 [l0, l1, l2, l3, l4] [(0, 0), v0, v1, v2] S h n) ∧
  (∀ (d : Nat) (i a : Int) (l0 l1 l2 l3 l4 : Option mx_V) (v2 v3 : mx_V) (S h : mx_H) (n : Int), mx_ex d 172 26 [l0, l1, l2, l3, l4] [(0, i), (2, a), v2, v3] S h n = mx_gd ((S a (-2) = 20 ∨ S a (-2) = 24) ∧ 0 ≤ i ∧ i < S a (-1)) d 172 27 [l0, l1, l2, l3, l4] [(0, h a i), v2, v3] S h n) ∧
  (∀ (d : Nat) (b a : Int) (l0 l1 l2 l3 l4 : Option mx_V) (v2 : mx_V) (S h : mx_H) (n : Int), mx_ex d 172 27 [l0, l1, l2, l3, l4] [(0, b), (0, a), v2] S h n = mx_ex d 172 28 [l0, l1, l2, l3, l4] [(0, mx_w (a * b)), v2] S h n) ∧
  (∀ (d : Nat) (b a : Int) (l0 l1 l2 l3 l4 : Option mx_V) (S h : mx_H) (n : Int), mx_ex d 172 28 [l0, l1, l2, l3, l4] [(0, b), (0, a)] S h n = mx_ex d 172 29 [l0, l1, l2, l3, l4] [(0, mx_w (a + b))] S h n) ∧
  (∀ (d : Nat) (x : Int) (l0 l1 l2 l3 l4 : Option mx_V) (S h : mx_H) (n : Int), mx_ex d 172 29 [l0, l1, l2, l3, l4] [(0, x)] S h n = mx_ex d 172 30 [l0, mx_nl l1, some (0, x), l3, l4] [] S h n) ∧
  (∀ (d : Nat) (x : Int) (l1 l2 l3 l4 : Option mx_V) (S h : mx_H) (n : Int), mx_ex d 172 30 [some (2, x), l1, l2, l3, l4] [] S h n = mx_ex d 172 31 [some (2, x), l1, l2, l3, l4] [(2, x)] S h n) ∧
  (∀ (d : Nat) (l0 l1 l2 l3 l4 : Option mx_V) (v0 : mx_V) (S h : mx_H) (n : Int), mx_ex d 172 31 [l0, l1, l2, l3, l4] [v0] S h n = mx_ex d 172 32 [l0, l1, l2, l3, l4] [(0, 0), v0] S h n) ∧
  (∀ (d : Nat) (l0 l1 l2 l3 l4 : Option mx_V) (v0 v1 : mx_V) (S h : mx_H) (n : Int), mx_ex d 172 32 [l0, l1, l2, l3, l4] [v0, v1] S h n = mx_ex d 172 33 [l0, l1, l2, l3, l4] [(0, 2), v0, v1] S h n) ∧
  (∀ (d : Nat) (x0 x1 a : Int) (l0 l1 l2 l3 l4 : Option mx_V) (S h : mx_H) (n : Int), mx_ex (d + 1) 172 33 [l0, l1, l2, l3, l4] [(0, x0), (0, x1), (2, a)] S h n = mx_cl (S a (-2) = 13) d 170 [(2, a), (0, x1), (0, x0)] 172 36 [l0, l1, l2, l3, l4] [] S h n) ∧
  (∀ (d : Nat) (a : Int) (l0 l1 l2 l3 l4 : Option mx_V) (S h : mx_H) (n : Int), mx_ex d 172 36 [l0, l1, l2, l3, l4] [(0, a)] S h n = mx_br (a = 0) d 172 39 41 [l0, l1, l2, l3, l4] [] S h n) ∧
  (∀ (d : Nat) (l0 l1 l2 l3 l4 : Option mx_V) (S h : mx_H) (n : Int), mx_ex d 172 39 [l0, l1, l2, l3, l4] [] S h n = mx_ex d 172 40 [l0, l1, l2, l3, l4] [(0, 0)] S h n) ∧
  (∀ (d : Nat) (x : Int) (l0 l1 l2 l3 l4 : Option mx_V) (S h : mx_H) (n : Int), mx_ex d 172 40 [l0, l1, l2, l3, l4] [(0, x)] S h n = mx_re (0 ≤ x ∧ x ≤ 1) (some (0, x)) S h n) ∧
  (∀ (d : Nat) (x : Int) (l1 l2 l3 l4 : Option mx_V) (S h : mx_H) (n : Int), mx_ex d 172 41 [some (2, x), l1, l2, l3, l4] [] S h n = mx_ex d 172 42 [some (2, x), l1, l2, l3, l4] [(2, x)] S h n) ∧
  (∀ (d : Nat) (a : Int) (l0 l1 l2 l3 l4 : Option mx_V) (S h : mx_H) (n : Int), mx_ex d 172 42 [l0, l1, l2, l3, l4] [(2, a)] S h n = mx_gd (13 ≤ S a (-2) ∧ S a (-2) ≤ 13) d 172 45 [l0, l1, l2, l3, l4] [(2, S a 0)] S h n) ∧
  (∀ (d : Nat) (x : Int) (l0 l1 l3 l4 : Option mx_V) (v0 : mx_V) (S h : mx_H) (n : Int), mx_ex d 172 45 [l0, l1, some (0, x), l3, l4] [v0] S h n = mx_ex d 172 46 [l0, l1, some (0, x), l3, l4] [(0, x), v0] S h n) ∧
  (∀ (d : Nat) (l0 l1 l2 l3 l4 : Option mx_V) (v0 v1 : mx_V) (S h : mx_H) (n : Int), mx_ex d 172 46 [l0, l1, l2, l3, l4] [v0, v1] S h n = mx_ex d 172 47 [l0, l1, l2, l3, l4] [(0, 0), v0, v1] S h n) ∧
  (∀ (d : Nat) (b a : Int) (l0 l1 l2 l3 l4 : Option mx_V) (v2 : mx_V) (S h : mx_H) (n : Int), mx_ex d 172 47 [l0, l1, l2, l3, l4] [(0, b), (0, a), v2] S h n = mx_ex d 172 48 [l0, l1, l2, l3, l4] [(0, mx_w (a + b)), v2] S h n) ∧
  (∀ (d : Nat) (x : Int) (l0 l2 l3 l4 : Option mx_V) (v0 v1 : mx_V) (S h : mx_H) (n : Int), mx_ex d 172 48 [l0, some (0, x), l2, l3, l4] [v0, v1] S h n = mx_ex d 172 49 [l0, some (0, x), l2, l3, l4] [(0, x), v0, v1] S h n) ∧
  (∀ (d : Nat) (v i a : Int) (l0 l1 l2 l3 l4 : Option mx_V) (S h : mx_H) (n : Int), mx_ex d 172 49 [l0, l1, l2, l3, l4] [(0, v), (0, i), (2, a)] S h n = mx_gd (S a (-2) = 20 ∧ 0 ≤ i ∧ i < S a (-1)) d 172 50 [l0, l1, l2, l3, l4] [] S (mx_u h a i v) n) ∧
  (∀ (d : Nat) (x : Int) (l1 l2 l3 l4 : Option mx_V) (S h : mx_H) (n : Int), mx_ex d 172 50 [some (2, x), l1, l2, l3, l4] [] S h n = mx_ex d 172 51 [some (2, x), l1, l2, l3, l4] [(2, x)] S h n) ∧
  (∀ (d : Nat) (a : Int) (l0 l1 l2 l3 l4 : Option mx_V) (S h : mx_H) (n : Int), mx_ex d 172 51 [l0, l1, l2, l3, l4] [(2, a)] S h n = mx_gd (13 ≤ S a (-2) ∧ S a (-2) ≤ 13) d 172 54 [l0, l1, l2, l3, l4] [(2, S a 0)] S h n) ∧
  (∀ (d : Nat) (x : Int) (l0 l1 l3 l4 : Option mx_V) (v0 : mx_V) (S h : mx_H) (n : Int), mx_ex d 172 54 [l0, l1, some (0, x), l3, l4] [v0] S h n = mx_ex d 172 55 [l0, l1, some (0, x), l3, l4] [(0, x), v0] S h n) ∧
  (∀ (d : Nat) (l0 l1 l2 l3 l4 : Option mx_V) (v0 v1 : mx_V) (S h : mx_H) (n : Int), mx_ex d 172 55 [l0, l1, l2, l3, l4] [v0, v1] S h n = mx_ex d 172 56 [l0, l1, l2, l3, l4] [(0, 1), v0, v1] S h n) ∧
  (∀ (d : Nat) (b a : Int) (l0 l1 l2 l3 l4 : Option mx_V) (v2 : mx_V) (S h : mx_H) (n : Int), mx_ex d 172 56 [l0, l1, l2, l3, l4] [(0, b), (0, a), v2] S h n = mx_ex d 172 57 [l0, l1, l2, l3, l4] [(0, mx_w (a + b)), v2] S h n) ∧
  (∀ (d : Nat) (x : Int) (l1 l2 l3 l4 : Option mx_V) (v0 v1 : mx_V) (S h : mx_H) (n : Int), mx_ex d 172 57 [some (2, x), l1, l2, l3, l4] [v0, v1] S h n = mx_ex d 172 58 [some (2, x), l1, l2, l3, l4] [(2, x), v0, v1] S h n) ∧
  (∀ (d : Nat) (a : Int) (l0 l1 l2 l3 l4 : Option mx_V) (v1 v2 : mx_V) (S h : mx_H) (n : Int), mx_ex d 172 58 [l0, l1, l2, l3, l4] [(2, a), v1, v2] S h n = mx_gd (13 ≤ S a (-2) ∧ S a (-2) ≤ 13) d 172 61 [l0, l1, l2, l3, l4] [(0, h a 10), v1, v2] S h n) ∧
  (∀ (d : Nat) (v i a : Int) (l0 l1 l2 l3 l4 : Option mx_V) (S h : mx_H) (n : Int), mx_ex d 172 61 [l0, l1, l2, l3, l4] [(0, v), (0, i), (2, a)] S h n = mx_gd (S a (-2) = 20 ∧ 0 ≤ i ∧ i < S a (-1)) d 172 62 [l0, l1, l2, l3, l4] [] S (mx_u h a i v) n) ∧
  (∀ (d : Nat) (x : Int) (l1 l2 l3 l4 : Option mx_V) (S h : mx_H) (n : Int), mx_ex d 172 62 [some (2, x), l1, l2, l3, l4] [] S h n = mx_ex d 172 63 [some (2, x), l1, l2, l3, l4] [(2, x)] S h n) ∧
  (∀ (d : Nat) (a : Int) (l0 l1 l2 l3 l4 : Option mx_V) (S h : mx_H) (n : Int), mx_ex d 172 63 [l0, l1, l2, l3, l4] [(2, a)] S h n = mx_gd (13 ≤ S a (-2) ∧ S a (-2) ≤ 13) d 172 66 [l0, l1, l2, l3, l4] [(2, S a 0)] S h n) ∧
  (∀ (d : Nat) (x : Int) (l0 l1 l3 l4 : Option mx_V) (v0 : mx_V) (S h : mx_H) (n : Int), mx_ex d 172 66 [l0, l1, some (0, x), l3, l4] [v0] S h n = mx_ex d 172 67 [l0, l1, some (0, x), l3, l4] [(0, x), v0] S h n) ∧
  (∀ (d : Nat) (l0 l1 l2 l3 l4 : Option mx_V) (v0 v1 : mx_V) (S h : mx_H) (n : Int), mx_ex d 172 67 [l0, l1, l2, l3, l4] [v0, v1] S h n = mx_ex d 172 68 [l0, l1, l2, l3, l4] [(0, 2), v0, v1] S h n) ∧
  (∀ (d : Nat) (b a : Int) (l0 l1 l2 l3 l4 : Option mx_V) (v2 : mx_V) (S h : mx_H) (n : Int), mx_ex d 172 68 [l0, l1, l2, l3, l4] [(0, b), (0, a), v2] S h n = mx_ex d 172 69 [l0, l1, l2, l3, l4] [(0, mx_w (a + b)), v2] S h n) ∧
  (∀ (d : Nat) (l0 l1 l2 l3 l4 : Option mx_V) (v0 v1 : mx_V) (S h : mx_H) (n : Int), mx_ex d 172 69 [l0, l1, l2, l3, l4] [v0, v1] S h n = mx_ex d 172 70 [l0, l1, l2, l3, l4] [(0, 0), v0, v1] S h n) ∧
  (∀ (d : Nat) (v i a : Int) (l0 l1 l2 l3 l4 : Option mx_V) (S h : mx_H) (n : Int), mx_ex d 172 70 [l0, l1, l2, l3, l4] [(0, v), (0, i), (2, a)] S h n = mx_gd (S a (-2) = 20 ∧ 0 ≤ i ∧ i < S a (-1)) d 172 71 [l0, l1, l2, l3, l4] [] S (mx_u h a i v) n) ∧
  (∀ (d : Nat) (x : Int) (l1 l2 l3 l4 : Option mx_V) (S h : mx_H) (n : Int), mx_ex d 172 71 [some (2, x), l1, l2, l3, l4] [] S h n = mx_ex d 172 72 [some (2, x), l1, l2, l3, l4] [(2, x)] S h n) ∧
  (∀ (d : Nat) (l0 l1 l2 l3 l4 : Option mx_V) (v0 : mx_V) (S h : mx_H) (n : Int), mx_ex d 172 72 [l0, l1, l2, l3, l4] [v0] S h n = mx_ex d 172 74 [l0, l1, l2, l3, l4] [(2, (-28)), v0] S h n) ∧
  (∀ (d : Nat) (x0 a : Int) (l0 l1 l2 l3 l4 : Option mx_V) (S h : mx_H) (n : Int), mx_ex (d + 1) 172 74 [l0, l1, l2, l3, l4] [(2, x0), (2, a)] S h n = mx_cl (S a (-2) = 13) d 168 [(2, a), (2, x0)] 172 77 [l0, l1, l2, l3, l4] [] S h n) ∧
  (∀ (d : Nat) (a : Int) (l0 l1 l2 l3 l4 : Option mx_V) (S h : mx_H) (n : Int), mx_ex d 172 77 [l0, l1, l2, l3, l4] [(0, a)] S h n = mx_br (a = 0) d 172 108 80 [l0, l1, l2, l3, l4] [] S h n) ∧
  (∀ (d : Nat) (x : Int) (l1 l2 l3 l4 : Option mx_V) (S h : mx_H) (n : Int), mx_ex d 172 80 [some (2, x), l1, l2, l3, l4] [] S h n = mx_ex d 172 81 [some (2, x), l1, l2, l3, l4] [(2, x)] S h n) ∧
  (∀ (d : Nat) (a : Int) (l0 l1 l2 l3 l4 : Option mx_V) (S h : mx_H) (n : Int), mx_ex (d + 1) 172 81 [l0, l1, l2, l3, l4] [(2, a)] S h n = mx_cl (S a (-2) = 13) d 167 [(2, a)] 172 84 [l0, l1, l2, l3, l4] [] S h n) ∧
  (∀ (d : Nat) (x : Int) (l1 l2 l3 l4 : Option mx_V) (S h : mx_H) (n : Int), mx_ex d 172 84 [some (2, x), l1, l2, l3, l4] [] S h n = mx_ex d 172 85 [some (2, x), l1, l2, l3, l4] [(2, x)] S h n) ∧
  (∀ (d : Nat) (l0 l1 l2 l3 l4 : Option mx_V) (v0 : mx_V) (S h : mx_H) (n : Int), mx_ex d 172 85 [l0, l1, l2, l3, l4] [v0] S h n = mx_ex d 172 86 [l0, l1, l2, l3, l4] [(0, 0), v0] S h n) ∧
  (∀ (d : Nat) (l0 l1 l2 l3 l4 : Option mx_V) (v0 v1 : mx_V) (S h : mx_H) (n : Int), mx_ex d 172 86 [l0, l1, l2, l3, l4] [v0, v1] S h n = mx_ex d 172 88 [l0, l1, l2, l3, l4] [(0, 6), v0, v1] S h n) ∧
  (∀ (d : Nat) (x0 x1 a : Int) (l0 l1 l2 l3 l4 : Option mx_V) (S h : mx_H) (n : Int), mx_ex (d + 1) 172 88 [l0, l1, l2, l3, l4] [(0, x0), (0, x1), (2, a)] S h n = mx_cl (S a (-2) = 13) d 170 [(2, a), (0, x1), (0, x0)] 172 91 [l0, l1, l2, l3, l4] [] S h n) ∧
  (∀ (d : Nat) (a : Int) (l0 l1 l2 l3 l4 : Option mx_V) (S h : mx_H) (n : Int), mx_ex d 172 91 [l0, l1, l2, l3, l4] [(0, a)] S h n = mx_br (a = 0) d 172 94 96 [l0, l1, l2, l3, l4] [] S h n) ∧
  (∀ (d : Nat) (l0 l1 l2 l3 l4 : Option mx_V) (S h : mx_H) (n : Int), mx_ex d 172 94 [l0, l1, l2, l3, l4] [] S h n = mx_ex d 172 95 [l0, l1, l2, l3, l4] [(0, 0)] S h n) ∧
  (∀ (d : Nat) (x : Int) (l0 l1 l2 l3 l4 : Option mx_V) (S h : mx_H) (n : Int), mx_ex d 172 95 [l0, l1, l2, l3, l4] [(0, x)] S h n = mx_re (0 ≤ x ∧ x ≤ 1) (some (0, x)) S h n) ∧
  (∀ (d : Nat) (x : Int) (l1 l2 l3 l4 : Option mx_V) (S h : mx_H) (n : Int), mx_ex d 172 96 [some (2, x), l1, l2, l3, l4] [] S h n = mx_ex d 172 97 [some (2, x), l1, l2, l3, l4] [(2, x)] S h n) ∧
  (∀ (d : Nat) (a : Int) (l0 l1 l2 l3 l4 : Option mx_V) (S h : mx_H) (n : Int), mx_ex d 172 97 [l0, l1, l2, l3, l4] [(2, a)] S h n = mx_gd (13 ≤ S a (-2) ∧ S a (-2) ≤ 13) d 172 100 [l0, l1, l2, l3, l4] [(2, S a 0)] S h n) ∧
  (∀ (d : Nat) (x : Int) (l0 l1 l3 l4 : Option mx_V) (v0 : mx_V) (S h : mx_H) (n : Int), mx_ex d 172 100 [l0, l1, some (0, x), l3, l4] [v0] S h n = mx_ex d 172 101 [l0, l1, some (0, x), l3, l4] [(0, x), v0] S h n) ∧
  (∀ (d : Nat) (l0 l1 l2 l3 l4 : Option mx_V) (v0 v1 : mx_V) (S h : mx_H) (n : Int), mx_ex d 172 101 [l0, l1, l2, l3, l4] [v0, v1] S h n = mx_ex d 172 102 [l0, l1, l2, l3, l4] [(0, 2), v0, v1] S h n) ∧
  (∀ (d : Nat) (b a : Int) (l0 l1 l2 l3 l4 : Option mx_V) (v2 : mx_V) (S h : mx_H) (n : Int), mx_ex d 172 102 [l0, l1, l2, l3, l4] [(0, b), (0, a), v2] S h n = mx_ex d 172 103 [l0, l1, l2, l3, l4] [(0, mx_w (a + b)), v2] S h n) ∧
  (∀ (d : Nat) (x : Int) (l1 l2 l3 l4 : Option mx_V) (v0 v1 : mx_V) (S h : mx_H) (n : Int), mx_ex d 172 103 [some (2, x), l1, l2, l3, l4] [v0, v1] S h n = mx_ex d 172 104 [some (2, x), l1, l2, l3, l4] [(2, x), v0, v1] S h n) ∧
  (∀ (d : Nat) (a : Int) (l0 l1 l2 l3 l4 : Option mx_V) (v1 v2 : mx_V) (S h : mx_H) (n : Int), mx_ex d 172 104 [l0, l1, l2, l3, l4] [(2, a), v1, v2] S h n = mx_gd (13 ≤ S a (-2) ∧ S a (-2) ≤ 13) d 172 107 [l0, l1, l2, l3, l4] [(0, h a 10), v1, v2] S h n) ∧
  (∀ (d : Nat) (v i a : Int) (l0 l1 l2 l3 l4 : Option mx_V) (S h : mx_H) (n : Int), mx_ex d 172 107 [l0, l1, l2, l3, l4] [(0, v), (0, i), (2, a)] S h n = mx_gd (S a (-2) = 20 ∧ 0 ≤ i ∧ i < S a (-1)) d 172 108 [l0, l1, l2, l3, l4] [] S (mx_u h a i v) n) :=
  ⟨by intros; exact rfl,
   by intros; exact eq_ld rfl rfl,
   by intros; exact eq_gr rfl,
   by intros; exact eq_push rfl,
   by intros; exact eq_iald rfl,
   by intros; exact eq_push rfl,
   by intros; exact eq_ic1 rfl,
   by intros; exact eq_push rfl,
   by intros; exact eq_rr rfl,
   by intros; exact eq_ld rfl rfl,
   by intros; exact eq_cv rfl (Nat.le_of_ble_eq_true rfl) rfl rfl rfl (Nat.le_of_ble_eq_true rfl),
   by intros; exact eq_push rfl,
   by intros; exact eq_push rfl,
   by intros; exact eq_ld rfl rfl,
   by intros; exact eq_gr rfl,
   by intros; exact eq_push rfl,
   by intros; exact eq_iald rfl,
   by intros; exact eq_i2 (o := mx_mul) rfl,
   by intros; exact eq_i2 (o := mx_add) rfl,
   by intros; exact eq_st rfl (by decide) (Nat.le_of_ble_eq_true rfl) rfl,
   by intros; exact eq_ld rfl rfl,
   by intros; exact eq_push rfl,
   by intros; exact eq_push rfl,
   by intros; exact eq_cv rfl (Nat.le_of_ble_eq_true rfl) rfl rfl rfl (Nat.le_of_ble_eq_true rfl),
   by intros; exact eq_if1 rfl,
   by intros; exact eq_push rfl,
   by intros; exact eq_rr rfl,
   by intros; exact eq_ld rfl rfl,
   by intros; exact eq_gr rfl,
   by intros; exact eq_ld rfl rfl,
   by intros; exact eq_push rfl,
   by intros; exact eq_i2 (o := mx_add) rfl,
   by intros; exact eq_ld rfl rfl,
   by intros; exact eq_iast rfl,
   by intros; exact eq_ld rfl rfl,
   by intros; exact eq_gr rfl,
   by intros; exact eq_ld rfl rfl,
   by intros; exact eq_push rfl,
   by intros; exact eq_i2 (o := mx_add) rfl,
   by intros; exact eq_ld rfl rfl,
   by intros; exact eq_gi rfl,
   by intros; exact eq_iast rfl,
   by intros; exact eq_ld rfl rfl,
   by intros; exact eq_gr rfl,
   by intros; exact eq_ld rfl rfl,
   by intros; exact eq_push rfl,
   by intros; exact eq_i2 (o := mx_add) rfl,
   by intros; exact eq_push rfl,
   by intros; exact eq_iast rfl,
   by intros; exact eq_ld rfl rfl,
   by intros; exact eq_push rfl,
   by intros; exact eq_cv rfl (Nat.le_of_ble_eq_true rfl) rfl rfl rfl (Nat.le_of_ble_eq_true rfl),
   by intros; exact eq_if0 rfl,
   by intros; exact eq_ld rfl rfl,
   by intros; exact eq_cv rfl (Nat.le_of_ble_eq_true rfl) rfl rfl rfl (Nat.le_of_ble_eq_true rfl),
   by intros; exact eq_ld rfl rfl,
   by intros; exact eq_push rfl,
   by intros; exact eq_push rfl,
   by intros; exact eq_cv rfl (Nat.le_of_ble_eq_true rfl) rfl rfl rfl (Nat.le_of_ble_eq_true rfl),
   by intros; exact eq_if1 rfl,
   by intros; exact eq_push rfl,
   by intros; exact eq_rr rfl,
   by intros; exact eq_ld rfl rfl,
   by intros; exact eq_gr rfl,
   by intros; exact eq_ld rfl rfl,
   by intros; exact eq_push rfl,
   by intros; exact eq_i2 (o := mx_add) rfl,
   by intros; exact eq_ld rfl rfl,
   by intros; exact eq_gi rfl,
   by intros; exact eq_iast rfl⟩
theorem rw_X12_takesNote_1 :
  (∀ (d : Nat) (x : Int) (l1 l2 l3 l4 : Option mx_V) (S h : mx_H) (n : Int), mx_ex d 172 108 [some (2, x), l1, l2, l3, l4] [] S h n = mx_ex d 172 109 [some (2, x), l1, l2, l3, l4] [(2, x)] S h n) ∧
  (∀ (d : Nat) (l0 l1 l2 l3 l4 : Option mx_V) (v0 : mx_V) (S h : mx_H) (n : Int), mx_ex d 172 109 [l0, l1, l2, l3, l4] [v0] S h n = mx_ex d 172 111 [l0, l1, l2, l3, l4] [(0, 58), v0] S h n) ∧
  (∀ (d : Nat) (x0 a : Int) (l0 l1 l2 l3 l4 : Option mx_V) (S h : mx_H) (n : Int), mx_ex (d + 1) 172 111 [l0, l1, l2, l3, l4] [(0, x0), (2, a)] S h n = mx_cl (S a (-2) = 13) d 169 [(2, a), (0, x0)] 172 114 [l0, l1, l2, l3, l4] [] S h n) ∧
  (∀ (d : Nat) (a : Int) (l0 l1 l2 l3 l4 : Option mx_V) (S h : mx_H) (n : Int), mx_ex d 172 114 [l0, l1, l2, l3, l4] [(0, a)] S h n = mx_br (a = 0) d 172 117 119 [l0, l1, l2, l3, l4] [] S h n) ∧
  (∀ (d : Nat) (l0 l1 l2 l3 l4 : Option mx_V) (S h : mx_H) (n : Int), mx_ex d 172 117 [l0, l1, l2, l3, l4] [] S h n = mx_ex d 172 118 [l0, l1, l2, l3, l4] [(0, 0)] S h n) ∧
  (∀ (d : Nat) (x : Int) (l0 l1 l2 l3 l4 : Option mx_V) (S h : mx_H) (n : Int), mx_ex d 172 118 [l0, l1, l2, l3, l4] [(0, x)] S h n = mx_re (0 ≤ x ∧ x ≤ 1) (some (0, x)) S h n) ∧
  (∀ (d : Nat) (l0 l1 l2 l3 l4 : Option mx_V) (S h : mx_H) (n : Int), mx_ex d 172 119 [l0, l1, l2, l3, l4] [] S h n = mx_ex d 172 120 [l0, l1, l2, l3, l4] [(0, 0)] S h n) ∧
  (∀ (d : Nat) (x : Int) (l0 l1 l2 l3 l4 : Option mx_V) (S h : mx_H) (n : Int), mx_ex d 172 120 [l0, l1, l2, l3, l4] [(0, x)] S h n = mx_ex d 172 121 [l0, l1, mx_nl l2, some (0, x), l4] [] S h n) ∧
  (∀ (d : Nat) (l0 l1 l2 l3 l4 : Option mx_V) (S h : mx_H) (n : Int), mx_ex d 172 121 [l0, l1, l2, l3, l4] [] S h n = mx_ex d 172 122 [l0, l1, l2, l3, l4] [(0, 1)] S h n) ∧
  (∀ (d : Nat) (x : Int) (l0 l1 l2 l3 l4 : Option mx_V) (S h : mx_H) (n : Int), mx_ex d 172 122 [l0, l1, l2, l3, l4] [(0, x)] S h n = mx_ex d 172 124 [l0, l1, l2, mx_nl l3, some (0, x)] [] S h n) ∧
  (∀ (d : Nat) (a : Int) (l0 l1 l2 l3 l4 : Option mx_V) (S h : mx_H) (n : Int), mx_ex d 172 126 [l0, l1, l2, l3, l4] [(0, a)] S h n = mx_br (a = 0) d 172 175 129 [l0, l1, l2, l3, l4] [] S h n) ∧
  (∀ (d : Nat) (x : Int) (l0 l1 l2 l4 : Option mx_V) (S h : mx_H) (n : Int), mx_ex d 172 129 [l0, l1, l2, some (0, x), l4] [] S h n = mx_ex d 172 130 [l0, l1, l2, some (0, x), l4] [(0, x)] S h n) ∧
  (∀ (d : Nat) (l0 l1 l2 l3 l4 : Option mx_V) (v0 : mx_V) (S h : mx_H) (n : Int), mx_ex d 172 130 [l0, l1, l2, l3, l4] [v0] S h n = mx_ex d 172 132 [l0, l1, l2, l3, l4] [(0, 6), v0] S h n) ∧
  (∀ (d : Nat) (b a : Int) (l0 l1 l2 l3 l4 : Option mx_V) (S h : mx_H) (n : Int), mx_ex d 172 132 [l0, l1, l2, l3, l4] [(0, b), (0, a)] S h n = mx_br (a = b) d 172 145 135 [l0, l1, l2, l3, l4] [] S h n) ∧
  (∀ (d : Nat) (x : Int) (l1 l2 l3 l4 : Option mx_V) (S h : mx_H) (n : Int), mx_ex d 172 135 [some (2, x), l1, l2, l3, l4] [] S h n = mx_ex d 172 136 [some (2, x), l1, l2, l3, l4] [(2, x)] S h n) ∧
  (∀ (d : Nat) (l0 l1 l2 l3 l4 : Option mx_V) (v0 : mx_V) (S h : mx_H) (n : Int), mx_ex d 172 136 [l0, l1, l2, l3, l4] [v0] S h n = mx_ex d 172 137 [l0, l1, l2, l3, l4] [(0, 0), v0] S h n) ∧
  (∀ (d : Nat) (l0 l1 l2 l3 l4 : Option mx_V) (v0 v1 : mx_V) (S h : mx_H) (n : Int), mx_ex d 172 137 [l0, l1, l2, l3, l4] [v0, v1] S h n = mx_ex d 172 139 [l0, l1, l2, l3, l4] [(0, 15), v0, v1] S h n) ∧
  (∀ (d : Nat) (x0 x1 a : Int) (l0 l1 l2 l3 l4 : Option mx_V) (S h : mx_H) (n : Int), mx_ex (d + 1) 172 139 [l0, l1, l2, l3, l4] [(0, x0), (0, x1), (2, a)] S h n = mx_cl (S a (-2) = 13) d 170 [(2, a), (0, x1), (0, x0)] 172 142 [l0, l1, l2, l3, l4] [] S h n) ∧
  (∀ (d : Nat) (a : Int) (l0 l1 l2 l3 l4 : Option mx_V) (S h : mx_H) (n : Int), mx_ex d 172 142 [l0, l1, l2, l3, l4] [(0, a)] S h n = mx_br (a = 0) d 172 145 147 [l0, l1, l2, l3, l4] [] S h n) ∧
  (∀ (d : Nat) (l0 l1 l2 l3 l4 : Option mx_V) (S h : mx_H) (n : Int), mx_ex d 172 145 [l0, l1, l2, l3, l4] [] S h n = mx_ex d 172 146 [l0, l1, l2, l3, l4] [(0, 0)] S h n) ∧
  (∀ (d : Nat) (x : Int) (l0 l1 l2 l3 l4 : Option mx_V) (S h : mx_H) (n : Int), mx_ex d 172 146 [l0, l1, l2, l3, l4] [(0, x)] S h n = mx_re (0 ≤ x ∧ x ≤ 1) (some (0, x)) S h n) ∧
  (∀ (d : Nat) (x : Int) (l1 l2 l3 l4 : Option mx_V) (S h : mx_H) (n : Int), mx_ex d 172 147 [some (2, x), l1, l2, l3, l4] [] S h n = mx_ex d 172 148 [some (2, x), l1, l2, l3, l4] [(2, x)] S h n) ∧
  (∀ (d : Nat) (a : Int) (l0 l1 l2 l3 l4 : Option mx_V) (S h : mx_H) (n : Int), mx_ex d 172 148 [l0, l1, l2, l3, l4] [(2, a)] S h n = mx_gd (13 ≤ S a (-2) ∧ S a (-2) ≤ 13) d 172 151 [l0, l1, l2, l3, l4] [(2, S a 0)] S h n) ∧
  (∀ (d : Nat) (x : Int) (l0 l1 l3 l4 : Option mx_V) (v0 : mx_V) (S h : mx_H) (n : Int), mx_ex d 172 151 [l0, l1, some (0, x), l3, l4] [v0] S h n = mx_ex d 172 152 [l0, l1, some (0, x), l3, l4] [(0, x), v0] S h n) ∧
  (∀ (d : Nat) (l0 l1 l2 l3 l4 : Option mx_V) (v0 v1 : mx_V) (S h : mx_H) (n : Int), mx_ex d 172 152 [l0, l1, l2, l3, l4] [v0, v1] S h n = mx_ex d 172 153 [l0, l1, l2, l3, l4] [(0, 4), v0, v1] S h n) ∧
  (∀ (d : Nat) (b a : Int) (l0 l1 l2 l3 l4 : Option mx_V) (v2 : mx_V) (S h : mx_H) (n : Int), mx_ex d 172 153 [l0, l1, l2, l3, l4] [(0, b), (0, a), v2] S h n = mx_ex d 172 154 [l0, l1, l2, l3, l4] [(0, mx_w (a + b)), v2] S h n) ∧
  (∀ (d : Nat) (x : Int) (l0 l1 l2 l4 : Option mx_V) (v0 v1 : mx_V) (S h : mx_H) (n : Int), mx_ex d 172 154 [l0, l1, l2, some (0, x), l4] [v0, v1] S h n = mx_ex d 172 155 [l0, l1, l2, some (0, x), l4] [(0, x), v0, v1] S h n) ∧
  (∀ (d : Nat) (b a : Int) (l0 l1 l2 l3 l4 : Option mx_V) (v2 : mx_V) (S h : mx_H) (n : Int), mx_ex d 172 155 [l0, l1, l2, l3, l4] [(0, b), (0, a), v2] S h n = mx_ex d 172 156 [l0, l1, l2, l3, l4] [(0, mx_w (a + b)), v2] S h n) ∧
  (∀ (d : Nat) (x : Int) (l1 l2 l3 l4 : Option mx_V) (v0 v1 : mx_V) (S h : mx_H) (n : Int), mx_ex d 172 156 [some (2, x), l1, l2, l3, l4] [v0, v1] S h n = mx_ex d 172 157 [some (2, x), l1, l2, l3, l4] [(2, x), v0, v1] S h n) ∧
  (∀ (d : Nat) (a : Int) (l0 l1 l2 l3 l4 : Option mx_V) (v1 v2 : mx_V) (S h : mx_H) (n : Int), mx_ex d 172 157 [l0, l1, l2, l3, l4] [(2, a), v1, v2] S h n = mx_gd (13 ≤ S a (-2) ∧ S a (-2) ≤ 13) d 172 160 [l0, l1, l2, l3, l4] [(0, h a 10), v1, v2] S h n) ∧
  (∀ (d : Nat) (v i a : Int) (l0 l1 l2 l3 l4 : Option mx_V) (S h : mx_H) (n : Int), mx_ex d 172 160 [l0, l1, l2, l3, l4] [(0, v), (0, i), (2, a)] S h n = mx_gd (S a (-2) = 20 ∧ 0 ≤ i ∧ i < S a (-1)) d 172 161 [l0, l1, l2, l3, l4] [] S (mx_u h a i v) n) ∧
  (∀ (d : Nat) (x : Int) (l0 l1 l2 l4 : Option mx_V) (S h : mx_H) (n : Int), mx_ex d 172 161 [l0, l1, l2, some (0, x), l4] [] S h n = mx_ex d 172 164 [l0, l1, mx_nl l2, some (0, mx_w (x + 1)), l4] [] S h n) ∧
  (∀ (d : Nat) (x : Int) (l1 l2 l3 l4 : Option mx_V) (S h : mx_H) (n : Int), mx_ex d 172 164 [some (2, x), l1, l2, l3, l4] [] S h n = mx_ex d 172 165 [some (2, x), l1, l2, l3, l4] [(2, x)] S h n) ∧
  (∀ (d : Nat) (l0 l1 l2 l3 l4 : Option mx_V) (v0 : mx_V) (S h : mx_H) (n : Int), mx_ex d 172 165 [l0, l1, l2, l3, l4] [v0] S h n = mx_ex d 172 167 [l0, l1, l2, l3, l4] [(0, 44), v0] S h n) ∧
  (∀ (d : Nat) (x0 a : Int) (l0 l1 l2 l3 l4 : Option mx_V) (S h : mx_H) (n : Int), mx_ex (d + 1) 172 167 [l0, l1, l2, l3, l4] [(0, x0), (2, a)] S h n = mx_cl (S a (-2) = 13) d 169 [(2, a), (0, x0)] 172 170 [l0, l1, l2, l3, l4] [] S h n) ∧
  (∀ (d : Nat) (x : Int) (l0 l1 l2 l3 l4 : Option mx_V) (S h : mx_H) (n : Int), mx_ex d 172 170 [l0, l1, l2, l3, l4] [(0, x)] S h n = mx_ex d 172 172 [l0, l1, l2, mx_nl l3, some (0, x)] [] S h n) ∧
  (∀ (d : Nat) (l0 l1 l2 l3 l4 : Option mx_V) (S h : mx_H) (n : Int), mx_ex d 172 172 [l0, l1, l2, l3, l4] [] S h n = mx_ex d 172 124 [l0, l1, l2, l3, l4] [] S h n) ∧
  (∀ (d : Nat) (x : Int) (l1 l2 l3 l4 : Option mx_V) (S h : mx_H) (n : Int), mx_ex d 172 175 [some (2, x), l1, l2, l3, l4] [] S h n = mx_ex d 172 176 [some (2, x), l1, l2, l3, l4] [(2, x)] S h n) ∧
  (∀ (d : Nat) (a : Int) (l0 l1 l2 l3 l4 : Option mx_V) (S h : mx_H) (n : Int), mx_ex d 172 176 [l0, l1, l2, l3, l4] [(2, a)] S h n = mx_gd (13 ≤ S a (-2) ∧ S a (-2) ≤ 13) d 172 179 [l0, l1, l2, l3, l4] [(2, S a 0)] S h n) ∧
  (∀ (d : Nat) (x : Int) (l0 l1 l3 l4 : Option mx_V) (v0 : mx_V) (S h : mx_H) (n : Int), mx_ex d 172 179 [l0, l1, some (0, x), l3, l4] [v0] S h n = mx_ex d 172 180 [l0, l1, some (0, x), l3, l4] [(0, x), v0] S h n) ∧
  (∀ (d : Nat) (l0 l1 l2 l3 l4 : Option mx_V) (v0 v1 : mx_V) (S h : mx_H) (n : Int), mx_ex d 172 180 [l0, l1, l2, l3, l4] [v0, v1] S h n = mx_ex d 172 181 [l0, l1, l2, l3, l4] [(0, 3), v0, v1] S h n) ∧
  (∀ (d : Nat) (b a : Int) (l0 l1 l2 l3 l4 : Option mx_V) (v2 : mx_V) (S h : mx_H) (n : Int), mx_ex d 172 181 [l0, l1, l2, l3, l4] [(0, b), (0, a), v2] S h n = mx_ex d 172 182 [l0, l1, l2, l3, l4] [(0, mx_w (a + b)), v2] S h n) ∧
  (∀ (d : Nat) (x : Int) (l0 l1 l2 l4 : Option mx_V) (v0 v1 : mx_V) (S h : mx_H) (n : Int), mx_ex d 172 182 [l0, l1, l2, some (0, x), l4] [v0, v1] S h n = mx_ex d 172 183 [l0, l1, l2, some (0, x), l4] [(0, x), v0, v1] S h n) ∧
  (∀ (d : Nat) (v i a : Int) (l0 l1 l2 l3 l4 : Option mx_V) (S h : mx_H) (n : Int), mx_ex d 172 183 [l0, l1, l2, l3, l4] [(0, v), (0, i), (2, a)] S h n = mx_gd (S a (-2) = 20 ∧ 0 ≤ i ∧ i < S a (-1)) d 172 184 [l0, l1, l2, l3, l4] [] S (mx_u h a i v) n) ∧
  (∀ (d : Nat) (x : Int) (l1 l2 l3 l4 : Option mx_V) (S h : mx_H) (n : Int), mx_ex d 172 184 [some (2, x), l1, l2, l3, l4] [] S h n = mx_ex d 172 185 [some (2, x), l1, l2, l3, l4] [(2, x)] S h n) ∧
  (∀ (d : Nat) (a : Int) (l0 l1 l2 l3 l4 : Option mx_V) (S h : mx_H) (n : Int), mx_ex d 172 185 [l0, l1, l2, l3, l4] [(2, a)] S h n = mx_gd (13 ≤ S a (-2) ∧ S a (-2) ≤ 13) d 172 188 [l0, l1, l2, l3, l4] [(2, S a 0)] S h n) ∧
  (∀ (d : Nat) (l0 l1 l2 l3 l4 : Option mx_V) (v0 : mx_V) (S h : mx_H) (n : Int), mx_ex d 172 188 [l0, l1, l2, l3, l4] [v0] S h n = mx_ex d 172 189 [l0, l1, l2, l3, l4] [(0, 0), v0] S h n) ∧
  (∀ (d : Nat) (a b : Int) (l0 l1 l2 l3 l4 : Option mx_V) (S h : mx_H) (n : Int), mx_ex d 172 189 [l0, l1, l2, l3, l4] [(0, a), (2, b)] S h n = mx_ex d 172 190 [l0, l1, l2, l3, l4] [(0, a), (2, b), (0, a), (2, b)] S h n) ∧
  (∀ (d : Nat) (i a : Int) (l0 l1 l2 l3 l4 : Option mx_V) (v2 v3 : mx_V) (S h : mx_H) (n : Int), mx_ex d 172 190 [l0, l1, l2, l3, l4] [(0, i), (2, a), v2, v3] S h n = mx_gd ((S a (-2) = 20 ∨ S a (-2) = 24) ∧ 0 ≤ i ∧ i < S a (-1)) d 172 191 [l0, l1, l2, l3, l4] [(0, h a i), v2, v3] S h n) ∧
  (∀ (d : Nat) (l0 l1 l2 l3 l4 : Option mx_V) (v0 v1 v2 : mx_V) (S h : mx_H) (n : Int), mx_ex d 172 191 [l0, l1, l2, l3, l4] [v0, v1, v2] S h n = mx_ex d 172 192 [l0, l1, l2, l3, l4] [(0, 1), v0, v1, v2] S h n) ∧
  (∀ (d : Nat) (b a : Int) (l0 l1 l2 l3 l4 : Option mx_V) (v2 v3 : mx_V) (S h : mx_H) (n : Int), mx_ex d 172 192 [l0, l1, l2, l3, l4] [(0, b), (0, a), v2, v3] S h n = mx_ex d 172 193 [l0, l1, l2, l3, l4] [(0, mx_w (a + b)), v2, v3] S h n) ∧
  (∀ (d : Nat) (v i a : Int) (l0 l1 l2 l3 l4 : Option mx_V) (S h : mx_H) (n : Int), mx_ex d 172 193 [l0, l1, l2, l3, l4] [(0, v), (0, i), (2, a)] S h n = mx_gd (S a (-2) = 20 ∧ 0 ≤ i ∧ i < S a (-1)) d 172 194 [l0, l1, l2, l3, l4] [] S (mx_u h a i v) n) ∧
  (∀ (d : Nat) (x : Int) (l1 l2 l3 l4 : Option mx_V) (S h : mx_H) (n : Int), mx_ex d 172 194 [some (2, x), l1, l2, l3, l4] [] S h n = mx_ex d 172 195 [some (2, x), l1, l2, l3, l4] [(2, x)] S h n) ∧
  (∀ (d : Nat) (l0 l1 l2 l3 l4 : Option mx_V) (v0 : mx_V) (S h : mx_H) (n : Int), mx_ex d 172 195 [l0, l1, l2, l3, l4] [v0] S h n = mx_ex d 172 197 [l0, l1, l2, l3, l4] [(0, 59), v0] S h n) ∧
  (∀ (d : Nat) (x0 a : Int) (l0 l1 l2 l3 l4 : Option mx_V) (S h : mx_H) (n : Int), mx_ex (d + 1) 172 197 [l0, l1, l2, l3, l4] [(0, x0), (2, a)] S h n = mx_cl (S a (-2) = 13) d 169 [(2, a), (0, x0)] 172 200 [l0, l1, l2, l3, l4] [] S h n) ∧
  (∀ (d : Nat) (x : Int) (l0 l1 l2 l3 l4 : Option mx_V) (S h : mx_H) (n : Int), mx_ex d 172 200 [l0, l1, l2, l3, l4] [(0, x)] S h n = mx_re (0 ≤ x ∧ x ≤ 1) (some (0, x)) S h n) :=
  ⟨by intros; exact eq_ld rfl rfl,
   by intros; exact eq_push rfl,
   by intros; exact eq_cv rfl (Nat.le_of_ble_eq_true rfl) rfl rfl rfl (Nat.le_of_ble_eq_true rfl),
   by intros; exact eq_if1 rfl,
   by intros; exact eq_push rfl,
   by intros; exact eq_rr rfl,
   by intros; exact eq_push rfl,
   by intros; exact eq_st rfl (by decide) (Nat.le_of_ble_eq_true rfl) rfl,
   by intros; exact eq_push rfl,
   by intros; exact eq_st rfl (by decide) (Nat.le_of_ble_eq_true rfl) rfl,
   by intros; exact eq_if0 rfl,
   by intros; exact eq_ld rfl rfl,
   by intros; exact eq_push rfl,
   by intros; exact eq_ic0 rfl,
   by intros; exact eq_ld rfl rfl,
   by intros; exact eq_push rfl,
   by intros; exact eq_push rfl,
   by intros; exact eq_cv rfl (Nat.le_of_ble_eq_true rfl) rfl rfl rfl (Nat.le_of_ble_eq_true rfl),
   by intros; exact eq_if1 rfl,
   by intros; exact eq_push rfl,
   by intros; exact eq_rr rfl,
   by intros; exact eq_ld rfl rfl,
   by intros; exact eq_gr rfl,
   by intros; exact eq_ld rfl rfl,
   by intros; exact eq_push rfl,
   by intros; exact eq_i2 (o := mx_add) rfl,
   by intros; exact eq_ld rfl rfl,
   by intros; exact eq_i2 (o := mx_add) rfl,
   by intros; exact eq_ld rfl rfl,
   by intros; exact eq_gi rfl,
   by intros; exact eq_iast rfl,
   by intros; exact eq_inc rfl rfl rfl,
   by intros; exact eq_ld rfl rfl,
   by intros; exact eq_push rfl,
   by intros; exact eq_cv rfl (Nat.le_of_ble_eq_true rfl) rfl rfl rfl (Nat.le_of_ble_eq_true rfl),
   by intros; exact eq_st rfl (by decide) (Nat.le_of_ble_eq_true rfl) rfl,
   by intros; exact eq_go rfl,
   by intros; exact eq_ld rfl rfl,
   by intros; exact eq_gr rfl,
   by intros; exact eq_ld rfl rfl,
   by intros; exact eq_push rfl,
   by intros; exact eq_i2 (o := mx_add) rfl,
   by intros; exact eq_ld rfl rfl,
   by intros; exact eq_iast rfl,
   by intros; exact eq_ld rfl rfl,
   by intros; exact eq_gr rfl,
   by intros; exact eq_push rfl,
   by intros; exact eq_dup2 rfl (by decide) (by decide),
   by intros; exact eq_iald rfl,
   by intros; exact eq_push rfl,
   by intros; exact eq_i2 (o := mx_add) rfl,
   by intros; exact eq_iast rfl,
   by intros; exact eq_ld rfl rfl,
   by intros; exact eq_push rfl,
   by intros; exact eq_cv rfl (Nat.le_of_ble_eq_true rfl) rfl rfl rfl (Nat.le_of_ble_eq_true rfl),
   by intros; exact eq_rr rfl⟩
theorem rw_X12_takesEvening :
  (∀ (d : Nat) (a0 : Int) (S h : mx_H) (n : Int), mx_M d 173 [(2, a0)] S h n = mx_ex d 173 0 [some (2, a0), none, none] [] S h n) ∧
  (∀ (d : Nat) (x : Int) (l1 l2 : Option mx_V) (S h : mx_H) (n : Int), mx_ex d 173 0 [some (2, x), l1, l2] [] S h n = mx_ex d 173 1 [some (2, x), l1, l2] [(2, x)] S h n) ∧
  (∀ (d : Nat) (a : Int) (l0 l1 l2 : Option mx_V) (S h : mx_H) (n : Int), mx_ex (d + 1) 173 1 [l0, l1, l2] [(2, a)] S h n = mx_cl (S a (-2) = 13) d 167 [(2, a)] 173 4 [l0, l1, l2] [] S h n) ∧
  (∀ (d : Nat) (x : Int) (l1 l2 : Option mx_V) (S h : mx_H) (n : Int), mx_ex d 173 4 [some (2, x), l1, l2] [] S h n = mx_ex d 173 5 [some (2, x), l1, l2] [(2, x)] S h n) ∧
  (∀ (d : Nat) (l0 l1 l2 : Option mx_V) (v0 : mx_V) (S h : mx_H) (n : Int), mx_ex d 173 5 [l0, l1, l2] [v0] S h n = mx_ex d 173 6 [l0, l1, l2] [(0, 0), v0] S h n) ∧
  (∀ (d : Nat) (l0 l1 l2 : Option mx_V) (v0 v1 : mx_V) (S h : mx_H) (n : Int), mx_ex d 173 6 [l0, l1, l2] [v0, v1] S h n = mx_ex d 173 7 [l0, l1, l2] [(0, 2), v0, v1] S h n) ∧
  (∀ (d : Nat) (x0 x1 a : Int) (l0 l1 l2 : Option mx_V) (S h : mx_H) (n : Int), mx_ex (d + 1) 173 7 [l0, l1, l2] [(0, x0), (0, x1), (2, a)] S h n = mx_cl (S a (-2) = 13) d 170 [(2, a), (0, x1), (0, x0)] 173 10 [l0, l1, l2] [] S h n) ∧
  (∀ (d : Nat) (a : Int) (l0 l1 l2 : Option mx_V) (S h : mx_H) (n : Int), mx_ex d 173 10 [l0, l1, l2] [(0, a)] S h n = mx_br (a = 0) d 173 13 15 [l0, l1, l2] [] S h n) ∧
  (∀ (d : Nat) (l0 l1 l2 : Option mx_V) (S h : mx_H) (n : Int), mx_ex d 173 13 [l0, l1, l2] [] S h n = mx_ex d 173 14 [l0, l1, l2] [(0, 0)] S h n) ∧
  (∀ (d : Nat) (x : Int) (l0 l1 l2 : Option mx_V) (S h : mx_H) (n : Int), mx_ex d 173 14 [l0, l1, l2] [(0, x)] S h n = mx_re (0 ≤ x ∧ x ≤ 1) (some (0, x)) S h n) ∧
  (∀ (d : Nat) (x : Int) (l1 l2 : Option mx_V) (S h : mx_H) (n : Int), mx_ex d 173 15 [some (2, x), l1, l2] [] S h n = mx_ex d 173 16 [some (2, x), l1, l2] [(2, x)] S h n) ∧
  (∀ (d : Nat) (a : Int) (l0 l1 l2 : Option mx_V) (S h : mx_H) (n : Int), mx_ex d 173 16 [l0, l1, l2] [(2, a)] S h n = mx_gd (13 ≤ S a (-2) ∧ S a (-2) ≤ 13) d 173 19 [l0, l1, l2] [(0, h a 10)] S h n) ∧
  (∀ (d : Nat) (x : Int) (l0 l1 l2 : Option mx_V) (S h : mx_H) (n : Int), mx_ex d 173 19 [l0, l1, l2] [(0, x)] S h n = mx_ex d 173 20 [mx_nl l0, some (0, x), l2] [] S h n) ∧
  (∀ (d : Nat) (x : Int) (l1 l2 : Option mx_V) (S h : mx_H) (n : Int), mx_ex d 173 20 [some (2, x), l1, l2] [] S h n = mx_ex d 173 21 [some (2, x), l1, l2] [(2, x)] S h n) ∧
  (∀ (d : Nat) (l0 l1 l2 : Option mx_V) (v0 : mx_V) (S h : mx_H) (n : Int), mx_ex d 173 21 [l0, l1, l2] [v0] S h n = mx_ex d 173 22 [l0, l1, l2] [(0, 2), v0] S h n) ∧
  (∀ (d : Nat) (l0 l1 l2 : Option mx_V) (v0 v1 : mx_V) (S h : mx_H) (n : Int), mx_ex d 173 22 [l0, l1, l2] [v0, v1] S h n = mx_ex d 173 24 [l0, l1, l2] [(0, 16), v0, v1] S h n) ∧
  (∀ (d : Nat) (x0 x1 a : Int) (l0 l1 l2 : Option mx_V) (S h : mx_H) (n : Int), mx_ex (d + 1) 173 24 [l0, l1, l2] [(0, x0), (0, x1), (2, a)] S h n = mx_cl (S a (-2) = 13) d 170 [(2, a), (0, x1), (0, x0)] 173 27 [l0, l1, l2] [] S h n) ∧
  (∀ (d : Nat) (a : Int) (l0 l1 l2 : Option mx_V) (S h : mx_H) (n : Int), mx_ex d 173 27 [l0, l1, l2] [(0, a)] S h n = mx_br (a = 0) d 173 30 32 [l0, l1, l2] [] S h n) ∧
  (∀ (d : Nat) (l0 l1 l2 : Option mx_V) (S h : mx_H) (n : Int), mx_ex d 173 30 [l0, l1, l2] [] S h n = mx_ex d 173 31 [l0, l1, l2] [(0, 0)] S h n) ∧
  (∀ (d : Nat) (x : Int) (l0 l1 l2 : Option mx_V) (S h : mx_H) (n : Int), mx_ex d 173 31 [l0, l1, l2] [(0, x)] S h n = mx_re (0 ≤ x ∧ x ≤ 1) (some (0, x)) S h n) ∧
  (∀ (d : Nat) (x : Int) (l1 l2 : Option mx_V) (S h : mx_H) (n : Int), mx_ex d 173 32 [some (2, x), l1, l2] [] S h n = mx_ex d 173 33 [some (2, x), l1, l2] [(2, x)] S h n) ∧
  (∀ (d : Nat) (a : Int) (l0 l1 l2 : Option mx_V) (S h : mx_H) (n : Int), mx_ex d 173 33 [l0, l1, l2] [(2, a)] S h n = mx_gd (13 ≤ S a (-2) ∧ S a (-2) ≤ 13) d 173 36 [l0, l1, l2] [(0, h a 10)] S h n) ∧
  (∀ (d : Nat) (x : Int) (l0 l1 l2 : Option mx_V) (S h : mx_H) (n : Int), mx_ex d 173 36 [l0, l1, l2] [(0, x)] S h n = mx_ex d 173 37 [l0, mx_nl l1, some (0, x)] [] S h n) ∧
  (∀ (d : Nat) (x : Int) (l1 l2 : Option mx_V) (S h : mx_H) (n : Int), mx_ex d 173 37 [some (2, x), l1, l2] [] S h n = mx_ex d 173 38 [some (2, x), l1, l2] [(2, x)] S h n) ∧
  (∀ (d : Nat) (x : Int) (l0 l1 : Option mx_V) (v0 : mx_V) (S h : mx_H) (n : Int), mx_ex d 173 38 [l0, l1, some (0, x)] [v0] S h n = mx_ex d 173 39 [l0, l1, some (0, x)] [(0, x), v0] S h n) ∧
  (∀ (d : Nat) (l0 l1 l2 : Option mx_V) (v0 v1 : mx_V) (S h : mx_H) (n : Int), mx_ex d 173 39 [l0, l1, l2] [v0, v1] S h n = mx_ex d 173 41 [l0, l1, l2] [(0, 16), v0, v1] S h n) ∧
  (∀ (d : Nat) (x0 x1 a : Int) (l0 l1 l2 : Option mx_V) (S h : mx_H) (n : Int), mx_ex (d + 1) 173 41 [l0, l1, l2] [(0, x0), (0, x1), (2, a)] S h n = mx_cl (S a (-2) = 13) d 170 [(2, a), (0, x1), (0, x0)] 173 44 [l0, l1, l2] [] S h n) ∧
  (∀ (d : Nat) (a : Int) (l0 l1 l2 : Option mx_V) (S h : mx_H) (n : Int), mx_ex d 173 44 [l0, l1, l2] [(0, a)] S h n = mx_br (a = 0) d 173 47 49 [l0, l1, l2] [] S h n) ∧
  (∀ (d : Nat) (l0 l1 l2 : Option mx_V) (S h : mx_H) (n : Int), mx_ex d 173 47 [l0, l1, l2] [] S h n = mx_ex d 173 48 [l0, l1, l2] [(0, 0)] S h n) ∧
  (∀ (d : Nat) (x : Int) (l0 l1 l2 : Option mx_V) (S h : mx_H) (n : Int), mx_ex d 173 48 [l0, l1, l2] [(0, x)] S h n = mx_re (0 ≤ x ∧ x ≤ 1) (some (0, x)) S h n) ∧
  (∀ (d : Nat) (x : Int) (l1 l2 : Option mx_V) (S h : mx_H) (n : Int), mx_ex d 173 49 [some (2, x), l1, l2] [] S h n = mx_ex d 173 50 [some (2, x), l1, l2] [(2, x)] S h n) ∧
  (∀ (d : Nat) (a : Int) (l0 l1 l2 : Option mx_V) (S h : mx_H) (n : Int), mx_ex d 173 50 [l0, l1, l2] [(2, a)] S h n = mx_gd (13 ≤ S a (-2) ∧ S a (-2) ≤ 13) d 173 53 [l0, l1, l2] [(2, S a 0)] S h n) ∧
  (∀ (d : Nat) (l0 l1 l2 : Option mx_V) (v0 : mx_V) (S h : mx_H) (n : Int), mx_ex d 173 53 [l0, l1, l2] [v0] S h n = mx_ex d 173 54 [l0, l1, l2] [(0, 3), v0] S h n) ∧
  (∀ (d : Nat) (l0 l1 l2 : Option mx_V) (v0 v1 : mx_V) (S h : mx_H) (n : Int), mx_ex d 173 54 [l0, l1, l2] [v0, v1] S h n = mx_ex d 173 55 [l0, l1, l2] [(0, 2), v0, v1] S h n) ∧
  (∀ (d : Nat) (x : Int) (l0 l2 : Option mx_V) (v0 v1 v2 : mx_V) (S h : mx_H) (n : Int), mx_ex d 173 55 [l0, some (0, x), l2] [v0, v1, v2] S h n = mx_ex d 173 56 [l0, some (0, x), l2] [(0, x), v0, v1, v2] S h n) ∧
  (∀ (d : Nat) (b a : Int) (l0 l1 l2 : Option mx_V) (v2 v3 : mx_V) (S h : mx_H) (n : Int), mx_ex d 173 56 [l0, l1, l2] [(0, b), (0, a), v2, v3] S h n = mx_ex d 173 57 [l0, l1, l2] [(0, mx_w (a * b)), v2, v3] S h n) ∧
  (∀ (d : Nat) (b a : Int) (l0 l1 l2 : Option mx_V) (v2 : mx_V) (S h : mx_H) (n : Int), mx_ex d 173 57 [l0, l1, l2] [(0, b), (0, a), v2] S h n = mx_ex d 173 58 [l0, l1, l2] [(0, mx_w (a + b)), v2] S h n) ∧
  (∀ (d : Nat) (x : Int) (l0 l1 : Option mx_V) (v0 v1 : mx_V) (S h : mx_H) (n : Int), mx_ex d 173 58 [l0, l1, some (0, x)] [v0, v1] S h n = mx_ex d 173 59 [l0, l1, some (0, x)] [(0, x), v0, v1] S h n) ∧
  (∀ (d : Nat) (v i a : Int) (l0 l1 l2 : Option mx_V) (S h : mx_H) (n : Int), mx_ex d 173 59 [l0, l1, l2] [(0, v), (0, i), (2, a)] S h n = mx_gd (S a (-2) = 20 ∧ 0 ≤ i ∧ i < S a (-1)) d 173 60 [l0, l1, l2] [] S (mx_u h a i v) n) ∧
  (∀ (d : Nat) (x : Int) (l1 l2 : Option mx_V) (S h : mx_H) (n : Int), mx_ex d 173 60 [some (2, x), l1, l2] [] S h n = mx_ex d 173 61 [some (2, x), l1, l2] [(2, x)] S h n) ∧
  (∀ (d : Nat) (a : Int) (l0 l1 l2 : Option mx_V) (S h : mx_H) (n : Int), mx_ex d 173 61 [l0, l1, l2] [(2, a)] S h n = mx_gd (13 ≤ S a (-2) ∧ S a (-2) ≤ 13) d 173 64 [l0, l1, l2] [(2, S a 0)] S h n) ∧
  (∀ (d : Nat) (l0 l1 l2 : Option mx_V) (v0 : mx_V) (S h : mx_H) (n : Int), mx_ex d 173 64 [l0, l1, l2] [v0] S h n = mx_ex d 173 65 [l0, l1, l2] [(0, 3), v0] S h n) ∧
  (∀ (d : Nat) (l0 l1 l2 : Option mx_V) (v0 v1 : mx_V) (S h : mx_H) (n : Int), mx_ex d 173 65 [l0, l1, l2] [v0, v1] S h n = mx_ex d 173 66 [l0, l1, l2] [(0, 2), v0, v1] S h n) ∧
  (∀ (d : Nat) (x : Int) (l0 l2 : Option mx_V) (v0 v1 v2 : mx_V) (S h : mx_H) (n : Int), mx_ex d 173 66 [l0, some (0, x), l2] [v0, v1, v2] S h n = mx_ex d 173 67 [l0, some (0, x), l2] [(0, x), v0, v1, v2] S h n) ∧
  (∀ (d : Nat) (b a : Int) (l0 l1 l2 : Option mx_V) (v2 v3 : mx_V) (S h : mx_H) (n : Int), mx_ex d 173 67 [l0, l1, l2] [(0, b), (0, a), v2, v3] S h n = mx_ex d 173 68 [l0, l1, l2] [(0, mx_w (a * b)), v2, v3] S h n) ∧
  (∀ (d : Nat) (b a : Int) (l0 l1 l2 : Option mx_V) (v2 : mx_V) (S h : mx_H) (n : Int), mx_ex d 173 68 [l0, l1, l2] [(0, b), (0, a), v2] S h n = mx_ex d 173 69 [l0, l1, l2] [(0, mx_w (a + b)), v2] S h n) ∧
  (∀ (d : Nat) (l0 l1 l2 : Option mx_V) (v0 v1 : mx_V) (S h : mx_H) (n : Int), mx_ex d 173 69 [l0, l1, l2] [v0, v1] S h n = mx_ex d 173 70 [l0, l1, l2] [(0, 1), v0, v1] S h n) ∧
  (∀ (d : Nat) (b a : Int) (l0 l1 l2 : Option mx_V) (v2 : mx_V) (S h : mx_H) (n : Int), mx_ex d 173 70 [l0, l1, l2] [(0, b), (0, a), v2] S h n = mx_ex d 173 71 [l0, l1, l2] [(0, mx_w (a + b)), v2] S h n) ∧
  (∀ (d : Nat) (x : Int) (l1 l2 : Option mx_V) (v0 v1 : mx_V) (S h : mx_H) (n : Int), mx_ex d 173 71 [some (2, x), l1, l2] [v0, v1] S h n = mx_ex d 173 72 [some (2, x), l1, l2] [(2, x), v0, v1] S h n) ∧
  (∀ (d : Nat) (a : Int) (l0 l1 l2 : Option mx_V) (v1 v2 : mx_V) (S h : mx_H) (n : Int), mx_ex d 173 72 [l0, l1, l2] [(2, a), v1, v2] S h n = mx_gd (13 ≤ S a (-2) ∧ S a (-2) ≤ 13) d 173 75 [l0, l1, l2] [(0, h a 10), v1, v2] S h n) ∧
  (∀ (d : Nat) (v i a : Int) (l0 l1 l2 : Option mx_V) (S h : mx_H) (n : Int), mx_ex d 173 75 [l0, l1, l2] [(0, v), (0, i), (2, a)] S h n = mx_gd (S a (-2) = 20 ∧ 0 ≤ i ∧ i < S a (-1)) d 173 76 [l0, l1, l2] [] S (mx_u h a i v) n) ∧
  (∀ (d : Nat) (x : Int) (l1 l2 : Option mx_V) (S h : mx_H) (n : Int), mx_ex d 173 76 [some (2, x), l1, l2] [] S h n = mx_ex d 173 77 [some (2, x), l1, l2] [(2, x)] S h n) ∧
  (∀ (d : Nat) (l0 l1 l2 : Option mx_V) (v0 : mx_V) (S h : mx_H) (n : Int), mx_ex d 173 77 [l0, l1, l2] [v0] S h n = mx_ex d 173 79 [l0, l1, l2] [(0, 59), v0] S h n) ∧
  (∀ (d : Nat) (x0 a : Int) (l0 l1 l2 : Option mx_V) (S h : mx_H) (n : Int), mx_ex (d + 1) 173 79 [l0, l1, l2] [(0, x0), (2, a)] S h n = mx_cl (S a (-2) = 13) d 169 [(2, a), (0, x0)] 173 82 [l0, l1, l2] [] S h n) ∧
  (∀ (d : Nat) (x : Int) (l0 l1 l2 : Option mx_V) (S h : mx_H) (n : Int), mx_ex d 173 82 [l0, l1, l2] [(0, x)] S h n = mx_re (0 ≤ x ∧ x ≤ 1) (some (0, x)) S h n) :=
  ⟨by intros; exact rfl,
   by intros; exact eq_ld rfl rfl,
   by intros; exact eq_cv rfl (Nat.le_of_ble_eq_true rfl) rfl rfl rfl (Nat.le_of_ble_eq_true rfl),
   by intros; exact eq_ld rfl rfl,
   by intros; exact eq_push rfl,
   by intros; exact eq_push rfl,
   by intros; exact eq_cv rfl (Nat.le_of_ble_eq_true rfl) rfl rfl rfl (Nat.le_of_ble_eq_true rfl),
   by intros; exact eq_if1 rfl,
   by intros; exact eq_push rfl,
   by intros; exact eq_rr rfl,
   by intros; exact eq_ld rfl rfl,
   by intros; exact eq_gi rfl,
   by intros; exact eq_st rfl (by decide) (Nat.le_of_ble_eq_true rfl) rfl,
   by intros; exact eq_ld rfl rfl,
   by intros; exact eq_push rfl,
   by intros; exact eq_push rfl,
   by intros; exact eq_cv rfl (Nat.le_of_ble_eq_true rfl) rfl rfl rfl (Nat.le_of_ble_eq_true rfl),
   by intros; exact eq_if1 rfl,
   by intros; exact eq_push rfl,
   by intros; exact eq_rr rfl,
   by intros; exact eq_ld rfl rfl,
   by intros; exact eq_gi rfl,
   by intros; exact eq_st rfl (by decide) (Nat.le_of_ble_eq_true rfl) rfl,
   by intros; exact eq_ld rfl rfl,
   by intros; exact eq_ld rfl rfl,
   by intros; exact eq_push rfl,
   by intros; exact eq_cv rfl (Nat.le_of_ble_eq_true rfl) rfl rfl rfl (Nat.le_of_ble_eq_true rfl),
   by intros; exact eq_if1 rfl,
   by intros; exact eq_push rfl,
   by intros; exact eq_rr rfl,
   by intros; exact eq_ld rfl rfl,
   by intros; exact eq_gr rfl,
   by intros; exact eq_push rfl,
   by intros; exact eq_push rfl,
   by intros; exact eq_ld rfl rfl,
   by intros; exact eq_i2 (o := mx_mul) rfl,
   by intros; exact eq_i2 (o := mx_add) rfl,
   by intros; exact eq_ld rfl rfl,
   by intros; exact eq_iast rfl,
   by intros; exact eq_ld rfl rfl,
   by intros; exact eq_gr rfl,
   by intros; exact eq_push rfl,
   by intros; exact eq_push rfl,
   by intros; exact eq_ld rfl rfl,
   by intros; exact eq_i2 (o := mx_mul) rfl,
   by intros; exact eq_i2 (o := mx_add) rfl,
   by intros; exact eq_push rfl,
   by intros; exact eq_i2 (o := mx_add) rfl,
   by intros; exact eq_ld rfl rfl,
   by intros; exact eq_gi rfl,
   by intros; exact eq_iast rfl,
   by intros; exact eq_ld rfl rfl,
   by intros; exact eq_push rfl,
   by intros; exact eq_cv rfl (Nat.le_of_ble_eq_true rfl) rfl rfl rfl (Nat.le_of_ble_eq_true rfl),
   by intros; exact eq_rr rfl⟩
theorem rw_X12_takesLine :
  (∀ (d : Nat) (a0 a1 : Int) (S h : mx_H) (n : Int), mx_M d 174 [(2, a0), (0, a1)] S h n = mx_ex d 174 0 [some (2, a0), some (0, a1), none, none] [] S h n) ∧
  (∀ (d : Nat) (x : Int) (l1 l2 l3 : Option mx_V) (S h : mx_H) (n : Int), mx_ex d 174 0 [some (2, x), l1, l2, l3] [] S h n = mx_ex d 174 1 [some (2, x), l1, l2, l3] [(2, x)] S h n) ∧
  (∀ (d : Nat) (a : Int) (l0 l1 l2 l3 : Option mx_V) (S h : mx_H) (n : Int), mx_ex d 174 1 [l0, l1, l2, l3] [(2, a)] S h n = mx_gd (13 ≤ S a (-2) ∧ S a (-2) ≤ 13) d 174 4 [l0, l1, l2, l3] [(2, S a 0)] S h n) ∧
  (∀ (d : Nat) (l0 l1 l2 l3 : Option mx_V) (v0 : mx_V) (S h : mx_H) (n : Int), mx_ex d 174 4 [l0, l1, l2, l3] [v0] S h n = mx_ex d 174 5 [l0, l1, l2, l3] [(0, 1), v0] S h n) ∧
  (∀ (d : Nat) (i a : Int) (l0 l1 l2 l3 : Option mx_V) (S h : mx_H) (n : Int), mx_ex d 174 5 [l0, l1, l2, l3] [(0, i), (2, a)] S h n = mx_gd ((S a (-2) = 20 ∨ S a (-2) = 24) ∧ 0 ≤ i ∧ i < S a (-1)) d 174 6 [l0, l1, l2, l3] [(0, h a i)] S h n) ∧
  (∀ (d : Nat) (l0 l1 l2 l3 : Option mx_V) (v0 : mx_V) (S h : mx_H) (n : Int), mx_ex d 174 6 [l0, l1, l2, l3] [v0] S h n = mx_ex d 174 8 [l0, l1, l2, l3] [(0, 6), v0] S h n) ∧
  (∀ (d : Nat) (b a : Int) (l0 l1 l2 l3 : Option mx_V) (S h : mx_H) (n : Int), mx_ex d 174 8 [l0, l1, l2, l3] [(0, b), (0, a)] S h n = mx_br (a = b) d 174 11 13 [l0, l1, l2, l3] [] S h n) ∧
  (∀ (d : Nat) (l0 l1 l2 l3 : Option mx_V) (S h : mx_H) (n : Int), mx_ex d 174 11 [l0, l1, l2, l3] [] S h n = mx_ex d 174 12 [l0, l1, l2, l3] [(0, 0)] S h n) ∧
  (∀ (d : Nat) (x : Int) (l0 l1 l2 l3 : Option mx_V) (S h : mx_H) (n : Int), mx_ex d 174 12 [l0, l1, l2, l3] [(0, x)] S h n = mx_re (0 ≤ x ∧ x ≤ 1) (some (0, x)) S h n) ∧
  (∀ (d : Nat) (x : Int) (l1 l2 l3 : Option mx_V) (S h : mx_H) (n : Int), mx_ex d 174 13 [some (2, x), l1, l2, l3] [] S h n = mx_ex d 174 14 [some (2, x), l1, l2, l3] [(2, x)] S h n) ∧
  (∀ (d : Nat) (a : Int) (l0 l1 l2 l3 : Option mx_V) (S h : mx_H) (n : Int), mx_ex (d + 1) 174 14 [l0, l1, l2, l3] [(2, a)] S h n = mx_cl (S a (-2) = 13) d 167 [(2, a)] 174 17 [l0, l1, l2, l3] [] S h n) ∧
  (∀ (d : Nat) (x : Int) (l1 l2 l3 : Option mx_V) (S h : mx_H) (n : Int), mx_ex d 174 17 [some (2, x), l1, l2, l3] [] S h n = mx_ex d 174 18 [some (2, x), l1, l2, l3] [(2, x)] S h n) ∧
  (∀ (d : Nat) (a : Int) (l0 l1 l2 l3 : Option mx_V) (S h : mx_H) (n : Int), mx_ex d 174 18 [l0, l1, l2, l3] [(2, a)] S h n = mx_gd (13 ≤ S a (-2) ∧ S a (-2) ≤ 13) d 174 21 [l0, l1, l2, l3] [(2, S a 0)] S h n) ∧
  (∀ (d : Nat) (l0 l1 l2 l3 : Option mx_V) (v0 : mx_V) (S h : mx_H) (n : Int), mx_ex d 174 21 [l0, l1, l2, l3] [v0] S h n = mx_ex d 174 22 [l0, l1, l2, l3] [(0, 0), v0] S h n) ∧
  (∀ (d : Nat) (i a : Int) (l0 l1 l2 l3 : Option mx_V) (S h : mx_H) (n : Int), mx_ex d 174 22 [l0, l1, l2, l3] [(0, i), (2, a)] S h n = mx_gd ((S a (-2) = 20 ∨ S a (-2) = 24) ∧ 0 ≤ i ∧ i < S a (-1)) d 174 23 [l0, l1, l2, l3] [(0, h a i)] S h n) ∧
  (∀ (d : Nat) (l0 l1 l2 l3 : Option mx_V) (v0 : mx_V) (S h : mx_H) (n : Int), mx_ex d 174 23 [l0, l1, l2, l3] [v0] S h n = mx_ex d 174 24 [l0, l1, l2, l3] [(0, 1), v0] S h n) ∧
  (∀ (d : Nat) (b a : Int) (l0 l1 l2 l3 : Option mx_V) (S h : mx_H) (n : Int), mx_ex d 174 24 [l0, l1, l2, l3] [(0, b), (0, a)] S h n = mx_ex d 174 25 [l0, l1, l2, l3] [(0, mx_w (a - b))] S h n) ∧
  (∀ (d : Nat) (x : Int) (l0 l1 l2 l3 : Option mx_V) (S h : mx_H) (n : Int), mx_ex d 174 25 [l0, l1, l2, l3] [(0, x)] S h n = mx_ex d 174 26 [l0, mx_nl l1, some (0, x), l3] [] S h n) ∧
  (∀ (d : Nat) (l0 l1 l2 l3 : Option mx_V) (S h : mx_H) (n : Int), mx_ex d 174 26 [l0, l1, l2, l3] [] S h n = mx_ex d 174 28 [l0, l1, l2, l3] [(0, 69)] S h n) ∧
  (∀ (d : Nat) (l0 l1 l2 l3 : Option mx_V) (v0 : mx_V) (S h : mx_H) (n : Int), mx_ex d 174 28 [l0, l1, l2, l3] [v0] S h n = mx_ex d 174 29 [l0, l1, l2, l3] [(0, 4), v0] S h n) ∧
  (∀ (d : Nat) (x : Int) (l1 l2 l3 : Option mx_V) (v0 v1 : mx_V) (S h : mx_H) (n : Int), mx_ex d 174 29 [some (2, x), l1, l2, l3] [v0, v1] S h n = mx_ex d 174 30 [some (2, x), l1, l2, l3] [(2, x), v0, v1] S h n) ∧
  (∀ (d : Nat) (a : Int) (l0 l1 l2 l3 : Option mx_V) (v1 v2 : mx_V) (S h : mx_H) (n : Int), mx_ex d 174 30 [l0, l1, l2, l3] [(2, a), v1, v2] S h n = mx_gd (13 ≤ S a (-2) ∧ S a (-2) ≤ 13) d 174 33 [l0, l1, l2, l3] [(2, S a 0), v1, v2] S h n) ∧
  (∀ (d : Nat) (l0 l1 l2 l3 : Option mx_V) (v0 v1 v2 : mx_V) (S h : mx_H) (n : Int), mx_ex d 174 33 [l0, l1, l2, l3] [v0, v1, v2] S h n = mx_ex d 174 34 [l0, l1, l2, l3] [(0, 1), v0, v1, v2] S h n) ∧
  (∀ (d : Nat) (i a : Int) (l0 l1 l2 l3 : Option mx_V) (v2 v3 : mx_V) (S h : mx_H) (n : Int), mx_ex d 174 34 [l0, l1, l2, l3] [(0, i), (2, a), v2, v3] S h n = mx_gd ((S a (-2) = 20 ∨ S a (-2) = 24) ∧ 0 ≤ i ∧ i < S a (-1)) d 174 35 [l0, l1, l2, l3] [(0, h a i), v2, v3] S h n) ∧
  (∀ (d : Nat) (b a : Int) (l0 l1 l2 l3 : Option mx_V) (v2 : mx_V) (S h : mx_H) (n : Int), mx_ex d 174 35 [l0, l1, l2, l3] [(0, b), (0, a), v2] S h n = mx_ex d 174 36 [l0, l1, l2, l3] [(0, mx_w (a * b)), v2] S h n) ∧
  (∀ (d : Nat) (b a : Int) (l0 l1 l2 l3 : Option mx_V) (S h : mx_H) (n : Int), mx_ex d 174 36 [l0, l1, l2, l3] [(0, b), (0, a)] S h n = mx_ex d 174 37 [l0, l1, l2, l3] [(0, mx_w (a + b))] S h n) ∧
  (∀ (d : Nat) (x : Int) (l0 l1 l2 l3 : Option mx_V) (S h : mx_H) (n : Int), mx_ex d 174 37 [l0, l1, l2, l3] [(0, x)] S h n = mx_ex d 174 38 [l0, l1, mx_nl l2, some (0, x)] [] S h n) ∧
  (∀ (d : Nat) (x : Int) (l1 l2 l3 : Option mx_V) (S h : mx_H) (n : Int), mx_ex d 174 38 [some (2, x), l1, l2, l3] [] S h n = mx_ex d 174 39 [some (2, x), l1, l2, l3] [(2, x)] S h n) ∧
  (∀ (d : Nat) (l0 l1 l2 l3 : Option mx_V) (v0 : mx_V) (S h : mx_H) (n : Int), mx_ex d 174 39 [l0, l1, l2, l3] [v0] S h n = mx_ex d 174 40 [l0, l1, l2, l3] [(0, 0), v0] S h n) ∧
  (∀ (d : Nat) (x : Int) (l0 l1 l3 : Option mx_V) (v0 v1 : mx_V) (S h : mx_H) (n : Int), mx_ex d 174 40 [l0, l1, some (0, x), l3] [v0, v1] S h n = mx_ex d 174 41 [l0, l1, some (0, x), l3] [(0, x), v0, v1] S h n) ∧
  (∀ (d : Nat) (x0 x1 a : Int) (l0 l1 l2 l3 : Option mx_V) (S h : mx_H) (n : Int), mx_ex (d + 1) 174 41 [l0, l1, l2, l3] [(0, x0), (0, x1), (2, a)] S h n = mx_cl (S a (-2) = 13) d 170 [(2, a), (0, x1), (0, x0)] 174 44 [l0, l1, l2, l3] [] S h n) ∧
  (∀ (d : Nat) (a : Int) (l0 l1 l2 l3 : Option mx_V) (S h : mx_H) (n : Int), mx_ex d 174 44 [l0, l1, l2, l3] [(0, a)] S h n = mx_br (a = 0) d 174 47 49 [l0, l1, l2, l3] [] S h n) ∧
  (∀ (d : Nat) (l0 l1 l2 l3 : Option mx_V) (S h : mx_H) (n : Int), mx_ex d 174 47 [l0, l1, l2, l3] [] S h n = mx_ex d 174 48 [l0, l1, l2, l3] [(0, 0)] S h n) ∧
  (∀ (d : Nat) (x : Int) (l0 l1 l2 l3 : Option mx_V) (S h : mx_H) (n : Int), mx_ex d 174 48 [l0, l1, l2, l3] [(0, x)] S h n = mx_re (0 ≤ x ∧ x ≤ 1) (some (0, x)) S h n) ∧
  (∀ (d : Nat) (x : Int) (l1 l2 l3 : Option mx_V) (S h : mx_H) (n : Int), mx_ex d 174 49 [some (2, x), l1, l2, l3] [] S h n = mx_ex d 174 50 [some (2, x), l1, l2, l3] [(2, x)] S h n) ∧
  (∀ (d : Nat) (a : Int) (l0 l1 l2 l3 : Option mx_V) (S h : mx_H) (n : Int), mx_ex d 174 50 [l0, l1, l2, l3] [(2, a)] S h n = mx_gd (13 ≤ S a (-2) ∧ S a (-2) ≤ 13) d 174 53 [l0, l1, l2, l3] [(2, S a 0)] S h n) ∧
  (∀ (d : Nat) (x : Int) (l0 l1 l2 : Option mx_V) (v0 : mx_V) (S h : mx_H) (n : Int), mx_ex d 174 53 [l0, l1, l2, some (0, x)] [v0] S h n = mx_ex d 174 54 [l0, l1, l2, some (0, x)] [(0, x), v0] S h n) ∧
  (∀ (d : Nat) (x : Int) (l0 l2 l3 : Option mx_V) (v0 v1 : mx_V) (S h : mx_H) (n : Int), mx_ex d 174 54 [l0, some (0, x), l2, l3] [v0, v1] S h n = mx_ex d 174 55 [l0, some (0, x), l2, l3] [(0, x), v0, v1] S h n) ∧
  (∀ (d : Nat) (v i a : Int) (l0 l1 l2 l3 : Option mx_V) (S h : mx_H) (n : Int), mx_ex d 174 55 [l0, l1, l2, l3] [(0, v), (0, i), (2, a)] S h n = mx_gd (S a (-2) = 20 ∧ 0 ≤ i ∧ i < S a (-1)) d 174 56 [l0, l1, l2, l3] [] S (mx_u h a i v) n) ∧
  (∀ (d : Nat) (x : Int) (l1 l2 l3 : Option mx_V) (S h : mx_H) (n : Int), mx_ex d 174 56 [some (2, x), l1, l2, l3] [] S h n = mx_ex d 174 57 [some (2, x), l1, l2, l3] [(2, x)] S h n) ∧
  (∀ (d : Nat) (a : Int) (l0 l1 l2 l3 : Option mx_V) (S h : mx_H) (n : Int), mx_ex d 174 57 [l0, l1, l2, l3] [(2, a)] S h n = mx_gd (13 ≤ S a (-2) ∧ S a (-2) ≤ 13) d 174 60 [l0, l1, l2, l3] [(2, S a 0)] S h n) ∧
  (∀ (d : Nat) (x : Int) (l0 l1 l2 : Option mx_V) (v0 : mx_V) (S h : mx_H) (n : Int), mx_ex d 174 60 [l0, l1, l2, some (0, x)] [v0] S h n = mx_ex d 174 61 [l0, l1, l2, some (0, x)] [(0, x), v0] S h n) ∧
  (∀ (d : Nat) (l0 l1 l2 l3 : Option mx_V) (v0 v1 : mx_V) (S h : mx_H) (n : Int), mx_ex d 174 61 [l0, l1, l2, l3] [v0, v1] S h n = mx_ex d 174 62 [l0, l1, l2, l3] [(0, 1), v0, v1] S h n) ∧
  (∀ (d : Nat) (b a : Int) (l0 l1 l2 l3 : Option mx_V) (v2 : mx_V) (S h : mx_H) (n : Int), mx_ex d 174 62 [l0, l1, l2, l3] [(0, b), (0, a), v2] S h n = mx_ex d 174 63 [l0, l1, l2, l3] [(0, mx_w (a + b)), v2] S h n) ∧
  (∀ (d : Nat) (x : Int) (l1 l2 l3 : Option mx_V) (v0 v1 : mx_V) (S h : mx_H) (n : Int), mx_ex d 174 63 [some (2, x), l1, l2, l3] [v0, v1] S h n = mx_ex d 174 64 [some (2, x), l1, l2, l3] [(2, x), v0, v1] S h n) ∧
  (∀ (d : Nat) (a : Int) (l0 l1 l2 l3 : Option mx_V) (v1 v2 : mx_V) (S h : mx_H) (n : Int), mx_ex d 174 64 [l0, l1, l2, l3] [(2, a), v1, v2] S h n = mx_gd (13 ≤ S a (-2) ∧ S a (-2) ≤ 13) d 174 67 [l0, l1, l2, l3] [(0, h a 10), v1, v2] S h n) ∧
  (∀ (d : Nat) (v i a : Int) (l0 l1 l2 l3 : Option mx_V) (S h : mx_H) (n : Int), mx_ex d 174 67 [l0, l1, l2, l3] [(0, v), (0, i), (2, a)] S h n = mx_gd (S a (-2) = 20 ∧ 0 ≤ i ∧ i < S a (-1)) d 174 68 [l0, l1, l2, l3] [] S (mx_u h a i v) n) ∧
  (∀ (d : Nat) (x : Int) (l1 l2 l3 : Option mx_V) (S h : mx_H) (n : Int), mx_ex d 174 68 [some (2, x), l1, l2, l3] [] S h n = mx_ex d 174 69 [some (2, x), l1, l2, l3] [(2, x)] S h n) ∧
  (∀ (d : Nat) (a : Int) (l0 l1 l2 l3 : Option mx_V) (S h : mx_H) (n : Int), mx_ex d 174 69 [l0, l1, l2, l3] [(2, a)] S h n = mx_gd (13 ≤ S a (-2) ∧ S a (-2) ≤ 13) d 174 72 [l0, l1, l2, l3] [(2, S a 0)] S h n) ∧
  (∀ (d : Nat) (x : Int) (l0 l1 l2 : Option mx_V) (v0 : mx_V) (S h : mx_H) (n : Int), mx_ex d 174 72 [l0, l1, l2, some (0, x)] [v0] S h n = mx_ex d 174 73 [l0, l1, l2, some (0, x)] [(0, x), v0] S h n) ∧
  (∀ (d : Nat) (l0 l1 l2 l3 : Option mx_V) (v0 v1 : mx_V) (S h : mx_H) (n : Int), mx_ex d 174 73 [l0, l1, l2, l3] [v0, v1] S h n = mx_ex d 174 74 [l0, l1, l2, l3] [(0, 2), v0, v1] S h n) ∧
  (∀ (d : Nat) (b a : Int) (l0 l1 l2 l3 : Option mx_V) (v2 : mx_V) (S h : mx_H) (n : Int), mx_ex d 174 74 [l0, l1, l2, l3] [(0, b), (0, a), v2] S h n = mx_ex d 174 75 [l0, l1, l2, l3] [(0, mx_w (a + b)), v2] S h n) ∧
  (∀ (d : Nat) (l0 l1 l2 l3 : Option mx_V) (v0 v1 : mx_V) (S h : mx_H) (n : Int), mx_ex d 174 75 [l0, l1, l2, l3] [v0, v1] S h n = mx_ex d 174 76 [l0, l1, l2, l3] [(0, 0), v0, v1] S h n) ∧
  (∀ (d : Nat) (v i a : Int) (l0 l1 l2 l3 : Option mx_V) (S h : mx_H) (n : Int), mx_ex d 174 76 [l0, l1, l2, l3] [(0, v), (0, i), (2, a)] S h n = mx_gd (S a (-2) = 20 ∧ 0 ≤ i ∧ i < S a (-1)) d 174 77 [l0, l1, l2, l3] [] S (mx_u h a i v) n) ∧
  (∀ (d : Nat) (x : Int) (l1 l2 l3 : Option mx_V) (S h : mx_H) (n : Int), mx_ex d 174 77 [some (2, x), l1, l2, l3] [] S h n = mx_ex d 174 78 [some (2, x), l1, l2, l3] [(2, x)] S h n) ∧
  (∀ (d : Nat) (a : Int) (l0 l1 l2 l3 : Option mx_V) (S h : mx_H) (n : Int), mx_ex d 174 78 [l0, l1, l2, l3] [(2, a)] S h n = mx_gd (13 ≤ S a (-2) ∧ S a (-2) ≤ 13) d 174 81 [l0, l1, l2, l3] [(2, S a 0)] S h n) ∧
  (∀ (d : Nat) (x : Int) (l0 l1 l2 : Option mx_V) (v0 : mx_V) (S h : mx_H) (n : Int), mx_ex d 174 81 [l0, l1, l2, some (0, x)] [v0] S h n = mx_ex d 174 82 [l0, l1, l2, some (0, x)] [(0, x), v0] S h n) ∧
  (∀ (d : Nat) (l0 l1 l2 l3 : Option mx_V) (v0 v1 : mx_V) (S h : mx_H) (n : Int), mx_ex d 174 82 [l0, l1, l2, l3] [v0, v1] S h n = mx_ex d 174 83 [l0, l1, l2, l3] [(0, 3), v0, v1] S h n) ∧
  (∀ (d : Nat) (b a : Int) (l0 l1 l2 l3 : Option mx_V) (v2 : mx_V) (S h : mx_H) (n : Int), mx_ex d 174 83 [l0, l1, l2, l3] [(0, b), (0, a), v2] S h n = mx_ex d 174 84 [l0, l1, l2, l3] [(0, mx_w (a + b)), v2] S h n) ∧
  (∀ (d : Nat) (l0 l1 l2 l3 : Option mx_V) (v0 v1 : mx_V) (S h : mx_H) (n : Int), mx_ex d 174 84 [l0, l1, l2, l3] [v0, v1] S h n = mx_ex d 174 85 [l0, l1, l2, l3] [(0, 0), v0, v1] S h n) ∧
  (∀ (d : Nat) (v i a : Int) (l0 l1 l2 l3 : Option mx_V) (S h : mx_H) (n : Int), mx_ex d 174 85 [l0, l1, l2, l3] [(0, v), (0, i), (2, a)] S h n = mx_gd (S a (-2) = 20 ∧ 0 ≤ i ∧ i < S a (-1)) d 174 86 [l0, l1, l2, l3] [] S (mx_u h a i v) n) ∧
  (∀ (d : Nat) (x : Int) (l0 l2 l3 : Option mx_V) (S h : mx_H) (n : Int), mx_ex d 174 86 [l0, some (0, x), l2, l3] [] S h n = mx_ex d 174 87 [l0, some (0, x), l2, l3] [(0, x)] S h n) ∧
  (∀ (d : Nat) (l0 l1 l2 l3 : Option mx_V) (v0 : mx_V) (S h : mx_H) (n : Int), mx_ex d 174 87 [l0, l1, l2, l3] [v0] S h n = mx_ex d 174 88 [l0, l1, l2, l3] [(0, 3), v0] S h n) ∧
  (∀ (d : Nat) (b a : Int) (l0 l1 l2 l3 : Option mx_V) (S h : mx_H) (n : Int), mx_ex d 174 88 [l0, l1, l2, l3] [(0, b), (0, a)] S h n = mx_br (a = b) d 174 114 91 [l0, l1, l2, l3] [] S h n) ∧
  (∀ (d : Nat) (x : Int) (l1 l2 l3 : Option mx_V) (S h : mx_H) (n : Int), mx_ex d 174 91 [some (2, x), l1, l2, l3] [] S h n = mx_ex d 174 92 [some (2, x), l1, l2, l3] [(2, x)] S h n) ∧
  (∀ (d : Nat) (l0 l1 l2 l3 : Option mx_V) (v0 : mx_V) (S h : mx_H) (n : Int), mx_ex d 174 92 [l0, l1, l2, l3] [v0] S h n = mx_ex d 174 93 [l0, l1, l2, l3] [(0, 0), v0] S h n) ∧
  (∀ (d : Nat) (x : Int) (l0 l1 l3 : Option mx_V) (v0 v1 : mx_V) (S h : mx_H) (n : Int), mx_ex d 174 93 [l0, l1, some (0, x), l3] [v0, v1] S h n = mx_ex d 174 94 [l0, l1, some (0, x), l3] [(0, x), v0, v1] S h n) ∧
  (∀ (d : Nat) (x0 x1 a : Int) (l0 l1 l2 l3 : Option mx_V) (S h : mx_H) (n : Int), mx_ex (d + 1) 174 94 [l0, l1, l2, l3] [(0, x0), (0, x1), (2, a)] S h n = mx_cl (S a (-2) = 13) d 170 [(2, a), (0, x1), (0, x0)] 174 97 [l0, l1, l2, l3] [] S h n) ∧
  (∀ (d : Nat) (a : Int) (l0 l1 l2 l3 : Option mx_V) (S h : mx_H) (n : Int), mx_ex d 174 97 [l0, l1, l2, l3] [(0, a)] S h n = mx_br (a = 0) d 174 100 102 [l0, l1, l2, l3] [] S h n) ∧
  (∀ (d : Nat) (l0 l1 l2 l3 : Option mx_V) (S h : mx_H) (n : Int), mx_ex d 174 100 [l0, l1, l2, l3] [] S h n = mx_ex d 174 101 [l0, l1, l2, l3] [(0, 0)] S h n) :=
  ⟨by intros; exact rfl,
   by intros; exact eq_ld rfl rfl,
   by intros; exact eq_gr rfl,
   by intros; exact eq_push rfl,
   by intros; exact eq_iald rfl,
   by intros; exact eq_push rfl,
   by intros; exact eq_ic1 rfl,
   by intros; exact eq_push rfl,
   by intros; exact eq_rr rfl,
   by intros; exact eq_ld rfl rfl,
   by intros; exact eq_cv rfl (Nat.le_of_ble_eq_true rfl) rfl rfl rfl (Nat.le_of_ble_eq_true rfl),
   by intros; exact eq_ld rfl rfl,
   by intros; exact eq_gr rfl,
   by intros; exact eq_push rfl,
   by intros; exact eq_iald rfl,
   by intros; exact eq_push rfl,
   by intros; exact eq_i2 (o := mx_sub) rfl,
   by intros; exact eq_st rfl (by decide) (Nat.le_of_ble_eq_true rfl) rfl,
   by intros; exact eq_push rfl,
   by intros; exact eq_push rfl,
   by intros; exact eq_ld rfl rfl,
   by intros; exact eq_gr rfl,
   by intros; exact eq_push rfl,
   by intros; exact eq_iald rfl,
   by intros; exact eq_i2 (o := mx_mul) rfl,
   by intros; exact eq_i2 (o := mx_add) rfl,
   by intros; exact eq_st rfl (by decide) (Nat.le_of_ble_eq_true rfl) rfl,
   by intros; exact eq_ld rfl rfl,
   by intros; exact eq_push rfl,
   by intros; exact eq_ld rfl rfl,
   by intros; exact eq_cv rfl (Nat.le_of_ble_eq_true rfl) rfl rfl rfl (Nat.le_of_ble_eq_true rfl),
   by intros; exact eq_if1 rfl,
   by intros; exact eq_push rfl,
   by intros; exact eq_rr rfl,
   by intros; exact eq_ld rfl rfl,
   by intros; exact eq_gr rfl,
   by intros; exact eq_ld rfl rfl,
   by intros; exact eq_ld rfl rfl,
   by intros; exact eq_iast rfl,
   by intros; exact eq_ld rfl rfl,
   by intros; exact eq_gr rfl,
   by intros; exact eq_ld rfl rfl,
   by intros; exact eq_push rfl,
   by intros; exact eq_i2 (o := mx_add) rfl,
   by intros; exact eq_ld rfl rfl,
   by intros; exact eq_gi rfl,
   by intros; exact eq_iast rfl,
   by intros; exact eq_ld rfl rfl,
   by intros; exact eq_gr rfl,
   by intros; exact eq_ld rfl rfl,
   by intros; exact eq_push rfl,
   by intros; exact eq_i2 (o := mx_add) rfl,
   by intros; exact eq_push rfl,
   by intros; exact eq_iast rfl,
   by intros; exact eq_ld rfl rfl,
   by intros; exact eq_gr rfl,
   by intros; exact eq_ld rfl rfl,
   by intros; exact eq_push rfl,
   by intros; exact eq_i2 (o := mx_add) rfl,
   by intros; exact eq_push rfl,
   by intros; exact eq_iast rfl,
   by intros; exact eq_ld rfl rfl,
   by intros; exact eq_push rfl,
   by intros; exact eq_ic0 rfl,
   by intros; exact eq_ld rfl rfl,
   by intros; exact eq_push rfl,
   by intros; exact eq_ld rfl rfl,
   by intros; exact eq_cv rfl (Nat.le_of_ble_eq_true rfl) rfl rfl rfl (Nat.le_of_ble_eq_true rfl),
   by intros; exact eq_if1 rfl,
   by intros; exact eq_push rfl⟩
theorem rw_X12_takesLine_1 :
  (∀ (d : Nat) (x : Int) (l0 l1 l2 l3 : Option mx_V) (S h : mx_H) (n : Int), mx_ex d 174 101 [l0, l1, l2, l3] [(0, x)] S h n = mx_re (0 ≤ x ∧ x ≤ 1) (some (0, x)) S h n) ∧
  (∀ (d : Nat) (x : Int) (l1 l2 l3 : Option mx_V) (S h : mx_H) (n : Int), mx_ex d 174 102 [some (2, x), l1, l2, l3] [] S h n = mx_ex d 174 103 [some (2, x), l1, l2, l3] [(2, x)] S h n) ∧
  (∀ (d : Nat) (a : Int) (l0 l1 l2 l3 : Option mx_V) (S h : mx_H) (n : Int), mx_ex d 174 103 [l0, l1, l2, l3] [(2, a)] S h n = mx_gd (13 ≤ S a (-2) ∧ S a (-2) ≤ 13) d 174 106 [l0, l1, l2, l3] [(2, S a 0)] S h n) ∧
  (∀ (d : Nat) (x : Int) (l0 l1 l2 : Option mx_V) (v0 : mx_V) (S h : mx_H) (n : Int), mx_ex d 174 106 [l0, l1, l2, some (0, x)] [v0] S h n = mx_ex d 174 107 [l0, l1, l2, some (0, x)] [(0, x), v0] S h n) ∧
  (∀ (d : Nat) (l0 l1 l2 l3 : Option mx_V) (v0 v1 : mx_V) (S h : mx_H) (n : Int), mx_ex d 174 107 [l0, l1, l2, l3] [v0, v1] S h n = mx_ex d 174 108 [l0, l1, l2, l3] [(0, 2), v0, v1] S h n) ∧
  (∀ (d : Nat) (b a : Int) (l0 l1 l2 l3 : Option mx_V) (v2 : mx_V) (S h : mx_H) (n : Int), mx_ex d 174 108 [l0, l1, l2, l3] [(0, b), (0, a), v2] S h n = mx_ex d 174 109 [l0, l1, l2, l3] [(0, mx_w (a + b)), v2] S h n) ∧
  (∀ (d : Nat) (x : Int) (l1 l2 l3 : Option mx_V) (v0 v1 : mx_V) (S h : mx_H) (n : Int), mx_ex d 174 109 [some (2, x), l1, l2, l3] [v0, v1] S h n = mx_ex d 174 110 [some (2, x), l1, l2, l3] [(2, x), v0, v1] S h n) ∧
  (∀ (d : Nat) (a : Int) (l0 l1 l2 l3 : Option mx_V) (v1 v2 : mx_V) (S h : mx_H) (n : Int), mx_ex d 174 110 [l0, l1, l2, l3] [(2, a), v1, v2] S h n = mx_gd (13 ≤ S a (-2) ∧ S a (-2) ≤ 13) d 174 113 [l0, l1, l2, l3] [(0, h a 10), v1, v2] S h n) ∧
  (∀ (d : Nat) (v i a : Int) (l0 l1 l2 l3 : Option mx_V) (S h : mx_H) (n : Int), mx_ex d 174 113 [l0, l1, l2, l3] [(0, v), (0, i), (2, a)] S h n = mx_gd (S a (-2) = 20 ∧ 0 ≤ i ∧ i < S a (-1)) d 174 114 [l0, l1, l2, l3] [] S (mx_u h a i v) n) ∧
  (∀ (d : Nat) (x : Int) (l0 l2 l3 : Option mx_V) (S h : mx_H) (n : Int), mx_ex d 174 114 [l0, some (0, x), l2, l3] [] S h n = mx_ex d 174 115 [l0, some (0, x), l2, l3] [(0, x)] S h n) ∧
  (∀ (d : Nat) (l0 l1 l2 l3 : Option mx_V) (v0 : mx_V) (S h : mx_H) (n : Int), mx_ex d 174 115 [l0, l1, l2, l3] [v0] S h n = mx_ex d 174 116 [l0, l1, l2, l3] [(0, 2), v0] S h n) ∧
  (∀ (d : Nat) (b a : Int) (l0 l1 l2 l3 : Option mx_V) (S h : mx_H) (n : Int), mx_ex d 174 116 [l0, l1, l2, l3] [(0, b), (0, a)] S h n = mx_br (a = b) d 174 124 119 [l0, l1, l2, l3] [] S h n) ∧
  (∀ (d : Nat) (x : Int) (l0 l2 l3 : Option mx_V) (S h : mx_H) (n : Int), mx_ex d 174 119 [l0, some (0, x), l2, l3] [] S h n = mx_ex d 174 120 [l0, some (0, x), l2, l3] [(0, x)] S h n) ∧
  (∀ (d : Nat) (l0 l1 l2 l3 : Option mx_V) (v0 : mx_V) (S h : mx_H) (n : Int), mx_ex d 174 120 [l0, l1, l2, l3] [v0] S h n = mx_ex d 174 121 [l0, l1, l2, l3] [(0, 3), v0] S h n) ∧
  (∀ (d : Nat) (b a : Int) (l0 l1 l2 l3 : Option mx_V) (S h : mx_H) (n : Int), mx_ex d 174 121 [l0, l1, l2, l3] [(0, b), (0, a)] S h n = mx_br (a = b) d 174 124 166 [l0, l1, l2, l3] [] S h n) ∧
  (∀ (d : Nat) (x : Int) (l1 l2 l3 : Option mx_V) (S h : mx_H) (n : Int), mx_ex d 174 124 [some (2, x), l1, l2, l3] [] S h n = mx_ex d 174 125 [some (2, x), l1, l2, l3] [(2, x)] S h n) ∧
  (∀ (d : Nat) (x : Int) (l0 l2 l3 : Option mx_V) (v0 : mx_V) (S h : mx_H) (n : Int), mx_ex d 174 125 [l0, some (0, x), l2, l3] [v0] S h n = mx_ex d 174 126 [l0, some (0, x), l2, l3] [(0, x), v0] S h n) ∧
  (∀ (d : Nat) (l0 l1 l2 l3 : Option mx_V) (v0 v1 : mx_V) (S h : mx_H) (n : Int), mx_ex d 174 126 [l0, l1, l2, l3] [v0, v1] S h n = mx_ex d 174 127 [l0, l1, l2, l3] [(0, 2), v0, v1] S h n) ∧
  (∀ (d : Nat) (b a : Int) (l0 l1 l2 l3 : Option mx_V) (v2 : mx_V) (S h : mx_H) (n : Int), mx_ex d 174 127 [l0, l1, l2, l3] [(0, b), (0, a), v2] S h n = mx_br (a = b) d 174 130 134 [l0, l1, l2, l3] [v2] S h n) ∧
  (∀ (d : Nat) (l0 l1 l2 l3 : Option mx_V) (v0 : mx_V) (S h : mx_H) (n : Int), mx_ex d 174 130 [l0, l1, l2, l3] [v0] S h n = mx_ex d 174 131 [l0, l1, l2, l3] [(0, 0), v0] S h n) ∧
  (∀ (d : Nat) (l0 l1 l2 l3 : Option mx_V) (v0 v1 : mx_V) (S h : mx_H) (n : Int), mx_ex d 174 131 [l0, l1, l2, l3] [v0, v1] S h n = mx_ex d 174 135 [l0, l1, l2, l3] [v0, v1] S h n) ∧
  (∀ (d : Nat) (l0 l1 l2 l3 : Option mx_V) (v0 : mx_V) (S h : mx_H) (n : Int), mx_ex d 174 134 [l0, l1, l2, l3] [v0] S h n = mx_ex d 174 135 [l0, l1, l2, l3] [(0, 1), v0] S h n) ∧
  (∀ (d : Nat) (x : Int) (l0 l2 l3 : Option mx_V) (v0 v1 : mx_V) (S h : mx_H) (n : Int), mx_ex d 174 135 [l0, some (0, x), l2, l3] [v0, v1] S h n = mx_ex d 174 136 [l0, some (0, x), l2, l3] [(0, x), v0, v1] S h n) ∧
  (∀ (d : Nat) (l0 l1 l2 l3 : Option mx_V) (v0 v1 v2 : mx_V) (S h : mx_H) (n : Int), mx_ex d 174 136 [l0, l1, l2, l3] [v0, v1, v2] S h n = mx_ex d 174 137 [l0, l1, l2, l3] [(0, 2), v0, v1, v2] S h n) ∧
  (∀ (d : Nat) (b a : Int) (l0 l1 l2 l3 : Option mx_V) (v2 v3 : mx_V) (S h : mx_H) (n : Int), mx_ex d 174 137 [l0, l1, l2, l3] [(0, b), (0, a), v2, v3] S h n = mx_br (a = b) d 174 140 144 [l0, l1, l2, l3] [v2, v3] S h n) ∧
  (∀ (d : Nat) (x : Int) (l0 l1 l3 : Option mx_V) (v0 v1 : mx_V) (S h : mx_H) (n : Int), mx_ex d 174 140 [l0, l1, some (0, x), l3] [v0, v1] S h n = mx_ex d 174 141 [l0, l1, some (0, x), l3] [(0, x), v0, v1] S h n) ∧
  (∀ (d : Nat) (l0 l1 l2 l3 : Option mx_V) (v0 v1 v2 : mx_V) (S h : mx_H) (n : Int), mx_ex d 174 141 [l0, l1, l2, l3] [v0, v1, v2] S h n = mx_ex d 174 146 [l0, l1, l2, l3] [v0, v1, v2] S h n) ∧
  (∀ (d : Nat) (l0 l1 l2 l3 : Option mx_V) (v0 v1 : mx_V) (S h : mx_H) (n : Int), mx_ex d 174 144 [l0, l1, l2, l3] [v0, v1] S h n = mx_ex d 174 146 [l0, l1, l2, l3] [(0, 99), v0, v1] S h n) ∧
  (∀ (d : Nat) (x0 x1 a : Int) (l0 l1 l2 l3 : Option mx_V) (S h : mx_H) (n : Int), mx_ex (d + 1) 174 146 [l0, l1, l2, l3] [(0, x0), (0, x1), (2, a)] S h n = mx_cl (S a (-2) = 13) d 170 [(2, a), (0, x1), (0, x0)] 174 149 [l0, l1, l2, l3] [] S h n) ∧
  (∀ (d : Nat) (a : Int) (l0 l1 l2 l3 : Option mx_V) (S h : mx_H) (n : Int), mx_ex d 174 149 [l0, l1, l2, l3] [(0, a)] S h n = mx_br (a = 0) d 174 152 154 [l0, l1, l2, l3] [] S h n) ∧
  (∀ (d : Nat) (l0 l1 l2 l3 : Option mx_V) (S h : mx_H) (n : Int), mx_ex d 174 152 [l0, l1, l2, l3] [] S h n = mx_ex d 174 153 [l0, l1, l2, l3] [(0, 0)] S h n) ∧
  (∀ (d : Nat) (x : Int) (l0 l1 l2 l3 : Option mx_V) (S h : mx_H) (n : Int), mx_ex d 174 153 [l0, l1, l2, l3] [(0, x)] S h n = mx_re (0 ≤ x ∧ x ≤ 1) (some (0, x)) S h n) ∧
  (∀ (d : Nat) (x : Int) (l1 l2 l3 : Option mx_V) (S h : mx_H) (n : Int), mx_ex d 174 154 [some (2, x), l1, l2, l3] [] S h n = mx_ex d 174 155 [some (2, x), l1, l2, l3] [(2, x)] S h n) ∧
  (∀ (d : Nat) (a : Int) (l0 l1 l2 l3 : Option mx_V) (S h : mx_H) (n : Int), mx_ex d 174 155 [l0, l1, l2, l3] [(2, a)] S h n = mx_gd (13 ≤ S a (-2) ∧ S a (-2) ≤ 13) d 174 158 [l0, l1, l2, l3] [(2, S a 0)] S h n) ∧
  (∀ (d : Nat) (x : Int) (l0 l1 l2 : Option mx_V) (v0 : mx_V) (S h : mx_H) (n : Int), mx_ex d 174 158 [l0, l1, l2, some (0, x)] [v0] S h n = mx_ex d 174 159 [l0, l1, l2, some (0, x)] [(0, x), v0] S h n) ∧
  (∀ (d : Nat) (l0 l1 l2 l3 : Option mx_V) (v0 v1 : mx_V) (S h : mx_H) (n : Int), mx_ex d 174 159 [l0, l1, l2, l3] [v0, v1] S h n = mx_ex d 174 160 [l0, l1, l2, l3] [(0, 3), v0, v1] S h n) ∧
  (∀ (d : Nat) (b a : Int) (l0 l1 l2 l3 : Option mx_V) (v2 : mx_V) (S h : mx_H) (n : Int), mx_ex d 174 160 [l0, l1, l2, l3] [(0, b), (0, a), v2] S h n = mx_ex d 174 161 [l0, l1, l2, l3] [(0, mx_w (a + b)), v2] S h n) ∧
  (∀ (d : Nat) (x : Int) (l1 l2 l3 : Option mx_V) (v0 v1 : mx_V) (S h : mx_H) (n : Int), mx_ex d 174 161 [some (2, x), l1, l2, l3] [v0, v1] S h n = mx_ex d 174 162 [some (2, x), l1, l2, l3] [(2, x), v0, v1] S h n) ∧
  (∀ (d : Nat) (a : Int) (l0 l1 l2 l3 : Option mx_V) (v1 v2 : mx_V) (S h : mx_H) (n : Int), mx_ex d 174 162 [l0, l1, l2, l3] [(2, a), v1, v2] S h n = mx_gd (13 ≤ S a (-2) ∧ S a (-2) ≤ 13) d 174 165 [l0, l1, l2, l3] [(0, h a 10), v1, v2] S h n) ∧
  (∀ (d : Nat) (v i a : Int) (l0 l1 l2 l3 : Option mx_V) (S h : mx_H) (n : Int), mx_ex d 174 165 [l0, l1, l2, l3] [(0, v), (0, i), (2, a)] S h n = mx_gd (S a (-2) = 20 ∧ 0 ≤ i ∧ i < S a (-1)) d 174 166 [l0, l1, l2, l3] [] S (mx_u h a i v) n) ∧
  (∀ (d : Nat) (x : Int) (l1 l2 l3 : Option mx_V) (S h : mx_H) (n : Int), mx_ex d 174 166 [some (2, x), l1, l2, l3] [] S h n = mx_ex d 174 167 [some (2, x), l1, l2, l3] [(2, x)] S h n) ∧
  (∀ (d : Nat) (a : Int) (l0 l1 l2 l3 : Option mx_V) (S h : mx_H) (n : Int), mx_ex d 174 167 [l0, l1, l2, l3] [(2, a)] S h n = mx_gd (13 ≤ S a (-2) ∧ S a (-2) ≤ 13) d 174 170 [l0, l1, l2, l3] [(2, S a 0)] S h n) ∧
  (∀ (d : Nat) (l0 l1 l2 l3 : Option mx_V) (v0 : mx_V) (S h : mx_H) (n : Int), mx_ex d 174 170 [l0, l1, l2, l3] [v0] S h n = mx_ex d 174 171 [l0, l1, l2, l3] [(0, 1), v0] S h n) ∧
  (∀ (d : Nat) (a b : Int) (l0 l1 l2 l3 : Option mx_V) (S h : mx_H) (n : Int), mx_ex d 174 171 [l0, l1, l2, l3] [(0, a), (2, b)] S h n = mx_ex d 174 172 [l0, l1, l2, l3] [(0, a), (2, b), (0, a), (2, b)] S h n) ∧
  (∀ (d : Nat) (i a : Int) (l0 l1 l2 l3 : Option mx_V) (v2 v3 : mx_V) (S h : mx_H) (n : Int), mx_ex d 174 172 [l0, l1, l2, l3] [(0, i), (2, a), v2, v3] S h n = mx_gd ((S a (-2) = 20 ∨ S a (-2) = 24) ∧ 0 ≤ i ∧ i < S a (-1)) d 174 173 [l0, l1, l2, l3] [(0, h a i), v2, v3] S h n) ∧
  (∀ (d : Nat) (l0 l1 l2 l3 : Option mx_V) (v0 v1 v2 : mx_V) (S h : mx_H) (n : Int), mx_ex d 174 173 [l0, l1, l2, l3] [v0, v1, v2] S h n = mx_ex d 174 174 [l0, l1, l2, l3] [(0, 1), v0, v1, v2] S h n) ∧
  (∀ (d : Nat) (b a : Int) (l0 l1 l2 l3 : Option mx_V) (v2 v3 : mx_V) (S h : mx_H) (n : Int), mx_ex d 174 174 [l0, l1, l2, l3] [(0, b), (0, a), v2, v3] S h n = mx_ex d 174 175 [l0, l1, l2, l3] [(0, mx_w (a + b)), v2, v3] S h n) ∧
  (∀ (d : Nat) (v i a : Int) (l0 l1 l2 l3 : Option mx_V) (S h : mx_H) (n : Int), mx_ex d 174 175 [l0, l1, l2, l3] [(0, v), (0, i), (2, a)] S h n = mx_gd (S a (-2) = 20 ∧ 0 ≤ i ∧ i < S a (-1)) d 174 176 [l0, l1, l2, l3] [] S (mx_u h a i v) n) ∧
  (∀ (d : Nat) (x : Int) (l1 l2 l3 : Option mx_V) (S h : mx_H) (n : Int), mx_ex d 174 176 [some (2, x), l1, l2, l3] [] S h n = mx_ex d 174 177 [some (2, x), l1, l2, l3] [(2, x)] S h n) ∧
  (∀ (d : Nat) (l0 l1 l2 l3 : Option mx_V) (v0 : mx_V) (S h : mx_H) (n : Int), mx_ex d 174 177 [l0, l1, l2, l3] [v0] S h n = mx_ex d 174 179 [l0, l1, l2, l3] [(0, 59), v0] S h n) ∧
  (∀ (d : Nat) (x0 a : Int) (l0 l1 l2 l3 : Option mx_V) (S h : mx_H) (n : Int), mx_ex (d + 1) 174 179 [l0, l1, l2, l3] [(0, x0), (2, a)] S h n = mx_cl (S a (-2) = 13) d 169 [(2, a), (0, x0)] 174 182 [l0, l1, l2, l3] [] S h n) ∧
  (∀ (d : Nat) (x : Int) (l0 l1 l2 l3 : Option mx_V) (S h : mx_H) (n : Int), mx_ex d 174 182 [l0, l1, l2, l3] [(0, x)] S h n = mx_re (0 ≤ x ∧ x ≤ 1) (some (0, x)) S h n) :=
  ⟨by intros; exact eq_rr rfl,
   by intros; exact eq_ld rfl rfl,
   by intros; exact eq_gr rfl,
   by intros; exact eq_ld rfl rfl,
   by intros; exact eq_push rfl,
   by intros; exact eq_i2 (o := mx_add) rfl,
   by intros; exact eq_ld rfl rfl,
   by intros; exact eq_gi rfl,
   by intros; exact eq_iast rfl,
   by intros; exact eq_ld rfl rfl,
   by intros; exact eq_push rfl,
   by intros; exact eq_ic0 rfl,
   by intros; exact eq_ld rfl rfl,
   by intros; exact eq_push rfl,
   by intros; exact eq_ic1 rfl,
   by intros; exact eq_ld rfl rfl,
   by intros; exact eq_ld rfl rfl,
   by intros; exact eq_push rfl,
   by intros; exact eq_ic1 rfl,
   by intros; exact eq_push rfl,
   by intros; exact eq_go rfl,
   by intros; exact eq_push rfl,
   by intros; exact eq_ld rfl rfl,
   by intros; exact eq_push rfl,
   by intros; exact eq_ic1 rfl,
   by intros; exact eq_ld rfl rfl,
   by intros; exact eq_go rfl,
   by intros; exact eq_push rfl,
   by intros; exact eq_cv rfl (Nat.le_of_ble_eq_true rfl) rfl rfl rfl (Nat.le_of_ble_eq_true rfl),
   by intros; exact eq_if1 rfl,
   by intros; exact eq_push rfl,
   by intros; exact eq_rr rfl,
   by intros; exact eq_ld rfl rfl,
   by intros; exact eq_gr rfl,
   by intros; exact eq_ld rfl rfl,
   by intros; exact eq_push rfl,
   by intros; exact eq_i2 (o := mx_add) rfl,
   by intros; exact eq_ld rfl rfl,
   by intros; exact eq_gi rfl,
   by intros; exact eq_iast rfl,
   by intros; exact eq_ld rfl rfl,
   by intros; exact eq_gr rfl,
   by intros; exact eq_push rfl,
   by intros; exact eq_dup2 rfl (by decide) (by decide),
   by intros; exact eq_iald rfl,
   by intros; exact eq_push rfl,
   by intros; exact eq_i2 (o := mx_add) rfl,
   by intros; exact eq_iast rfl,
   by intros; exact eq_ld rfl rfl,
   by intros; exact eq_push rfl,
   by intros; exact eq_cv rfl (Nat.le_of_ble_eq_true rfl) rfl rfl rfl (Nat.le_of_ble_eq_true rfl),
   by intros; exact eq_rr rfl⟩
theorem rh_X12_takesAll_9 : ∀ (d : Nat) (x : Int) (l1 l2 l3 : Option mx_V) (S h : mx_H) (n : Int), mx_ex d 175 9 [some (2, x), l1, l2, l3] [] S h n = mx_ex d 175 10 [some (2, x), l1, l2, l3] [(2, x)] S h n := by intros; exact eq_ld rfl rfl
theorem rw_X12_takesAll :
  (∀ (d : Nat) (a0 : Int) (S h : mx_H) (n : Int), mx_M d 175 [(2, a0)] S h n = mx_ex d 175 0 [some (2, a0), none, none, none] [] S h n) ∧
  (∀ (d : Nat) (x : Int) (l1 l2 l3 : Option mx_V) (S h : mx_H) (n : Int), mx_ex d 175 0 [some (2, x), l1, l2, l3] [] S h n = mx_ex d 175 1 [some (2, x), l1, l2, l3] [(2, x)] S h n) ∧
  (∀ (d : Nat) (l0 l1 l2 l3 : Option mx_V) (v0 : mx_V) (S h : mx_H) (n : Int), mx_ex d 175 1 [l0, l1, l2, l3] [v0] S h n = mx_ex d 175 2 [l0, l1, l2, l3] [(0, 0), v0] S h n) ∧
  (∀ (d : Nat) (v a : Int) (l0 l1 l2 l3 : Option mx_V) (S h : mx_H) (n : Int), mx_ex d 175 2 [l0, l1, l2, l3] [(0, v), (2, a)] S h n = mx_gd (13 ≤ S a (-2) ∧ S a (-2) ≤ 13) d 175 5 [l0, l1, l2, l3] [] S (mx_u h a 6 v) n) ∧
  (∀ (d : Nat) (x : Int) (l1 l2 l3 : Option mx_V) (S h : mx_H) (n : Int), mx_ex d 175 5 [some (2, x), l1, l2, l3] [] S h n = mx_ex d 175 6 [some (2, x), l1, l2, l3] [(2, x)] S h n) ∧
  (∀ (d : Nat) (a : Int) (l0 l1 l2 l3 : Option mx_V) (S h : mx_H) (n : Int), mx_ex (d + 1) 175 6 [l0, l1, l2, l3] [(2, a)] S h n = mx_cl (S a (-2) = 13) d 167 [(2, a)] 175 9 [l0, l1, l2, l3] [] S h n) ∧
  (∀ (d : Nat) (a : Int) (l0 l1 l2 l3 : Option mx_V) (S h : mx_H) (n : Int), mx_ex d 175 10 [l0, l1, l2, l3] [(2, a)] S h n = mx_gd (13 ≤ S a (-2) ∧ S a (-2) ≤ 13) d 175 13 [l0, l1, l2, l3] [(0, h a 8)] S h n) ∧
  (∀ (d : Nat) (l0 l1 l2 l3 : Option mx_V) (v0 : mx_V) (S h : mx_H) (n : Int), mx_ex d 175 13 [l0, l1, l2, l3] [v0] S h n = mx_ex d 175 14 [l0, l1, l2, l3] [(0, 1), v0] S h n) ∧
  (∀ (d : Nat) (b a : Int) (l0 l1 l2 l3 : Option mx_V) (S h : mx_H) (n : Int), mx_ex d 175 14 [l0, l1, l2, l3] [(0, b), (0, a)] S h n = mx_br (a = b) d 175 17 131 [l0, l1, l2, l3] [] S h n) ∧
  (∀ (d : Nat) (x : Int) (l1 l2 l3 : Option mx_V) (S h : mx_H) (n : Int), mx_ex d 175 17 [some (2, x), l1, l2, l3] [] S h n = mx_ex d 175 18 [some (2, x), l1, l2, l3] [(2, x)] S h n) ∧
  (∀ (d : Nat) (a : Int) (l0 l1 l2 l3 : Option mx_V) (S h : mx_H) (n : Int), mx_ex (d + 1) 175 18 [l0, l1, l2, l3] [(2, a)] S h n = mx_cl (S a (-2) = 13) d 171 [(2, a)] 175 21 [l0, l1, l2, l3] [] S h n) ∧
  (∀ (d : Nat) (x : Int) (l0 l1 l2 l3 : Option mx_V) (S h : mx_H) (n : Int), mx_ex d 175 21 [l0, l1, l2, l3] [(0, x)] S h n = mx_ex d 175 22 [mx_nl l0, some (0, x), l2, l3] [] S h n) ∧
  (∀ (d : Nat) (x : Int) (l1 l2 l3 : Option mx_V) (S h : mx_H) (n : Int), mx_ex d 175 22 [some (2, x), l1, l2, l3] [] S h n = mx_ex d 175 23 [some (2, x), l1, l2, l3] [(2, x)] S h n) ∧
  (∀ (d : Nat) (l0 l1 l2 l3 : Option mx_V) (v0 : mx_V) (S h : mx_H) (n : Int), mx_ex d 175 23 [l0, l1, l2, l3] [v0] S h n = mx_ex d 175 25 [l0, l1, l2, l3] [(2, (-29)), v0] S h n) ∧
  (∀ (d : Nat) (x0 a : Int) (l0 l1 l2 l3 : Option mx_V) (S h : mx_H) (n : Int), mx_ex (d + 1) 175 25 [l0, l1, l2, l3] [(2, x0), (2, a)] S h n = mx_cl (S a (-2) = 13) d 168 [(2, a), (2, x0)] 175 28 [l0, l1, l2, l3] [] S h n) ∧
  (∀ (d : Nat) (a : Int) (l0 l1 l2 l3 : Option mx_V) (S h : mx_H) (n : Int), mx_ex d 175 28 [l0, l1, l2, l3] [(0, a)] S h n = mx_br (a = 0) d 175 35 31 [l0, l1, l2, l3] [] S h n) ∧
  (∀ (d : Nat) (l0 l1 l2 l3 : Option mx_V) (S h : mx_H) (n : Int), mx_ex d 175 31 [l0, l1, l2, l3] [] S h n = mx_ex d 175 32 [l0, l1, l2, l3] [(0, 0)] S h n) ∧
  (∀ (d : Nat) (l0 l1 l2 l3 : Option mx_V) (v0 : mx_V) (S h : mx_H) (n : Int), mx_ex d 175 32 [l0, l1, l2, l3] [v0] S h n = mx_ex d 175 75 [l0, l1, l2, l3] [v0] S h n) ∧
  (∀ (d : Nat) (x : Int) (l1 l2 l3 : Option mx_V) (S h : mx_H) (n : Int), mx_ex d 175 35 [some (2, x), l1, l2, l3] [] S h n = mx_ex d 175 36 [some (2, x), l1, l2, l3] [(2, x)] S h n) ∧
  (∀ (d : Nat) (l0 l1 l2 l3 : Option mx_V) (v0 : mx_V) (S h : mx_H) (n : Int), mx_ex d 175 36 [l0, l1, l2, l3] [v0] S h n = mx_ex d 175 38 [l0, l1, l2, l3] [(2, (-30)), v0] S h n) ∧
  (∀ (d : Nat) (x0 a : Int) (l0 l1 l2 l3 : Option mx_V) (S h : mx_H) (n : Int), mx_ex (d + 1) 175 38 [l0, l1, l2, l3] [(2, x0), (2, a)] S h n = mx_cl (S a (-2) = 13) d 168 [(2, a), (2, x0)] 175 41 [l0, l1, l2, l3] [] S h n) ∧
  (∀ (d : Nat) (a : Int) (l0 l1 l2 l3 : Option mx_V) (S h : mx_H) (n : Int), mx_ex d 175 41 [l0, l1, l2, l3] [(0, a)] S h n = mx_br (a = 0) d 175 48 44 [l0, l1, l2, l3] [] S h n) ∧
  (∀ (d : Nat) (l0 l1 l2 l3 : Option mx_V) (S h : mx_H) (n : Int), mx_ex d 175 44 [l0, l1, l2, l3] [] S h n = mx_ex d 175 45 [l0, l1, l2, l3] [(0, 1)] S h n) ∧
  (∀ (d : Nat) (l0 l1 l2 l3 : Option mx_V) (v0 : mx_V) (S h : mx_H) (n : Int), mx_ex d 175 45 [l0, l1, l2, l3] [v0] S h n = mx_ex d 175 75 [l0, l1, l2, l3] [v0] S h n) ∧
  (∀ (d : Nat) (x : Int) (l1 l2 l3 : Option mx_V) (S h : mx_H) (n : Int), mx_ex d 175 48 [some (2, x), l1, l2, l3] [] S h n = mx_ex d 175 49 [some (2, x), l1, l2, l3] [(2, x)] S h n) ∧
  (∀ (d : Nat) (l0 l1 l2 l3 : Option mx_V) (v0 : mx_V) (S h : mx_H) (n : Int), mx_ex d 175 49 [l0, l1, l2, l3] [v0] S h n = mx_ex d 175 51 [l0, l1, l2, l3] [(2, (-31)), v0] S h n) ∧
  (∀ (d : Nat) (x0 a : Int) (l0 l1 l2 l3 : Option mx_V) (S h : mx_H) (n : Int), mx_ex (d + 1) 175 51 [l0, l1, l2, l3] [(2, x0), (2, a)] S h n = mx_cl (S a (-2) = 13) d 168 [(2, a), (2, x0)] 175 54 [l0, l1, l2, l3] [] S h n) ∧
  (∀ (d : Nat) (a : Int) (l0 l1 l2 l3 : Option mx_V) (S h : mx_H) (n : Int), mx_ex d 175 54 [l0, l1, l2, l3] [(0, a)] S h n = mx_br (a = 0) d 175 61 57 [l0, l1, l2, l3] [] S h n) ∧
  (∀ (d : Nat) (l0 l1 l2 l3 : Option mx_V) (S h : mx_H) (n : Int), mx_ex d 175 57 [l0, l1, l2, l3] [] S h n = mx_ex d 175 58 [l0, l1, l2, l3] [(0, 2)] S h n) ∧
  (∀ (d : Nat) (l0 l1 l2 l3 : Option mx_V) (v0 : mx_V) (S h : mx_H) (n : Int), mx_ex d 175 58 [l0, l1, l2, l3] [v0] S h n = mx_ex d 175 75 [l0, l1, l2, l3] [v0] S h n) ∧
  (∀ (d : Nat) (x : Int) (l1 l2 l3 : Option mx_V) (S h : mx_H) (n : Int), mx_ex d 175 61 [some (2, x), l1, l2, l3] [] S h n = mx_ex d 175 62 [some (2, x), l1, l2, l3] [(2, x)] S h n) ∧
  (∀ (d : Nat) (l0 l1 l2 l3 : Option mx_V) (v0 : mx_V) (S h : mx_H) (n : Int), mx_ex d 175 62 [l0, l1, l2, l3] [v0] S h n = mx_ex d 175 64 [l0, l1, l2, l3] [(2, (-32)), v0] S h n) ∧
  (∀ (d : Nat) (x0 a : Int) (l0 l1 l2 l3 : Option mx_V) (S h : mx_H) (n : Int), mx_ex (d + 1) 175 64 [l0, l1, l2, l3] [(2, x0), (2, a)] S h n = mx_cl (S a (-2) = 13) d 168 [(2, a), (2, x0)] 175 67 [l0, l1, l2, l3] [] S h n) ∧
  (∀ (d : Nat) (a : Int) (l0 l1 l2 l3 : Option mx_V) (S h : mx_H) (n : Int), mx_ex d 175 67 [l0, l1, l2, l3] [(0, a)] S h n = mx_br (a = 0) d 175 74 70 [l0, l1, l2, l3] [] S h n) ∧
  (∀ (d : Nat) (l0 l1 l2 l3 : Option mx_V) (S h : mx_H) (n : Int), mx_ex d 175 70 [l0, l1, l2, l3] [] S h n = mx_ex d 175 71 [l0, l1, l2, l3] [(0, 3)] S h n) ∧
  (∀ (d : Nat) (l0 l1 l2 l3 : Option mx_V) (v0 : mx_V) (S h : mx_H) (n : Int), mx_ex d 175 71 [l0, l1, l2, l3] [v0] S h n = mx_ex d 175 75 [l0, l1, l2, l3] [v0] S h n) ∧
  (∀ (d : Nat) (l0 l1 l2 l3 : Option mx_V) (S h : mx_H) (n : Int), mx_ex d 175 74 [l0, l1, l2, l3] [] S h n = mx_ex d 175 75 [l0, l1, l2, l3] [(0, (-1))] S h n) ∧
  (∀ (d : Nat) (x : Int) (l0 l1 l2 l3 : Option mx_V) (S h : mx_H) (n : Int), mx_ex d 175 75 [l0, l1, l2, l3] [(0, x)] S h n = mx_ex d 175 76 [l0, mx_nl l1, some (0, x), l3] [] S h n) ∧
  (∀ (d : Nat) (x : Int) (l0 l2 l3 : Option mx_V) (S h : mx_H) (n : Int), mx_ex d 175 76 [l0, some (0, x), l2, l3] [] S h n = mx_ex d 175 77 [l0, some (0, x), l2, l3] [(0, x)] S h n) ∧
  (∀ (d : Nat) (a : Int) (l0 l1 l2 l3 : Option mx_V) (S h : mx_H) (n : Int), mx_ex d 175 77 [l0, l1, l2, l3] [(0, a)] S h n = mx_br (a < 0) d 175 88 80 [l0, l1, l2, l3] [] S h n) ∧
  (∀ (d : Nat) (x : Int) (l1 l2 l3 : Option mx_V) (S h : mx_H) (n : Int), mx_ex d 175 80 [some (2, x), l1, l2, l3] [] S h n = mx_ex d 175 81 [some (2, x), l1, l2, l3] [(2, x)] S h n) ∧
  (∀ (d : Nat) (x : Int) (l0 l2 l3 : Option mx_V) (v0 : mx_V) (S h : mx_H) (n : Int), mx_ex d 175 81 [l0, some (0, x), l2, l3] [v0] S h n = mx_ex d 175 82 [l0, some (0, x), l2, l3] [(0, x), v0] S h n) ∧
  (∀ (d : Nat) (x0 a : Int) (l0 l1 l2 l3 : Option mx_V) (S h : mx_H) (n : Int), mx_ex (d + 1) 175 82 [l0, l1, l2, l3] [(0, x0), (2, a)] S h n = mx_cl (S a (-2) = 13) d 172 [(2, a), (0, x0)] 175 85 [l0, l1, l2, l3] [] S h n) ∧
  (∀ (d : Nat) (l0 l1 l2 l3 : Option mx_V) (v0 : mx_V) (S h : mx_H) (n : Int), mx_ex d 175 85 [l0, l1, l2, l3] [v0] S h n = mx_ex d 175 121 [l0, l1, l2, l3] [v0] S h n) ∧
  (∀ (d : Nat) (x : Int) (l0 l1 l3 : Option mx_V) (S h : mx_H) (n : Int), mx_ex d 175 88 [l0, l1, some (0, x), l3] [] S h n = mx_ex d 175 89 [l0, l1, some (0, x), l3] [(0, x)] S h n) ∧
  (∀ (d : Nat) (a : Int) (l0 l1 l2 l3 : Option mx_V) (S h : mx_H) (n : Int), mx_ex d 175 89 [l0, l1, l2, l3] [(0, a)] S h n = mx_br (a < 0) d 175 100 92 [l0, l1, l2, l3] [] S h n) ∧
  (∀ (d : Nat) (x : Int) (l1 l2 l3 : Option mx_V) (S h : mx_H) (n : Int), mx_ex d 175 92 [some (2, x), l1, l2, l3] [] S h n = mx_ex d 175 93 [some (2, x), l1, l2, l3] [(2, x)] S h n) ∧
  (∀ (d : Nat) (x : Int) (l0 l1 l3 : Option mx_V) (v0 : mx_V) (S h : mx_H) (n : Int), mx_ex d 175 93 [l0, l1, some (0, x), l3] [v0] S h n = mx_ex d 175 94 [l0, l1, some (0, x), l3] [(0, x), v0] S h n) ∧
  (∀ (d : Nat) (x0 a : Int) (l0 l1 l2 l3 : Option mx_V) (S h : mx_H) (n : Int), mx_ex (d + 1) 175 94 [l0, l1, l2, l3] [(0, x0), (2, a)] S h n = mx_cl (S a (-2) = 13) d 174 [(2, a), (0, x0)] 175 97 [l0, l1, l2, l3] [] S h n) ∧
  (∀ (d : Nat) (l0 l1 l2 l3 : Option mx_V) (v0 : mx_V) (S h : mx_H) (n : Int), mx_ex d 175 97 [l0, l1, l2, l3] [v0] S h n = mx_ex d 175 121 [l0, l1, l2, l3] [v0] S h n) ∧
  (∀ (d : Nat) (x : Int) (l1 l2 l3 : Option mx_V) (S h : mx_H) (n : Int), mx_ex d 175 100 [some (2, x), l1, l2, l3] [] S h n = mx_ex d 175 101 [some (2, x), l1, l2, l3] [(2, x)] S h n) ∧
  (∀ (d : Nat) (l0 l1 l2 l3 : Option mx_V) (v0 : mx_V) (S h : mx_H) (n : Int), mx_ex d 175 101 [l0, l1, l2, l3] [v0] S h n = mx_ex d 175 103 [l0, l1, l2, l3] [(2, (-33)), v0] S h n) ∧
  (∀ (d : Nat) (x0 a : Int) (l0 l1 l2 l3 : Option mx_V) (S h : mx_H) (n : Int), mx_ex (d + 1) 175 103 [l0, l1, l2, l3] [(2, x0), (2, a)] S h n = mx_cl (S a (-2) = 13) d 168 [(2, a), (2, x0)] 175 106 [l0, l1, l2, l3] [] S h n) ∧
  (∀ (d : Nat) (a : Int) (l0 l1 l2 l3 : Option mx_V) (S h : mx_H) (n : Int), mx_ex d 175 106 [l0, l1, l2, l3] [(0, a)] S h n = mx_br (a = 0) d 175 120 109 [l0, l1, l2, l3] [] S h n) ∧
  (∀ (d : Nat) (x : Int) (l1 l2 l3 : Option mx_V) (S h : mx_H) (n : Int), mx_ex d 175 109 [some (2, x), l1, l2, l3] [] S h n = mx_ex d 175 110 [some (2, x), l1, l2, l3] [(2, x)] S h n) ∧
  (∀ (d : Nat) (a : Int) (l0 l1 l2 l3 : Option mx_V) (S h : mx_H) (n : Int), mx_ex (d + 1) 175 110 [l0, l1, l2, l3] [(2, a)] S h n = mx_cl (S a (-2) = 13) d 173 [(2, a)] 175 113 [l0, l1, l2, l3] [] S h n) ∧
  (∀ (d : Nat) (a : Int) (l0 l1 l2 l3 : Option mx_V) (S h : mx_H) (n : Int), mx_ex d 175 113 [l0, l1, l2, l3] [(0, a)] S h n = mx_br (a = 0) d 175 120 116 [l0, l1, l2, l3] [] S h n) ∧
  (∀ (d : Nat) (l0 l1 l2 l3 : Option mx_V) (S h : mx_H) (n : Int), mx_ex d 175 116 [l0, l1, l2, l3] [] S h n = mx_ex d 175 117 [l0, l1, l2, l3] [(0, 1)] S h n) ∧
  (∀ (d : Nat) (l0 l1 l2 l3 : Option mx_V) (v0 : mx_V) (S h : mx_H) (n : Int), mx_ex d 175 117 [l0, l1, l2, l3] [v0] S h n = mx_ex d 175 121 [l0, l1, l2, l3] [v0] S h n) ∧
  (∀ (d : Nat) (l0 l1 l2 l3 : Option mx_V) (S h : mx_H) (n : Int), mx_ex d 175 120 [l0, l1, l2, l3] [] S h n = mx_ex d 175 121 [l0, l1, l2, l3] [(0, 0)] S h n) ∧
  (∀ (d : Nat) (x : Int) (l0 l1 l2 l3 : Option mx_V) (S h : mx_H) (n : Int), mx_ex d 175 121 [l0, l1, l2, l3] [(0, x)] S h n = mx_ex d 175 122 [l0, l1, mx_nl l2, some (0, x)] [] S h n) ∧
  (∀ (d : Nat) (x : Int) (l0 l1 l2 : Option mx_V) (S h : mx_H) (n : Int), mx_ex d 175 122 [l0, l1, l2, some (0, x)] [] S h n = mx_ex d 175 123 [l0, l1, l2, some (0, x)] [(0, x)] S h n) ∧
  (∀ (d : Nat) (a : Int) (l0 l1 l2 l3 : Option mx_V) (S h : mx_H) (n : Int), mx_ex d 175 123 [l0, l1, l2, l3] [(0, a)] S h n = mx_br (a = 0) d 175 126 128 [l0, l1, l2, l3] [] S h n) ∧
  (∀ (d : Nat) (l0 l1 l2 l3 : Option mx_V) (S h : mx_H) (n : Int), mx_ex d 175 126 [l0, l1, l2, l3] [] S h n = mx_ex d 175 127 [l0, l1, l2, l3] [(0, 0)] S h n) ∧
  (∀ (d : Nat) (x : Int) (l0 l1 l2 l3 : Option mx_V) (S h : mx_H) (n : Int), mx_ex d 175 127 [l0, l1, l2, l3] [(0, x)] S h n = mx_re (0 ≤ x ∧ x ≤ 1) (some (0, x)) S h n) ∧
  (∀ (d : Nat) (l0 l1 l2 l3 : Option mx_V) (S h : mx_H) (n : Int), mx_ex d 175 128 [l0, l1, l2, l3] [] S h n = mx_ex d 175 9 [l0, l1, l2, l3] [] S h n) ∧
  (∀ (d : Nat) (x : Int) (l1 l2 l3 : Option mx_V) (S h : mx_H) (n : Int), mx_ex d 175 131 [some (2, x), l1, l2, l3] [] S h n = mx_ex d 175 132 [some (2, x), l1, l2, l3] [(2, x)] S h n) ∧
  (∀ (d : Nat) (a : Int) (l0 l1 l2 l3 : Option mx_V) (S h : mx_H) (n : Int), mx_ex d 175 132 [l0, l1, l2, l3] [(2, a)] S h n = mx_gd (13 ≤ S a (-2) ∧ S a (-2) ≤ 13) d 175 135 [l0, l1, l2, l3] [(0, h a 8)] S h n) ∧
  (∀ (d : Nat) (a : Int) (l0 l1 l2 l3 : Option mx_V) (S h : mx_H) (n : Int), mx_ex d 175 135 [l0, l1, l2, l3] [(0, a)] S h n = mx_br (a = 0) d 175 138 142 [l0, l1, l2, l3] [] S h n) ∧
  (∀ (d : Nat) (l0 l1 l2 l3 : Option mx_V) (S h : mx_H) (n : Int), mx_ex d 175 138 [l0, l1, l2, l3] [] S h n = mx_ex d 175 139 [l0, l1, l2, l3] [(0, 1)] S h n) :=
  ⟨by intros; exact rfl,
   by intros; exact eq_ld rfl rfl,
   by intros; exact eq_push rfl,
   by intros; exact eq_pi rfl,
   by intros; exact eq_ld rfl rfl,
   by intros; exact eq_cv rfl (Nat.le_of_ble_eq_true rfl) rfl rfl rfl (Nat.le_of_ble_eq_true rfl),
   by intros; exact eq_gi rfl,
   by intros; exact eq_push rfl,
   by intros; exact eq_ic1 rfl,
   by intros; exact eq_ld rfl rfl,
   by intros; exact eq_cv rfl (Nat.le_of_ble_eq_true rfl) rfl rfl rfl (Nat.le_of_ble_eq_true rfl),
   by intros; exact eq_st rfl (by decide) (Nat.le_of_ble_eq_true rfl) rfl,
   by intros; exact eq_ld rfl rfl,
   by intros; exact eq_push rfl,
   by intros; exact eq_cv rfl (Nat.le_of_ble_eq_true rfl) rfl rfl rfl (Nat.le_of_ble_eq_true rfl),
   by intros; exact eq_if0 rfl,
   by intros; exact eq_push rfl,
   by intros; exact eq_go rfl,
   by intros; exact eq_ld rfl rfl,
   by intros; exact eq_push rfl,
   by intros; exact eq_cv rfl (Nat.le_of_ble_eq_true rfl) rfl rfl rfl (Nat.le_of_ble_eq_true rfl),
   by intros; exact eq_if0 rfl,
   by intros; exact eq_push rfl,
   by intros; exact eq_go rfl,
   by intros; exact eq_ld rfl rfl,
   by intros; exact eq_push rfl,
   by intros; exact eq_cv rfl (Nat.le_of_ble_eq_true rfl) rfl rfl rfl (Nat.le_of_ble_eq_true rfl),
   by intros; exact eq_if0 rfl,
   by intros; exact eq_push rfl,
   by intros; exact eq_go rfl,
   by intros; exact eq_ld rfl rfl,
   by intros; exact eq_push rfl,
   by intros; exact eq_cv rfl (Nat.le_of_ble_eq_true rfl) rfl rfl rfl (Nat.le_of_ble_eq_true rfl),
   by intros; exact eq_if0 rfl,
   by intros; exact eq_push rfl,
   by intros; exact eq_go rfl,
   by intros; exact eq_push rfl,
   by intros; exact eq_st rfl (by decide) (Nat.le_of_ble_eq_true rfl) rfl,
   by intros; exact eq_ld rfl rfl,
   by intros; exact eq_if2 rfl,
   by intros; exact eq_ld rfl rfl,
   by intros; exact eq_ld rfl rfl,
   by intros; exact eq_cv rfl (Nat.le_of_ble_eq_true rfl) rfl rfl rfl (Nat.le_of_ble_eq_true rfl),
   by intros; exact eq_go rfl,
   by intros; exact eq_ld rfl rfl,
   by intros; exact eq_if2 rfl,
   by intros; exact eq_ld rfl rfl,
   by intros; exact eq_ld rfl rfl,
   by intros; exact eq_cv rfl (Nat.le_of_ble_eq_true rfl) rfl rfl rfl (Nat.le_of_ble_eq_true rfl),
   by intros; exact eq_go rfl,
   by intros; exact eq_ld rfl rfl,
   by intros; exact eq_push rfl,
   by intros; exact eq_cv rfl (Nat.le_of_ble_eq_true rfl) rfl rfl rfl (Nat.le_of_ble_eq_true rfl),
   by intros; exact eq_if0 rfl,
   by intros; exact eq_ld rfl rfl,
   by intros; exact eq_cv rfl (Nat.le_of_ble_eq_true rfl) rfl rfl rfl (Nat.le_of_ble_eq_true rfl),
   by intros; exact eq_if0 rfl,
   by intros; exact eq_push rfl,
   by intros; exact eq_go rfl,
   by intros; exact eq_push rfl,
   by intros; exact eq_st rfl (by decide) (Nat.le_of_ble_eq_true rfl) rfl,
   by intros; exact eq_ld rfl rfl,
   by intros; exact eq_if1 rfl,
   by intros; exact eq_push rfl,
   by intros; exact eq_rr rfl,
   by intros; exact eq_go rfl,
   by intros; exact eq_ld rfl rfl,
   by intros; exact eq_gi rfl,
   by intros; exact eq_if1 rfl,
   by intros; exact eq_push rfl⟩
theorem rw_X12_takesAll_1 :
  (∀ (d : Nat) (l0 l1 l2 l3 : Option mx_V) (v0 : mx_V) (S h : mx_H) (n : Int), mx_ex d 175 139 [l0, l1, l2, l3] [v0] S h n = mx_ex d 175 143 [l0, l1, l2, l3] [v0] S h n) ∧
  (∀ (d : Nat) (l0 l1 l2 l3 : Option mx_V) (S h : mx_H) (n : Int), mx_ex d 175 142 [l0, l1, l2, l3] [] S h n = mx_ex d 175 143 [l0, l1, l2, l3] [(0, 0)] S h n) ∧
  (∀ (d : Nat) (x : Int) (l0 l1 l2 l3 : Option mx_V) (S h : mx_H) (n : Int), mx_ex d 175 143 [l0, l1, l2, l3] [(0, x)] S h n = mx_re (0 ≤ x ∧ x ≤ 1) (some (0, x)) S h n) :=
  ⟨by intros; exact eq_go rfl,
   by intros; exact eq_push rfl,
   by intros; exact eq_rr rfl⟩
theorem rw_X12_valley :
  (∀ (d : Nat) (a0 : Int) (S h : mx_H) (n : Int), mx_M d 176 [(2, a0)] S h n = mx_ex d 176 0 [some (2, a0), none] [] S h n) ∧
  (∀ (d : Nat) (x : Int) (l1 : Option mx_V) (S h : mx_H) (n : Int), mx_ex d 176 0 [some (2, x), l1] [] S h n = mx_ex d 176 1 [some (2, x), l1] [(2, x)] S h n) ∧
  (∀ (d : Nat) (a : Int) (l0 l1 : Option mx_V) (S h : mx_H) (n : Int), mx_ex d 176 1 [l0, l1] [(2, a)] S h n = mx_gd (13 ≤ S a (-2) ∧ S a (-2) ≤ 13) d 176 4 [l0, l1] [(2, S a 0)] S h n) ∧
  (∀ (d : Nat) (x : Int) (l1 : Option mx_V) (v0 : mx_V) (S h : mx_H) (n : Int), mx_ex d 176 4 [some (2, x), l1] [v0] S h n = mx_ex d 176 5 [some (2, x), l1] [(2, x), v0] S h n) ∧
  (∀ (d : Nat) (a : Int) (l0 l1 : Option mx_V) (v1 : mx_V) (S h : mx_H) (n : Int), mx_ex d 176 5 [l0, l1] [(2, a), v1] S h n = mx_gd (13 ≤ S a (-2) ∧ S a (-2) ≤ 13) d 176 8 [l0, l1] [(2, S a 2), v1] S h n) ∧
  (∀ (d : Nat) (x0 x1 : Int) (l0 l1 : Option mx_V) (S h : mx_H) (n : Int), mx_ex (d + 1) 176 8 [l0, l1] [(2, x0), (2, x1)] S h n = mx_rt (mx_M d 157 [(2, x1), (2, x0)] S h n) (d + 1) 176 11 [l0, l1] []) ∧
  (∀ (d : Nat) (x : Int) (l1 : Option mx_V) (S h : mx_H) (n : Int), mx_ex d 176 11 [some (2, x), l1] [] S h n = mx_ex d 176 12 [some (2, x), l1] [(2, x)] S h n) ∧
  (∀ (d : Nat) (a : Int) (l0 l1 : Option mx_V) (S h : mx_H) (n : Int), mx_ex (d + 1) 176 12 [l0, l1] [(2, a)] S h n = mx_cl (S a (-2) = 13) d 158 [(2, a)] 176 15 [l0, l1] [] S h n) ∧
  (∀ (d : Nat) (x : Int) (l1 : Option mx_V) (S h : mx_H) (n : Int), mx_ex d 176 15 [some (2, x), l1] [] S h n = mx_ex d 176 16 [some (2, x), l1] [(2, x)] S h n) ∧
  (∀ (d : Nat) (a : Int) (l0 l1 : Option mx_V) (S h : mx_H) (n : Int), mx_ex (d + 1) 176 16 [l0, l1] [(2, a)] S h n = mx_cl (S a (-2) = 13) d 175 [(2, a)] 176 19 [l0, l1] [] S h n) ∧
  (∀ (d : Nat) (x : Int) (l0 l1 : Option mx_V) (S h : mx_H) (n : Int), mx_ex d 176 19 [l0, l1] [(0, x)] S h n = mx_ex d 176 20 [mx_nl l0, some (0, x)] [] S h n) ∧
  (∀ (d : Nat) (x : Int) (l1 : Option mx_V) (S h : mx_H) (n : Int), mx_ex d 176 20 [some (2, x), l1] [] S h n = mx_ex d 176 21 [some (2, x), l1] [(2, x)] S h n) ∧
  (∀ (d : Nat) (l0 l1 : Option mx_V) (v0 : mx_V) (S h : mx_H) (n : Int), mx_ex d 176 21 [l0, l1] [v0] S h n = mx_ex d 176 22 [l0, l1] [(0, 0), v0] S h n) ∧
  (∀ (d : Nat) (v a : Int) (l0 l1 : Option mx_V) (S h : mx_H) (n : Int), mx_ex d 176 22 [l0, l1] [(0, v), (2, a)] S h n = mx_gd (13 ≤ S a (-2) ∧ S a (-2) ≤ 13) d 176 25 [l0, l1] [] S (mx_u h a 5 v) n) ∧
  (∀ (d : Nat) (x : Int) (l0 : Option mx_V) (S h : mx_H) (n : Int), mx_ex d 176 25 [l0, some (0, x)] [] S h n = mx_ex d 176 26 [l0, some (0, x)] [(0, x)] S h n) ∧
  (∀ (d : Nat) (a : Int) (l0 l1 : Option mx_V) (S h : mx_H) (n : Int), mx_ex d 176 26 [l0, l1] [(0, a)] S h n = mx_br (a = 0) d 176 29 48 [l0, l1] [] S h n) ∧
  (∀ (d : Nat) (x : Int) (l1 : Option mx_V) (S h : mx_H) (n : Int), mx_ex d 176 29 [some (2, x), l1] [] S h n = mx_ex d 176 30 [some (2, x), l1] [(2, x)] S h n) ∧
  (∀ (d : Nat) (a : Int) (l0 l1 : Option mx_V) (S h : mx_H) (n : Int), mx_ex d 176 30 [l0, l1] [(2, a)] S h n = mx_gd (13 ≤ S a (-2) ∧ S a (-2) ≤ 13) d 176 33 [l0, l1] [(2, S a 2)] S h n) ∧
  (∀ (d : Nat) (x : Int) (l1 : Option mx_V) (v0 : mx_V) (S h : mx_H) (n : Int), mx_ex d 176 33 [some (2, x), l1] [v0] S h n = mx_ex d 176 34 [some (2, x), l1] [(2, x), v0] S h n) ∧
  (∀ (d : Nat) (a : Int) (l0 l1 : Option mx_V) (v1 : mx_V) (S h : mx_H) (n : Int), mx_ex d 176 34 [l0, l1] [(2, a), v1] S h n = mx_gd (13 ≤ S a (-2) ∧ S a (-2) ≤ 13) d 176 37 [l0, l1] [(2, S a 0), v1] S h n) ∧
  (∀ (d : Nat) (x0 x1 : Int) (l0 l1 : Option mx_V) (S h : mx_H) (n : Int), mx_ex (d + 1) 176 37 [l0, l1] [(2, x0), (2, x1)] S h n = mx_rt (mx_M d 157 [(2, x1), (2, x0)] S h n) (d + 1) 176 40 [l0, l1] []) ∧
  (∀ (d : Nat) (l0 l1 : Option mx_V) (S h : mx_H) (n : Int), mx_ex d 176 40 [l0, l1] [] S h n = mx_ex d 176 42 [l0, l1] [(0, (-100))] S h n) ∧
  (∀ (d : Nat) (x : Int) (l1 : Option mx_V) (v0 : mx_V) (S h : mx_H) (n : Int), mx_ex d 176 42 [some (2, x), l1] [v0] S h n = mx_ex d 176 43 [some (2, x), l1] [(2, x), v0] S h n) ∧
  (∀ (d : Nat) (a : Int) (l0 l1 : Option mx_V) (v1 : mx_V) (S h : mx_H) (n : Int), mx_ex d 176 43 [l0, l1] [(2, a), v1] S h n = mx_gd (13 ≤ S a (-2) ∧ S a (-2) ≤ 13) d 176 46 [l0, l1] [(0, h a 7), v1] S h n) ∧
  (∀ (d : Nat) (b a : Int) (l0 l1 : Option mx_V) (S h : mx_H) (n : Int), mx_ex d 176 46 [l0, l1] [(0, b), (0, a)] S h n = mx_ex d 176 47 [l0, l1] [(0, mx_w (a - b))] S h n) ∧
  (∀ (d : Nat) (x : Int) (l0 l1 : Option mx_V) (S h : mx_H) (n : Int), mx_ex d 176 47 [l0, l1] [(0, x)] S h n = some (some (0, x), S, h, n)) ∧
  (∀ (d : Nat) (x : Int) (l1 : Option mx_V) (S h : mx_H) (n : Int), mx_ex d 176 48 [some (2, x), l1] [] S h n = mx_ex d 176 49 [some (2, x), l1] [(2, x)] S h n) ∧
  (∀ (d : Nat) (l0 l1 : Option mx_V) (v0 : mx_V) (S h : mx_H) (n : Int), mx_ex d 176 49 [l0, l1] [v0] S h n = mx_ex d 176 50 [l0, l1] [(0, 0), v0] S h n) ∧
  (∀ (d : Nat) (v a : Int) (l0 l1 : Option mx_V) (S h : mx_H) (n : Int), mx_ex d 176 50 [l0, l1] [(0, v), (2, a)] S h n = mx_gd (13 ≤ S a (-2) ∧ S a (-2) ≤ 13) d 176 53 [l0, l1] [] S (mx_u h a 15 v) n) ∧
  (∀ (d : Nat) (x : Int) (l1 : Option mx_V) (S h : mx_H) (n : Int), mx_ex d 176 53 [some (2, x), l1] [] S h n = mx_ex d 176 54 [some (2, x), l1] [(2, x)] S h n) ∧
  (∀ (d : Nat) (a : Int) (l0 l1 : Option mx_V) (S h : mx_H) (n : Int), mx_ex d 176 54 [l0, l1] [(2, a)] S h n = mx_gd (13 ≤ S a (-2) ∧ S a (-2) ≤ 13) d 176 57 [l0, l1] [(2, S a 0)] S h n) ∧
  (∀ (d : Nat) (l0 l1 : Option mx_V) (v0 : mx_V) (S h : mx_H) (n : Int), mx_ex d 176 57 [l0, l1] [v0] S h n = mx_ex d 176 58 [l0, l1] [(0, 0), v0] S h n) ∧
  (∀ (d : Nat) (i a : Int) (l0 l1 : Option mx_V) (S h : mx_H) (n : Int), mx_ex d 176 58 [l0, l1] [(0, i), (2, a)] S h n = mx_gd ((S a (-2) = 20 ∨ S a (-2) = 24) ∧ 0 ≤ i ∧ i < S a (-1)) d 176 59 [l0, l1] [(0, h a i)] S h n) ∧
  (∀ (d : Nat) (x : Int) (l0 l1 : Option mx_V) (S h : mx_H) (n : Int), mx_ex d 176 59 [l0, l1] [(0, x)] S h n = some (some (0, x), S, h, n)) :=
  ⟨by intros; exact rfl,
   by intros; exact eq_ld rfl rfl,
   by intros; exact eq_gr rfl,
   by intros; exact eq_ld rfl rfl,
   by intros; exact eq_gr rfl,
   by intros; exact eq_cs rfl (Nat.le_of_ble_eq_true rfl) rfl rfl rfl (Nat.le_of_ble_eq_true rfl),
   by intros; exact eq_ld rfl rfl,
   by intros; exact eq_cv rfl (Nat.le_of_ble_eq_true rfl) rfl rfl rfl (Nat.le_of_ble_eq_true rfl),
   by intros; exact eq_ld rfl rfl,
   by intros; exact eq_cv rfl (Nat.le_of_ble_eq_true rfl) rfl rfl rfl (Nat.le_of_ble_eq_true rfl),
   by intros; exact eq_st rfl (by decide) (Nat.le_of_ble_eq_true rfl) rfl,
   by intros; exact eq_ld rfl rfl,
   by intros; exact eq_push rfl,
   by intros; exact eq_pi rfl,
   by intros; exact eq_ld rfl rfl,
   by intros; exact eq_if1 rfl,
   by intros; exact eq_ld rfl rfl,
   by intros; exact eq_gr rfl,
   by intros; exact eq_ld rfl rfl,
   by intros; exact eq_gr rfl,
   by intros; exact eq_cs rfl (Nat.le_of_ble_eq_true rfl) rfl rfl rfl (Nat.le_of_ble_eq_true rfl),
   by intros; exact eq_push rfl,
   by intros; exact eq_ld rfl rfl,
   by intros; exact eq_gi rfl,
   by intros; exact eq_i2 (o := mx_sub) rfl,
   by intros; exact eq_ret rfl,
   by intros; exact eq_ld rfl rfl,
   by intros; exact eq_push rfl,
   by intros; exact eq_pi rfl,
   by intros; exact eq_ld rfl rfl,
   by intros; exact eq_gr rfl,
   by intros; exact eq_push rfl,
   by intros; exact eq_iald rfl,
   by intros; exact eq_ret rfl⟩
theorem rw_X12_evening :
  (∀ (d : Nat) (a0 a1 a2 a3 : Int) (S h : mx_H) (n : Int), mx_M d 177 [(2, a0), (0, a1), (0, a2), (0, a3)] S h n = mx_ex d 177 0 [some (2, a0), some (0, a1), some (0, a2), some (0, a3)] [] S h n) ∧
  (∀ (d : Nat) (x : Int) (l0 l2 l3 : Option mx_V) (S h : mx_H) (n : Int), mx_ex d 177 0 [l0, some (0, x), l2, l3] [] S h n = mx_ex d 177 1 [l0, some (0, x), l2, l3] [(0, x)] S h n) ∧
  (∀ (d : Nat) (x0 : Int) (l0 l1 l2 l3 : Option mx_V) (S h : mx_H) (n : Int), mx_ex (d + 1) 177 1 [l0, l1, l2, l3] [(0, x0)] S h n = mx_rt (mx_M d 161 [(0, x0)] S h n) (d + 1) 177 4 [l0, l1, l2, l3] []) ∧
  (∀ (d : Nat) (a : Int) (l0 l1 l2 l3 : Option mx_V) (S h : mx_H) (n : Int), mx_ex d 177 4 [l0, l1, l2, l3] [(0, a)] S h n = mx_br (a = 0) d 177 26 7 [l0, l1, l2, l3] [] S h n) ∧
  (∀ (d : Nat) (x : Int) (l0 l1 l3 : Option mx_V) (S h : mx_H) (n : Int), mx_ex d 177 7 [l0, l1, some (0, x), l3] [] S h n = mx_ex d 177 8 [l0, l1, some (0, x), l3] [(0, x)] S h n) ∧
  (∀ (d : Nat) (x0 : Int) (l0 l1 l2 l3 : Option mx_V) (S h : mx_H) (n : Int), mx_ex (d + 1) 177 8 [l0, l1, l2, l3] [(0, x0)] S h n = mx_rt (mx_M d 162 [(0, x0)] S h n) (d + 1) 177 11 [l0, l1, l2, l3] []) ∧
  (∀ (d : Nat) (a : Int) (l0 l1 l2 l3 : Option mx_V) (S h : mx_H) (n : Int), mx_ex d 177 11 [l0, l1, l2, l3] [(0, a)] S h n = mx_br (a = 0) d 177 26 14 [l0, l1, l2, l3] [] S h n) ∧
  (∀ (d : Nat) (x : Int) (l0 l1 l2 : Option mx_V) (S h : mx_H) (n : Int), mx_ex d 177 14 [l0, l1, l2, some (0, x)] [] S h n = mx_ex d 177 15 [l0, l1, l2, some (0, x)] [(0, x)] S h n) ∧
  (∀ (d : Nat) (x0 : Int) (l0 l1 l2 l3 : Option mx_V) (S h : mx_H) (n : Int), mx_ex (d + 1) 177 15 [l0, l1, l2, l3] [(0, x0)] S h n = mx_rt (mx_M d 162 [(0, x0)] S h n) (d + 1) 177 18 [l0, l1, l2, l3] []) ∧
  (∀ (d : Nat) (a : Int) (l0 l1 l2 l3 : Option mx_V) (S h : mx_H) (n : Int), mx_ex d 177 18 [l0, l1, l2, l3] [(0, a)] S h n = mx_br (a = 0) d 177 26 21 [l0, l1, l2, l3] [] S h n) ∧
  (∀ (d : Nat) (x : Int) (l0 l1 l2 : Option mx_V) (S h : mx_H) (n : Int), mx_ex d 177 21 [l0, l1, l2, some (0, x)] [] S h n = mx_ex d 177 22 [l0, l1, l2, some (0, x)] [(0, x)] S h n) ∧
  (∀ (d : Nat) (x : Int) (l0 l1 l3 : Option mx_V) (v0 : mx_V) (S h : mx_H) (n : Int), mx_ex d 177 22 [l0, l1, some (0, x), l3] [v0] S h n = mx_ex d 177 23 [l0, l1, some (0, x), l3] [(0, x), v0] S h n) ∧
  (∀ (d : Nat) (b a : Int) (l0 l1 l2 l3 : Option mx_V) (S h : mx_H) (n : Int), mx_ex d 177 23 [l0, l1, l2, l3] [(0, b), (0, a)] S h n = mx_br (a < b) d 177 26 28 [l0, l1, l2, l3] [] S h n) ∧
  (∀ (d : Nat) (l0 l1 l2 l3 : Option mx_V) (S h : mx_H) (n : Int), mx_ex d 177 26 [l0, l1, l2, l3] [] S h n = mx_ex d 177 27 [l0, l1, l2, l3] [(0, (-1))] S h n) ∧
  (∀ (d : Nat) (x : Int) (l0 l1 l2 l3 : Option mx_V) (S h : mx_H) (n : Int), mx_ex d 177 27 [l0, l1, l2, l3] [(0, x)] S h n = some (some (0, x), S, h, n)) ∧
  (∀ (d : Nat) (x : Int) (l1 l2 l3 : Option mx_V) (S h : mx_H) (n : Int), mx_ex d 177 28 [some (2, x), l1, l2, l3] [] S h n = mx_ex d 177 29 [some (2, x), l1, l2, l3] [(2, x)] S h n) ∧
  (∀ (d : Nat) (a : Int) (l0 l1 l2 l3 : Option mx_V) (S h : mx_H) (n : Int), mx_ex d 177 29 [l0, l1, l2, l3] [(2, a)] S h n = mx_gd (13 ≤ S a (-2) ∧ S a (-2) ≤ 13) d 177 32 [l0, l1, l2, l3] [(2, S a 0)] S h n) ∧
  (∀ (d : Nat) (l0 l1 l2 l3 : Option mx_V) (v0 : mx_V) (S h : mx_H) (n : Int), mx_ex d 177 32 [l0, l1, l2, l3] [v0] S h n = mx_ex d 177 33 [l0, l1, l2, l3] [(0, 3), v0] S h n) ∧
  (∀ (d : Nat) (l0 l1 l2 l3 : Option mx_V) (v0 v1 : mx_V) (S h : mx_H) (n : Int), mx_ex d 177 33 [l0, l1, l2, l3] [v0, v1] S h n = mx_ex d 177 34 [l0, l1, l2, l3] [(0, 2), v0, v1] S h n) ∧
  (∀ (d : Nat) (x : Int) (l0 l2 l3 : Option mx_V) (v0 v1 v2 : mx_V) (S h : mx_H) (n : Int), mx_ex d 177 34 [l0, some (0, x), l2, l3] [v0, v1, v2] S h n = mx_ex d 177 35 [l0, some (0, x), l2, l3] [(0, x), v0, v1, v2] S h n) ∧
  (∀ (d : Nat) (b a : Int) (l0 l1 l2 l3 : Option mx_V) (v2 v3 : mx_V) (S h : mx_H) (n : Int), mx_ex d 177 35 [l0, l1, l2, l3] [(0, b), (0, a), v2, v3] S h n = mx_ex d 177 36 [l0, l1, l2, l3] [(0, mx_w (a * b)), v2, v3] S h n) ∧
  (∀ (d : Nat) (b a : Int) (l0 l1 l2 l3 : Option mx_V) (v2 : mx_V) (S h : mx_H) (n : Int), mx_ex d 177 36 [l0, l1, l2, l3] [(0, b), (0, a), v2] S h n = mx_ex d 177 37 [l0, l1, l2, l3] [(0, mx_w (a + b)), v2] S h n) ∧
  (∀ (d : Nat) (x : Int) (l0 l1 l3 : Option mx_V) (v0 v1 : mx_V) (S h : mx_H) (n : Int), mx_ex d 177 37 [l0, l1, some (0, x), l3] [v0, v1] S h n = mx_ex d 177 38 [l0, l1, some (0, x), l3] [(0, x), v0, v1] S h n) ∧
  (∀ (d : Nat) (v i a : Int) (l0 l1 l2 l3 : Option mx_V) (S h : mx_H) (n : Int), mx_ex d 177 38 [l0, l1, l2, l3] [(0, v), (0, i), (2, a)] S h n = mx_gd (S a (-2) = 20 ∧ 0 ≤ i ∧ i < S a (-1)) d 177 39 [l0, l1, l2, l3] [] S (mx_u h a i v) n) ∧
  (∀ (d : Nat) (x : Int) (l1 l2 l3 : Option mx_V) (S h : mx_H) (n : Int), mx_ex d 177 39 [some (2, x), l1, l2, l3] [] S h n = mx_ex d 177 40 [some (2, x), l1, l2, l3] [(2, x)] S h n) ∧
  (∀ (d : Nat) (a : Int) (l0 l1 l2 l3 : Option mx_V) (S h : mx_H) (n : Int), mx_ex d 177 40 [l0, l1, l2, l3] [(2, a)] S h n = mx_gd (13 ≤ S a (-2) ∧ S a (-2) ≤ 13) d 177 43 [l0, l1, l2, l3] [(2, S a 0)] S h n) ∧
  (∀ (d : Nat) (l0 l1 l2 l3 : Option mx_V) (v0 : mx_V) (S h : mx_H) (n : Int), mx_ex d 177 43 [l0, l1, l2, l3] [v0] S h n = mx_ex d 177 44 [l0, l1, l2, l3] [(0, 3), v0] S h n) ∧
  (∀ (d : Nat) (l0 l1 l2 l3 : Option mx_V) (v0 v1 : mx_V) (S h : mx_H) (n : Int), mx_ex d 177 44 [l0, l1, l2, l3] [v0, v1] S h n = mx_ex d 177 45 [l0, l1, l2, l3] [(0, 2), v0, v1] S h n) ∧
  (∀ (d : Nat) (x : Int) (l0 l2 l3 : Option mx_V) (v0 v1 v2 : mx_V) (S h : mx_H) (n : Int), mx_ex d 177 45 [l0, some (0, x), l2, l3] [v0, v1, v2] S h n = mx_ex d 177 46 [l0, some (0, x), l2, l3] [(0, x), v0, v1, v2] S h n) ∧
  (∀ (d : Nat) (b a : Int) (l0 l1 l2 l3 : Option mx_V) (v2 v3 : mx_V) (S h : mx_H) (n : Int), mx_ex d 177 46 [l0, l1, l2, l3] [(0, b), (0, a), v2, v3] S h n = mx_ex d 177 47 [l0, l1, l2, l3] [(0, mx_w (a * b)), v2, v3] S h n) ∧
  (∀ (d : Nat) (b a : Int) (l0 l1 l2 l3 : Option mx_V) (v2 : mx_V) (S h : mx_H) (n : Int), mx_ex d 177 47 [l0, l1, l2, l3] [(0, b), (0, a), v2] S h n = mx_ex d 177 48 [l0, l1, l2, l3] [(0, mx_w (a + b)), v2] S h n) ∧
  (∀ (d : Nat) (l0 l1 l2 l3 : Option mx_V) (v0 v1 : mx_V) (S h : mx_H) (n : Int), mx_ex d 177 48 [l0, l1, l2, l3] [v0, v1] S h n = mx_ex d 177 49 [l0, l1, l2, l3] [(0, 1), v0, v1] S h n) ∧
  (∀ (d : Nat) (b a : Int) (l0 l1 l2 l3 : Option mx_V) (v2 : mx_V) (S h : mx_H) (n : Int), mx_ex d 177 49 [l0, l1, l2, l3] [(0, b), (0, a), v2] S h n = mx_ex d 177 50 [l0, l1, l2, l3] [(0, mx_w (a + b)), v2] S h n) ∧
  (∀ (d : Nat) (x : Int) (l0 l1 l2 : Option mx_V) (v0 v1 : mx_V) (S h : mx_H) (n : Int), mx_ex d 177 50 [l0, l1, l2, some (0, x)] [v0, v1] S h n = mx_ex d 177 51 [l0, l1, l2, some (0, x)] [(0, x), v0, v1] S h n) ∧
  (∀ (d : Nat) (v i a : Int) (l0 l1 l2 l3 : Option mx_V) (S h : mx_H) (n : Int), mx_ex d 177 51 [l0, l1, l2, l3] [(0, v), (0, i), (2, a)] S h n = mx_gd (S a (-2) = 20 ∧ 0 ≤ i ∧ i < S a (-1)) d 177 52 [l0, l1, l2, l3] [] S (mx_u h a i v) n) ∧
  (∀ (d : Nat) (l0 l1 l2 l3 : Option mx_V) (S h : mx_H) (n : Int), mx_ex d 177 52 [l0, l1, l2, l3] [] S h n = mx_ex d 177 53 [l0, l1, l2, l3] [(0, 1)] S h n) ∧
  (∀ (d : Nat) (x : Int) (l0 l1 l2 l3 : Option mx_V) (S h : mx_H) (n : Int), mx_ex d 177 53 [l0, l1, l2, l3] [(0, x)] S h n = some (some (0, x), S, h, n)) :=
  ⟨by intros; exact rfl,
   by intros; exact eq_ld rfl rfl,
   by intros; exact eq_cs rfl (Nat.le_of_ble_eq_true rfl) rfl rfl rfl (Nat.le_of_ble_eq_true rfl),
   by intros; exact eq_if0 rfl,
   by intros; exact eq_ld rfl rfl,
   by intros; exact eq_cs rfl (Nat.le_of_ble_eq_true rfl) rfl rfl rfl (Nat.le_of_ble_eq_true rfl),
   by intros; exact eq_if0 rfl,
   by intros; exact eq_ld rfl rfl,
   by intros; exact eq_cs rfl (Nat.le_of_ble_eq_true rfl) rfl rfl rfl (Nat.le_of_ble_eq_true rfl),
   by intros; exact eq_if0 rfl,
   by intros; exact eq_ld rfl rfl,
   by intros; exact eq_ld rfl rfl,
   by intros; exact eq_ic3 rfl,
   by intros; exact eq_push rfl,
   by intros; exact eq_ret rfl,
   by intros; exact eq_ld rfl rfl,
   by intros; exact eq_gr rfl,
   by intros; exact eq_push rfl,
   by intros; exact eq_push rfl,
   by intros; exact eq_ld rfl rfl,
   by intros; exact eq_i2 (o := mx_mul) rfl,
   by intros; exact eq_i2 (o := mx_add) rfl,
   by intros; exact eq_ld rfl rfl,
   by intros; exact eq_iast rfl,
   by intros; exact eq_ld rfl rfl,
   by intros; exact eq_gr rfl,
   by intros; exact eq_push rfl,
   by intros; exact eq_push rfl,
   by intros; exact eq_ld rfl rfl,
   by intros; exact eq_i2 (o := mx_mul) rfl,
   by intros; exact eq_i2 (o := mx_add) rfl,
   by intros; exact eq_push rfl,
   by intros; exact eq_i2 (o := mx_add) rfl,
   by intros; exact eq_ld rfl rfl,
   by intros; exact eq_iast rfl,
   by intros; exact eq_push rfl,
   by intros; exact eq_ret rfl⟩
theorem rh_X12_eveningOf_41 : ∀ (d : Nat) (x : Int) (l0 l1 l2 l3 : Option mx_V) (S h : mx_H) (n : Int), mx_ex d 178 41 [l0, l1, l2, l3, some (0, x)] [] S h n = mx_ex d 178 43 [l0, l1, l2, l3, some (0, x)] [(0, x)] S h n := by intros; exact eq_ld rfl rfl
theorem rw_X12_eveningOf :
  (∀ (d : Nat) (a0 a1 a2 : Int) (S h : mx_H) (n : Int), mx_M d 178 [(2, a0), (0, a1), (0, a2)] S h n = mx_ex d 178 0 [some (2, a0), some (0, a1), some (0, a2), none, none] [] S h n) ∧
  (∀ (d : Nat) (x : Int) (l0 l2 l3 l4 : Option mx_V) (S h : mx_H) (n : Int), mx_ex d 178 0 [l0, some (0, x), l2, l3, l4] [] S h n = mx_ex d 178 1 [l0, some (0, x), l2, l3, l4] [(0, x)] S h n) ∧
  (∀ (d : Nat) (x0 : Int) (l0 l1 l2 l3 l4 : Option mx_V) (S h : mx_H) (n : Int), mx_ex (d + 1) 178 1 [l0, l1, l2, l3, l4] [(0, x0)] S h n = mx_rt (mx_M d 161 [(0, x0)] S h n) (d + 1) 178 4 [l0, l1, l2, l3, l4] []) ∧
  (∀ (d : Nat) (a : Int) (l0 l1 l2 l3 l4 : Option mx_V) (S h : mx_H) (n : Int), mx_ex d 178 4 [l0, l1, l2, l3, l4] [(0, a)] S h n = mx_br (a = 0) d 178 16 7 [l0, l1, l2, l3, l4] [] S h n) ∧
  (∀ (d : Nat) (x : Int) (l0 l1 l3 l4 : Option mx_V) (S h : mx_H) (n : Int), mx_ex d 178 7 [l0, l1, some (0, x), l3, l4] [] S h n = mx_ex d 178 8 [l0, l1, some (0, x), l3, l4] [(0, x)] S h n) ∧
  (∀ (d : Nat) (l0 l1 l2 l3 l4 : Option mx_V) (v0 : mx_V) (S h : mx_H) (n : Int), mx_ex d 178 8 [l0, l1, l2, l3, l4] [v0] S h n = mx_ex d 178 9 [l0, l1, l2, l3, l4] [(0, 0), v0] S h n) ∧
  (∀ (d : Nat) (l0 l1 l2 l3 l4 : Option mx_V) (v0 v1 : mx_V) (S h : mx_H) (n : Int), mx_ex d 178 9 [l0, l1, l2, l3, l4] [v0, v1] S h n = mx_ex d 178 10 [l0, l1, l2, l3, l4] [(0, 2), v0, v1] S h n) ∧
  (∀ (d : Nat) (x0 x1 x2 : Int) (l0 l1 l2 l3 l4 : Option mx_V) (S h : mx_H) (n : Int), mx_ex (d + 1) 178 10 [l0, l1, l2, l3, l4] [(0, x0), (0, x1), (0, x2)] S h n = mx_rt (mx_M d 159 [(0, x2), (0, x1), (0, x0)] S h n) (d + 1) 178 13 [l0, l1, l2, l3, l4] []) ∧
  (∀ (d : Nat) (a : Int) (l0 l1 l2 l3 l4 : Option mx_V) (S h : mx_H) (n : Int), mx_ex d 178 13 [l0, l1, l2, l3, l4] [(0, a)] S h n = mx_br (a = 0) d 178 16 18 [l0, l1, l2, l3, l4] [] S h n) ∧
  (∀ (d : Nat) (l0 l1 l2 l3 l4 : Option mx_V) (S h : mx_H) (n : Int), mx_ex d 178 16 [l0, l1, l2, l3, l4] [] S h n = mx_ex d 178 17 [l0, l1, l2, l3, l4] [(0, (-1))] S h n) ∧
  (∀ (d : Nat) (x : Int) (l0 l1 l2 l3 l4 : Option mx_V) (S h : mx_H) (n : Int), mx_ex d 178 17 [l0, l1, l2, l3, l4] [(0, x)] S h n = some (some (0, x), S, h, n)) ∧
  (∀ (d : Nat) (x : Int) (l0 l1 l3 l4 : Option mx_V) (S h : mx_H) (n : Int), mx_ex d 178 18 [l0, l1, some (0, x), l3, l4] [] S h n = mx_ex d 178 19 [l0, l1, some (0, x), l3, l4] [(0, x)] S h n) ∧
  (∀ (d : Nat) (l0 l1 l2 l3 l4 : Option mx_V) (v0 : mx_V) (S h : mx_H) (n : Int), mx_ex d 178 19 [l0, l1, l2, l3, l4] [v0] S h n = mx_ex d 178 20 [l0, l1, l2, l3, l4] [(0, 2), v0] S h n) ∧
  (∀ (d : Nat) (b a : Int) (l0 l1 l2 l3 l4 : Option mx_V) (S h : mx_H) (n : Int), mx_ex d 178 20 [l0, l1, l2, l3, l4] [(0, b), (0, a)] S h n = mx_br (a < b) d 178 23 36 [l0, l1, l2, l3, l4] [] S h n) ∧
  (∀ (d : Nat) (x : Int) (l1 l2 l3 l4 : Option mx_V) (S h : mx_H) (n : Int), mx_ex d 178 23 [some (2, x), l1, l2, l3, l4] [] S h n = mx_ex d 178 24 [some (2, x), l1, l2, l3, l4] [(2, x)] S h n) ∧
  (∀ (d : Nat) (a : Int) (l0 l1 l2 l3 l4 : Option mx_V) (S h : mx_H) (n : Int), mx_ex d 178 24 [l0, l1, l2, l3, l4] [(2, a)] S h n = mx_gd (13 ≤ S a (-2) ∧ S a (-2) ≤ 13) d 178 27 [l0, l1, l2, l3, l4] [(2, S a 0)] S h n) ∧
  (∀ (d : Nat) (l0 l1 l2 l3 l4 : Option mx_V) (v0 : mx_V) (S h : mx_H) (n : Int), mx_ex d 178 27 [l0, l1, l2, l3, l4] [v0] S h n = mx_ex d 178 28 [l0, l1, l2, l3, l4] [(0, 3), v0] S h n) ∧
  (∀ (d : Nat) (l0 l1 l2 l3 l4 : Option mx_V) (v0 v1 : mx_V) (S h : mx_H) (n : Int), mx_ex d 178 28 [l0, l1, l2, l3, l4] [v0, v1] S h n = mx_ex d 178 29 [l0, l1, l2, l3, l4] [(0, 2), v0, v1] S h n) ∧
  (∀ (d : Nat) (x : Int) (l0 l2 l3 l4 : Option mx_V) (v0 v1 v2 : mx_V) (S h : mx_H) (n : Int), mx_ex d 178 29 [l0, some (0, x), l2, l3, l4] [v0, v1, v2] S h n = mx_ex d 178 30 [l0, some (0, x), l2, l3, l4] [(0, x), v0, v1, v2] S h n) ∧
  (∀ (d : Nat) (b a : Int) (l0 l1 l2 l3 l4 : Option mx_V) (v2 v3 : mx_V) (S h : mx_H) (n : Int), mx_ex d 178 30 [l0, l1, l2, l3, l4] [(0, b), (0, a), v2, v3] S h n = mx_ex d 178 31 [l0, l1, l2, l3, l4] [(0, mx_w (a * b)), v2, v3] S h n) ∧
  (∀ (d : Nat) (b a : Int) (l0 l1 l2 l3 l4 : Option mx_V) (v2 : mx_V) (S h : mx_H) (n : Int), mx_ex d 178 31 [l0, l1, l2, l3, l4] [(0, b), (0, a), v2] S h n = mx_ex d 178 32 [l0, l1, l2, l3, l4] [(0, mx_w (a + b)), v2] S h n) ∧
  (∀ (d : Nat) (x : Int) (l0 l1 l3 l4 : Option mx_V) (v0 v1 : mx_V) (S h : mx_H) (n : Int), mx_ex d 178 32 [l0, l1, some (0, x), l3, l4] [v0, v1] S h n = mx_ex d 178 33 [l0, l1, some (0, x), l3, l4] [(0, x), v0, v1] S h n) ∧
  (∀ (d : Nat) (b a : Int) (l0 l1 l2 l3 l4 : Option mx_V) (v2 : mx_V) (S h : mx_H) (n : Int), mx_ex d 178 33 [l0, l1, l2, l3, l4] [(0, b), (0, a), v2] S h n = mx_ex d 178 34 [l0, l1, l2, l3, l4] [(0, mx_w (a + b)), v2] S h n) ∧
  (∀ (d : Nat) (i a : Int) (l0 l1 l2 l3 l4 : Option mx_V) (S h : mx_H) (n : Int), mx_ex d 178 34 [l0, l1, l2, l3, l4] [(0, i), (2, a)] S h n = mx_gd ((S a (-2) = 20 ∨ S a (-2) = 24) ∧ 0 ≤ i ∧ i < S a (-1)) d 178 35 [l0, l1, l2, l3, l4] [(0, h a i)] S h n) ∧
  (∀ (d : Nat) (x : Int) (l0 l1 l2 l3 l4 : Option mx_V) (S h : mx_H) (n : Int), mx_ex d 178 35 [l0, l1, l2, l3, l4] [(0, x)] S h n = some (some (0, x), S, h, n)) ∧
  (∀ (d : Nat) (l0 l1 l2 l3 l4 : Option mx_V) (S h : mx_H) (n : Int), mx_ex d 178 36 [l0, l1, l2, l3, l4] [] S h n = mx_ex d 178 37 [l0, l1, l2, l3, l4] [(0, 0)] S h n) ∧
  (∀ (d : Nat) (x : Int) (l0 l1 l2 l3 l4 : Option mx_V) (S h : mx_H) (n : Int), mx_ex d 178 37 [l0, l1, l2, l3, l4] [(0, x)] S h n = mx_ex d 178 38 [l0, l1, mx_nl l2, some (0, x), l4] [] S h n) ∧
  (∀ (d : Nat) (l0 l1 l2 l3 l4 : Option mx_V) (S h : mx_H) (n : Int), mx_ex d 178 38 [l0, l1, l2, l3, l4] [] S h n = mx_ex d 178 39 [l0, l1, l2, l3, l4] [(0, 0)] S h n) ∧
  (∀ (d : Nat) (x : Int) (l0 l1 l2 l3 l4 : Option mx_V) (S h : mx_H) (n : Int), mx_ex d 178 39 [l0, l1, l2, l3, l4] [(0, x)] S h n = mx_ex d 178 41 [l0, l1, l2, mx_nl l3, some (0, x)] [] S h n) ∧
  (∀ (d : Nat) (x : Int) (l1 l2 l3 l4 : Option mx_V) (v0 : mx_V) (S h : mx_H) (n : Int), mx_ex d 178 43 [some (2, x), l1, l2, l3, l4] [v0] S h n = mx_ex d 178 44 [some (2, x), l1, l2, l3, l4] [(2, x), v0] S h n) ∧
  (∀ (d : Nat) (a : Int) (l0 l1 l2 l3 l4 : Option mx_V) (v1 : mx_V) (S h : mx_H) (n : Int), mx_ex d 178 44 [l0, l1, l2, l3, l4] [(2, a), v1] S h n = mx_gd (13 ≤ S a (-2) ∧ S a (-2) ≤ 13) d 178 47 [l0, l1, l2, l3, l4] [(2, S a 0), v1] S h n) ∧
  (∀ (d : Nat) (l0 l1 l2 l3 l4 : Option mx_V) (v0 v1 : mx_V) (S h : mx_H) (n : Int), mx_ex d 178 47 [l0, l1, l2, l3, l4] [v0, v1] S h n = mx_ex d 178 48 [l0, l1, l2, l3, l4] [(0, 0), v0, v1] S h n) ∧
  (∀ (d : Nat) (i a : Int) (l0 l1 l2 l3 l4 : Option mx_V) (v2 : mx_V) (S h : mx_H) (n : Int), mx_ex d 178 48 [l0, l1, l2, l3, l4] [(0, i), (2, a), v2] S h n = mx_gd ((S a (-2) = 20 ∨ S a (-2) = 24) ∧ 0 ≤ i ∧ i < S a (-1)) d 178 49 [l0, l1, l2, l3, l4] [(0, h a i), v2] S h n) ∧
  (∀ (d : Nat) (b a : Int) (l0 l1 l2 l3 l4 : Option mx_V) (S h : mx_H) (n : Int), mx_ex d 178 49 [l0, l1, l2, l3, l4] [(0, b), (0, a)] S h n = mx_br (a < b) d 178 52 80 [l0, l1, l2, l3, l4] [] S h n) ∧
  (∀ (d : Nat) (x : Int) (l0 l1 l2 l4 : Option mx_V) (S h : mx_H) (n : Int), mx_ex d 178 52 [l0, l1, l2, some (0, x), l4] [] S h n = mx_ex d 178 53 [l0, l1, l2, some (0, x), l4] [(0, x)] S h n) ∧
  (∀ (d : Nat) (x : Int) (l1 l2 l3 l4 : Option mx_V) (v0 : mx_V) (S h : mx_H) (n : Int), mx_ex d 178 53 [some (2, x), l1, l2, l3, l4] [v0] S h n = mx_ex d 178 54 [some (2, x), l1, l2, l3, l4] [(2, x), v0] S h n) ∧
  (∀ (d : Nat) (x : Int) (l0 l1 l2 l3 : Option mx_V) (v0 v1 : mx_V) (S h : mx_H) (n : Int), mx_ex d 178 54 [l0, l1, l2, l3, some (0, x)] [v0, v1] S h n = mx_ex d 178 56 [l0, l1, l2, l3, some (0, x)] [(0, x), v0, v1] S h n) ∧
  (∀ (d : Nat) (l0 l1 l2 l3 l4 : Option mx_V) (v0 v1 v2 : mx_V) (S h : mx_H) (n : Int), mx_ex d 178 56 [l0, l1, l2, l3, l4] [v0, v1, v2] S h n = mx_ex d 178 57 [l0, l1, l2, l3, l4] [(0, 1), v0, v1, v2] S h n) ∧
  (∀ (d : Nat) (x0 x1 a : Int) (l0 l1 l2 l3 l4 : Option mx_V) (v3 : mx_V) (S h : mx_H) (n : Int), mx_ex (d + 1) 178 57 [l0, l1, l2, l3, l4] [(0, x0), (0, x1), (2, a), v3] S h n = mx_cl (S a (-2) = 13) d 163 [(2, a), (0, x1), (0, x0)] 178 60 [l0, l1, l2, l3, l4] [v3] S h n) ∧
  (∀ (d : Nat) (x : Int) (l0 l2 l3 l4 : Option mx_V) (v0 v1 : mx_V) (S h : mx_H) (n : Int), mx_ex d 178 60 [l0, some (0, x), l2, l3, l4] [v0, v1] S h n = mx_ex d 178 61 [l0, some (0, x), l2, l3, l4] [(0, x), v0, v1] S h n) ∧
  (∀ (d : Nat) (b a : Int) (l0 l1 l2 l3 l4 : Option mx_V) (v2 : mx_V) (S h : mx_H) (n : Int), mx_ex d 178 61 [l0, l1, l2, l3, l4] [(0, b), (0, a), v2] S h n = mx_br (a = b) d 178 64 71 [l0, l1, l2, l3, l4] [v2] S h n) ∧
  (∀ (d : Nat) (l0 l1 l2 l3 l4 : Option mx_V) (v0 : mx_V) (S h : mx_H) (n : Int), mx_ex d 178 64 [l0, l1, l2, l3, l4] [v0] S h n = mx_ex d 178 65 [l0, l1, l2, l3, l4] [(0, 1), v0] S h n) ∧
  (∀ (d : Nat) (x : Int) (l0 l1 l2 l3 : Option mx_V) (v0 v1 : mx_V) (S h : mx_H) (n : Int), mx_ex d 178 65 [l0, l1, l2, l3, some (0, x)] [v0, v1] S h n = mx_ex d 178 67 [l0, l1, l2, l3, some (0, x)] [(0, x), v0, v1] S h n) ∧
  (∀ (d : Nat) (b a : Int) (l0 l1 l2 l3 l4 : Option mx_V) (v2 : mx_V) (S h : mx_H) (n : Int), mx_ex d 178 67 [l0, l1, l2, l3, l4] [(0, b), (0, a), v2] S h n = mx_ex d 178 68 [l0, l1, l2, l3, l4] [(0, mx_shl a b), v2] S h n) ∧
  (∀ (d : Nat) (l0 l1 l2 l3 l4 : Option mx_V) (v0 v1 : mx_V) (S h : mx_H) (n : Int), mx_ex d 178 68 [l0, l1, l2, l3, l4] [v0, v1] S h n = mx_ex d 178 72 [l0, l1, l2, l3, l4] [v0, v1] S h n) ∧
  (∀ (d : Nat) (l0 l1 l2 l3 l4 : Option mx_V) (v0 : mx_V) (S h : mx_H) (n : Int), mx_ex d 178 71 [l0, l1, l2, l3, l4] [v0] S h n = mx_ex d 178 72 [l0, l1, l2, l3, l4] [(0, 0), v0] S h n) ∧
  (∀ (d : Nat) (b a : Int) (l0 l1 l2 l3 l4 : Option mx_V) (S h : mx_H) (n : Int), mx_ex d 178 72 [l0, l1, l2, l3, l4] [(0, b), (0, a)] S h n = mx_ex d 178 73 [l0, l1, l2, l3, l4] [(0, mx_or a b)] S h n) ∧
  (∀ (d : Nat) (x : Int) (l0 l1 l2 l3 l4 : Option mx_V) (S h : mx_H) (n : Int), mx_ex d 178 73 [l0, l1, l2, l3, l4] [(0, x)] S h n = mx_ex d 178 74 [l0, l1, mx_nl l2, some (0, x), l4] [] S h n) ∧
  (∀ (d : Nat) (x : Int) (l0 l1 l2 l3 : Option mx_V) (S h : mx_H) (n : Int), mx_ex d 178 74 [l0, l1, l2, l3, some (0, x)] [] S h n = mx_ex d 178 77 [l0, l1, l2, mx_nl l3, some (0, mx_w (x + 1))] [] S h n) ∧
  (∀ (d : Nat) (l0 l1 l2 l3 l4 : Option mx_V) (S h : mx_H) (n : Int), mx_ex d 178 77 [l0, l1, l2, l3, l4] [] S h n = mx_ex d 178 41 [l0, l1, l2, l3, l4] [] S h n) ∧
  (∀ (d : Nat) (x : Int) (l0 l1 l2 l4 : Option mx_V) (S h : mx_H) (n : Int), mx_ex d 178 80 [l0, l1, l2, some (0, x), l4] [] S h n = mx_ex d 178 81 [l0, l1, l2, some (0, x), l4] [(0, x)] S h n) ∧
  (∀ (d : Nat) (x : Int) (l0 l1 l2 l3 l4 : Option mx_V) (S h : mx_H) (n : Int), mx_ex d 178 81 [l0, l1, l2, l3, l4] [(0, x)] S h n = some (some (0, x), S, h, n)) :=
  ⟨by intros; exact rfl,
   by intros; exact eq_ld rfl rfl,
   by intros; exact eq_cs rfl (Nat.le_of_ble_eq_true rfl) rfl rfl rfl (Nat.le_of_ble_eq_true rfl),
   by intros; exact eq_if0 rfl,
   by intros; exact eq_ld rfl rfl,
   by intros; exact eq_push rfl,
   by intros; exact eq_push rfl,
   by intros; exact eq_cs rfl (Nat.le_of_ble_eq_true rfl) rfl rfl rfl (Nat.le_of_ble_eq_true rfl),
   by intros; exact eq_if1 rfl,
   by intros; exact eq_push rfl,
   by intros; exact eq_ret rfl,
   by intros; exact eq_ld rfl rfl,
   by intros; exact eq_push rfl,
   by intros; exact eq_ic3 rfl,
   by intros; exact eq_ld rfl rfl,
   by intros; exact eq_gr rfl,
   by intros; exact eq_push rfl,
   by intros; exact eq_push rfl,
   by intros; exact eq_ld rfl rfl,
   by intros; exact eq_i2 (o := mx_mul) rfl,
   by intros; exact eq_i2 (o := mx_add) rfl,
   by intros; exact eq_ld rfl rfl,
   by intros; exact eq_i2 (o := mx_add) rfl,
   by intros; exact eq_iald rfl,
   by intros; exact eq_ret rfl,
   by intros; exact eq_push rfl,
   by intros; exact eq_st rfl (by decide) (Nat.le_of_ble_eq_true rfl) rfl,
   by intros; exact eq_push rfl,
   by intros; exact eq_st rfl (by decide) (Nat.le_of_ble_eq_true rfl) rfl,
   by intros; exact eq_ld rfl rfl,
   by intros; exact eq_gr rfl,
   by intros; exact eq_push rfl,
   by intros; exact eq_iald rfl,
   by intros; exact eq_ic3 rfl,
   by intros; exact eq_ld rfl rfl,
   by intros; exact eq_ld rfl rfl,
   by intros; exact eq_ld rfl rfl,
   by intros; exact eq_push rfl,
   by intros; exact eq_cv rfl (Nat.le_of_ble_eq_true rfl) rfl rfl rfl (Nat.le_of_ble_eq_true rfl),
   by intros; exact eq_ld rfl rfl,
   by intros; exact eq_ic1 rfl,
   by intros; exact eq_push rfl,
   by intros; exact eq_ld rfl rfl,
   by intros; exact eq_i2 (o := mx_shl) rfl,
   by intros; exact eq_go rfl,
   by intros; exact eq_push rfl,
   by intros; exact eq_i2 (o := mx_or) rfl,
   by intros; exact eq_st rfl (by decide) (Nat.le_of_ble_eq_true rfl) rfl,
   by intros; exact eq_inc rfl rfl rfl,
   by intros; exact eq_go rfl,
   by intros; exact eq_ld rfl rfl,
   by intros; exact eq_ret rfl⟩
theorem rh_X12_note_116 : ∀ (d : Nat) (x : Int) (l0 l1 l2 l3 l4 l5 l6 : Option mx_V) (S h : mx_H) (n : Int), mx_ex d 179 116 [l0, l1, l2, l3, l4, l5, l6, some (0, x)] [] S h n = mx_ex d 179 118 [l0, l1, l2, l3, l4, l5, l6, some (0, x)] [(0, x)] S h n := by intros; exact eq_ld rfl rfl
theorem rw_X12_note :
  (∀ (d : Nat) (a0 a1 a2 a3 a4 a5 : Int) (S h : mx_H) (n : Int), mx_M d 179 [(2, a0), (0, a1), (0, a2), (0, a3), (0, a4), (0, a5)] S h n = mx_ex d 179 0 [some (2, a0), some (0, a1), some (0, a2), some (0, a3), some (0, a4), some (0, a5), none, none] [] S h n) ∧
  (∀ (d : Nat) (x : Int) (l0 l2 l3 l4 l5 l6 l7 : Option mx_V) (S h : mx_H) (n : Int), mx_ex d 179 0 [l0, some (0, x), l2, l3, l4, l5, l6, l7] [] S h n = mx_ex d 179 1 [l0, some (0, x), l2, l3, l4, l5, l6, l7] [(0, x)] S h n) ∧
  (∀ (d : Nat) (l0 l1 l2 l3 l4 l5 l6 l7 : Option mx_V) (v0 : mx_V) (S h : mx_H) (n : Int), mx_ex d 179 1 [l0, l1, l2, l3, l4, l5, l6, l7] [v0] S h n = mx_ex d 179 2 [l0, l1, l2, l3, l4, l5, l6, l7] [(0, 0), v0] S h n) ∧
  (∀ (d : Nat) (l0 l1 l2 l3 l4 l5 l6 l7 : Option mx_V) (v0 v1 : mx_V) (S h : mx_H) (n : Int), mx_ex d 179 2 [l0, l1, l2, l3, l4, l5, l6, l7] [v0, v1] S h n = mx_ex d 179 3 [l0, l1, l2, l3, l4, l5, l6, l7] [(0, 5), v0, v1] S h n) ∧
  (∀ (d : Nat) (x0 x1 x2 : Int) (l0 l1 l2 l3 l4 l5 l6 l7 : Option mx_V) (S h : mx_H) (n : Int), mx_ex (d + 1) 179 3 [l0, l1, l2, l3, l4, l5, l6, l7] [(0, x0), (0, x1), (0, x2)] S h n = mx_rt (mx_M d 159 [(0, x2), (0, x1), (0, x0)] S h n) (d + 1) 179 6 [l0, l1, l2, l3, l4, l5, l6, l7] []) ∧
  (∀ (d : Nat) (a : Int) (l0 l1 l2 l3 l4 l5 l6 l7 : Option mx_V) (S h : mx_H) (n : Int), mx_ex d 179 6 [l0, l1, l2, l3, l4, l5, l6, l7] [(0, a)] S h n = mx_br (a = 0) d 179 42 9 [l0, l1, l2, l3, l4, l5, l6, l7] [] S h n) ∧
  (∀ (d : Nat) (x : Int) (l0 l1 l3 l4 l5 l6 l7 : Option mx_V) (S h : mx_H) (n : Int), mx_ex d 179 9 [l0, l1, some (0, x), l3, l4, l5, l6, l7] [] S h n = mx_ex d 179 10 [l0, l1, some (0, x), l3, l4, l5, l6, l7] [(0, x)] S h n) ∧
  (∀ (d : Nat) (x0 : Int) (l0 l1 l2 l3 l4 l5 l6 l7 : Option mx_V) (S h : mx_H) (n : Int), mx_ex (d + 1) 179 10 [l0, l1, l2, l3, l4, l5, l6, l7] [(0, x0)] S h n = mx_rt (mx_M d 161 [(0, x0)] S h n) (d + 1) 179 13 [l0, l1, l2, l3, l4, l5, l6, l7] []) ∧
  (∀ (d : Nat) (a : Int) (l0 l1 l2 l3 l4 l5 l6 l7 : Option mx_V) (S h : mx_H) (n : Int), mx_ex d 179 13 [l0, l1, l2, l3, l4, l5, l6, l7] [(0, a)] S h n = mx_br (a = 0) d 179 42 16 [l0, l1, l2, l3, l4, l5, l6, l7] [] S h n) ∧
  (∀ (d : Nat) (x : Int) (l0 l1 l2 l4 l5 l6 l7 : Option mx_V) (S h : mx_H) (n : Int), mx_ex d 179 16 [l0, l1, l2, some (0, x), l4, l5, l6, l7] [] S h n = mx_ex d 179 17 [l0, l1, l2, some (0, x), l4, l5, l6, l7] [(0, x)] S h n) ∧
  (∀ (d : Nat) (l0 l1 l2 l3 l4 l5 l6 l7 : Option mx_V) (v0 : mx_V) (S h : mx_H) (n : Int), mx_ex d 179 17 [l0, l1, l2, l3, l4, l5, l6, l7] [v0] S h n = mx_ex d 179 18 [l0, l1, l2, l3, l4, l5, l6, l7] [(0, 0), v0] S h n) ∧
  (∀ (d : Nat) (l0 l1 l2 l3 l4 l5 l6 l7 : Option mx_V) (v0 v1 : mx_V) (S h : mx_H) (n : Int), mx_ex d 179 18 [l0, l1, l2, l3, l4, l5, l6, l7] [v0, v1] S h n = mx_ex d 179 20 [l0, l1, l2, l3, l4, l5, l6, l7] [(0, 6), v0, v1] S h n) ∧
  (∀ (d : Nat) (x0 x1 x2 : Int) (l0 l1 l2 l3 l4 l5 l6 l7 : Option mx_V) (S h : mx_H) (n : Int), mx_ex (d + 1) 179 20 [l0, l1, l2, l3, l4, l5, l6, l7] [(0, x0), (0, x1), (0, x2)] S h n = mx_rt (mx_M d 159 [(0, x2), (0, x1), (0, x0)] S h n) (d + 1) 179 23 [l0, l1, l2, l3, l4, l5, l6, l7] []) ∧
  (∀ (d : Nat) (a : Int) (l0 l1 l2 l3 l4 l5 l6 l7 : Option mx_V) (S h : mx_H) (n : Int), mx_ex d 179 23 [l0, l1, l2, l3, l4, l5, l6, l7] [(0, a)] S h n = mx_br (a = 0) d 179 42 26 [l0, l1, l2, l3, l4, l5, l6, l7] [] S h n) ∧
  (∀ (d : Nat) (x : Int) (l0 l1 l2 l3 l5 l6 l7 : Option mx_V) (S h : mx_H) (n : Int), mx_ex d 179 26 [l0, l1, l2, l3, some (0, x), l5, l6, l7] [] S h n = mx_ex d 179 28 [l0, l1, l2, l3, some (0, x), l5, l6, l7] [(0, x)] S h n) ∧
  (∀ (d : Nat) (l0 l1 l2 l3 l4 l5 l6 l7 : Option mx_V) (v0 : mx_V) (S h : mx_H) (n : Int), mx_ex d 179 28 [l0, l1, l2, l3, l4, l5, l6, l7] [v0] S h n = mx_ex d 179 29 [l0, l1, l2, l3, l4, l5, l6, l7] [(0, 1), v0] S h n) ∧
  (∀ (d : Nat) (l0 l1 l2 l3 l4 l5 l6 l7 : Option mx_V) (v0 v1 : mx_V) (S h : mx_H) (n : Int), mx_ex d 179 29 [l0, l1, l2, l3, l4, l5, l6, l7] [v0, v1] S h n = mx_ex d 179 31 [l0, l1, l2, l3, l4, l5, l6, l7] [(0, 6), v0, v1] S h n) ∧
  (∀ (d : Nat) (x0 x1 x2 : Int) (l0 l1 l2 l3 l4 l5 l6 l7 : Option mx_V) (S h : mx_H) (n : Int), mx_ex (d + 1) 179 31 [l0, l1, l2, l3, l4, l5, l6, l7] [(0, x0), (0, x1), (0, x2)] S h n = mx_rt (mx_M d 159 [(0, x2), (0, x1), (0, x0)] S h n) (d + 1) 179 34 [l0, l1, l2, l3, l4, l5, l6, l7] []) ∧
  (∀ (d : Nat) (a : Int) (l0 l1 l2 l3 l4 l5 l6 l7 : Option mx_V) (S h : mx_H) (n : Int), mx_ex d 179 34 [l0, l1, l2, l3, l4, l5, l6, l7] [(0, a)] S h n = mx_br (a = 0) d 179 42 37 [l0, l1, l2, l3, l4, l5, l6, l7] [] S h n) ∧
  (∀ (d : Nat) (x : Int) (l0 l1 l2 l3 l4 l6 l7 : Option mx_V) (S h : mx_H) (n : Int), mx_ex d 179 37 [l0, l1, l2, l3, l4, some (0, x), l6, l7] [] S h n = mx_ex d 179 39 [l0, l1, l2, l3, l4, some (0, x), l6, l7] [(0, x)] S h n) ∧
  (∀ (d : Nat) (a : Int) (l0 l1 l2 l3 l4 l5 l6 l7 : Option mx_V) (S h : mx_H) (n : Int), mx_ex d 179 39 [l0, l1, l2, l3, l4, l5, l6, l7] [(0, a)] S h n = mx_br (a < 0) d 179 42 44 [l0, l1, l2, l3, l4, l5, l6, l7] [] S h n) ∧
  (∀ (d : Nat) (l0 l1 l2 l3 l4 l5 l6 l7 : Option mx_V) (S h : mx_H) (n : Int), mx_ex d 179 42 [l0, l1, l2, l3, l4, l5, l6, l7] [] S h n = mx_ex d 179 43 [l0, l1, l2, l3, l4, l5, l6, l7] [(0, (-1))] S h n) ∧
  (∀ (d : Nat) (x : Int) (l0 l1 l2 l3 l4 l5 l6 l7 : Option mx_V) (S h : mx_H) (n : Int), mx_ex d 179 43 [l0, l1, l2, l3, l4, l5, l6, l7] [(0, x)] S h n = some (some (0, x), S, h, n)) ∧
  (∀ (d : Nat) (x : Int) (l1 l2 l3 l4 l5 l6 l7 : Option mx_V) (S h : mx_H) (n : Int), mx_ex d 179 44 [some (2, x), l1, l2, l3, l4, l5, l6, l7] [] S h n = mx_ex d 179 45 [some (2, x), l1, l2, l3, l4, l5, l6, l7] [(2, x)] S h n) ∧
  (∀ (d : Nat) (a : Int) (l0 l1 l2 l3 l4 l5 l6 l7 : Option mx_V) (S h : mx_H) (n : Int), mx_ex d 179 45 [l0, l1, l2, l3, l4, l5, l6, l7] [(2, a)] S h n = mx_gd (13 ≤ S a (-2) ∧ S a (-2) ≤ 13) d 179 48 [l0, l1, l2, l3, l4, l5, l6, l7] [(2, S a 0)] S h n) ∧
  (∀ (d : Nat) (l0 l1 l2 l3 l4 l5 l6 l7 : Option mx_V) (v0 : mx_V) (S h : mx_H) (n : Int), mx_ex d 179 48 [l0, l1, l2, l3, l4, l5, l6, l7] [v0] S h n = mx_ex d 179 49 [l0, l1, l2, l3, l4, l5, l6, l7] [(0, 0), v0] S h n) ∧
  (∀ (d : Nat) (i a : Int) (l0 l1 l2 l3 l4 l5 l6 l7 : Option mx_V) (S h : mx_H) (n : Int), mx_ex d 179 49 [l0, l1, l2, l3, l4, l5, l6, l7] [(0, i), (2, a)] S h n = mx_gd ((S a (-2) = 20 ∨ S a (-2) = 24) ∧ 0 ≤ i ∧ i < S a (-1)) d 179 50 [l0, l1, l2, l3, l4, l5, l6, l7] [(0, h a i)] S h n) ∧
  (∀ (d : Nat) (l0 l1 l2 l3 l4 l5 l6 l7 : Option mx_V) (v0 : mx_V) (S h : mx_H) (n : Int), mx_ex d 179 50 [l0, l1, l2, l3, l4, l5, l6, l7] [v0] S h n = mx_ex d 179 52 [l0, l1, l2, l3, l4, l5, l6, l7] [(0, 6), v0] S h n) ∧
  (∀ (d : Nat) (b a : Int) (l0 l1 l2 l3 l4 l5 l6 l7 : Option mx_V) (S h : mx_H) (n : Int), mx_ex d 179 52 [l0, l1, l2, l3, l4, l5, l6, l7] [(0, b), (0, a)] S h n = mx_br (a = b) d 179 55 58 [l0, l1, l2, l3, l4, l5, l6, l7] [] S h n) ∧
  (∀ (d : Nat) (l0 l1 l2 l3 l4 l5 l6 l7 : Option mx_V) (S h : mx_H) (n : Int), mx_ex d 179 55 [l0, l1, l2, l3, l4, l5, l6, l7] [] S h n = mx_ex d 179 57 [l0, l1, l2, l3, l4, l5, l6, l7] [(0, (-2))] S h n) ∧
  (∀ (d : Nat) (x : Int) (l0 l1 l2 l3 l4 l5 l6 l7 : Option mx_V) (S h : mx_H) (n : Int), mx_ex d 179 57 [l0, l1, l2, l3, l4, l5, l6, l7] [(0, x)] S h n = some (some (0, x), S, h, n)) ∧
  (∀ (d : Nat) (l0 l1 l2 l3 l4 l5 l6 l7 : Option mx_V) (S h : mx_H) (n : Int), mx_ex d 179 58 [l0, l1, l2, l3, l4, l5, l6, l7] [] S h n = mx_ex d 179 60 [l0, l1, l2, l3, l4, l5, l6, l7] [(0, 9)] S h n) ∧
  (∀ (d : Nat) (l0 l1 l2 l3 l4 l5 l6 l7 : Option mx_V) (v0 : mx_V) (S h : mx_H) (n : Int), mx_ex d 179 60 [l0, l1, l2, l3, l4, l5, l6, l7] [v0] S h n = mx_ex d 179 62 [l0, l1, l2, l3, l4, l5, l6, l7] [(0, 10), v0] S h n) ∧
  (∀ (d : Nat) (x : Int) (l1 l2 l3 l4 l5 l6 l7 : Option mx_V) (v0 v1 : mx_V) (S h : mx_H) (n : Int), mx_ex d 179 62 [some (2, x), l1, l2, l3, l4, l5, l6, l7] [v0, v1] S h n = mx_ex d 179 63 [some (2, x), l1, l2, l3, l4, l5, l6, l7] [(2, x), v0, v1] S h n) ∧
  (∀ (d : Nat) (a : Int) (l0 l1 l2 l3 l4 l5 l6 l7 : Option mx_V) (v1 v2 : mx_V) (S h : mx_H) (n : Int), mx_ex d 179 63 [l0, l1, l2, l3, l4, l5, l6, l7] [(2, a), v1, v2] S h n = mx_gd (13 ≤ S a (-2) ∧ S a (-2) ≤ 13) d 179 66 [l0, l1, l2, l3, l4, l5, l6, l7] [(2, S a 0), v1, v2] S h n) ∧
  (∀ (d : Nat) (l0 l1 l2 l3 l4 l5 l6 l7 : Option mx_V) (v0 v1 v2 : mx_V) (S h : mx_H) (n : Int), mx_ex d 179 66 [l0, l1, l2, l3, l4, l5, l6, l7] [v0, v1, v2] S h n = mx_ex d 179 67 [l0, l1, l2, l3, l4, l5, l6, l7] [(0, 0), v0, v1, v2] S h n) ∧
  (∀ (d : Nat) (i a : Int) (l0 l1 l2 l3 l4 l5 l6 l7 : Option mx_V) (v2 v3 : mx_V) (S h : mx_H) (n : Int), mx_ex d 179 67 [l0, l1, l2, l3, l4, l5, l6, l7] [(0, i), (2, a), v2, v3] S h n = mx_gd ((S a (-2) = 20 ∨ S a (-2) = 24) ∧ 0 ≤ i ∧ i < S a (-1)) d 179 68 [l0, l1, l2, l3, l4, l5, l6, l7] [(0, h a i), v2, v3] S h n) ∧
  (∀ (d : Nat) (b a : Int) (l0 l1 l2 l3 l4 l5 l6 l7 : Option mx_V) (v2 : mx_V) (S h : mx_H) (n : Int), mx_ex d 179 68 [l0, l1, l2, l3, l4, l5, l6, l7] [(0, b), (0, a), v2] S h n = mx_ex d 179 69 [l0, l1, l2, l3, l4, l5, l6, l7] [(0, mx_w (a * b)), v2] S h n) ∧
  (∀ (d : Nat) (b a : Int) (l0 l1 l2 l3 l4 l5 l6 l7 : Option mx_V) (S h : mx_H) (n : Int), mx_ex d 179 69 [l0, l1, l2, l3, l4, l5, l6, l7] [(0, b), (0, a)] S h n = mx_ex d 179 70 [l0, l1, l2, l3, l4, l5, l6, l7] [(0, mx_w (a + b))] S h n) ∧
  (∀ (d : Nat) (x : Int) (l0 l1 l2 l3 l4 l5 l6 l7 : Option mx_V) (S h : mx_H) (n : Int), mx_ex d 179 70 [l0, l1, l2, l3, l4, l5, l6, l7] [(0, x)] S h n = mx_ex d 179 72 [l0, l1, l2, l3, l4, mx_nl l5, some (0, x), l7] [] S h n) ∧
  (∀ (d : Nat) (x : Int) (l1 l2 l3 l4 l5 l6 l7 : Option mx_V) (S h : mx_H) (n : Int), mx_ex d 179 72 [some (2, x), l1, l2, l3, l4, l5, l6, l7] [] S h n = mx_ex d 179 73 [some (2, x), l1, l2, l3, l4, l5, l6, l7] [(2, x)] S h n) ∧
  (∀ (d : Nat) (a : Int) (l0 l1 l2 l3 l4 l5 l6 l7 : Option mx_V) (S h : mx_H) (n : Int), mx_ex d 179 73 [l0, l1, l2, l3, l4, l5, l6, l7] [(2, a)] S h n = mx_gd (13 ≤ S a (-2) ∧ S a (-2) ≤ 13) d 179 76 [l0, l1, l2, l3, l4, l5, l6, l7] [(2, S a 0)] S h n) ∧
  (∀ (d : Nat) (x : Int) (l0 l1 l2 l3 l4 l5 l7 : Option mx_V) (v0 : mx_V) (S h : mx_H) (n : Int), mx_ex d 179 76 [l0, l1, l2, l3, l4, l5, some (0, x), l7] [v0] S h n = mx_ex d 179 78 [l0, l1, l2, l3, l4, l5, some (0, x), l7] [(0, x), v0] S h n) ∧
  (∀ (d : Nat) (l0 l1 l2 l3 l4 l5 l6 l7 : Option mx_V) (v0 v1 : mx_V) (S h : mx_H) (n : Int), mx_ex d 179 78 [l0, l1, l2, l3, l4, l5, l6, l7] [v0, v1] S h n = mx_ex d 179 79 [l0, l1, l2, l3, l4, l5, l6, l7] [(0, 0), v0, v1] S h n) ∧
  (∀ (d : Nat) (b a : Int) (l0 l1 l2 l3 l4 l5 l6 l7 : Option mx_V) (v2 : mx_V) (S h : mx_H) (n : Int), mx_ex d 179 79 [l0, l1, l2, l3, l4, l5, l6, l7] [(0, b), (0, a), v2] S h n = mx_ex d 179 80 [l0, l1, l2, l3, l4, l5, l6, l7] [(0, mx_w (a + b)), v2] S h n) ∧
  (∀ (d : Nat) (x : Int) (l0 l2 l3 l4 l5 l6 l7 : Option mx_V) (v0 v1 : mx_V) (S h : mx_H) (n : Int), mx_ex d 179 80 [l0, some (0, x), l2, l3, l4, l5, l6, l7] [v0, v1] S h n = mx_ex d 179 81 [l0, some (0, x), l2, l3, l4, l5, l6, l7] [(0, x), v0, v1] S h n) ∧
  (∀ (d : Nat) (v i a : Int) (l0 l1 l2 l3 l4 l5 l6 l7 : Option mx_V) (S h : mx_H) (n : Int), mx_ex d 179 81 [l0, l1, l2, l3, l4, l5, l6, l7] [(0, v), (0, i), (2, a)] S h n = mx_gd (S a (-2) = 20 ∧ 0 ≤ i ∧ i < S a (-1)) d 179 82 [l0, l1, l2, l3, l4, l5, l6, l7] [] S (mx_u h a i v) n) ∧
  (∀ (d : Nat) (x : Int) (l1 l2 l3 l4 l5 l6 l7 : Option mx_V) (S h : mx_H) (n : Int), mx_ex d 179 82 [some (2, x), l1, l2, l3, l4, l5, l6, l7] [] S h n = mx_ex d 179 83 [some (2, x), l1, l2, l3, l4, l5, l6, l7] [(2, x)] S h n) ∧
  (∀ (d : Nat) (a : Int) (l0 l1 l2 l3 l4 l5 l6 l7 : Option mx_V) (S h : mx_H) (n : Int), mx_ex d 179 83 [l0, l1, l2, l3, l4, l5, l6, l7] [(2, a)] S h n = mx_gd (13 ≤ S a (-2) ∧ S a (-2) ≤ 13) d 179 86 [l0, l1, l2, l3, l4, l5, l6, l7] [(2, S a 0)] S h n) ∧
  (∀ (d : Nat) (x : Int) (l0 l1 l2 l3 l4 l5 l7 : Option mx_V) (v0 : mx_V) (S h : mx_H) (n : Int), mx_ex d 179 86 [l0, l1, l2, l3, l4, l5, some (0, x), l7] [v0] S h n = mx_ex d 179 88 [l0, l1, l2, l3, l4, l5, some (0, x), l7] [(0, x), v0] S h n) ∧
  (∀ (d : Nat) (l0 l1 l2 l3 l4 l5 l6 l7 : Option mx_V) (v0 v1 : mx_V) (S h : mx_H) (n : Int), mx_ex d 179 88 [l0, l1, l2, l3, l4, l5, l6, l7] [v0, v1] S h n = mx_ex d 179 89 [l0, l1, l2, l3, l4, l5, l6, l7] [(0, 1), v0, v1] S h n) ∧
  (∀ (d : Nat) (b a : Int) (l0 l1 l2 l3 l4 l5 l6 l7 : Option mx_V) (v2 : mx_V) (S h : mx_H) (n : Int), mx_ex d 179 89 [l0, l1, l2, l3, l4, l5, l6, l7] [(0, b), (0, a), v2] S h n = mx_ex d 179 90 [l0, l1, l2, l3, l4, l5, l6, l7] [(0, mx_w (a + b)), v2] S h n) ∧
  (∀ (d : Nat) (x : Int) (l0 l1 l3 l4 l5 l6 l7 : Option mx_V) (v0 v1 : mx_V) (S h : mx_H) (n : Int), mx_ex d 179 90 [l0, l1, some (0, x), l3, l4, l5, l6, l7] [v0, v1] S h n = mx_ex d 179 91 [l0, l1, some (0, x), l3, l4, l5, l6, l7] [(0, x), v0, v1] S h n) ∧
  (∀ (d : Nat) (v i a : Int) (l0 l1 l2 l3 l4 l5 l6 l7 : Option mx_V) (S h : mx_H) (n : Int), mx_ex d 179 91 [l0, l1, l2, l3, l4, l5, l6, l7] [(0, v), (0, i), (2, a)] S h n = mx_gd (S a (-2) = 20 ∧ 0 ≤ i ∧ i < S a (-1)) d 179 92 [l0, l1, l2, l3, l4, l5, l6, l7] [] S (mx_u h a i v) n) ∧
  (∀ (d : Nat) (x : Int) (l1 l2 l3 l4 l5 l6 l7 : Option mx_V) (S h : mx_H) (n : Int), mx_ex d 179 92 [some (2, x), l1, l2, l3, l4, l5, l6, l7] [] S h n = mx_ex d 179 93 [some (2, x), l1, l2, l3, l4, l5, l6, l7] [(2, x)] S h n) ∧
  (∀ (d : Nat) (a : Int) (l0 l1 l2 l3 l4 l5 l6 l7 : Option mx_V) (S h : mx_H) (n : Int), mx_ex d 179 93 [l0, l1, l2, l3, l4, l5, l6, l7] [(2, a)] S h n = mx_gd (13 ≤ S a (-2) ∧ S a (-2) ≤ 13) d 179 96 [l0, l1, l2, l3, l4, l5, l6, l7] [(2, S a 0)] S h n) ∧
  (∀ (d : Nat) (x : Int) (l0 l1 l2 l3 l4 l5 l7 : Option mx_V) (v0 : mx_V) (S h : mx_H) (n : Int), mx_ex d 179 96 [l0, l1, l2, l3, l4, l5, some (0, x), l7] [v0] S h n = mx_ex d 179 98 [l0, l1, l2, l3, l4, l5, some (0, x), l7] [(0, x), v0] S h n) ∧
  (∀ (d : Nat) (l0 l1 l2 l3 l4 l5 l6 l7 : Option mx_V) (v0 v1 : mx_V) (S h : mx_H) (n : Int), mx_ex d 179 98 [l0, l1, l2, l3, l4, l5, l6, l7] [v0, v1] S h n = mx_ex d 179 99 [l0, l1, l2, l3, l4, l5, l6, l7] [(0, 2), v0, v1] S h n) ∧
  (∀ (d : Nat) (b a : Int) (l0 l1 l2 l3 l4 l5 l6 l7 : Option mx_V) (v2 : mx_V) (S h : mx_H) (n : Int), mx_ex d 179 99 [l0, l1, l2, l3, l4, l5, l6, l7] [(0, b), (0, a), v2] S h n = mx_ex d 179 100 [l0, l1, l2, l3, l4, l5, l6, l7] [(0, mx_w (a + b)), v2] S h n) ∧
  (∀ (d : Nat) (x : Int) (l0 l1 l2 l4 l5 l6 l7 : Option mx_V) (v0 v1 : mx_V) (S h : mx_H) (n : Int), mx_ex d 179 100 [l0, l1, l2, some (0, x), l4, l5, l6, l7] [v0, v1] S h n = mx_ex d 179 101 [l0, l1, l2, some (0, x), l4, l5, l6, l7] [(0, x), v0, v1] S h n) ∧
  (∀ (d : Nat) (v i a : Int) (l0 l1 l2 l3 l4 l5 l6 l7 : Option mx_V) (S h : mx_H) (n : Int), mx_ex d 179 101 [l0, l1, l2, l3, l4, l5, l6, l7] [(0, v), (0, i), (2, a)] S h n = mx_gd (S a (-2) = 20 ∧ 0 ≤ i ∧ i < S a (-1)) d 179 102 [l0, l1, l2, l3, l4, l5, l6, l7] [] S (mx_u h a i v) n) ∧
  (∀ (d : Nat) (x : Int) (l1 l2 l3 l4 l5 l6 l7 : Option mx_V) (S h : mx_H) (n : Int), mx_ex d 179 102 [some (2, x), l1, l2, l3, l4, l5, l6, l7] [] S h n = mx_ex d 179 103 [some (2, x), l1, l2, l3, l4, l5, l6, l7] [(2, x)] S h n) ∧
  (∀ (d : Nat) (a : Int) (l0 l1 l2 l3 l4 l5 l6 l7 : Option mx_V) (S h : mx_H) (n : Int), mx_ex d 179 103 [l0, l1, l2, l3, l4, l5, l6, l7] [(2, a)] S h n = mx_gd (13 ≤ S a (-2) ∧ S a (-2) ≤ 13) d 179 106 [l0, l1, l2, l3, l4, l5, l6, l7] [(2, S a 0)] S h n) ∧
  (∀ (d : Nat) (x : Int) (l0 l1 l2 l3 l4 l5 l7 : Option mx_V) (v0 : mx_V) (S h : mx_H) (n : Int), mx_ex d 179 106 [l0, l1, l2, l3, l4, l5, some (0, x), l7] [v0] S h n = mx_ex d 179 108 [l0, l1, l2, l3, l4, l5, some (0, x), l7] [(0, x), v0] S h n) ∧
  (∀ (d : Nat) (l0 l1 l2 l3 l4 l5 l6 l7 : Option mx_V) (v0 v1 : mx_V) (S h : mx_H) (n : Int), mx_ex d 179 108 [l0, l1, l2, l3, l4, l5, l6, l7] [v0, v1] S h n = mx_ex d 179 109 [l0, l1, l2, l3, l4, l5, l6, l7] [(0, 3), v0, v1] S h n) ∧
  (∀ (d : Nat) (b a : Int) (l0 l1 l2 l3 l4 l5 l6 l7 : Option mx_V) (v2 : mx_V) (S h : mx_H) (n : Int), mx_ex d 179 109 [l0, l1, l2, l3, l4, l5, l6, l7] [(0, b), (0, a), v2] S h n = mx_ex d 179 110 [l0, l1, l2, l3, l4, l5, l6, l7] [(0, mx_w (a + b)), v2] S h n) ∧
  (∀ (d : Nat) (x : Int) (l0 l1 l2 l3 l5 l6 l7 : Option mx_V) (v0 v1 : mx_V) (S h : mx_H) (n : Int), mx_ex d 179 110 [l0, l1, l2, l3, some (0, x), l5, l6, l7] [v0, v1] S h n = mx_ex d 179 112 [l0, l1, l2, l3, some (0, x), l5, l6, l7] [(0, x), v0, v1] S h n) ∧
  (∀ (d : Nat) (v i a : Int) (l0 l1 l2 l3 l4 l5 l6 l7 : Option mx_V) (S h : mx_H) (n : Int), mx_ex d 179 112 [l0, l1, l2, l3, l4, l5, l6, l7] [(0, v), (0, i), (2, a)] S h n = mx_gd (S a (-2) = 20 ∧ 0 ≤ i ∧ i < S a (-1)) d 179 113 [l0, l1, l2, l3, l4, l5, l6, l7] [] S (mx_u h a i v) n) ∧
  (∀ (d : Nat) (l0 l1 l2 l3 l4 l5 l6 l7 : Option mx_V) (S h : mx_H) (n : Int), mx_ex d 179 113 [l0, l1, l2, l3, l4, l5, l6, l7] [] S h n = mx_ex d 179 114 [l0, l1, l2, l3, l4, l5, l6, l7] [(0, 0)] S h n) ∧
  (∀ (d : Nat) (x : Int) (l0 l1 l2 l3 l4 l5 l6 l7 : Option mx_V) (S h : mx_H) (n : Int), mx_ex d 179 114 [l0, l1, l2, l3, l4, l5, l6, l7] [(0, x)] S h n = mx_ex d 179 116 [l0, l1, l2, l3, l4, l5, mx_nl l6, some (0, x)] [] S h n) :=
  ⟨by intros; exact rfl,
   by intros; exact eq_ld rfl rfl,
   by intros; exact eq_push rfl,
   by intros; exact eq_push rfl,
   by intros; exact eq_cs rfl (Nat.le_of_ble_eq_true rfl) rfl rfl rfl (Nat.le_of_ble_eq_true rfl),
   by intros; exact eq_if0 rfl,
   by intros; exact eq_ld rfl rfl,
   by intros; exact eq_cs rfl (Nat.le_of_ble_eq_true rfl) rfl rfl rfl (Nat.le_of_ble_eq_true rfl),
   by intros; exact eq_if0 rfl,
   by intros; exact eq_ld rfl rfl,
   by intros; exact eq_push rfl,
   by intros; exact eq_push rfl,
   by intros; exact eq_cs rfl (Nat.le_of_ble_eq_true rfl) rfl rfl rfl (Nat.le_of_ble_eq_true rfl),
   by intros; exact eq_if0 rfl,
   by intros; exact eq_ld rfl rfl,
   by intros; exact eq_push rfl,
   by intros; exact eq_push rfl,
   by intros; exact eq_cs rfl (Nat.le_of_ble_eq_true rfl) rfl rfl rfl (Nat.le_of_ble_eq_true rfl),
   by intros; exact eq_if0 rfl,
   by intros; exact eq_ld rfl rfl,
   by intros; exact eq_if3 rfl,
   by intros; exact eq_push rfl,
   by intros; exact eq_ret rfl,
   by intros; exact eq_ld rfl rfl,
   by intros; exact eq_gr rfl,
   by intros; exact eq_push rfl,
   by intros; exact eq_iald rfl,
   by intros; exact eq_push rfl,
   by intros; exact eq_ic1 rfl,
   by intros; exact eq_push rfl,
   by intros; exact eq_ret rfl,
   by intros; exact eq_push rfl,
   by intros; exact eq_push rfl,
   by intros; exact eq_ld rfl rfl,
   by intros; exact eq_gr rfl,
   by intros; exact eq_push rfl,
   by intros; exact eq_iald rfl,
   by intros; exact eq_i2 (o := mx_mul) rfl,
   by intros; exact eq_i2 (o := mx_add) rfl,
   by intros; exact eq_st rfl (by decide) (Nat.le_of_ble_eq_true rfl) rfl,
   by intros; exact eq_ld rfl rfl,
   by intros; exact eq_gr rfl,
   by intros; exact eq_ld rfl rfl,
   by intros; exact eq_push rfl,
   by intros; exact eq_i2 (o := mx_add) rfl,
   by intros; exact eq_ld rfl rfl,
   by intros; exact eq_iast rfl,
   by intros; exact eq_ld rfl rfl,
   by intros; exact eq_gr rfl,
   by intros; exact eq_ld rfl rfl,
   by intros; exact eq_push rfl,
   by intros; exact eq_i2 (o := mx_add) rfl,
   by intros; exact eq_ld rfl rfl,
   by intros; exact eq_iast rfl,
   by intros; exact eq_ld rfl rfl,
   by intros; exact eq_gr rfl,
   by intros; exact eq_ld rfl rfl,
   by intros; exact eq_push rfl,
   by intros; exact eq_i2 (o := mx_add) rfl,
   by intros; exact eq_ld rfl rfl,
   by intros; exact eq_iast rfl,
   by intros; exact eq_ld rfl rfl,
   by intros; exact eq_gr rfl,
   by intros; exact eq_ld rfl rfl,
   by intros; exact eq_push rfl,
   by intros; exact eq_i2 (o := mx_add) rfl,
   by intros; exact eq_ld rfl rfl,
   by intros; exact eq_iast rfl,
   by intros; exact eq_push rfl,
   by intros; exact eq_st rfl (by decide) (Nat.le_of_ble_eq_true rfl) rfl⟩
theorem rw_X12_note_1 :
  (∀ (d : Nat) (x : Int) (l0 l1 l2 l3 l5 l6 l7 : Option mx_V) (v0 : mx_V) (S h : mx_H) (n : Int), mx_ex d 179 118 [l0, l1, l2, l3, some (0, x), l5, l6, l7] [v0] S h n = mx_ex d 179 120 [l0, l1, l2, l3, some (0, x), l5, l6, l7] [(0, x), v0] S h n) ∧
  (∀ (d : Nat) (b a : Int) (l0 l1 l2 l3 l4 l5 l6 l7 : Option mx_V) (S h : mx_H) (n : Int), mx_ex d 179 120 [l0, l1, l2, l3, l4, l5, l6, l7] [(0, b), (0, a)] S h n = mx_br (a < b) d 179 123 156 [l0, l1, l2, l3, l4, l5, l6, l7] [] S h n) ∧
  (∀ (d : Nat) (x : Int) (l1 l2 l3 l4 l5 l6 l7 : Option mx_V) (S h : mx_H) (n : Int), mx_ex d 179 123 [some (2, x), l1, l2, l3, l4, l5, l6, l7] [] S h n = mx_ex d 179 124 [some (2, x), l1, l2, l3, l4, l5, l6, l7] [(2, x)] S h n) ∧
  (∀ (d : Nat) (a : Int) (l0 l1 l2 l3 l4 l5 l6 l7 : Option mx_V) (S h : mx_H) (n : Int), mx_ex d 179 124 [l0, l1, l2, l3, l4, l5, l6, l7] [(2, a)] S h n = mx_gd (13 ≤ S a (-2) ∧ S a (-2) ≤ 13) d 179 127 [l0, l1, l2, l3, l4, l5, l6, l7] [(2, S a 0)] S h n) ∧
  (∀ (d : Nat) (x : Int) (l0 l1 l2 l3 l4 l5 l7 : Option mx_V) (v0 : mx_V) (S h : mx_H) (n : Int), mx_ex d 179 127 [l0, l1, l2, l3, l4, l5, some (0, x), l7] [v0] S h n = mx_ex d 179 129 [l0, l1, l2, l3, l4, l5, some (0, x), l7] [(0, x), v0] S h n) ∧
  (∀ (d : Nat) (l0 l1 l2 l3 l4 l5 l6 l7 : Option mx_V) (v0 v1 : mx_V) (S h : mx_H) (n : Int), mx_ex d 179 129 [l0, l1, l2, l3, l4, l5, l6, l7] [v0, v1] S h n = mx_ex d 179 130 [l0, l1, l2, l3, l4, l5, l6, l7] [(0, 4), v0, v1] S h n) ∧
  (∀ (d : Nat) (b a : Int) (l0 l1 l2 l3 l4 l5 l6 l7 : Option mx_V) (v2 : mx_V) (S h : mx_H) (n : Int), mx_ex d 179 130 [l0, l1, l2, l3, l4, l5, l6, l7] [(0, b), (0, a), v2] S h n = mx_ex d 179 131 [l0, l1, l2, l3, l4, l5, l6, l7] [(0, mx_w (a + b)), v2] S h n) ∧
  (∀ (d : Nat) (x : Int) (l0 l1 l2 l3 l4 l5 l6 : Option mx_V) (v0 v1 : mx_V) (S h : mx_H) (n : Int), mx_ex d 179 131 [l0, l1, l2, l3, l4, l5, l6, some (0, x)] [v0, v1] S h n = mx_ex d 179 133 [l0, l1, l2, l3, l4, l5, l6, some (0, x)] [(0, x), v0, v1] S h n) ∧
  (∀ (d : Nat) (b a : Int) (l0 l1 l2 l3 l4 l5 l6 l7 : Option mx_V) (v2 : mx_V) (S h : mx_H) (n : Int), mx_ex d 179 133 [l0, l1, l2, l3, l4, l5, l6, l7] [(0, b), (0, a), v2] S h n = mx_ex d 179 134 [l0, l1, l2, l3, l4, l5, l6, l7] [(0, mx_w (a + b)), v2] S h n) ∧
  (∀ (d : Nat) (x : Int) (l0 l1 l2 l3 l4 l6 l7 : Option mx_V) (v0 v1 : mx_V) (S h : mx_H) (n : Int), mx_ex d 179 134 [l0, l1, l2, l3, l4, some (0, x), l6, l7] [v0, v1] S h n = mx_ex d 179 136 [l0, l1, l2, l3, l4, some (0, x), l6, l7] [(0, x), v0, v1] S h n) ∧
  (∀ (d : Nat) (l0 l1 l2 l3 l4 l5 l6 l7 : Option mx_V) (v0 v1 v2 : mx_V) (S h : mx_H) (n : Int), mx_ex d 179 136 [l0, l1, l2, l3, l4, l5, l6, l7] [v0, v1, v2] S h n = mx_ex d 179 137 [l0, l1, l2, l3, l4, l5, l6, l7] [(0, 4), v0, v1, v2] S h n) ∧
  (∀ (d : Nat) (x : Int) (l0 l1 l2 l3 l5 l6 l7 : Option mx_V) (v0 v1 v2 v3 : mx_V) (S h : mx_H) (n : Int), mx_ex d 179 137 [l0, l1, l2, l3, some (0, x), l5, l6, l7] [v0, v1, v2, v3] S h n = mx_ex d 179 139 [l0, l1, l2, l3, some (0, x), l5, l6, l7] [(0, x), v0, v1, v2, v3] S h n) ∧
  (∀ (d : Nat) (l0 l1 l2 l3 l4 l5 l6 l7 : Option mx_V) (v0 v1 v2 v3 v4 : mx_V) (S h : mx_H) (n : Int), mx_ex d 179 139 [l0, l1, l2, l3, l4, l5, l6, l7] [v0, v1, v2, v3, v4] S h n = mx_ex d 179 140 [l0, l1, l2, l3, l4, l5, l6, l7] [(0, 1), v0, v1, v2, v3, v4] S h n) ∧
  (∀ (d : Nat) (b a : Int) (l0 l1 l2 l3 l4 l5 l6 l7 : Option mx_V) (v2 v3 v4 v5 : mx_V) (S h : mx_H) (n : Int), mx_ex d 179 140 [l0, l1, l2, l3, l4, l5, l6, l7] [(0, b), (0, a), v2, v3, v4, v5] S h n = mx_ex d 179 141 [l0, l1, l2, l3, l4, l5, l6, l7] [(0, mx_w (a - b)), v2, v3, v4, v5] S h n) ∧
  (∀ (d : Nat) (x : Int) (l0 l1 l2 l3 l4 l5 l6 : Option mx_V) (v0 v1 v2 v3 v4 : mx_V) (S h : mx_H) (n : Int), mx_ex d 179 141 [l0, l1, l2, l3, l4, l5, l6, some (0, x)] [v0, v1, v2, v3, v4] S h n = mx_ex d 179 143 [l0, l1, l2, l3, l4, l5, l6, some (0, x)] [(0, x), v0, v1, v2, v3, v4] S h n) ∧
  (∀ (d : Nat) (b a : Int) (l0 l1 l2 l3 l4 l5 l6 l7 : Option mx_V) (v2 v3 v4 v5 : mx_V) (S h : mx_H) (n : Int), mx_ex d 179 143 [l0, l1, l2, l3, l4, l5, l6, l7] [(0, b), (0, a), v2, v3, v4, v5] S h n = mx_ex d 179 144 [l0, l1, l2, l3, l4, l5, l6, l7] [(0, mx_w (a - b)), v2, v3, v4, v5] S h n) ∧
  (∀ (d : Nat) (b a : Int) (l0 l1 l2 l3 l4 l5 l6 l7 : Option mx_V) (v2 v3 v4 : mx_V) (S h : mx_H) (n : Int), mx_ex d 179 144 [l0, l1, l2, l3, l4, l5, l6, l7] [(0, b), (0, a), v2, v3, v4] S h n = mx_ex d 179 145 [l0, l1, l2, l3, l4, l5, l6, l7] [(0, mx_w (a * b)), v2, v3, v4] S h n) ∧
  (∀ (d : Nat) (b a : Int) (l0 l1 l2 l3 l4 l5 l6 l7 : Option mx_V) (v2 v3 : mx_V) (S h : mx_H) (n : Int), mx_ex d 179 145 [l0, l1, l2, l3, l4, l5, l6, l7] [(0, b), (0, a), v2, v3] S h n = mx_ex d 179 146 [l0, l1, l2, l3, l4, l5, l6, l7] [(0, mx_shr a b), v2, v3] S h n) ∧
  (∀ (d : Nat) (l0 l1 l2 l3 l4 l5 l6 l7 : Option mx_V) (v0 v1 v2 : mx_V) (S h : mx_H) (n : Int), mx_ex d 179 146 [l0, l1, l2, l3, l4, l5, l6, l7] [v0, v1, v2] S h n = mx_ex d 179 148 [l0, l1, l2, l3, l4, l5, l6, l7] [(0, 15), v0, v1, v2] S h n) ∧
  (∀ (d : Nat) (b a : Int) (l0 l1 l2 l3 l4 l5 l6 l7 : Option mx_V) (v2 v3 : mx_V) (S h : mx_H) (n : Int), mx_ex d 179 148 [l0, l1, l2, l3, l4, l5, l6, l7] [(0, b), (0, a), v2, v3] S h n = mx_ex d 179 149 [l0, l1, l2, l3, l4, l5, l6, l7] [(0, mx_and a b), v2, v3] S h n) ∧
  (∀ (d : Nat) (v i a : Int) (l0 l1 l2 l3 l4 l5 l6 l7 : Option mx_V) (S h : mx_H) (n : Int), mx_ex d 179 149 [l0, l1, l2, l3, l4, l5, l6, l7] [(0, v), (0, i), (2, a)] S h n = mx_gd (S a (-2) = 20 ∧ 0 ≤ i ∧ i < S a (-1)) d 179 150 [l0, l1, l2, l3, l4, l5, l6, l7] [] S (mx_u h a i v) n) ∧
  (∀ (d : Nat) (x : Int) (l0 l1 l2 l3 l4 l5 l6 : Option mx_V) (S h : mx_H) (n : Int), mx_ex d 179 150 [l0, l1, l2, l3, l4, l5, l6, some (0, x)] [] S h n = mx_ex d 179 153 [l0, l1, l2, l3, l4, l5, mx_nl l6, some (0, mx_w (x + 1))] [] S h n) ∧
  (∀ (d : Nat) (l0 l1 l2 l3 l4 l5 l6 l7 : Option mx_V) (S h : mx_H) (n : Int), mx_ex d 179 153 [l0, l1, l2, l3, l4, l5, l6, l7] [] S h n = mx_ex d 179 116 [l0, l1, l2, l3, l4, l5, l6, l7] [] S h n) ∧
  (∀ (d : Nat) (x : Int) (l1 l2 l3 l4 l5 l6 l7 : Option mx_V) (S h : mx_H) (n : Int), mx_ex d 179 156 [some (2, x), l1, l2, l3, l4, l5, l6, l7] [] S h n = mx_ex d 179 157 [some (2, x), l1, l2, l3, l4, l5, l6, l7] [(2, x)] S h n) ∧
  (∀ (d : Nat) (a : Int) (l0 l1 l2 l3 l4 l5 l6 l7 : Option mx_V) (S h : mx_H) (n : Int), mx_ex d 179 157 [l0, l1, l2, l3, l4, l5, l6, l7] [(2, a)] S h n = mx_gd (13 ≤ S a (-2) ∧ S a (-2) ≤ 13) d 179 160 [l0, l1, l2, l3, l4, l5, l6, l7] [(2, S a 0)] S h n) ∧
  (∀ (d : Nat) (l0 l1 l2 l3 l4 l5 l6 l7 : Option mx_V) (v0 : mx_V) (S h : mx_H) (n : Int), mx_ex d 179 160 [l0, l1, l2, l3, l4, l5, l6, l7] [v0] S h n = mx_ex d 179 161 [l0, l1, l2, l3, l4, l5, l6, l7] [(0, 0), v0] S h n) ∧
  (∀ (d : Nat) (a b : Int) (l0 l1 l2 l3 l4 l5 l6 l7 : Option mx_V) (S h : mx_H) (n : Int), mx_ex d 179 161 [l0, l1, l2, l3, l4, l5, l6, l7] [(0, a), (2, b)] S h n = mx_ex d 179 162 [l0, l1, l2, l3, l4, l5, l6, l7] [(0, a), (2, b), (0, a), (2, b)] S h n) ∧
  (∀ (d : Nat) (i a : Int) (l0 l1 l2 l3 l4 l5 l6 l7 : Option mx_V) (v2 v3 : mx_V) (S h : mx_H) (n : Int), mx_ex d 179 162 [l0, l1, l2, l3, l4, l5, l6, l7] [(0, i), (2, a), v2, v3] S h n = mx_gd ((S a (-2) = 20 ∨ S a (-2) = 24) ∧ 0 ≤ i ∧ i < S a (-1)) d 179 163 [l0, l1, l2, l3, l4, l5, l6, l7] [(0, h a i), v2, v3] S h n) ∧
  (∀ (d : Nat) (l0 l1 l2 l3 l4 l5 l6 l7 : Option mx_V) (v0 v1 v2 : mx_V) (S h : mx_H) (n : Int), mx_ex d 179 163 [l0, l1, l2, l3, l4, l5, l6, l7] [v0, v1, v2] S h n = mx_ex d 179 164 [l0, l1, l2, l3, l4, l5, l6, l7] [(0, 1), v0, v1, v2] S h n) ∧
  (∀ (d : Nat) (b a : Int) (l0 l1 l2 l3 l4 l5 l6 l7 : Option mx_V) (v2 v3 : mx_V) (S h : mx_H) (n : Int), mx_ex d 179 164 [l0, l1, l2, l3, l4, l5, l6, l7] [(0, b), (0, a), v2, v3] S h n = mx_ex d 179 165 [l0, l1, l2, l3, l4, l5, l6, l7] [(0, mx_w (a + b)), v2, v3] S h n) ∧
  (∀ (d : Nat) (v i a : Int) (l0 l1 l2 l3 l4 l5 l6 l7 : Option mx_V) (S h : mx_H) (n : Int), mx_ex d 179 165 [l0, l1, l2, l3, l4, l5, l6, l7] [(0, v), (0, i), (2, a)] S h n = mx_gd (S a (-2) = 20 ∧ 0 ≤ i ∧ i < S a (-1)) d 179 166 [l0, l1, l2, l3, l4, l5, l6, l7] [] S (mx_u h a i v) n) ∧
  (∀ (d : Nat) (x : Int) (l1 l2 l3 l4 l5 l6 l7 : Option mx_V) (S h : mx_H) (n : Int), mx_ex d 179 166 [some (2, x), l1, l2, l3, l4, l5, l6, l7] [] S h n = mx_ex d 179 167 [some (2, x), l1, l2, l3, l4, l5, l6, l7] [(2, x)] S h n) ∧
  (∀ (d : Nat) (a : Int) (l0 l1 l2 l3 l4 l5 l6 l7 : Option mx_V) (S h : mx_H) (n : Int), mx_ex d 179 167 [l0, l1, l2, l3, l4, l5, l6, l7] [(2, a)] S h n = mx_gd (13 ≤ S a (-2) ∧ S a (-2) ≤ 13) d 179 170 [l0, l1, l2, l3, l4, l5, l6, l7] [(2, S a 0)] S h n) ∧
  (∀ (d : Nat) (l0 l1 l2 l3 l4 l5 l6 l7 : Option mx_V) (v0 : mx_V) (S h : mx_H) (n : Int), mx_ex d 179 170 [l0, l1, l2, l3, l4, l5, l6, l7] [v0] S h n = mx_ex d 179 171 [l0, l1, l2, l3, l4, l5, l6, l7] [(0, 0), v0] S h n) ∧
  (∀ (d : Nat) (i a : Int) (l0 l1 l2 l3 l4 l5 l6 l7 : Option mx_V) (S h : mx_H) (n : Int), mx_ex d 179 171 [l0, l1, l2, l3, l4, l5, l6, l7] [(0, i), (2, a)] S h n = mx_gd ((S a (-2) = 20 ∨ S a (-2) = 24) ∧ 0 ≤ i ∧ i < S a (-1)) d 179 172 [l0, l1, l2, l3, l4, l5, l6, l7] [(0, h a i)] S h n) ∧
  (∀ (d : Nat) (l0 l1 l2 l3 l4 l5 l6 l7 : Option mx_V) (v0 : mx_V) (S h : mx_H) (n : Int), mx_ex d 179 172 [l0, l1, l2, l3, l4, l5, l6, l7] [v0] S h n = mx_ex d 179 173 [l0, l1, l2, l3, l4, l5, l6, l7] [(0, 1), v0] S h n) ∧
  (∀ (d : Nat) (b a : Int) (l0 l1 l2 l3 l4 l5 l6 l7 : Option mx_V) (S h : mx_H) (n : Int), mx_ex d 179 173 [l0, l1, l2, l3, l4, l5, l6, l7] [(0, b), (0, a)] S h n = mx_ex d 179 174 [l0, l1, l2, l3, l4, l5, l6, l7] [(0, mx_w (a - b))] S h n) ∧
  (∀ (d : Nat) (x : Int) (l0 l1 l2 l3 l4 l5 l6 l7 : Option mx_V) (S h : mx_H) (n : Int), mx_ex d 179 174 [l0, l1, l2, l3, l4, l5, l6, l7] [(0, x)] S h n = some (some (0, x), S, h, n)) :=
  ⟨by intros; exact eq_ld rfl rfl,
   by intros; exact eq_ic3 rfl,
   by intros; exact eq_ld rfl rfl,
   by intros; exact eq_gr rfl,
   by intros; exact eq_ld rfl rfl,
   by intros; exact eq_push rfl,
   by intros; exact eq_i2 (o := mx_add) rfl,
   by intros; exact eq_ld rfl rfl,
   by intros; exact eq_i2 (o := mx_add) rfl,
   by intros; exact eq_ld rfl rfl,
   by intros; exact eq_push rfl,
   by intros; exact eq_ld rfl rfl,
   by intros; exact eq_push rfl,
   by intros; exact eq_i2 (o := mx_sub) rfl,
   by intros; exact eq_ld rfl rfl,
   by intros; exact eq_i2 (o := mx_sub) rfl,
   by intros; exact eq_i2 (o := mx_mul) rfl,
   by intros; exact eq_i2 (o := mx_shr) rfl,
   by intros; exact eq_push rfl,
   by intros; exact eq_i2 (o := mx_and) rfl,
   by intros; exact eq_iast rfl,
   by intros; exact eq_inc rfl rfl rfl,
   by intros; exact eq_go rfl,
   by intros; exact eq_ld rfl rfl,
   by intros; exact eq_gr rfl,
   by intros; exact eq_push rfl,
   by intros; exact eq_dup2 rfl (by decide) (by decide),
   by intros; exact eq_iald rfl,
   by intros; exact eq_push rfl,
   by intros; exact eq_i2 (o := mx_add) rfl,
   by intros; exact eq_iast rfl,
   by intros; exact eq_ld rfl rfl,
   by intros; exact eq_gr rfl,
   by intros; exact eq_push rfl,
   by intros; exact eq_iald rfl,
   by intros; exact eq_push rfl,
   by intros; exact eq_i2 (o := mx_sub) rfl,
   by intros; exact eq_ret rfl⟩
theorem rw_X12_noteOf :
  (∀ (d : Nat) (a0 a1 a2 : Int) (S h : mx_H) (n : Int), mx_M d 180 [(2, a0), (0, a1), (0, a2)] S h n = mx_ex d 180 0 [some (2, a0), some (0, a1), some (0, a2)] [] S h n) ∧
  (∀ (d : Nat) (x : Int) (l1 l2 : Option mx_V) (S h : mx_H) (n : Int), mx_ex d 180 0 [some (2, x), l1, l2] [] S h n = mx_ex d 180 1 [some (2, x), l1, l2] [(2, x)] S h n) ∧
  (∀ (d : Nat) (x : Int) (l0 l2 : Option mx_V) (v0 : mx_V) (S h : mx_H) (n : Int), mx_ex d 180 1 [l0, some (0, x), l2] [v0] S h n = mx_ex d 180 2 [l0, some (0, x), l2] [(0, x), v0] S h n) ∧
  (∀ (d : Nat) (x0 a : Int) (l0 l1 l2 : Option mx_V) (S h : mx_H) (n : Int), mx_ex (d + 1) 180 2 [l0, l1, l2] [(0, x0), (2, a)] S h n = mx_cl (S a (-2) = 13) d 160 [(2, a), (0, x0)] 180 5 [l0, l1, l2] [] S h n) ∧
  (∀ (d : Nat) (a : Int) (l0 l1 l2 : Option mx_V) (S h : mx_H) (n : Int), mx_ex d 180 5 [l0, l1, l2] [(0, a)] S h n = mx_br (a = 0) d 180 8 10 [l0, l1, l2] [] S h n) ∧
  (∀ (d : Nat) (l0 l1 l2 : Option mx_V) (S h : mx_H) (n : Int), mx_ex d 180 8 [l0, l1, l2] [] S h n = mx_ex d 180 9 [l0, l1, l2] [(0, (-1))] S h n) ∧
  (∀ (d : Nat) (x : Int) (l0 l1 l2 : Option mx_V) (S h : mx_H) (n : Int), mx_ex d 180 9 [l0, l1, l2] [(0, x)] S h n = some (some (0, x), S, h, n)) ∧
  (∀ (d : Nat) (x : Int) (l0 l1 : Option mx_V) (S h : mx_H) (n : Int), mx_ex d 180 10 [l0, l1, some (0, x)] [] S h n = mx_ex d 180 11 [l0, l1, some (0, x)] [(0, x)] S h n) ∧
  (∀ (d : Nat) (l0 l1 l2 : Option mx_V) (v0 : mx_V) (S h : mx_H) (n : Int), mx_ex d 180 11 [l0, l1, l2] [v0] S h n = mx_ex d 180 12 [l0, l1, l2] [(0, 0), v0] S h n) ∧
  (∀ (d : Nat) (l0 l1 l2 : Option mx_V) (v0 v1 : mx_V) (S h : mx_H) (n : Int), mx_ex d 180 12 [l0, l1, l2] [v0, v1] S h n = mx_ex d 180 13 [l0, l1, l2] [(0, 3), v0, v1] S h n) ∧
  (∀ (d : Nat) (x0 x1 x2 : Int) (l0 l1 l2 : Option mx_V) (S h : mx_H) (n : Int), mx_ex (d + 1) 180 13 [l0, l1, l2] [(0, x0), (0, x1), (0, x2)] S h n = mx_rt (mx_M d 159 [(0, x2), (0, x1), (0, x0)] S h n) (d + 1) 180 16 [l0, l1, l2] []) ∧
  (∀ (d : Nat) (a : Int) (l0 l1 l2 : Option mx_V) (S h : mx_H) (n : Int), mx_ex d 180 16 [l0, l1, l2] [(0, a)] S h n = mx_br (a = 0) d 180 26 19 [l0, l1, l2] [] S h n) ∧
  (∀ (d : Nat) (x : Int) (l1 l2 : Option mx_V) (S h : mx_H) (n : Int), mx_ex d 180 19 [some (2, x), l1, l2] [] S h n = mx_ex d 180 20 [some (2, x), l1, l2] [(2, x)] S h n) ∧
  (∀ (d : Nat) (x : Int) (l0 l2 : Option mx_V) (v0 : mx_V) (S h : mx_H) (n : Int), mx_ex d 180 20 [l0, some (0, x), l2] [v0] S h n = mx_ex d 180 21 [l0, some (0, x), l2] [(0, x), v0] S h n) ∧
  (∀ (d : Nat) (x : Int) (l0 l1 : Option mx_V) (v0 v1 : mx_V) (S h : mx_H) (n : Int), mx_ex d 180 21 [l0, l1, some (0, x)] [v0, v1] S h n = mx_ex d 180 22 [l0, l1, some (0, x)] [(0, x), v0, v1] S h n) ∧
  (∀ (d : Nat) (x0 x1 a : Int) (l0 l1 l2 : Option mx_V) (S h : mx_H) (n : Int), mx_ex (d + 1) 180 22 [l0, l1, l2] [(0, x0), (0, x1), (2, a)] S h n = mx_cl (S a (-2) = 13) d 163 [(2, a), (0, x1), (0, x0)] 180 25 [l0, l1, l2] [] S h n) ∧
  (∀ (d : Nat) (x : Int) (l0 l1 l2 : Option mx_V) (S h : mx_H) (n : Int), mx_ex d 180 25 [l0, l1, l2] [(0, x)] S h n = some (some (0, x), S, h, n)) ∧
  (∀ (d : Nat) (x : Int) (l0 l1 : Option mx_V) (S h : mx_H) (n : Int), mx_ex d 180 26 [l0, l1, some (0, x)] [] S h n = mx_ex d 180 27 [l0, l1, some (0, x)] [(0, x)] S h n) ∧
  (∀ (d : Nat) (l0 l1 l2 : Option mx_V) (v0 : mx_V) (S h : mx_H) (n : Int), mx_ex d 180 27 [l0, l1, l2] [v0] S h n = mx_ex d 180 29 [l0, l1, l2] [(0, 10), v0] S h n) ∧
  (∀ (d : Nat) (l0 l1 l2 : Option mx_V) (v0 v1 : mx_V) (S h : mx_H) (n : Int), mx_ex d 180 29 [l0, l1, l2] [v0, v1] S h n = mx_ex d 180 31 [l0, l1, l2] [(0, 9), v0, v1] S h n) ∧
  (∀ (d : Nat) (x : Int) (l1 l2 : Option mx_V) (v0 v1 v2 : mx_V) (S h : mx_H) (n : Int), mx_ex d 180 31 [some (2, x), l1, l2] [v0, v1, v2] S h n = mx_ex d 180 32 [some (2, x), l1, l2] [(2, x), v0, v1, v2] S h n) ∧
  (∀ (d : Nat) (x : Int) (l0 l2 : Option mx_V) (v0 v1 v2 v3 : mx_V) (S h : mx_H) (n : Int), mx_ex d 180 32 [l0, some (0, x), l2] [v0, v1, v2, v3] S h n = mx_ex d 180 33 [l0, some (0, x), l2] [(0, x), v0, v1, v2, v3] S h n) ∧
  (∀ (d : Nat) (l0 l1 l2 : Option mx_V) (v0 v1 v2 v3 v4 : mx_V) (S h : mx_H) (n : Int), mx_ex d 180 33 [l0, l1, l2] [v0, v1, v2, v3, v4] S h n = mx_ex d 180 34 [l0, l1, l2] [(0, 3), v0, v1, v2, v3, v4] S h n) ∧
  (∀ (d : Nat) (x0 x1 a : Int) (l0 l1 l2 : Option mx_V) (v3 v4 v5 : mx_V) (S h : mx_H) (n : Int), mx_ex (d + 1) 180 34 [l0, l1, l2] [(0, x0), (0, x1), (2, a), v3, v4, v5] S h n = mx_cl (S a (-2) = 13) d 163 [(2, a), (0, x1), (0, x0)] 180 37 [l0, l1, l2] [v3, v4, v5] S h n) ∧
  (∀ (d : Nat) (b a : Int) (l0 l1 l2 : Option mx_V) (v2 v3 : mx_V) (S h : mx_H) (n : Int), mx_ex d 180 37 [l0, l1, l2] [(0, b), (0, a), v2, v3] S h n = mx_ex d 180 38 [l0, l1, l2] [(0, mx_w (a + b)), v2, v3] S h n) ∧
  (∀ (d : Nat) (x0 x1 x2 : Int) (l0 l1 l2 : Option mx_V) (S h : mx_H) (n : Int), mx_ex (d + 1) 180 38 [l0, l1, l2] [(0, x0), (0, x1), (0, x2)] S h n = mx_rt (mx_M d 159 [(0, x2), (0, x1), (0, x0)] S h n) (d + 1) 180 41 [l0, l1, l2] []) ∧
  (∀ (d : Nat) (a : Int) (l0 l1 l2 : Option mx_V) (S h : mx_H) (n : Int), mx_ex d 180 41 [l0, l1, l2] [(0, a)] S h n = mx_br (a = 0) d 180 58 44 [l0, l1, l2] [] S h n) ∧
  (∀ (d : Nat) (x : Int) (l1 l2 : Option mx_V) (S h : mx_H) (n : Int), mx_ex d 180 44 [some (2, x), l1, l2] [] S h n = mx_ex d 180 45 [some (2, x), l1, l2] [(2, x)] S h n) ∧
  (∀ (d : Nat) (x : Int) (l0 l2 : Option mx_V) (v0 : mx_V) (S h : mx_H) (n : Int), mx_ex d 180 45 [l0, some (0, x), l2] [v0] S h n = mx_ex d 180 46 [l0, some (0, x), l2] [(0, x), v0] S h n) ∧
  (∀ (d : Nat) (l0 l1 l2 : Option mx_V) (v0 v1 : mx_V) (S h : mx_H) (n : Int), mx_ex d 180 46 [l0, l1, l2] [v0, v1] S h n = mx_ex d 180 47 [l0, l1, l2] [(0, 4), v0, v1] S h n) ∧
  (∀ (d : Nat) (x : Int) (l0 l1 : Option mx_V) (v0 v1 v2 : mx_V) (S h : mx_H) (n : Int), mx_ex d 180 47 [l0, l1, some (0, x)] [v0, v1, v2] S h n = mx_ex d 180 48 [l0, l1, some (0, x)] [(0, x), v0, v1, v2] S h n) ∧
  (∀ (d : Nat) (b a : Int) (l0 l1 l2 : Option mx_V) (v2 v3 : mx_V) (S h : mx_H) (n : Int), mx_ex d 180 48 [l0, l1, l2] [(0, b), (0, a), v2, v3] S h n = mx_ex d 180 49 [l0, l1, l2] [(0, mx_w (a + b)), v2, v3] S h n) ∧
  (∀ (d : Nat) (l0 l1 l2 : Option mx_V) (v0 v1 v2 : mx_V) (S h : mx_H) (n : Int), mx_ex d 180 49 [l0, l1, l2] [v0, v1, v2] S h n = mx_ex d 180 51 [l0, l1, l2] [(0, 10), v0, v1, v2] S h n) ∧
  (∀ (d : Nat) (b a : Int) (l0 l1 l2 : Option mx_V) (v2 v3 : mx_V) (S h : mx_H) (n : Int), mx_ex d 180 51 [l0, l1, l2] [(0, b), (0, a), v2, v3] S h n = mx_ex d 180 52 [l0, l1, l2] [(0, mx_w (a - b)), v2, v3] S h n) ∧
  (∀ (d : Nat) (x0 x1 a : Int) (l0 l1 l2 : Option mx_V) (S h : mx_H) (n : Int), mx_ex (d + 1) 180 52 [l0, l1, l2] [(0, x0), (0, x1), (2, a)] S h n = mx_cl (S a (-2) = 13) d 163 [(2, a), (0, x1), (0, x0)] 180 55 [l0, l1, l2] [] S h n) ∧
  (∀ (d : Nat) (l0 l1 l2 : Option mx_V) (v0 : mx_V) (S h : mx_H) (n : Int), mx_ex d 180 55 [l0, l1, l2] [v0] S h n = mx_ex d 180 59 [l0, l1, l2] [v0] S h n) ∧
  (∀ (d : Nat) (l0 l1 l2 : Option mx_V) (S h : mx_H) (n : Int), mx_ex d 180 58 [l0, l1, l2] [] S h n = mx_ex d 180 59 [l0, l1, l2] [(0, (-1))] S h n) ∧
  (∀ (d : Nat) (x : Int) (l0 l1 l2 : Option mx_V) (S h : mx_H) (n : Int), mx_ex d 180 59 [l0, l1, l2] [(0, x)] S h n = some (some (0, x), S, h, n)) :=
  ⟨by intros; exact rfl,
   by intros; exact eq_ld rfl rfl,
   by intros; exact eq_ld rfl rfl,
   by intros; exact eq_cv rfl (Nat.le_of_ble_eq_true rfl) rfl rfl rfl (Nat.le_of_ble_eq_true rfl),
   by intros; exact eq_if1 rfl,
   by intros; exact eq_push rfl,
   by intros; exact eq_ret rfl,
   by intros; exact eq_ld rfl rfl,
   by intros; exact eq_push rfl,
   by intros; exact eq_push rfl,
   by intros; exact eq_cs rfl (Nat.le_of_ble_eq_true rfl) rfl rfl rfl (Nat.le_of_ble_eq_true rfl),
   by intros; exact eq_if0 rfl,
   by intros; exact eq_ld rfl rfl,
   by intros; exact eq_ld rfl rfl,
   by intros; exact eq_ld rfl rfl,
   by intros; exact eq_cv rfl (Nat.le_of_ble_eq_true rfl) rfl rfl rfl (Nat.le_of_ble_eq_true rfl),
   by intros; exact eq_ret rfl,
   by intros; exact eq_ld rfl rfl,
   by intros; exact eq_push rfl,
   by intros; exact eq_push rfl,
   by intros; exact eq_ld rfl rfl,
   by intros; exact eq_ld rfl rfl,
   by intros; exact eq_push rfl,
   by intros; exact eq_cv rfl (Nat.le_of_ble_eq_true rfl) rfl rfl rfl (Nat.le_of_ble_eq_true rfl),
   by intros; exact eq_i2 (o := mx_add) rfl,
   by intros; exact eq_cs rfl (Nat.le_of_ble_eq_true rfl) rfl rfl rfl (Nat.le_of_ble_eq_true rfl),
   by intros; exact eq_if0 rfl,
   by intros; exact eq_ld rfl rfl,
   by intros; exact eq_ld rfl rfl,
   by intros; exact eq_push rfl,
   by intros; exact eq_ld rfl rfl,
   by intros; exact eq_i2 (o := mx_add) rfl,
   by intros; exact eq_push rfl,
   by intros; exact eq_i2 (o := mx_sub) rfl,
   by intros; exact eq_cv rfl (Nat.le_of_ble_eq_true rfl) rfl rfl rfl (Nat.le_of_ble_eq_true rfl),
   by intros; exact eq_go rfl,
   by intros; exact eq_push rfl,
   by intros; exact eq_ret rfl⟩
theorem rw_X12_isPlace :
  (∀ (d : Nat) (a0 a1 a2 : Int) (S h : mx_H) (n : Int), mx_M d 181 [(2, a0), (0, a1), (0, a2)] S h n = mx_ex d 181 0 [some (2, a0), some (0, a1), some (0, a2)] [] S h n) ∧
  (∀ (d : Nat) (x : Int) (l0 l1 : Option mx_V) (S h : mx_H) (n : Int), mx_ex d 181 0 [l0, l1, some (0, x)] [] S h n = mx_ex d 181 1 [l0, l1, some (0, x)] [(0, x)] S h n) ∧
  (∀ (d : Nat) (l0 l1 l2 : Option mx_V) (v0 : mx_V) (S h : mx_H) (n : Int), mx_ex d 181 1 [l0, l1, l2] [v0] S h n = mx_ex d 181 2 [l0, l1, l2] [(0, 0), v0] S h n) ∧
  (∀ (d : Nat) (x : Int) (l1 l2 : Option mx_V) (v0 v1 : mx_V) (S h : mx_H) (n : Int), mx_ex d 181 2 [some (2, x), l1, l2] [v0, v1] S h n = mx_ex d 181 3 [some (2, x), l1, l2] [(2, x), v0, v1] S h n) ∧
  (∀ (d : Nat) (x : Int) (l0 l2 : Option mx_V) (v0 v1 v2 : mx_V) (S h : mx_H) (n : Int), mx_ex d 181 3 [l0, some (0, x), l2] [v0, v1, v2] S h n = mx_ex d 181 4 [l0, some (0, x), l2] [(0, x), v0, v1, v2] S h n) ∧
  (∀ (d : Nat) (l0 l1 l2 : Option mx_V) (v0 v1 v2 v3 : mx_V) (S h : mx_H) (n : Int), mx_ex d 181 4 [l0, l1, l2] [v0, v1, v2, v3] S h n = mx_ex d 181 5 [l0, l1, l2] [(0, 3), v0, v1, v2, v3] S h n) ∧
  (∀ (d : Nat) (x0 x1 a : Int) (l0 l1 l2 : Option mx_V) (v3 v4 : mx_V) (S h : mx_H) (n : Int), mx_ex (d + 1) 181 5 [l0, l1, l2] [(0, x0), (0, x1), (2, a), v3, v4] S h n = mx_cl (S a (-2) = 13) d 163 [(2, a), (0, x1), (0, x0)] 181 8 [l0, l1, l2] [v3, v4] S h n) ∧
  (∀ (d : Nat) (l0 l1 l2 : Option mx_V) (v0 v1 v2 : mx_V) (S h : mx_H) (n : Int), mx_ex d 181 8 [l0, l1, l2] [v0, v1, v2] S h n = mx_ex d 181 9 [l0, l1, l2] [(0, 1), v0, v1, v2] S h n) ∧
  (∀ (d : Nat) (b a : Int) (l0 l1 l2 : Option mx_V) (v2 v3 : mx_V) (S h : mx_H) (n : Int), mx_ex d 181 9 [l0, l1, l2] [(0, b), (0, a), v2, v3] S h n = mx_ex d 181 10 [l0, l1, l2] [(0, mx_w (a - b)), v2, v3] S h n) ∧
  (∀ (d : Nat) (x0 x1 x2 : Int) (l0 l1 l2 : Option mx_V) (S h : mx_H) (n : Int), mx_ex (d + 1) 181 10 [l0, l1, l2] [(0, x0), (0, x1), (0, x2)] S h n = mx_rt (mx_M d 159 [(0, x2), (0, x1), (0, x0)] S h n) (d + 1) 181 13 [l0, l1, l2] []) ∧
  (∀ (d : Nat) (x : Int) (l0 l1 l2 : Option mx_V) (S h : mx_H) (n : Int), mx_ex d 181 13 [l0, l1, l2] [(0, x)] S h n = mx_re (0 ≤ x ∧ x ≤ 1) (some (0, x)) S h n) :=
  ⟨by intros; exact rfl,
   by intros; exact eq_ld rfl rfl,
   by intros; exact eq_push rfl,
   by intros; exact eq_ld rfl rfl,
   by intros; exact eq_ld rfl rfl,
   by intros; exact eq_push rfl,
   by intros; exact eq_cv rfl (Nat.le_of_ble_eq_true rfl) rfl rfl rfl (Nat.le_of_ble_eq_true rfl),
   by intros; exact eq_push rfl,
   by intros; exact eq_i2 (o := mx_sub) rfl,
   by intros; exact eq_cs rfl (Nat.le_of_ble_eq_true rfl) rfl rfl rfl (Nat.le_of_ble_eq_true rfl),
   by intros; exact eq_rr rfl⟩
theorem rw_X12_alter :
  (∀ (d : Nat) (a0 a1 a2 a3 : Int) (S h : mx_H) (n : Int), mx_M d 182 [(2, a0), (0, a1), (0, a2), (0, a3)] S h n = mx_ex d 182 0 [some (2, a0), some (0, a1), some (0, a2), some (0, a3), none] [] S h n) ∧
  (∀ (d : Nat) (x : Int) (l1 l2 l3 l4 : Option mx_V) (S h : mx_H) (n : Int), mx_ex d 182 0 [some (2, x), l1, l2, l3, l4] [] S h n = mx_ex d 182 1 [some (2, x), l1, l2, l3, l4] [(2, x)] S h n) ∧
  (∀ (d : Nat) (x : Int) (l0 l2 l3 l4 : Option mx_V) (v0 : mx_V) (S h : mx_H) (n : Int), mx_ex d 182 1 [l0, some (0, x), l2, l3, l4] [v0] S h n = mx_ex d 182 2 [l0, some (0, x), l2, l3, l4] [(0, x), v0] S h n) ∧
  (∀ (d : Nat) (x0 a : Int) (l0 l1 l2 l3 l4 : Option mx_V) (S h : mx_H) (n : Int), mx_ex (d + 1) 182 2 [l0, l1, l2, l3, l4] [(0, x0), (2, a)] S h n = mx_cl (S a (-2) = 13) d 160 [(2, a), (0, x0)] 182 5 [l0, l1, l2, l3, l4] [] S h n) ∧
  (∀ (d : Nat) (a : Int) (l0 l1 l2 l3 l4 : Option mx_V) (S h : mx_H) (n : Int), mx_ex d 182 5 [l0, l1, l2, l3, l4] [(0, a)] S h n = mx_br (a = 0) d 182 27 8 [l0, l1, l2, l3, l4] [] S h n) ∧
  (∀ (d : Nat) (x : Int) (l1 l2 l3 l4 : Option mx_V) (S h : mx_H) (n : Int), mx_ex d 182 8 [some (2, x), l1, l2, l3, l4] [] S h n = mx_ex d 182 9 [some (2, x), l1, l2, l3, l4] [(2, x)] S h n) ∧
  (∀ (d : Nat) (x : Int) (l0 l2 l3 l4 : Option mx_V) (v0 : mx_V) (S h : mx_H) (n : Int), mx_ex d 182 9 [l0, some (0, x), l2, l3, l4] [v0] S h n = mx_ex d 182 10 [l0, some (0, x), l2, l3, l4] [(0, x), v0] S h n) ∧
  (∀ (d : Nat) (x : Int) (l0 l1 l3 l4 : Option mx_V) (v0 v1 : mx_V) (S h : mx_H) (n : Int), mx_ex d 182 10 [l0, l1, some (0, x), l3, l4] [v0, v1] S h n = mx_ex d 182 11 [l0, l1, some (0, x), l3, l4] [(0, x), v0, v1] S h n) ∧
  (∀ (d : Nat) (x0 x1 a : Int) (l0 l1 l2 l3 l4 : Option mx_V) (S h : mx_H) (n : Int), mx_ex (d + 1) 182 11 [l0, l1, l2, l3, l4] [(0, x0), (0, x1), (2, a)] S h n = mx_cl (S a (-2) = 13) d 181 [(2, a), (0, x1), (0, x0)] 182 14 [l0, l1, l2, l3, l4] [] S h n) ∧
  (∀ (d : Nat) (a : Int) (l0 l1 l2 l3 l4 : Option mx_V) (S h : mx_H) (n : Int), mx_ex d 182 14 [l0, l1, l2, l3, l4] [(0, a)] S h n = mx_br (a = 0) d 182 27 17 [l0, l1, l2, l3, l4] [] S h n) ∧
  (∀ (d : Nat) (x : Int) (l0 l1 l2 l4 : Option mx_V) (S h : mx_H) (n : Int), mx_ex d 182 17 [l0, l1, l2, some (0, x), l4] [] S h n = mx_ex d 182 18 [l0, l1, l2, some (0, x), l4] [(0, x)] S h n) ∧
  (∀ (d : Nat) (l0 l1 l2 l3 l4 : Option mx_V) (v0 : mx_V) (S h : mx_H) (n : Int), mx_ex d 182 18 [l0, l1, l2, l3, l4] [v0] S h n = mx_ex d 182 19 [l0, l1, l2, l3, l4] [(0, 0), v0] S h n) ∧
  (∀ (d : Nat) (l0 l1 l2 l3 l4 : Option mx_V) (v0 v1 : mx_V) (S h : mx_H) (n : Int), mx_ex d 182 19 [l0, l1, l2, l3, l4] [v0, v1] S h n = mx_ex d 182 21 [l0, l1, l2, l3, l4] [(0, 15), v0, v1] S h n) ∧
  (∀ (d : Nat) (x0 x1 x2 : Int) (l0 l1 l2 l3 l4 : Option mx_V) (S h : mx_H) (n : Int), mx_ex (d + 1) 182 21 [l0, l1, l2, l3, l4] [(0, x0), (0, x1), (0, x2)] S h n = mx_rt (mx_M d 159 [(0, x2), (0, x1), (0, x0)] S h n) (d + 1) 182 24 [l0, l1, l2, l3, l4] []) ∧
  (∀ (d : Nat) (a : Int) (l0 l1 l2 l3 l4 : Option mx_V) (S h : mx_H) (n : Int), mx_ex d 182 24 [l0, l1, l2, l3, l4] [(0, a)] S h n = mx_br (a = 0) d 182 27 29 [l0, l1, l2, l3, l4] [] S h n) ∧
  (∀ (d : Nat) (l0 l1 l2 l3 l4 : Option mx_V) (S h : mx_H) (n : Int), mx_ex d 182 27 [l0, l1, l2, l3, l4] [] S h n = mx_ex d 182 28 [l0, l1, l2, l3, l4] [(0, (-1))] S h n) ∧
  (∀ (d : Nat) (x : Int) (l0 l1 l2 l3 l4 : Option mx_V) (S h : mx_H) (n : Int), mx_ex d 182 28 [l0, l1, l2, l3, l4] [(0, x)] S h n = some (some (0, x), S, h, n)) ∧
  (∀ (d : Nat) (x : Int) (l1 l2 l3 l4 : Option mx_V) (S h : mx_H) (n : Int), mx_ex d 182 29 [some (2, x), l1, l2, l3, l4] [] S h n = mx_ex d 182 30 [some (2, x), l1, l2, l3, l4] [(2, x)] S h n) ∧
  (∀ (d : Nat) (x : Int) (l0 l2 l3 l4 : Option mx_V) (v0 : mx_V) (S h : mx_H) (n : Int), mx_ex d 182 30 [l0, some (0, x), l2, l3, l4] [v0] S h n = mx_ex d 182 31 [l0, some (0, x), l2, l3, l4] [(0, x), v0] S h n) ∧
  (∀ (d : Nat) (l0 l1 l2 l3 l4 : Option mx_V) (v0 v1 : mx_V) (S h : mx_H) (n : Int), mx_ex d 182 31 [l0, l1, l2, l3, l4] [v0, v1] S h n = mx_ex d 182 32 [l0, l1, l2, l3, l4] [(0, 4), v0, v1] S h n) ∧
  (∀ (d : Nat) (x : Int) (l0 l1 l3 l4 : Option mx_V) (v0 v1 v2 : mx_V) (S h : mx_H) (n : Int), mx_ex d 182 32 [l0, l1, some (0, x), l3, l4] [v0, v1, v2] S h n = mx_ex d 182 33 [l0, l1, some (0, x), l3, l4] [(0, x), v0, v1, v2] S h n) ∧
  (∀ (d : Nat) (b a : Int) (l0 l1 l2 l3 l4 : Option mx_V) (v2 v3 : mx_V) (S h : mx_H) (n : Int), mx_ex d 182 33 [l0, l1, l2, l3, l4] [(0, b), (0, a), v2, v3] S h n = mx_ex d 182 34 [l0, l1, l2, l3, l4] [(0, mx_w (a + b)), v2, v3] S h n) ∧
  (∀ (d : Nat) (x0 x1 a : Int) (l0 l1 l2 l3 l4 : Option mx_V) (S h : mx_H) (n : Int), mx_ex (d + 1) 182 34 [l0, l1, l2, l3, l4] [(0, x0), (0, x1), (2, a)] S h n = mx_cl (S a (-2) = 13) d 163 [(2, a), (0, x1), (0, x0)] 182 37 [l0, l1, l2, l3, l4] [] S h n) ∧
  (∀ (d : Nat) (x : Int) (l0 l1 l2 l3 l4 : Option mx_V) (S h : mx_H) (n : Int), mx_ex d 182 37 [l0, l1, l2, l3, l4] [(0, x)] S h n = mx_ex d 182 39 [l0, l1, l2, mx_nl l3, some (0, x)] [] S h n) ∧
  (∀ (d : Nat) (x : Int) (l1 l2 l3 l4 : Option mx_V) (S h : mx_H) (n : Int), mx_ex d 182 39 [some (2, x), l1, l2, l3, l4] [] S h n = mx_ex d 182 40 [some (2, x), l1, l2, l3, l4] [(2, x)] S h n) ∧
  (∀ (d : Nat) (a : Int) (l0 l1 l2 l3 l4 : Option mx_V) (S h : mx_H) (n : Int), mx_ex d 182 40 [l0, l1, l2, l3, l4] [(2, a)] S h n = mx_gd (13 ≤ S a (-2) ∧ S a (-2) ≤ 13) d 182 43 [l0, l1, l2, l3, l4] [(2, S a 0)] S h n) ∧
  (∀ (d : Nat) (l0 l1 l2 l3 l4 : Option mx_V) (v0 : mx_V) (S h : mx_H) (n : Int), mx_ex d 182 43 [l0, l1, l2, l3, l4] [v0] S h n = mx_ex d 182 45 [l0, l1, l2, l3, l4] [(0, 9), v0] S h n) ∧
  (∀ (d : Nat) (l0 l1 l2 l3 l4 : Option mx_V) (v0 v1 : mx_V) (S h : mx_H) (n : Int), mx_ex d 182 45 [l0, l1, l2, l3, l4] [v0, v1] S h n = mx_ex d 182 47 [l0, l1, l2, l3, l4] [(0, 10), v0, v1] S h n) ∧
  (∀ (d : Nat) (x : Int) (l0 l2 l3 l4 : Option mx_V) (v0 v1 v2 : mx_V) (S h : mx_H) (n : Int), mx_ex d 182 47 [l0, some (0, x), l2, l3, l4] [v0, v1, v2] S h n = mx_ex d 182 48 [l0, some (0, x), l2, l3, l4] [(0, x), v0, v1, v2] S h n) ∧
  (∀ (d : Nat) (b a : Int) (l0 l1 l2 l3 l4 : Option mx_V) (v2 v3 : mx_V) (S h : mx_H) (n : Int), mx_ex d 182 48 [l0, l1, l2, l3, l4] [(0, b), (0, a), v2, v3] S h n = mx_ex d 182 49 [l0, l1, l2, l3, l4] [(0, mx_w (a * b)), v2, v3] S h n) ∧
  (∀ (d : Nat) (b a : Int) (l0 l1 l2 l3 l4 : Option mx_V) (v2 : mx_V) (S h : mx_H) (n : Int), mx_ex d 182 49 [l0, l1, l2, l3, l4] [(0, b), (0, a), v2] S h n = mx_ex d 182 50 [l0, l1, l2, l3, l4] [(0, mx_w (a + b)), v2] S h n) ∧
  (∀ (d : Nat) (l0 l1 l2 l3 l4 : Option mx_V) (v0 v1 : mx_V) (S h : mx_H) (n : Int), mx_ex d 182 50 [l0, l1, l2, l3, l4] [v0, v1] S h n = mx_ex d 182 51 [l0, l1, l2, l3, l4] [(0, 4), v0, v1] S h n) ∧
  (∀ (d : Nat) (b a : Int) (l0 l1 l2 l3 l4 : Option mx_V) (v2 : mx_V) (S h : mx_H) (n : Int), mx_ex d 182 51 [l0, l1, l2, l3, l4] [(0, b), (0, a), v2] S h n = mx_ex d 182 52 [l0, l1, l2, l3, l4] [(0, mx_w (a + b)), v2] S h n) ∧
  (∀ (d : Nat) (x : Int) (l0 l1 l3 l4 : Option mx_V) (v0 v1 : mx_V) (S h : mx_H) (n : Int), mx_ex d 182 52 [l0, l1, some (0, x), l3, l4] [v0, v1] S h n = mx_ex d 182 53 [l0, l1, some (0, x), l3, l4] [(0, x), v0, v1] S h n) ∧
  (∀ (d : Nat) (b a : Int) (l0 l1 l2 l3 l4 : Option mx_V) (v2 : mx_V) (S h : mx_H) (n : Int), mx_ex d 182 53 [l0, l1, l2, l3, l4] [(0, b), (0, a), v2] S h n = mx_ex d 182 54 [l0, l1, l2, l3, l4] [(0, mx_w (a + b)), v2] S h n) ∧
  (∀ (d : Nat) (x : Int) (l0 l1 l2 l4 : Option mx_V) (v0 v1 : mx_V) (S h : mx_H) (n : Int), mx_ex d 182 54 [l0, l1, l2, some (0, x), l4] [v0, v1] S h n = mx_ex d 182 55 [l0, l1, l2, some (0, x), l4] [(0, x), v0, v1] S h n) ∧
  (∀ (d : Nat) (v i a : Int) (l0 l1 l2 l3 l4 : Option mx_V) (S h : mx_H) (n : Int), mx_ex d 182 55 [l0, l1, l2, l3, l4] [(0, v), (0, i), (2, a)] S h n = mx_gd (S a (-2) = 20 ∧ 0 ≤ i ∧ i < S a (-1)) d 182 56 [l0, l1, l2, l3, l4] [] S (mx_u h a i v) n) ∧
  (∀ (d : Nat) (x : Int) (l0 l1 l2 l3 : Option mx_V) (S h : mx_H) (n : Int), mx_ex d 182 56 [l0, l1, l2, l3, some (0, x)] [] S h n = mx_ex d 182 58 [l0, l1, l2, l3, some (0, x)] [(0, x)] S h n) ∧
  (∀ (d : Nat) (x : Int) (l0 l1 l2 l3 l4 : Option mx_V) (S h : mx_H) (n : Int), mx_ex d 182 58 [l0, l1, l2, l3, l4] [(0, x)] S h n = some (some (0, x), S, h, n)) :=
  ⟨by intros; exact rfl,
   by intros; exact eq_ld rfl rfl,
   by intros; exact eq_ld rfl rfl,
   by intros; exact eq_cv rfl (Nat.le_of_ble_eq_true rfl) rfl rfl rfl (Nat.le_of_ble_eq_true rfl),
   by intros; exact eq_if0 rfl,
   by intros; exact eq_ld rfl rfl,
   by intros; exact eq_ld rfl rfl,
   by intros; exact eq_ld rfl rfl,
   by intros; exact eq_cv rfl (Nat.le_of_ble_eq_true rfl) rfl rfl rfl (Nat.le_of_ble_eq_true rfl),
   by intros; exact eq_if0 rfl,
   by intros; exact eq_ld rfl rfl,
   by intros; exact eq_push rfl,
   by intros; exact eq_push rfl,
   by intros; exact eq_cs rfl (Nat.le_of_ble_eq_true rfl) rfl rfl rfl (Nat.le_of_ble_eq_true rfl),
   by intros; exact eq_if1 rfl,
   by intros; exact eq_push rfl,
   by intros; exact eq_ret rfl,
   by intros; exact eq_ld rfl rfl,
   by intros; exact eq_ld rfl rfl,
   by intros; exact eq_push rfl,
   by intros; exact eq_ld rfl rfl,
   by intros; exact eq_i2 (o := mx_add) rfl,
   by intros; exact eq_cv rfl (Nat.le_of_ble_eq_true rfl) rfl rfl rfl (Nat.le_of_ble_eq_true rfl),
   by intros; exact eq_st rfl (by decide) (Nat.le_of_ble_eq_true rfl) rfl,
   by intros; exact eq_ld rfl rfl,
   by intros; exact eq_gr rfl,
   by intros; exact eq_push rfl,
   by intros; exact eq_push rfl,
   by intros; exact eq_ld rfl rfl,
   by intros; exact eq_i2 (o := mx_mul) rfl,
   by intros; exact eq_i2 (o := mx_add) rfl,
   by intros; exact eq_push rfl,
   by intros; exact eq_i2 (o := mx_add) rfl,
   by intros; exact eq_ld rfl rfl,
   by intros; exact eq_i2 (o := mx_add) rfl,
   by intros; exact eq_ld rfl rfl,
   by intros; exact eq_iast rfl,
   by intros; exact eq_ld rfl rfl,
   by intros; exact eq_ret rfl⟩
theorem rw_X12_move :
  (∀ (d : Nat) (a0 a1 a2 : Int) (S h : mx_H) (n : Int), mx_M d 183 [(2, a0), (0, a1), (0, a2)] S h n = mx_ex d 183 0 [some (2, a0), some (0, a1), some (0, a2), none] [] S h n) ∧
  (∀ (d : Nat) (x : Int) (l1 l2 l3 : Option mx_V) (S h : mx_H) (n : Int), mx_ex d 183 0 [some (2, x), l1, l2, l3] [] S h n = mx_ex d 183 1 [some (2, x), l1, l2, l3] [(2, x)] S h n) ∧
  (∀ (d : Nat) (x : Int) (l0 l2 l3 : Option mx_V) (v0 : mx_V) (S h : mx_H) (n : Int), mx_ex d 183 1 [l0, some (0, x), l2, l3] [v0] S h n = mx_ex d 183 2 [l0, some (0, x), l2, l3] [(0, x), v0] S h n) ∧
  (∀ (d : Nat) (x0 a : Int) (l0 l1 l2 l3 : Option mx_V) (S h : mx_H) (n : Int), mx_ex (d + 1) 183 2 [l0, l1, l2, l3] [(0, x0), (2, a)] S h n = mx_cl (S a (-2) = 13) d 160 [(2, a), (0, x0)] 183 5 [l0, l1, l2, l3] [] S h n) ∧
  (∀ (d : Nat) (a : Int) (l0 l1 l2 l3 : Option mx_V) (S h : mx_H) (n : Int), mx_ex d 183 5 [l0, l1, l2, l3] [(0, a)] S h n = mx_br (a = 0) d 183 15 8 [l0, l1, l2, l3] [] S h n) ∧
  (∀ (d : Nat) (x : Int) (l0 l1 l3 : Option mx_V) (S h : mx_H) (n : Int), mx_ex d 183 8 [l0, l1, some (0, x), l3] [] S h n = mx_ex d 183 9 [l0, l1, some (0, x), l3] [(0, x)] S h n) ∧
  (∀ (d : Nat) (x0 : Int) (l0 l1 l2 l3 : Option mx_V) (S h : mx_H) (n : Int), mx_ex (d + 1) 183 9 [l0, l1, l2, l3] [(0, x0)] S h n = mx_rt (mx_M d 161 [(0, x0)] S h n) (d + 1) 183 12 [l0, l1, l2, l3] []) ∧
  (∀ (d : Nat) (a : Int) (l0 l1 l2 l3 : Option mx_V) (S h : mx_H) (n : Int), mx_ex d 183 12 [l0, l1, l2, l3] [(0, a)] S h n = mx_br (a = 0) d 183 15 17 [l0, l1, l2, l3] [] S h n) ∧
  (∀ (d : Nat) (l0 l1 l2 l3 : Option mx_V) (S h : mx_H) (n : Int), mx_ex d 183 15 [l0, l1, l2, l3] [] S h n = mx_ex d 183 16 [l0, l1, l2, l3] [(0, (-1))] S h n) ∧
  (∀ (d : Nat) (x : Int) (l0 l1 l2 l3 : Option mx_V) (S h : mx_H) (n : Int), mx_ex d 183 16 [l0, l1, l2, l3] [(0, x)] S h n = some (some (0, x), S, h, n)) ∧
  (∀ (d : Nat) (x : Int) (l1 l2 l3 : Option mx_V) (S h : mx_H) (n : Int), mx_ex d 183 17 [some (2, x), l1, l2, l3] [] S h n = mx_ex d 183 18 [some (2, x), l1, l2, l3] [(2, x)] S h n) ∧
  (∀ (d : Nat) (x : Int) (l0 l2 l3 : Option mx_V) (v0 : mx_V) (S h : mx_H) (n : Int), mx_ex d 183 18 [l0, some (0, x), l2, l3] [v0] S h n = mx_ex d 183 19 [l0, some (0, x), l2, l3] [(0, x), v0] S h n) ∧
  (∀ (d : Nat) (l0 l1 l2 l3 : Option mx_V) (v0 v1 : mx_V) (S h : mx_H) (n : Int), mx_ex d 183 19 [l0, l1, l2, l3] [v0, v1] S h n = mx_ex d 183 20 [l0, l1, l2, l3] [(0, 1), v0, v1] S h n) ∧
  (∀ (d : Nat) (x0 x1 a : Int) (l0 l1 l2 l3 : Option mx_V) (S h : mx_H) (n : Int), mx_ex (d + 1) 183 20 [l0, l1, l2, l3] [(0, x0), (0, x1), (2, a)] S h n = mx_cl (S a (-2) = 13) d 163 [(2, a), (0, x1), (0, x0)] 183 23 [l0, l1, l2, l3] [] S h n) ∧
  (∀ (d : Nat) (x : Int) (l0 l1 l2 l3 : Option mx_V) (S h : mx_H) (n : Int), mx_ex d 183 23 [l0, l1, l2, l3] [(0, x)] S h n = mx_ex d 183 24 [l0, l1, mx_nl l2, some (0, x)] [] S h n) ∧
  (∀ (d : Nat) (x : Int) (l1 l2 l3 : Option mx_V) (S h : mx_H) (n : Int), mx_ex d 183 24 [some (2, x), l1, l2, l3] [] S h n = mx_ex d 183 25 [some (2, x), l1, l2, l3] [(2, x)] S h n) ∧
  (∀ (d : Nat) (a : Int) (l0 l1 l2 l3 : Option mx_V) (S h : mx_H) (n : Int), mx_ex d 183 25 [l0, l1, l2, l3] [(2, a)] S h n = mx_gd (13 ≤ S a (-2) ∧ S a (-2) ≤ 13) d 183 28 [l0, l1, l2, l3] [(2, S a 0)] S h n) ∧
  (∀ (d : Nat) (l0 l1 l2 l3 : Option mx_V) (v0 : mx_V) (S h : mx_H) (n : Int), mx_ex d 183 28 [l0, l1, l2, l3] [v0] S h n = mx_ex d 183 30 [l0, l1, l2, l3] [(0, 9), v0] S h n) ∧
  (∀ (d : Nat) (l0 l1 l2 l3 : Option mx_V) (v0 v1 : mx_V) (S h : mx_H) (n : Int), mx_ex d 183 30 [l0, l1, l2, l3] [v0, v1] S h n = mx_ex d 183 32 [l0, l1, l2, l3] [(0, 10), v0, v1] S h n) ∧
  (∀ (d : Nat) (x : Int) (l0 l2 l3 : Option mx_V) (v0 v1 v2 : mx_V) (S h : mx_H) (n : Int), mx_ex d 183 32 [l0, some (0, x), l2, l3] [v0, v1, v2] S h n = mx_ex d 183 33 [l0, some (0, x), l2, l3] [(0, x), v0, v1, v2] S h n) ∧
  (∀ (d : Nat) (b a : Int) (l0 l1 l2 l3 : Option mx_V) (v2 v3 : mx_V) (S h : mx_H) (n : Int), mx_ex d 183 33 [l0, l1, l2, l3] [(0, b), (0, a), v2, v3] S h n = mx_ex d 183 34 [l0, l1, l2, l3] [(0, mx_w (a * b)), v2, v3] S h n) ∧
  (∀ (d : Nat) (b a : Int) (l0 l1 l2 l3 : Option mx_V) (v2 : mx_V) (S h : mx_H) (n : Int), mx_ex d 183 34 [l0, l1, l2, l3] [(0, b), (0, a), v2] S h n = mx_ex d 183 35 [l0, l1, l2, l3] [(0, mx_w (a + b)), v2] S h n) ∧
  (∀ (d : Nat) (l0 l1 l2 l3 : Option mx_V) (v0 v1 : mx_V) (S h : mx_H) (n : Int), mx_ex d 183 35 [l0, l1, l2, l3] [v0, v1] S h n = mx_ex d 183 36 [l0, l1, l2, l3] [(0, 1), v0, v1] S h n) ∧
  (∀ (d : Nat) (b a : Int) (l0 l1 l2 l3 : Option mx_V) (v2 : mx_V) (S h : mx_H) (n : Int), mx_ex d 183 36 [l0, l1, l2, l3] [(0, b), (0, a), v2] S h n = mx_ex d 183 37 [l0, l1, l2, l3] [(0, mx_w (a + b)), v2] S h n) ∧
  (∀ (d : Nat) (x : Int) (l0 l1 l3 : Option mx_V) (v0 v1 : mx_V) (S h : mx_H) (n : Int), mx_ex d 183 37 [l0, l1, some (0, x), l3] [v0, v1] S h n = mx_ex d 183 38 [l0, l1, some (0, x), l3] [(0, x), v0, v1] S h n) ∧
  (∀ (d : Nat) (v i a : Int) (l0 l1 l2 l3 : Option mx_V) (S h : mx_H) (n : Int), mx_ex d 183 38 [l0, l1, l2, l3] [(0, v), (0, i), (2, a)] S h n = mx_gd (S a (-2) = 20 ∧ 0 ≤ i ∧ i < S a (-1)) d 183 39 [l0, l1, l2, l3] [] S (mx_u h a i v) n) ∧
  (∀ (d : Nat) (x : Int) (l0 l1 l2 : Option mx_V) (S h : mx_H) (n : Int), mx_ex d 183 39 [l0, l1, l2, some (0, x)] [] S h n = mx_ex d 183 40 [l0, l1, l2, some (0, x)] [(0, x)] S h n) ∧
  (∀ (d : Nat) (x : Int) (l0 l1 l2 l3 : Option mx_V) (S h : mx_H) (n : Int), mx_ex d 183 40 [l0, l1, l2, l3] [(0, x)] S h n = some (some (0, x), S, h, n)) :=
  ⟨by intros; exact rfl,
   by intros; exact eq_ld rfl rfl,
   by intros; exact eq_ld rfl rfl,
   by intros; exact eq_cv rfl (Nat.le_of_ble_eq_true rfl) rfl rfl rfl (Nat.le_of_ble_eq_true rfl),
   by intros; exact eq_if0 rfl,
   by intros; exact eq_ld rfl rfl,
   by intros; exact eq_cs rfl (Nat.le_of_ble_eq_true rfl) rfl rfl rfl (Nat.le_of_ble_eq_true rfl),
   by intros; exact eq_if1 rfl,
   by intros; exact eq_push rfl,
   by intros; exact eq_ret rfl,
   by intros; exact eq_ld rfl rfl,
   by intros; exact eq_ld rfl rfl,
   by intros; exact eq_push rfl,
   by intros; exact eq_cv rfl (Nat.le_of_ble_eq_true rfl) rfl rfl rfl (Nat.le_of_ble_eq_true rfl),
   by intros; exact eq_st rfl (by decide) (Nat.le_of_ble_eq_true rfl) rfl,
   by intros; exact eq_ld rfl rfl,
   by intros; exact eq_gr rfl,
   by intros; exact eq_push rfl,
   by intros; exact eq_push rfl,
   by intros; exact eq_ld rfl rfl,
   by intros; exact eq_i2 (o := mx_mul) rfl,
   by intros; exact eq_i2 (o := mx_add) rfl,
   by intros; exact eq_push rfl,
   by intros; exact eq_i2 (o := mx_add) rfl,
   by intros; exact eq_ld rfl rfl,
   by intros; exact eq_iast rfl,
   by intros; exact eq_ld rfl rfl,
   by intros; exact eq_ret rfl⟩
theorem rw_X12_baseAt :
  (∀ (d : Nat) (a0 a1 a2 a3 : Int) (S h : mx_H) (n : Int), mx_M d 184 [(2, a0), (0, a1), (0, a2), (0, a3)] S h n = mx_ex d 184 0 [some (2, a0), some (0, a1), some (0, a2), some (0, a3), none] [] S h n) ∧
  (∀ (d : Nat) (x : Int) (l0 l1 l3 l4 : Option mx_V) (S h : mx_H) (n : Int), mx_ex d 184 0 [l0, l1, some (0, x), l3, l4] [] S h n = mx_ex d 184 1 [l0, l1, some (0, x), l3, l4] [(0, x)] S h n) ∧
  (∀ (d : Nat) (x : Int) (l1 l2 l3 l4 : Option mx_V) (v0 : mx_V) (S h : mx_H) (n : Int), mx_ex d 184 1 [some (2, x), l1, l2, l3, l4] [v0] S h n = mx_ex d 184 2 [some (2, x), l1, l2, l3, l4] [(2, x), v0] S h n) ∧
  (∀ (d : Nat) (x : Int) (l0 l2 l3 l4 : Option mx_V) (v0 v1 : mx_V) (S h : mx_H) (n : Int), mx_ex d 184 2 [l0, some (0, x), l2, l3, l4] [v0, v1] S h n = mx_ex d 184 3 [l0, some (0, x), l2, l3, l4] [(0, x), v0, v1] S h n) ∧
  (∀ (d : Nat) (l0 l1 l2 l3 l4 : Option mx_V) (v0 v1 v2 : mx_V) (S h : mx_H) (n : Int), mx_ex d 184 3 [l0, l1, l2, l3, l4] [v0, v1, v2] S h n = mx_ex d 184 4 [l0, l1, l2, l3, l4] [(0, 2), v0, v1, v2] S h n) ∧
  (∀ (d : Nat) (x0 x1 a : Int) (l0 l1 l2 l3 l4 : Option mx_V) (v3 : mx_V) (S h : mx_H) (n : Int), mx_ex (d + 1) 184 4 [l0, l1, l2, l3, l4] [(0, x0), (0, x1), (2, a), v3] S h n = mx_cl (S a (-2) = 13) d 163 [(2, a), (0, x1), (0, x0)] 184 7 [l0, l1, l2, l3, l4] [v3] S h n) ∧
  (∀ (d : Nat) (b a : Int) (l0 l1 l2 l3 l4 : Option mx_V) (S h : mx_H) (n : Int), mx_ex d 184 7 [l0, l1, l2, l3, l4] [(0, b), (0, a)] S h n = mx_br (a < b) d 184 14 10 [l0, l1, l2, l3, l4] [] S h n) ∧
  (∀ (d : Nat) (l0 l1 l2 l3 l4 : Option mx_V) (S h : mx_H) (n : Int), mx_ex d 184 10 [l0, l1, l2, l3, l4] [] S h n = mx_ex d 184 11 [l0, l1, l2, l3, l4] [(0, 1)] S h n) ∧
  (∀ (d : Nat) (l0 l1 l2 l3 l4 : Option mx_V) (v0 : mx_V) (S h : mx_H) (n : Int), mx_ex d 184 11 [l0, l1, l2, l3, l4] [v0] S h n = mx_ex d 184 15 [l0, l1, l2, l3, l4] [v0] S h n) ∧
  (∀ (d : Nat) (l0 l1 l2 l3 l4 : Option mx_V) (S h : mx_H) (n : Int), mx_ex d 184 14 [l0, l1, l2, l3, l4] [] S h n = mx_ex d 184 15 [l0, l1, l2, l3, l4] [(0, 0)] S h n) ∧
  (∀ (d : Nat) (x : Int) (l0 l1 l2 l3 l4 : Option mx_V) (S h : mx_H) (n : Int), mx_ex d 184 15 [l0, l1, l2, l3, l4] [(0, x)] S h n = mx_ex d 184 17 [l0, l1, l2, mx_nl l3, some (0, x)] [] S h n) ∧
  (∀ (d : Nat) (x : Int) (l1 l2 l3 l4 : Option mx_V) (S h : mx_H) (n : Int), mx_ex d 184 17 [some (2, x), l1, l2, l3, l4] [] S h n = mx_ex d 184 18 [some (2, x), l1, l2, l3, l4] [(2, x)] S h n) ∧
  (∀ (d : Nat) (x : Int) (l0 l2 l3 l4 : Option mx_V) (v0 : mx_V) (S h : mx_H) (n : Int), mx_ex d 184 18 [l0, some (0, x), l2, l3, l4] [v0] S h n = mx_ex d 184 19 [l0, some (0, x), l2, l3, l4] [(0, x), v0] S h n) ∧
  (∀ (d : Nat) (l0 l1 l2 l3 l4 : Option mx_V) (v0 v1 : mx_V) (S h : mx_H) (n : Int), mx_ex d 184 19 [l0, l1, l2, l3, l4] [v0, v1] S h n = mx_ex d 184 20 [l0, l1, l2, l3, l4] [(0, 0), v0, v1] S h n) ∧
  (∀ (d : Nat) (x0 x1 a : Int) (l0 l1 l2 l3 l4 : Option mx_V) (S h : mx_H) (n : Int), mx_ex (d + 1) 184 20 [l0, l1, l2, l3, l4] [(0, x0), (0, x1), (2, a)] S h n = mx_cl (S a (-2) = 13) d 163 [(2, a), (0, x1), (0, x0)] 184 23 [l0, l1, l2, l3, l4] [] S h n) ∧
  (∀ (d : Nat) (l0 l1 l2 l3 l4 : Option mx_V) (v0 : mx_V) (S h : mx_H) (n : Int), mx_ex d 184 23 [l0, l1, l2, l3, l4] [v0] S h n = mx_ex d 184 24 [l0, l1, l2, l3, l4] [(0, 2), v0] S h n) ∧
  (∀ (d : Nat) (b a : Int) (l0 l1 l2 l3 l4 : Option mx_V) (S h : mx_H) (n : Int), mx_ex d 184 24 [l0, l1, l2, l3, l4] [(0, b), (0, a)] S h n = mx_br (a = b) d 184 27 38 [l0, l1, l2, l3, l4] [] S h n) ∧
  (∀ (d : Nat) (x : Int) (l0 l1 l2 l3 : Option mx_V) (S h : mx_H) (n : Int), mx_ex d 184 27 [l0, l1, l2, l3, some (0, x)] [] S h n = mx_ex d 184 29 [l0, l1, l2, l3, some (0, x)] [(0, x)] S h n) ∧
  (∀ (d : Nat) (a : Int) (l0 l1 l2 l3 l4 : Option mx_V) (S h : mx_H) (n : Int), mx_ex d 184 29 [l0, l1, l2, l3, l4] [(0, a)] S h n = mx_br (a = 0) d 184 38 32 [l0, l1, l2, l3, l4] [] S h n) ∧
  (∀ (d : Nat) (x : Int) (l0 l1 l2 l4 : Option mx_V) (S h : mx_H) (n : Int), mx_ex d 184 32 [l0, l1, l2, some (0, x), l4] [] S h n = mx_ex d 184 33 [l0, l1, l2, some (0, x), l4] [(0, x)] S h n) ∧
  (∀ (d : Nat) (l0 l1 l2 l3 l4 : Option mx_V) (v0 : mx_V) (S h : mx_H) (n : Int), mx_ex d 184 33 [l0, l1, l2, l3, l4] [v0] S h n = mx_ex d 184 34 [l0, l1, l2, l3, l4] [(0, 1), v0] S h n) ∧
  (∀ (d : Nat) (b a : Int) (l0 l1 l2 l3 l4 : Option mx_V) (S h : mx_H) (n : Int), mx_ex d 184 34 [l0, l1, l2, l3, l4] [(0, b), (0, a)] S h n = mx_ex d 184 35 [l0, l1, l2, l3, l4] [(0, mx_w (a + b))] S h n) ∧
  (∀ (d : Nat) (l0 l1 l2 l3 l4 : Option mx_V) (v0 : mx_V) (S h : mx_H) (n : Int), mx_ex d 184 35 [l0, l1, l2, l3, l4] [v0] S h n = mx_ex d 184 60 [l0, l1, l2, l3, l4] [v0] S h n) ∧
  (∀ (d : Nat) (x : Int) (l1 l2 l3 l4 : Option mx_V) (S h : mx_H) (n : Int), mx_ex d 184 38 [some (2, x), l1, l2, l3, l4] [] S h n = mx_ex d 184 39 [some (2, x), l1, l2, l3, l4] [(2, x)] S h n) ∧
  (∀ (d : Nat) (x : Int) (l0 l2 l3 l4 : Option mx_V) (v0 : mx_V) (S h : mx_H) (n : Int), mx_ex d 184 39 [l0, some (0, x), l2, l3, l4] [v0] S h n = mx_ex d 184 40 [l0, some (0, x), l2, l3, l4] [(0, x), v0] S h n) ∧
  (∀ (d : Nat) (l0 l1 l2 l3 l4 : Option mx_V) (v0 v1 : mx_V) (S h : mx_H) (n : Int), mx_ex d 184 40 [l0, l1, l2, l3, l4] [v0, v1] S h n = mx_ex d 184 41 [l0, l1, l2, l3, l4] [(0, 0), v0, v1] S h n) ∧
  (∀ (d : Nat) (x0 x1 a : Int) (l0 l1 l2 l3 l4 : Option mx_V) (S h : mx_H) (n : Int), mx_ex (d + 1) 184 41 [l0, l1, l2, l3, l4] [(0, x0), (0, x1), (2, a)] S h n = mx_cl (S a (-2) = 13) d 163 [(2, a), (0, x1), (0, x0)] 184 44 [l0, l1, l2, l3, l4] [] S h n) ∧
  (∀ (d : Nat) (l0 l1 l2 l3 l4 : Option mx_V) (v0 : mx_V) (S h : mx_H) (n : Int), mx_ex d 184 44 [l0, l1, l2, l3, l4] [v0] S h n = mx_ex d 184 45 [l0, l1, l2, l3, l4] [(0, 3), v0] S h n) ∧
  (∀ (d : Nat) (b a : Int) (l0 l1 l2 l3 l4 : Option mx_V) (S h : mx_H) (n : Int), mx_ex d 184 45 [l0, l1, l2, l3, l4] [(0, b), (0, a)] S h n = mx_br (a = b) d 184 48 59 [l0, l1, l2, l3, l4] [] S h n) ∧
  (∀ (d : Nat) (x : Int) (l0 l1 l2 l3 : Option mx_V) (S h : mx_H) (n : Int), mx_ex d 184 48 [l0, l1, l2, l3, some (0, x)] [] S h n = mx_ex d 184 50 [l0, l1, l2, l3, some (0, x)] [(0, x)] S h n) ∧
  (∀ (d : Nat) (a : Int) (l0 l1 l2 l3 l4 : Option mx_V) (S h : mx_H) (n : Int), mx_ex d 184 50 [l0, l1, l2, l3, l4] [(0, a)] S h n = mx_br (a = 0) d 184 59 53 [l0, l1, l2, l3, l4] [] S h n) ∧
  (∀ (d : Nat) (x : Int) (l0 l1 l2 l4 : Option mx_V) (S h : mx_H) (n : Int), mx_ex d 184 53 [l0, l1, l2, some (0, x), l4] [] S h n = mx_ex d 184 54 [l0, l1, l2, some (0, x), l4] [(0, x)] S h n) ∧
  (∀ (d : Nat) (l0 l1 l2 l3 l4 : Option mx_V) (v0 : mx_V) (S h : mx_H) (n : Int), mx_ex d 184 54 [l0, l1, l2, l3, l4] [v0] S h n = mx_ex d 184 55 [l0, l1, l2, l3, l4] [(0, 1), v0] S h n) ∧
  (∀ (d : Nat) (b a : Int) (l0 l1 l2 l3 l4 : Option mx_V) (S h : mx_H) (n : Int), mx_ex d 184 55 [l0, l1, l2, l3, l4] [(0, b), (0, a)] S h n = mx_ex d 184 56 [l0, l1, l2, l3, l4] [(0, mx_w (a - b))] S h n) ∧
  (∀ (d : Nat) (l0 l1 l2 l3 l4 : Option mx_V) (v0 : mx_V) (S h : mx_H) (n : Int), mx_ex d 184 56 [l0, l1, l2, l3, l4] [v0] S h n = mx_ex d 184 60 [l0, l1, l2, l3, l4] [v0] S h n) ∧
  (∀ (d : Nat) (x : Int) (l0 l1 l2 l4 : Option mx_V) (S h : mx_H) (n : Int), mx_ex d 184 59 [l0, l1, l2, some (0, x), l4] [] S h n = mx_ex d 184 60 [l0, l1, l2, some (0, x), l4] [(0, x)] S h n) ∧
  (∀ (d : Nat) (x : Int) (l0 l1 l2 l3 l4 : Option mx_V) (S h : mx_H) (n : Int), mx_ex d 184 60 [l0, l1, l2, l3, l4] [(0, x)] S h n = some (some (0, x), S, h, n)) :=
  ⟨by intros; exact rfl,
   by intros; exact eq_ld rfl rfl,
   by intros; exact eq_ld rfl rfl,
   by intros; exact eq_ld rfl rfl,
   by intros; exact eq_push rfl,
   by intros; exact eq_cv rfl (Nat.le_of_ble_eq_true rfl) rfl rfl rfl (Nat.le_of_ble_eq_true rfl),
   by intros; exact eq_ic2 rfl,
   by intros; exact eq_push rfl,
   by intros; exact eq_go rfl,
   by intros; exact eq_push rfl,
   by intros; exact eq_st rfl (by decide) (Nat.le_of_ble_eq_true rfl) rfl,
   by intros; exact eq_ld rfl rfl,
   by intros; exact eq_ld rfl rfl,
   by intros; exact eq_push rfl,
   by intros; exact eq_cv rfl (Nat.le_of_ble_eq_true rfl) rfl rfl rfl (Nat.le_of_ble_eq_true rfl),
   by intros; exact eq_push rfl,
   by intros; exact eq_ic1 rfl,
   by intros; exact eq_ld rfl rfl,
   by intros; exact eq_if0 rfl,
   by intros; exact eq_ld rfl rfl,
   by intros; exact eq_push rfl,
   by intros; exact eq_i2 (o := mx_add) rfl,
   by intros; exact eq_go rfl,
   by intros; exact eq_ld rfl rfl,
   by intros; exact eq_ld rfl rfl,
   by intros; exact eq_push rfl,
   by intros; exact eq_cv rfl (Nat.le_of_ble_eq_true rfl) rfl rfl rfl (Nat.le_of_ble_eq_true rfl),
   by intros; exact eq_push rfl,
   by intros; exact eq_ic1 rfl,
   by intros; exact eq_ld rfl rfl,
   by intros; exact eq_if0 rfl,
   by intros; exact eq_ld rfl rfl,
   by intros; exact eq_push rfl,
   by intros; exact eq_i2 (o := mx_sub) rfl,
   by intros; exact eq_go rfl,
   by intros; exact eq_ld rfl rfl,
   by intros; exact eq_ret rfl⟩
theorem rh_X12_worthBy_52 : ∀ (d : Nat) (x : Int) (l0 l1 l2 l3 l4 l5 l7 : Option mx_V) (S h : mx_H) (n : Int), mx_ex d 185 52 [l0, l1, l2, l3, l4, l5, some (0, x), l7] [] S h n = mx_ex d 185 54 [l0, l1, l2, l3, l4, l5, some (0, x), l7] [(0, x)] S h n := by intros; exact eq_ld rfl rfl
theorem rw_X12_worthBy :
  (∀ (d : Nat) (a0 a1 a2 : Int) (S h : mx_H) (n : Int), mx_M d 185 [(2, a0), (0, a1), (0, a2)] S h n = mx_ex d 185 0 [some (2, a0), some (0, a1), some (0, a2), none, none, none, none, none] [] S h n) ∧
  (∀ (d : Nat) (x : Int) (l1 l2 l3 l4 l5 l6 l7 : Option mx_V) (S h : mx_H) (n : Int), mx_ex d 185 0 [some (2, x), l1, l2, l3, l4, l5, l6, l7] [] S h n = mx_ex d 185 1 [some (2, x), l1, l2, l3, l4, l5, l6, l7] [(2, x)] S h n) ∧
  (∀ (d : Nat) (x : Int) (l0 l2 l3 l4 l5 l6 l7 : Option mx_V) (v0 : mx_V) (S h : mx_H) (n : Int), mx_ex d 185 1 [l0, some (0, x), l2, l3, l4, l5, l6, l7] [v0] S h n = mx_ex d 185 2 [l0, some (0, x), l2, l3, l4, l5, l6, l7] [(0, x), v0] S h n) ∧
  (∀ (d : Nat) (l0 l1 l2 l3 l4 l5 l6 l7 : Option mx_V) (v0 v1 : mx_V) (S h : mx_H) (n : Int), mx_ex d 185 2 [l0, l1, l2, l3, l4, l5, l6, l7] [v0, v1] S h n = mx_ex d 185 3 [l0, l1, l2, l3, l4, l5, l6, l7] [(0, 3), v0, v1] S h n) ∧
  (∀ (d : Nat) (x0 x1 a : Int) (l0 l1 l2 l3 l4 l5 l6 l7 : Option mx_V) (S h : mx_H) (n : Int), mx_ex (d + 1) 185 3 [l0, l1, l2, l3, l4, l5, l6, l7] [(0, x0), (0, x1), (2, a)] S h n = mx_cl (S a (-2) = 13) d 163 [(2, a), (0, x1), (0, x0)] 185 6 [l0, l1, l2, l3, l4, l5, l6, l7] [] S h n) ∧
  (∀ (d : Nat) (x : Int) (l0 l1 l2 l3 l4 l5 l6 l7 : Option mx_V) (S h : mx_H) (n : Int), mx_ex d 185 6 [l0, l1, l2, l3, l4, l5, l6, l7] [(0, x)] S h n = mx_ex d 185 7 [l0, l1, mx_nl l2, some (0, x), l4, l5, l6, l7] [] S h n) ∧
  (∀ (d : Nat) (x : Int) (l1 l2 l3 l4 l5 l6 l7 : Option mx_V) (S h : mx_H) (n : Int), mx_ex d 185 7 [some (2, x), l1, l2, l3, l4, l5, l6, l7] [] S h n = mx_ex d 185 8 [some (2, x), l1, l2, l3, l4, l5, l6, l7] [(2, x)] S h n) ∧
  (∀ (d : Nat) (x : Int) (l0 l2 l3 l4 l5 l6 l7 : Option mx_V) (v0 : mx_V) (S h : mx_H) (n : Int), mx_ex d 185 8 [l0, some (0, x), l2, l3, l4, l5, l6, l7] [v0] S h n = mx_ex d 185 9 [l0, some (0, x), l2, l3, l4, l5, l6, l7] [(0, x), v0] S h n) ∧
  (∀ (d : Nat) (l0 l1 l2 l3 l4 l5 l6 l7 : Option mx_V) (v0 v1 : mx_V) (S h : mx_H) (n : Int), mx_ex d 185 9 [l0, l1, l2, l3, l4, l5, l6, l7] [v0, v1] S h n = mx_ex d 185 10 [l0, l1, l2, l3, l4, l5, l6, l7] [(0, 0), v0, v1] S h n) ∧
  (∀ (d : Nat) (x0 x1 a : Int) (l0 l1 l2 l3 l4 l5 l6 l7 : Option mx_V) (S h : mx_H) (n : Int), mx_ex (d + 1) 185 10 [l0, l1, l2, l3, l4, l5, l6, l7] [(0, x0), (0, x1), (2, a)] S h n = mx_cl (S a (-2) = 13) d 163 [(2, a), (0, x1), (0, x0)] 185 13 [l0, l1, l2, l3, l4, l5, l6, l7] [] S h n) ∧
  (∀ (d : Nat) (l0 l1 l2 l3 l4 l5 l6 l7 : Option mx_V) (v0 : mx_V) (S h : mx_H) (n : Int), mx_ex d 185 13 [l0, l1, l2, l3, l4, l5, l6, l7] [v0] S h n = mx_ex d 185 14 [l0, l1, l2, l3, l4, l5, l6, l7] [(0, 1), v0] S h n) ∧
  (∀ (d : Nat) (b a : Int) (l0 l1 l2 l3 l4 l5 l6 l7 : Option mx_V) (S h : mx_H) (n : Int), mx_ex d 185 14 [l0, l1, l2, l3, l4, l5, l6, l7] [(0, b), (0, a)] S h n = mx_br (a = b) d 185 27 17 [l0, l1, l2, l3, l4, l5, l6, l7] [] S h n) ∧
  (∀ (d : Nat) (x : Int) (l1 l2 l3 l4 l5 l6 l7 : Option mx_V) (S h : mx_H) (n : Int), mx_ex d 185 17 [some (2, x), l1, l2, l3, l4, l5, l6, l7] [] S h n = mx_ex d 185 18 [some (2, x), l1, l2, l3, l4, l5, l6, l7] [(2, x)] S h n) ∧
  (∀ (d : Nat) (x : Int) (l0 l2 l3 l4 l5 l6 l7 : Option mx_V) (v0 : mx_V) (S h : mx_H) (n : Int), mx_ex d 185 18 [l0, some (0, x), l2, l3, l4, l5, l6, l7] [v0] S h n = mx_ex d 185 19 [l0, some (0, x), l2, l3, l4, l5, l6, l7] [(0, x), v0] S h n) ∧
  (∀ (d : Nat) (l0 l1 l2 l3 l4 l5 l6 l7 : Option mx_V) (v0 v1 : mx_V) (S h : mx_H) (n : Int), mx_ex d 185 19 [l0, l1, l2, l3, l4, l5, l6, l7] [v0, v1] S h n = mx_ex d 185 20 [l0, l1, l2, l3, l4, l5, l6, l7] [(0, 0), v0, v1] S h n) ∧
  (∀ (d : Nat) (x0 x1 a : Int) (l0 l1 l2 l3 l4 l5 l6 l7 : Option mx_V) (S h : mx_H) (n : Int), mx_ex (d + 1) 185 20 [l0, l1, l2, l3, l4, l5, l6, l7] [(0, x0), (0, x1), (2, a)] S h n = mx_cl (S a (-2) = 13) d 163 [(2, a), (0, x1), (0, x0)] 185 23 [l0, l1, l2, l3, l4, l5, l6, l7] [] S h n) ∧
  (∀ (d : Nat) (l0 l1 l2 l3 l4 l5 l6 l7 : Option mx_V) (v0 : mx_V) (S h : mx_H) (n : Int), mx_ex d 185 23 [l0, l1, l2, l3, l4, l5, l6, l7] [v0] S h n = mx_ex d 185 24 [l0, l1, l2, l3, l4, l5, l6, l7] [(0, 5), v0] S h n) ∧
  (∀ (d : Nat) (b a : Int) (l0 l1 l2 l3 l4 l5 l6 l7 : Option mx_V) (S h : mx_H) (n : Int), mx_ex d 185 24 [l0, l1, l2, l3, l4, l5, l6, l7] [(0, b), (0, a)] S h n = mx_br (a = b) d 185 27 46 [l0, l1, l2, l3, l4, l5, l6, l7] [] S h n) ∧
  (∀ (d : Nat) (x : Int) (l1 l2 l3 l4 l5 l6 l7 : Option mx_V) (S h : mx_H) (n : Int), mx_ex d 185 27 [some (2, x), l1, l2, l3, l4, l5, l6, l7] [] S h n = mx_ex d 185 28 [some (2, x), l1, l2, l3, l4, l5, l6, l7] [(2, x)] S h n) ∧
  (∀ (d : Nat) (x : Int) (l0 l2 l3 l4 l5 l6 l7 : Option mx_V) (v0 : mx_V) (S h : mx_H) (n : Int), mx_ex d 185 28 [l0, some (0, x), l2, l3, l4, l5, l6, l7] [v0] S h n = mx_ex d 185 29 [l0, some (0, x), l2, l3, l4, l5, l6, l7] [(0, x), v0] S h n) ∧
  (∀ (d : Nat) (l0 l1 l2 l3 l4 l5 l6 l7 : Option mx_V) (v0 v1 : mx_V) (S h : mx_H) (n : Int), mx_ex d 185 29 [l0, l1, l2, l3, l4, l5, l6, l7] [v0, v1] S h n = mx_ex d 185 30 [l0, l1, l2, l3, l4, l5, l6, l7] [(0, 0), v0, v1] S h n) ∧
  (∀ (d : Nat) (x0 x1 a : Int) (l0 l1 l2 l3 l4 l5 l6 l7 : Option mx_V) (S h : mx_H) (n : Int), mx_ex (d + 1) 185 30 [l0, l1, l2, l3, l4, l5, l6, l7] [(0, x0), (0, x1), (2, a)] S h n = mx_cl (S a (-2) = 13) d 163 [(2, a), (0, x1), (0, x0)] 185 33 [l0, l1, l2, l3, l4, l5, l6, l7] [] S h n) ∧
  (∀ (d : Nat) (l0 l1 l2 l3 l4 l5 l6 l7 : Option mx_V) (v0 : mx_V) (S h : mx_H) (n : Int), mx_ex d 185 33 [l0, l1, l2, l3, l4, l5, l6, l7] [v0] S h n = mx_ex d 185 34 [l0, l1, l2, l3, l4, l5, l6, l7] [(0, 5), v0] S h n) ∧
  (∀ (d : Nat) (b a : Int) (l0 l1 l2 l3 l4 l5 l6 l7 : Option mx_V) (S h : mx_H) (n : Int), mx_ex d 185 34 [l0, l1, l2, l3, l4, l5, l6, l7] [(0, b), (0, a)] S h n = mx_br (a = b) d 185 37 43 [l0, l1, l2, l3, l4, l5, l6, l7] [] S h n) ∧
  (∀ (d : Nat) (x : Int) (l0 l1 l2 l4 l5 l6 l7 : Option mx_V) (S h : mx_H) (n : Int), mx_ex d 185 37 [l0, l1, l2, some (0, x), l4, l5, l6, l7] [] S h n = mx_ex d 185 38 [l0, l1, l2, some (0, x), l4, l5, l6, l7] [(0, x)] S h n) ∧
  (∀ (d : Nat) (a : Int) (l0 l1 l2 l3 l4 l5 l6 l7 : Option mx_V) (S h : mx_H) (n : Int), mx_ex d 185 38 [l0, l1, l2, l3, l4, l5, l6, l7] [(0, a)] S h n = mx_ex d 185 39 [l0, l1, l2, l3, l4, l5, l6, l7] [(0, mx_w (-a))] S h n) ∧
  (∀ (d : Nat) (a : Int) (l0 l1 l2 l3 l4 l5 l6 l7 : Option mx_V) (S h : mx_H) (n : Int), mx_ex d 185 39 [l0, l1, l2, l3, l4, l5, l6, l7] [(0, a)] S h n = mx_ex d 185 40 [l0, l1, l2, l3, l4, l5, l6, l7] [(1, a)] S h n) ∧
  (∀ (d : Nat) (l0 l1 l2 l3 l4 l5 l6 l7 : Option mx_V) (v0 : mx_V) (S h : mx_H) (n : Int), mx_ex d 185 40 [l0, l1, l2, l3, l4, l5, l6, l7] [v0] S h n = mx_ex d 185 45 [l0, l1, l2, l3, l4, l5, l6, l7] [v0] S h n) ∧
  (∀ (d : Nat) (x : Int) (l0 l1 l2 l4 l5 l6 l7 : Option mx_V) (S h : mx_H) (n : Int), mx_ex d 185 43 [l0, l1, l2, some (0, x), l4, l5, l6, l7] [] S h n = mx_ex d 185 44 [l0, l1, l2, some (0, x), l4, l5, l6, l7] [(0, x)] S h n) ∧
  (∀ (d : Nat) (a : Int) (l0 l1 l2 l3 l4 l5 l6 l7 : Option mx_V) (S h : mx_H) (n : Int), mx_ex d 185 44 [l0, l1, l2, l3, l4, l5, l6, l7] [(0, a)] S h n = mx_ex d 185 45 [l0, l1, l2, l3, l4, l5, l6, l7] [(1, a)] S h n) ∧
  (∀ (d : Nat) (x : Int) (l0 l1 l2 l3 l4 l5 l6 l7 : Option mx_V) (S h : mx_H) (n : Int), mx_ex d 185 45 [l0, l1, l2, l3, l4, l5, l6, l7] [(1, x)] S h n = some (some (1, x), S, h, n)) ∧
  (∀ (d : Nat) (l0 l1 l2 l3 l4 l5 l6 l7 : Option mx_V) (S h : mx_H) (n : Int), mx_ex d 185 46 [l0, l1, l2, l3, l4, l5, l6, l7] [] S h n = mx_ex d 185 47 [l0, l1, l2, l3, l4, l5, l6, l7] [(1, 0)] S h n) ∧
  (∀ (d : Nat) (x : Int) (l0 l1 l2 l3 l4 l5 l6 l7 : Option mx_V) (S h : mx_H) (n : Int), mx_ex d 185 47 [l0, l1, l2, l3, l4, l5, l6, l7] [(1, x)] S h n = mx_ex d 185 49 [l0, l1, l2, mx_nl l3, some (1, x), none, l6, l7] [] S h n) ∧
  (∀ (d : Nat) (l0 l1 l2 l3 l4 l5 l6 l7 : Option mx_V) (S h : mx_H) (n : Int), mx_ex d 185 49 [l0, l1, l2, l3, l4, l5, l6, l7] [] S h n = mx_ex d 185 50 [l0, l1, l2, l3, l4, l5, l6, l7] [(0, 0)] S h n) ∧
  (∀ (d : Nat) (x : Int) (l0 l1 l2 l3 l4 l5 l6 l7 : Option mx_V) (S h : mx_H) (n : Int), mx_ex d 185 50 [l0, l1, l2, l3, l4, l5, l6, l7] [(0, x)] S h n = mx_ex d 185 52 [l0, l1, l2, l3, l4, mx_nl l5, some (0, x), l7] [] S h n) ∧
  (∀ (d : Nat) (x : Int) (l0 l1 l2 l4 l5 l6 l7 : Option mx_V) (v0 : mx_V) (S h : mx_H) (n : Int), mx_ex d 185 54 [l0, l1, l2, some (0, x), l4, l5, l6, l7] [v0] S h n = mx_ex d 185 55 [l0, l1, l2, some (0, x), l4, l5, l6, l7] [(0, x), v0] S h n) ∧
  (∀ (d : Nat) (b a : Int) (l0 l1 l2 l3 l4 l5 l6 l7 : Option mx_V) (S h : mx_H) (n : Int), mx_ex d 185 55 [l0, l1, l2, l3, l4, l5, l6, l7] [(0, b), (0, a)] S h n = mx_br (a < b) d 185 58 112 [l0, l1, l2, l3, l4, l5, l6, l7] [] S h n) ∧
  (∀ (d : Nat) (x : Int) (l1 l2 l3 l4 l5 l6 l7 : Option mx_V) (S h : mx_H) (n : Int), mx_ex d 185 58 [some (2, x), l1, l2, l3, l4, l5, l6, l7] [] S h n = mx_ex d 185 59 [some (2, x), l1, l2, l3, l4, l5, l6, l7] [(2, x)] S h n) ∧
  (∀ (d : Nat) (x : Int) (l0 l2 l3 l4 l5 l6 l7 : Option mx_V) (v0 : mx_V) (S h : mx_H) (n : Int), mx_ex d 185 59 [l0, some (0, x), l2, l3, l4, l5, l6, l7] [v0] S h n = mx_ex d 185 60 [l0, some (0, x), l2, l3, l4, l5, l6, l7] [(0, x), v0] S h n) ∧
  (∀ (d : Nat) (l0 l1 l2 l3 l4 l5 l6 l7 : Option mx_V) (v0 v1 : mx_V) (S h : mx_H) (n : Int), mx_ex d 185 60 [l0, l1, l2, l3, l4, l5, l6, l7] [v0, v1] S h n = mx_ex d 185 61 [l0, l1, l2, l3, l4, l5, l6, l7] [(0, 0), v0, v1] S h n) ∧
  (∀ (d : Nat) (x0 x1 a : Int) (l0 l1 l2 l3 l4 l5 l6 l7 : Option mx_V) (S h : mx_H) (n : Int), mx_ex (d + 1) 185 61 [l0, l1, l2, l3, l4, l5, l6, l7] [(0, x0), (0, x1), (2, a)] S h n = mx_cl (S a (-2) = 13) d 163 [(2, a), (0, x1), (0, x0)] 185 64 [l0, l1, l2, l3, l4, l5, l6, l7] [] S h n) ∧
  (∀ (d : Nat) (l0 l1 l2 l3 l4 l5 l6 l7 : Option mx_V) (v0 : mx_V) (S h : mx_H) (n : Int), mx_ex d 185 64 [l0, l1, l2, l3, l4, l5, l6, l7] [v0] S h n = mx_ex d 185 65 [l0, l1, l2, l3, l4, l5, l6, l7] [(0, 4), v0] S h n) ∧
  (∀ (d : Nat) (b a : Int) (l0 l1 l2 l3 l4 l5 l6 l7 : Option mx_V) (S h : mx_H) (n : Int), mx_ex d 185 65 [l0, l1, l2, l3, l4, l5, l6, l7] [(0, b), (0, a)] S h n = mx_br (a = b) d 185 68 77 [l0, l1, l2, l3, l4, l5, l6, l7] [] S h n) ∧
  (∀ (d : Nat) (x : Int) (l0 l1 l2 l4 l5 l6 l7 : Option mx_V) (S h : mx_H) (n : Int), mx_ex d 185 68 [l0, l1, l2, some (0, x), l4, l5, l6, l7] [] S h n = mx_ex d 185 69 [l0, l1, l2, some (0, x), l4, l5, l6, l7] [(0, x)] S h n) ∧
  (∀ (d : Nat) (l0 l1 l2 l3 l4 l5 l6 l7 : Option mx_V) (v0 : mx_V) (S h : mx_H) (n : Int), mx_ex d 185 69 [l0, l1, l2, l3, l4, l5, l6, l7] [v0] S h n = mx_ex d 185 70 [l0, l1, l2, l3, l4, l5, l6, l7] [(0, 1), v0] S h n) ∧
  (∀ (d : Nat) (b a : Int) (l0 l1 l2 l3 l4 l5 l6 l7 : Option mx_V) (S h : mx_H) (n : Int), mx_ex d 185 70 [l0, l1, l2, l3, l4, l5, l6, l7] [(0, b), (0, a)] S h n = mx_ex d 185 71 [l0, l1, l2, l3, l4, l5, l6, l7] [(0, mx_w (a - b))] S h n) ∧
  (∀ (d : Nat) (x : Int) (l0 l1 l2 l3 l4 l5 l7 : Option mx_V) (v0 : mx_V) (S h : mx_H) (n : Int), mx_ex d 185 71 [l0, l1, l2, l3, l4, l5, some (0, x), l7] [v0] S h n = mx_ex d 185 73 [l0, l1, l2, l3, l4, l5, some (0, x), l7] [(0, x), v0] S h n) ∧
  (∀ (d : Nat) (b a : Int) (l0 l1 l2 l3 l4 l5 l6 l7 : Option mx_V) (S h : mx_H) (n : Int), mx_ex d 185 73 [l0, l1, l2, l3, l4, l5, l6, l7] [(0, b), (0, a)] S h n = mx_ex d 185 74 [l0, l1, l2, l3, l4, l5, l6, l7] [(0, mx_w (a - b))] S h n) ∧
  (∀ (d : Nat) (l0 l1 l2 l3 l4 l5 l6 l7 : Option mx_V) (v0 : mx_V) (S h : mx_H) (n : Int), mx_ex d 185 74 [l0, l1, l2, l3, l4, l5, l6, l7] [v0] S h n = mx_ex d 185 79 [l0, l1, l2, l3, l4, l5, l6, l7] [v0] S h n) ∧
  (∀ (d : Nat) (x : Int) (l0 l1 l2 l3 l4 l5 l7 : Option mx_V) (S h : mx_H) (n : Int), mx_ex d 185 77 [l0, l1, l2, l3, l4, l5, some (0, x), l7] [] S h n = mx_ex d 185 79 [l0, l1, l2, l3, l4, l5, some (0, x), l7] [(0, x)] S h n) ∧
  (∀ (d : Nat) (x : Int) (l0 l1 l2 l3 l4 l5 l6 l7 : Option mx_V) (S h : mx_H) (n : Int), mx_ex d 185 79 [l0, l1, l2, l3, l4, l5, l6, l7] [(0, x)] S h n = mx_ex d 185 81 [l0, l1, l2, l3, l4, l5, mx_nl l6, some (0, x)] [] S h n) ∧
  (∀ (d : Nat) (x : Int) (l0 l1 l2 l3 l5 l6 l7 : Option mx_V) (S h : mx_H) (n : Int), mx_ex d 185 81 [l0, l1, l2, l3, some (1, x), l5, l6, l7] [] S h n = mx_ex d 185 83 [l0, l1, l2, l3, some (1, x), l5, l6, l7] [(1, x)] S h n) ∧
  (∀ (d : Nat) (x : Int) (l1 l2 l3 l4 l5 l6 l7 : Option mx_V) (v0 : mx_V) (S h : mx_H) (n : Int), mx_ex d 185 83 [some (2, x), l1, l2, l3, l4, l5, l6, l7] [v0] S h n = mx_ex d 185 84 [some (2, x), l1, l2, l3, l4, l5, l6, l7] [(2, x), v0] S h n) ∧
  (∀ (d : Nat) (x : Int) (l0 l2 l3 l4 l5 l6 l7 : Option mx_V) (v0 v1 : mx_V) (S h : mx_H) (n : Int), mx_ex d 185 84 [l0, some (0, x), l2, l3, l4, l5, l6, l7] [v0, v1] S h n = mx_ex d 185 85 [l0, some (0, x), l2, l3, l4, l5, l6, l7] [(0, x), v0, v1] S h n) ∧
  (∀ (d : Nat) (x : Int) (l0 l1 l2 l3 l4 l5 l7 : Option mx_V) (v0 v1 v2 : mx_V) (S h : mx_H) (n : Int), mx_ex d 185 85 [l0, l1, l2, l3, l4, l5, some (0, x), l7] [v0, v1, v2] S h n = mx_ex d 185 87 [l0, l1, l2, l3, l4, l5, some (0, x), l7] [(0, x), v0, v1, v2] S h n) ∧
  (∀ (d : Nat) (x : Int) (l0 l1 l3 l4 l5 l6 l7 : Option mx_V) (v0 v1 v2 v3 : mx_V) (S h : mx_H) (n : Int), mx_ex d 185 87 [l0, l1, some (0, x), l3, l4, l5, l6, l7] [v0, v1, v2, v3] S h n = mx_ex d 185 88 [l0, l1, some (0, x), l3, l4, l5, l6, l7] [(0, x), v0, v1, v2, v3] S h n) ∧
  (∀ (d : Nat) (x0 x1 x2 a : Int) (l0 l1 l2 l3 l4 l5 l6 l7 : Option mx_V) (v4 : mx_V) (S h : mx_H) (n : Int), mx_ex (d + 1) 185 88 [l0, l1, l2, l3, l4, l5, l6, l7] [(0, x0), (0, x1), (0, x2), (2, a), v4] S h n = mx_cl (S a (-2) = 13) d 184 [(2, a), (0, x2), (0, x1), (0, x0)] 185 91 [l0, l1, l2, l3, l4, l5, l6, l7] [v4] S h n) ∧
  (∀ (d : Nat) (a : Int) (l0 l1 l2 l3 l4 l5 l6 l7 : Option mx_V) (v1 : mx_V) (S h : mx_H) (n : Int), mx_ex d 185 91 [l0, l1, l2, l3, l4, l5, l6, l7] [(0, a), v1] S h n = mx_ex d 185 92 [l0, l1, l2, l3, l4, l5, l6, l7] [(1, a), v1] S h n) ∧
  (∀ (d : Nat) (b a : Int) (l0 l1 l2 l3 l4 l5 l6 l7 : Option mx_V) (S h : mx_H) (n : Int), mx_ex d 185 92 [l0, l1, l2, l3, l4, l5, l6, l7] [(1, b), (1, a)] S h n = mx_ex d 185 93 [l0, l1, l2, l3, l4, l5, l6, l7] [(1, mx_l (a * b))] S h n) ∧
  (∀ (d : Nat) (x : Int) (l1 l2 l3 l4 l5 l6 l7 : Option mx_V) (v0 : mx_V) (S h : mx_H) (n : Int), mx_ex d 185 93 [some (2, x), l1, l2, l3, l4, l5, l6, l7] [v0] S h n = mx_ex d 185 94 [some (2, x), l1, l2, l3, l4, l5, l6, l7] [(2, x), v0] S h n) ∧
  (∀ (d : Nat) (x : Int) (l0 l2 l3 l4 l5 l6 l7 : Option mx_V) (v0 v1 : mx_V) (S h : mx_H) (n : Int), mx_ex d 185 94 [l0, some (0, x), l2, l3, l4, l5, l6, l7] [v0, v1] S h n = mx_ex d 185 95 [l0, some (0, x), l2, l3, l4, l5, l6, l7] [(0, x), v0, v1] S h n) ∧
  (∀ (d : Nat) (l0 l1 l2 l3 l4 l5 l6 l7 : Option mx_V) (v0 v1 v2 : mx_V) (S h : mx_H) (n : Int), mx_ex d 185 95 [l0, l1, l2, l3, l4, l5, l6, l7] [v0, v1, v2] S h n = mx_ex d 185 96 [l0, l1, l2, l3, l4, l5, l6, l7] [(0, 4), v0, v1, v2] S h n) ∧
  (∀ (d : Nat) (x : Int) (l0 l1 l2 l3 l4 l5 l6 : Option mx_V) (v0 v1 v2 v3 : mx_V) (S h : mx_H) (n : Int), mx_ex d 185 96 [l0, l1, l2, l3, l4, l5, l6, some (0, x)] [v0, v1, v2, v3] S h n = mx_ex d 185 98 [l0, l1, l2, l3, l4, l5, l6, some (0, x)] [(0, x), v0, v1, v2, v3] S h n) ∧
  (∀ (d : Nat) (b a : Int) (l0 l1 l2 l3 l4 l5 l6 l7 : Option mx_V) (v2 v3 v4 : mx_V) (S h : mx_H) (n : Int), mx_ex d 185 98 [l0, l1, l2, l3, l4, l5, l6, l7] [(0, b), (0, a), v2, v3, v4] S h n = mx_ex d 185 99 [l0, l1, l2, l3, l4, l5, l6, l7] [(0, mx_w (a + b)), v2, v3, v4] S h n) ∧
  (∀ (d : Nat) (x0 x1 a : Int) (l0 l1 l2 l3 l4 l5 l6 l7 : Option mx_V) (v3 : mx_V) (S h : mx_H) (n : Int), mx_ex (d + 1) 185 99 [l0, l1, l2, l3, l4, l5, l6, l7] [(0, x0), (0, x1), (2, a), v3] S h n = mx_cl (S a (-2) = 13) d 163 [(2, a), (0, x1), (0, x0)] 185 102 [l0, l1, l2, l3, l4, l5, l6, l7] [v3] S h n) ∧
  (∀ (d : Nat) (a : Int) (l0 l1 l2 l3 l4 l5 l6 l7 : Option mx_V) (v1 : mx_V) (S h : mx_H) (n : Int), mx_ex d 185 102 [l0, l1, l2, l3, l4, l5, l6, l7] [(0, a), v1] S h n = mx_ex d 185 103 [l0, l1, l2, l3, l4, l5, l6, l7] [(1, a), v1] S h n) ∧
  (∀ (d : Nat) (b a : Int) (l0 l1 l2 l3 l4 l5 l6 l7 : Option mx_V) (S h : mx_H) (n : Int), mx_ex d 185 103 [l0, l1, l2, l3, l4, l5, l6, l7] [(1, b), (1, a)] S h n = mx_ex d 185 104 [l0, l1, l2, l3, l4, l5, l6, l7] [(1, mx_l (a + b))] S h n) ∧
  (∀ (d : Nat) (x : Int) (l0 l1 l2 l3 l4 l5 l6 l7 : Option mx_V) (S h : mx_H) (n : Int), mx_ex d 185 104 [l0, l1, l2, l3, l4, l5, l6, l7] [(1, x)] S h n = mx_ex d 185 106 [l0, l1, l2, mx_nl l3, some (1, x), none, l6, l7] [] S h n) ∧
  (∀ (d : Nat) (x : Int) (l0 l1 l2 l3 l4 l5 l7 : Option mx_V) (S h : mx_H) (n : Int), mx_ex d 185 106 [l0, l1, l2, l3, l4, l5, some (0, x), l7] [] S h n = mx_ex d 185 109 [l0, l1, l2, l3, l4, mx_nl l5, some (0, mx_w (x + 1)), l7] [] S h n) ∧
  (∀ (d : Nat) (l0 l1 l2 l3 l4 l5 l6 l7 : Option mx_V) (S h : mx_H) (n : Int), mx_ex d 185 109 [l0, l1, l2, l3, l4, l5, l6, l7] [] S h n = mx_ex d 185 52 [l0, l1, l2, l3, l4, l5, l6, l7] [] S h n) :=
  ⟨by intros; exact rfl,
   by intros; exact eq_ld rfl rfl,
   by intros; exact eq_ld rfl rfl,
   by intros; exact eq_push rfl,
   by intros; exact eq_cv rfl (Nat.le_of_ble_eq_true rfl) rfl rfl rfl (Nat.le_of_ble_eq_true rfl),
   by intros; exact eq_st rfl (by decide) (Nat.le_of_ble_eq_true rfl) rfl,
   by intros; exact eq_ld rfl rfl,
   by intros; exact eq_ld rfl rfl,
   by intros; exact eq_push rfl,
   by intros; exact eq_cv rfl (Nat.le_of_ble_eq_true rfl) rfl rfl rfl (Nat.le_of_ble_eq_true rfl),
   by intros; exact eq_push rfl,
   by intros; exact eq_ic0 rfl,
   by intros; exact eq_ld rfl rfl,
   by intros; exact eq_ld rfl rfl,
   by intros; exact eq_push rfl,
   by intros; exact eq_cv rfl (Nat.le_of_ble_eq_true rfl) rfl rfl rfl (Nat.le_of_ble_eq_true rfl),
   by intros; exact eq_push rfl,
   by intros; exact eq_ic1 rfl,
   by intros; exact eq_ld rfl rfl,
   by intros; exact eq_ld rfl rfl,
   by intros; exact eq_push rfl,
   by intros; exact eq_cv rfl (Nat.le_of_ble_eq_true rfl) rfl rfl rfl (Nat.le_of_ble_eq_true rfl),
   by intros; exact eq_push rfl,
   by intros; exact eq_ic1 rfl,
   by intros; exact eq_ld rfl rfl,
   by intros; exact eq_i1 (o1 := mx_neg) rfl,
   by intros; exact eq_i2l rfl,
   by intros; exact eq_go rfl,
   by intros; exact eq_ld rfl rfl,
   by intros; exact eq_i2l rfl,
   by intros; exact eq_ret rfl,
   by intros; exact eq_push rfl,
   by intros; exact eq_st2 rfl (Nat.le_of_ble_eq_true rfl) rfl,
   by intros; exact eq_push rfl,
   by intros; exact eq_st rfl (by decide) (Nat.le_of_ble_eq_true rfl) rfl,
   by intros; exact eq_ld rfl rfl,
   by intros; exact eq_ic3 rfl,
   by intros; exact eq_ld rfl rfl,
   by intros; exact eq_ld rfl rfl,
   by intros; exact eq_push rfl,
   by intros; exact eq_cv rfl (Nat.le_of_ble_eq_true rfl) rfl rfl rfl (Nat.le_of_ble_eq_true rfl),
   by intros; exact eq_push rfl,
   by intros; exact eq_ic1 rfl,
   by intros; exact eq_ld rfl rfl,
   by intros; exact eq_push rfl,
   by intros; exact eq_i2 (o := mx_sub) rfl,
   by intros; exact eq_ld rfl rfl,
   by intros; exact eq_i2 (o := mx_sub) rfl,
   by intros; exact eq_go rfl,
   by intros; exact eq_ld rfl rfl,
   by intros; exact eq_st rfl (by decide) (Nat.le_of_ble_eq_true rfl) rfl,
   by intros; exact eq_ld rfl rfl,
   by intros; exact eq_ld rfl rfl,
   by intros; exact eq_ld rfl rfl,
   by intros; exact eq_ld rfl rfl,
   by intros; exact eq_ld rfl rfl,
   by intros; exact eq_cv rfl (Nat.le_of_ble_eq_true rfl) rfl rfl rfl (Nat.le_of_ble_eq_true rfl),
   by intros; exact eq_i2l rfl,
   by intros; exact eq_l2 (o := ml_mul) rfl,
   by intros; exact eq_ld rfl rfl,
   by intros; exact eq_ld rfl rfl,
   by intros; exact eq_push rfl,
   by intros; exact eq_ld rfl rfl,
   by intros; exact eq_i2 (o := mx_add) rfl,
   by intros; exact eq_cv rfl (Nat.le_of_ble_eq_true rfl) rfl rfl rfl (Nat.le_of_ble_eq_true rfl),
   by intros; exact eq_i2l rfl,
   by intros; exact eq_l2 (o := ml_add) rfl,
   by intros; exact eq_st2 rfl (Nat.le_of_ble_eq_true rfl) rfl,
   by intros; exact eq_inc rfl rfl rfl,
   by intros; exact eq_go rfl⟩
theorem rw_X12_worthBy_1 :
  (∀ (d : Nat) (x : Int) (l0 l1 l2 l3 l5 l6 l7 : Option mx_V) (S h : mx_H) (n : Int), mx_ex d 185 112 [l0, l1, l2, l3, some (1, x), l5, l6, l7] [] S h n = mx_ex d 185 114 [l0, l1, l2, l3, some (1, x), l5, l6, l7] [(1, x)] S h n) ∧
  (∀ (d : Nat) (x : Int) (l0 l1 l2 l3 l4 l5 l6 l7 : Option mx_V) (S h : mx_H) (n : Int), mx_ex d 185 114 [l0, l1, l2, l3, l4, l5, l6, l7] [(1, x)] S h n = some (some (1, x), S, h, n)) :=
  ⟨by intros; exact eq_ld rfl rfl,
   by intros; exact eq_ret rfl⟩
theorem rh_X12_canBe_29 : ∀ (d : Nat) (x : Int) (l0 l1 l2 l3 l5 : Option mx_V) (S h : mx_H) (n : Int), mx_ex d 186 29 [l0, l1, l2, l3, some (0, x), l5] [] S h n = mx_ex d 186 31 [l0, l1, l2, l3, some (0, x), l5] [(0, x)] S h n := by intros; exact eq_ld rfl rfl
theorem rw_X12_canBe :
  (∀ (d : Nat) (a0 a1 a2 : Int) (S h : mx_H) (n : Int), mx_M d 186 [(2, a0), (0, a1), (0, a2)] S h n = mx_ex d 186 0 [some (2, a0), some (0, a1), some (0, a2), none, none, none] [] S h n) ∧
  (∀ (d : Nat) (x : Int) (l1 l2 l3 l4 l5 : Option mx_V) (S h : mx_H) (n : Int), mx_ex d 186 0 [some (2, x), l1, l2, l3, l4, l5] [] S h n = mx_ex d 186 1 [some (2, x), l1, l2, l3, l4, l5] [(2, x)] S h n) ∧
  (∀ (d : Nat) (x : Int) (l0 l2 l3 l4 l5 : Option mx_V) (v0 : mx_V) (S h : mx_H) (n : Int), mx_ex d 186 1 [l0, some (0, x), l2, l3, l4, l5] [v0] S h n = mx_ex d 186 2 [l0, some (0, x), l2, l3, l4, l5] [(0, x), v0] S h n) ∧
  (∀ (d : Nat) (l0 l1 l2 l3 l4 l5 : Option mx_V) (v0 v1 : mx_V) (S h : mx_H) (n : Int), mx_ex d 186 2 [l0, l1, l2, l3, l4, l5] [v0, v1] S h n = mx_ex d 186 3 [l0, l1, l2, l3, l4, l5] [(0, 0), v0, v1] S h n) ∧
  (∀ (d : Nat) (x0 x1 a : Int) (l0 l1 l2 l3 l4 l5 : Option mx_V) (S h : mx_H) (n : Int), mx_ex (d + 1) 186 3 [l0, l1, l2, l3, l4, l5] [(0, x0), (0, x1), (2, a)] S h n = mx_cl (S a (-2) = 13) d 163 [(2, a), (0, x1), (0, x0)] 186 6 [l0, l1, l2, l3, l4, l5] [] S h n) ∧
  (∀ (d : Nat) (l0 l1 l2 l3 l4 l5 : Option mx_V) (v0 : mx_V) (S h : mx_H) (n : Int), mx_ex d 186 6 [l0, l1, l2, l3, l4, l5] [v0] S h n = mx_ex d 186 7 [l0, l1, l2, l3, l4, l5] [(0, 1), v0] S h n) ∧
  (∀ (d : Nat) (b a : Int) (l0 l1 l2 l3 l4 l5 : Option mx_V) (S h : mx_H) (n : Int), mx_ex d 186 7 [l0, l1, l2, l3, l4, l5] [(0, b), (0, a)] S h n = mx_br (a = b) d 186 20 10 [l0, l1, l2, l3, l4, l5] [] S h n) ∧
  (∀ (d : Nat) (x : Int) (l1 l2 l3 l4 l5 : Option mx_V) (S h : mx_H) (n : Int), mx_ex d 186 10 [some (2, x), l1, l2, l3, l4, l5] [] S h n = mx_ex d 186 11 [some (2, x), l1, l2, l3, l4, l5] [(2, x)] S h n) ∧
  (∀ (d : Nat) (x : Int) (l0 l2 l3 l4 l5 : Option mx_V) (v0 : mx_V) (S h : mx_H) (n : Int), mx_ex d 186 11 [l0, some (0, x), l2, l3, l4, l5] [v0] S h n = mx_ex d 186 12 [l0, some (0, x), l2, l3, l4, l5] [(0, x), v0] S h n) ∧
  (∀ (d : Nat) (l0 l1 l2 l3 l4 l5 : Option mx_V) (v0 v1 : mx_V) (S h : mx_H) (n : Int), mx_ex d 186 12 [l0, l1, l2, l3, l4, l5] [v0, v1] S h n = mx_ex d 186 13 [l0, l1, l2, l3, l4, l5] [(0, 0), v0, v1] S h n) ∧
  (∀ (d : Nat) (x0 x1 a : Int) (l0 l1 l2 l3 l4 l5 : Option mx_V) (S h : mx_H) (n : Int), mx_ex (d + 1) 186 13 [l0, l1, l2, l3, l4, l5] [(0, x0), (0, x1), (2, a)] S h n = mx_cl (S a (-2) = 13) d 163 [(2, a), (0, x1), (0, x0)] 186 16 [l0, l1, l2, l3, l4, l5] [] S h n) ∧
  (∀ (d : Nat) (l0 l1 l2 l3 l4 l5 : Option mx_V) (v0 : mx_V) (S h : mx_H) (n : Int), mx_ex d 186 16 [l0, l1, l2, l3, l4, l5] [v0] S h n = mx_ex d 186 17 [l0, l1, l2, l3, l4, l5] [(0, 5), v0] S h n) ∧
  (∀ (d : Nat) (b a : Int) (l0 l1 l2 l3 l4 l5 : Option mx_V) (S h : mx_H) (n : Int), mx_ex d 186 17 [l0, l1, l2, l3, l4, l5] [(0, b), (0, a)] S h n = mx_br (a = b) d 186 20 24 [l0, l1, l2, l3, l4, l5] [] S h n) ∧
  (∀ (d : Nat) (l0 l1 l2 l3 l4 l5 : Option mx_V) (S h : mx_H) (n : Int), mx_ex d 186 20 [l0, l1, l2, l3, l4, l5] [] S h n = mx_ex d 186 21 [l0, l1, l2, l3, l4, l5] [(0, 1)] S h n) ∧
  (∀ (d : Nat) (l0 l1 l2 l3 l4 l5 : Option mx_V) (v0 : mx_V) (S h : mx_H) (n : Int), mx_ex d 186 21 [l0, l1, l2, l3, l4, l5] [v0] S h n = mx_ex d 186 25 [l0, l1, l2, l3, l4, l5] [v0] S h n) ∧
  (∀ (d : Nat) (l0 l1 l2 l3 l4 l5 : Option mx_V) (S h : mx_H) (n : Int), mx_ex d 186 24 [l0, l1, l2, l3, l4, l5] [] S h n = mx_ex d 186 25 [l0, l1, l2, l3, l4, l5] [(0, 0)] S h n) ∧
  (∀ (d : Nat) (x : Int) (l0 l1 l2 l3 l4 l5 : Option mx_V) (S h : mx_H) (n : Int), mx_ex d 186 25 [l0, l1, l2, l3, l4, l5] [(0, x)] S h n = mx_ex d 186 26 [l0, l1, mx_nl l2, some (0, x), l4, l5] [] S h n) ∧
  (∀ (d : Nat) (l0 l1 l2 l3 l4 l5 : Option mx_V) (S h : mx_H) (n : Int), mx_ex d 186 26 [l0, l1, l2, l3, l4, l5] [] S h n = mx_ex d 186 27 [l0, l1, l2, l3, l4, l5] [(0, 0)] S h n) ∧
  (∀ (d : Nat) (x : Int) (l0 l1 l2 l3 l4 l5 : Option mx_V) (S h : mx_H) (n : Int), mx_ex d 186 27 [l0, l1, l2, l3, l4, l5] [(0, x)] S h n = mx_ex d 186 29 [l0, l1, l2, mx_nl l3, some (0, x), l5] [] S h n) ∧
  (∀ (d : Nat) (x : Int) (l1 l2 l3 l4 l5 : Option mx_V) (v0 : mx_V) (S h : mx_H) (n : Int), mx_ex d 186 31 [some (2, x), l1, l2, l3, l4, l5] [v0] S h n = mx_ex d 186 32 [some (2, x), l1, l2, l3, l4, l5] [(2, x), v0] S h n) ∧
  (∀ (d : Nat) (x : Int) (l0 l2 l3 l4 l5 : Option mx_V) (v0 v1 : mx_V) (S h : mx_H) (n : Int), mx_ex d 186 32 [l0, some (0, x), l2, l3, l4, l5] [v0, v1] S h n = mx_ex d 186 33 [l0, some (0, x), l2, l3, l4, l5] [(0, x), v0, v1] S h n) ∧
  (∀ (d : Nat) (l0 l1 l2 l3 l4 l5 : Option mx_V) (v0 v1 v2 : mx_V) (S h : mx_H) (n : Int), mx_ex d 186 33 [l0, l1, l2, l3, l4, l5] [v0, v1, v2] S h n = mx_ex d 186 34 [l0, l1, l2, l3, l4, l5] [(0, 3), v0, v1, v2] S h n) ∧
  (∀ (d : Nat) (x0 x1 a : Int) (l0 l1 l2 l3 l4 l5 : Option mx_V) (v3 : mx_V) (S h : mx_H) (n : Int), mx_ex (d + 1) 186 34 [l0, l1, l2, l3, l4, l5] [(0, x0), (0, x1), (2, a), v3] S h n = mx_cl (S a (-2) = 13) d 163 [(2, a), (0, x1), (0, x0)] 186 37 [l0, l1, l2, l3, l4, l5] [v3] S h n) ∧
  (∀ (d : Nat) (b a : Int) (l0 l1 l2 l3 l4 l5 : Option mx_V) (S h : mx_H) (n : Int), mx_ex d 186 37 [l0, l1, l2, l3, l4, l5] [(0, b), (0, a)] S h n = mx_br (a < b) d 186 40 85 [l0, l1, l2, l3, l4, l5] [] S h n) ∧
  (∀ (d : Nat) (x : Int) (l1 l2 l3 l4 l5 : Option mx_V) (S h : mx_H) (n : Int), mx_ex d 186 40 [some (2, x), l1, l2, l3, l4, l5] [] S h n = mx_ex d 186 41 [some (2, x), l1, l2, l3, l4, l5] [(2, x)] S h n) ∧
  (∀ (d : Nat) (x : Int) (l0 l2 l3 l4 l5 : Option mx_V) (v0 : mx_V) (S h : mx_H) (n : Int), mx_ex d 186 41 [l0, some (0, x), l2, l3, l4, l5] [v0] S h n = mx_ex d 186 42 [l0, some (0, x), l2, l3, l4, l5] [(0, x), v0] S h n) ∧
  (∀ (d : Nat) (l0 l1 l2 l3 l4 l5 : Option mx_V) (v0 v1 : mx_V) (S h : mx_H) (n : Int), mx_ex d 186 42 [l0, l1, l2, l3, l4, l5] [v0, v1] S h n = mx_ex d 186 43 [l0, l1, l2, l3, l4, l5] [(0, 4), v0, v1] S h n) ∧
  (∀ (d : Nat) (x : Int) (l0 l1 l2 l3 l5 : Option mx_V) (v0 v1 v2 : mx_V) (S h : mx_H) (n : Int), mx_ex d 186 43 [l0, l1, l2, l3, some (0, x), l5] [v0, v1, v2] S h n = mx_ex d 186 45 [l0, l1, l2, l3, some (0, x), l5] [(0, x), v0, v1, v2] S h n) ∧
  (∀ (d : Nat) (b a : Int) (l0 l1 l2 l3 l4 l5 : Option mx_V) (v2 v3 : mx_V) (S h : mx_H) (n : Int), mx_ex d 186 45 [l0, l1, l2, l3, l4, l5] [(0, b), (0, a), v2, v3] S h n = mx_ex d 186 46 [l0, l1, l2, l3, l4, l5] [(0, mx_w (a + b)), v2, v3] S h n) ∧
  (∀ (d : Nat) (x0 x1 a : Int) (l0 l1 l2 l3 l4 l5 : Option mx_V) (S h : mx_H) (n : Int), mx_ex (d + 1) 186 46 [l0, l1, l2, l3, l4, l5] [(0, x0), (0, x1), (2, a)] S h n = mx_cl (S a (-2) = 13) d 163 [(2, a), (0, x1), (0, x0)] 186 49 [l0, l1, l2, l3, l4, l5] [] S h n) ∧
  (∀ (d : Nat) (x : Int) (l0 l1 l2 l3 l4 l5 : Option mx_V) (S h : mx_H) (n : Int), mx_ex d 186 49 [l0, l1, l2, l3, l4, l5] [(0, x)] S h n = mx_ex d 186 51 [l0, l1, l2, l3, mx_nl l4, some (0, x)] [] S h n) ∧
  (∀ (d : Nat) (x : Int) (l0 l1 l2 l4 l5 : Option mx_V) (S h : mx_H) (n : Int), mx_ex d 186 51 [l0, l1, l2, some (0, x), l4, l5] [] S h n = mx_ex d 186 52 [l0, l1, l2, some (0, x), l4, l5] [(0, x)] S h n) ∧
  (∀ (d : Nat) (a : Int) (l0 l1 l2 l3 l4 l5 : Option mx_V) (S h : mx_H) (n : Int), mx_ex d 186 52 [l0, l1, l2, l3, l4, l5] [(0, a)] S h n = mx_br (a = 0) d 186 64 55 [l0, l1, l2, l3, l4, l5] [] S h n) ∧
  (∀ (d : Nat) (x : Int) (l0 l1 l2 l3 l4 : Option mx_V) (S h : mx_H) (n : Int), mx_ex d 186 55 [l0, l1, l2, l3, l4, some (0, x)] [] S h n = mx_ex d 186 57 [l0, l1, l2, l3, l4, some (0, x)] [(0, x)] S h n) ∧
  (∀ (d : Nat) (l0 l1 l2 l3 l4 l5 : Option mx_V) (v0 : mx_V) (S h : mx_H) (n : Int), mx_ex d 186 57 [l0, l1, l2, l3, l4, l5] [v0] S h n = mx_ex d 186 58 [l0, l1, l2, l3, l4, l5] [(0, 1), v0] S h n) ∧
  (∀ (d : Nat) (b a : Int) (l0 l1 l2 l3 l4 l5 : Option mx_V) (S h : mx_H) (n : Int), mx_ex d 186 58 [l0, l1, l2, l3, l4, l5] [(0, b), (0, a)] S h n = mx_br (a = b) d 186 79 61 [l0, l1, l2, l3, l4, l5] [] S h n) ∧
  (∀ (d : Nat) (l0 l1 l2 l3 l4 l5 : Option mx_V) (S h : mx_H) (n : Int), mx_ex d 186 61 [l0, l1, l2, l3, l4, l5] [] S h n = mx_ex d 186 77 [l0, l1, l2, l3, l4, l5] [] S h n) ∧
  (∀ (d : Nat) (x : Int) (l0 l1 l2 l3 l4 : Option mx_V) (S h : mx_H) (n : Int), mx_ex d 186 64 [l0, l1, l2, l3, l4, some (0, x)] [] S h n = mx_ex d 186 66 [l0, l1, l2, l3, l4, some (0, x)] [(0, x)] S h n) ∧
  (∀ (d : Nat) (x : Int) (l1 l2 l3 l4 l5 : Option mx_V) (v0 : mx_V) (S h : mx_H) (n : Int), mx_ex d 186 66 [some (2, x), l1, l2, l3, l4, l5] [v0] S h n = mx_ex d 186 67 [some (2, x), l1, l2, l3, l4, l5] [(2, x), v0] S h n) ∧
  (∀ (d : Nat) (x : Int) (l0 l2 l3 l4 l5 : Option mx_V) (v0 v1 : mx_V) (S h : mx_H) (n : Int), mx_ex d 186 67 [l0, some (0, x), l2, l3, l4, l5] [v0, v1] S h n = mx_ex d 186 68 [l0, some (0, x), l2, l3, l4, l5] [(0, x), v0, v1] S h n) ∧
  (∀ (d : Nat) (x : Int) (l0 l1 l2 l3 l5 : Option mx_V) (v0 v1 v2 : mx_V) (S h : mx_H) (n : Int), mx_ex d 186 68 [l0, l1, l2, l3, some (0, x), l5] [v0, v1, v2] S h n = mx_ex d 186 70 [l0, l1, l2, l3, some (0, x), l5] [(0, x), v0, v1, v2] S h n) ∧
  (∀ (d : Nat) (x : Int) (l0 l1 l3 l4 l5 : Option mx_V) (v0 v1 v2 v3 : mx_V) (S h : mx_H) (n : Int), mx_ex d 186 70 [l0, l1, some (0, x), l3, l4, l5] [v0, v1, v2, v3] S h n = mx_ex d 186 71 [l0, l1, some (0, x), l3, l4, l5] [(0, x), v0, v1, v2, v3] S h n) ∧
  (∀ (d : Nat) (x0 x1 x2 a : Int) (l0 l1 l2 l3 l4 l5 : Option mx_V) (v4 : mx_V) (S h : mx_H) (n : Int), mx_ex (d + 1) 186 71 [l0, l1, l2, l3, l4, l5] [(0, x0), (0, x1), (0, x2), (2, a), v4] S h n = mx_cl (S a (-2) = 13) d 184 [(2, a), (0, x2), (0, x1), (0, x0)] 186 74 [l0, l1, l2, l3, l4, l5] [v4] S h n) ∧
  (∀ (d : Nat) (b a : Int) (l0 l1 l2 l3 l4 l5 : Option mx_V) (S h : mx_H) (n : Int), mx_ex d 186 74 [l0, l1, l2, l3, l4, l5] [(0, b), (0, a)] S h n = mx_br (a < b) d 186 79 77 [l0, l1, l2, l3, l4, l5] [] S h n) ∧
  (∀ (d : Nat) (l0 l1 l2 l3 l4 l5 : Option mx_V) (S h : mx_H) (n : Int), mx_ex d 186 77 [l0, l1, l2, l3, l4, l5] [] S h n = mx_ex d 186 78 [l0, l1, l2, l3, l4, l5] [(0, 0)] S h n) ∧
  (∀ (d : Nat) (x : Int) (l0 l1 l2 l3 l4 l5 : Option mx_V) (S h : mx_H) (n : Int), mx_ex d 186 78 [l0, l1, l2, l3, l4, l5] [(0, x)] S h n = mx_re (0 ≤ x ∧ x ≤ 1) (some (0, x)) S h n) ∧
  (∀ (d : Nat) (x : Int) (l0 l1 l2 l3 l5 : Option mx_V) (S h : mx_H) (n : Int), mx_ex d 186 79 [l0, l1, l2, l3, some (0, x), l5] [] S h n = mx_ex d 186 82 [l0, l1, l2, mx_nl l3, some (0, mx_w (x + 1)), l5] [] S h n) ∧
  (∀ (d : Nat) (l0 l1 l2 l3 l4 l5 : Option mx_V) (S h : mx_H) (n : Int), mx_ex d 186 82 [l0, l1, l2, l3, l4, l5] [] S h n = mx_ex d 186 29 [l0, l1, l2, l3, l4, l5] [] S h n) ∧
  (∀ (d : Nat) (l0 l1 l2 l3 l4 l5 : Option mx_V) (S h : mx_H) (n : Int), mx_ex d 186 85 [l0, l1, l2, l3, l4, l5] [] S h n = mx_ex d 186 86 [l0, l1, l2, l3, l4, l5] [(0, 1)] S h n) ∧
  (∀ (d : Nat) (x : Int) (l0 l1 l2 l3 l4 l5 : Option mx_V) (S h : mx_H) (n : Int), mx_ex d 186 86 [l0, l1, l2, l3, l4, l5] [(0, x)] S h n = mx_re (0 ≤ x ∧ x ≤ 1) (some (0, x)) S h n) :=
  ⟨by intros; exact rfl,
   by intros; exact eq_ld rfl rfl,
   by intros; exact eq_ld rfl rfl,
   by intros; exact eq_push rfl,
   by intros; exact eq_cv rfl (Nat.le_of_ble_eq_true rfl) rfl rfl rfl (Nat.le_of_ble_eq_true rfl),
   by intros; exact eq_push rfl,
   by intros; exact eq_ic0 rfl,
   by intros; exact eq_ld rfl rfl,
   by intros; exact eq_ld rfl rfl,
   by intros; exact eq_push rfl,
   by intros; exact eq_cv rfl (Nat.le_of_ble_eq_true rfl) rfl rfl rfl (Nat.le_of_ble_eq_true rfl),
   by intros; exact eq_push rfl,
   by intros; exact eq_ic1 rfl,
   by intros; exact eq_push rfl,
   by intros; exact eq_go rfl,
   by intros; exact eq_push rfl,
   by intros; exact eq_st rfl (by decide) (Nat.le_of_ble_eq_true rfl) rfl,
   by intros; exact eq_push rfl,
   by intros; exact eq_st rfl (by decide) (Nat.le_of_ble_eq_true rfl) rfl,
   by intros; exact eq_ld rfl rfl,
   by intros; exact eq_ld rfl rfl,
   by intros; exact eq_push rfl,
   by intros; exact eq_cv rfl (Nat.le_of_ble_eq_true rfl) rfl rfl rfl (Nat.le_of_ble_eq_true rfl),
   by intros; exact eq_ic3 rfl,
   by intros; exact eq_ld rfl rfl,
   by intros; exact eq_ld rfl rfl,
   by intros; exact eq_push rfl,
   by intros; exact eq_ld rfl rfl,
   by intros; exact eq_i2 (o := mx_add) rfl,
   by intros; exact eq_cv rfl (Nat.le_of_ble_eq_true rfl) rfl rfl rfl (Nat.le_of_ble_eq_true rfl),
   by intros; exact eq_st rfl (by decide) (Nat.le_of_ble_eq_true rfl) rfl,
   by intros; exact eq_ld rfl rfl,
   by intros; exact eq_if0 rfl,
   by intros; exact eq_ld rfl rfl,
   by intros; exact eq_push rfl,
   by intros; exact eq_ic0 rfl,
   by intros; exact eq_go rfl,
   by intros; exact eq_ld rfl rfl,
   by intros; exact eq_ld rfl rfl,
   by intros; exact eq_ld rfl rfl,
   by intros; exact eq_ld rfl rfl,
   by intros; exact eq_ld rfl rfl,
   by intros; exact eq_cv rfl (Nat.le_of_ble_eq_true rfl) rfl rfl rfl (Nat.le_of_ble_eq_true rfl),
   by intros; exact eq_ic2 rfl,
   by intros; exact eq_push rfl,
   by intros; exact eq_rr rfl,
   by intros; exact eq_inc rfl rfl rfl,
   by intros; exact eq_go rfl,
   by intros; exact eq_push rfl,
   by intros; exact eq_rr rfl⟩
theorem rw_X12_worth :
  (∀ (d : Nat) (a0 a1 a2 : Int) (S h : mx_H) (n : Int), mx_M d 187 [(2, a0), (0, a1), (0, a2)] S h n = mx_ex d 187 0 [some (2, a0), some (0, a1), some (0, a2)] [] S h n) ∧
  (∀ (d : Nat) (x : Int) (l1 l2 : Option mx_V) (S h : mx_H) (n : Int), mx_ex d 187 0 [some (2, x), l1, l2] [] S h n = mx_ex d 187 1 [some (2, x), l1, l2] [(2, x)] S h n) ∧
  (∀ (d : Nat) (x : Int) (l0 l2 : Option mx_V) (v0 : mx_V) (S h : mx_H) (n : Int), mx_ex d 187 1 [l0, some (0, x), l2] [v0] S h n = mx_ex d 187 2 [l0, some (0, x), l2] [(0, x), v0] S h n) ∧
  (∀ (d : Nat) (x0 a : Int) (l0 l1 l2 : Option mx_V) (S h : mx_H) (n : Int), mx_ex (d + 1) 187 2 [l0, l1, l2] [(0, x0), (2, a)] S h n = mx_cl (S a (-2) = 13) d 160 [(2, a), (0, x0)] 187 5 [l0, l1, l2] [] S h n) ∧
  (∀ (d : Nat) (a : Int) (l0 l1 l2 : Option mx_V) (S h : mx_H) (n : Int), mx_ex d 187 5 [l0, l1, l2] [(0, a)] S h n = mx_br (a = 0) d 187 24 8 [l0, l1, l2] [] S h n) ∧
  (∀ (d : Nat) (x : Int) (l0 l1 : Option mx_V) (S h : mx_H) (n : Int), mx_ex d 187 8 [l0, l1, some (0, x)] [] S h n = mx_ex d 187 9 [l0, l1, some (0, x)] [(0, x)] S h n) ∧
  (∀ (d : Nat) (x0 : Int) (l0 l1 l2 : Option mx_V) (S h : mx_H) (n : Int), mx_ex (d + 1) 187 9 [l0, l1, l2] [(0, x0)] S h n = mx_rt (mx_M d 162 [(0, x0)] S h n) (d + 1) 187 12 [l0, l1, l2] []) ∧
  (∀ (d : Nat) (a : Int) (l0 l1 l2 : Option mx_V) (S h : mx_H) (n : Int), mx_ex d 187 12 [l0, l1, l2] [(0, a)] S h n = mx_br (a = 0) d 187 24 15 [l0, l1, l2] [] S h n) ∧
  (∀ (d : Nat) (x : Int) (l1 l2 : Option mx_V) (S h : mx_H) (n : Int), mx_ex d 187 15 [some (2, x), l1, l2] [] S h n = mx_ex d 187 16 [some (2, x), l1, l2] [(2, x)] S h n) ∧
  (∀ (d : Nat) (x : Int) (l0 l2 : Option mx_V) (v0 : mx_V) (S h : mx_H) (n : Int), mx_ex d 187 16 [l0, some (0, x), l2] [v0] S h n = mx_ex d 187 17 [l0, some (0, x), l2] [(0, x), v0] S h n) ∧
  (∀ (d : Nat) (x : Int) (l0 l1 : Option mx_V) (v0 v1 : mx_V) (S h : mx_H) (n : Int), mx_ex d 187 17 [l0, l1, some (0, x)] [v0, v1] S h n = mx_ex d 187 18 [l0, l1, some (0, x)] [(0, x), v0, v1] S h n) ∧
  (∀ (d : Nat) (x0 x1 a : Int) (l0 l1 l2 : Option mx_V) (S h : mx_H) (n : Int), mx_ex (d + 1) 187 18 [l0, l1, l2] [(0, x0), (0, x1), (2, a)] S h n = mx_cl (S a (-2) = 13) d 185 [(2, a), (0, x1), (0, x0)] 187 21 [l0, l1, l2] [] S h n) ∧
  (∀ (d : Nat) (l0 l1 l2 : Option mx_V) (v0 : mx_V) (S h : mx_H) (n : Int), mx_ex d 187 21 [l0, l1, l2] [v0] S h n = mx_ex d 187 27 [l0, l1, l2] [v0] S h n) ∧
  (∀ (d : Nat) (l0 l1 l2 : Option mx_V) (S h : mx_H) (n : Int), mx_ex d 187 24 [l0, l1, l2] [] S h n = mx_ex d 187 27 [l0, l1, l2] [(1, (-1000000000000))] S h n) ∧
  (∀ (d : Nat) (x : Int) (l0 l1 l2 : Option mx_V) (S h : mx_H) (n : Int), mx_ex d 187 27 [l0, l1, l2] [(1, x)] S h n = some (some (1, x), S, h, n)) :=
  ⟨by intros; exact rfl,
   by intros; exact eq_ld rfl rfl,
   by intros; exact eq_ld rfl rfl,
   by intros; exact eq_cv rfl (Nat.le_of_ble_eq_true rfl) rfl rfl rfl (Nat.le_of_ble_eq_true rfl),
   by intros; exact eq_if0 rfl,
   by intros; exact eq_ld rfl rfl,
   by intros; exact eq_cs rfl (Nat.le_of_ble_eq_true rfl) rfl rfl rfl (Nat.le_of_ble_eq_true rfl),
   by intros; exact eq_if0 rfl,
   by intros; exact eq_ld rfl rfl,
   by intros; exact eq_ld rfl rfl,
   by intros; exact eq_ld rfl rfl,
   by intros; exact eq_cv rfl (Nat.le_of_ble_eq_true rfl) rfl rfl rfl (Nat.le_of_ble_eq_true rfl),
   by intros; exact eq_go rfl,
   by intros; exact eq_push rfl,
   by intros; exact eq_ret rfl⟩
theorem rh_X12_can_14 : ∀ (d : Nat) (x : Int) (l0 l1 l2 : Option mx_V) (S h : mx_H) (n : Int), mx_ex d 188 14 [l0, l1, l2, some (0, x)] [] S h n = mx_ex d 188 15 [l0, l1, l2, some (0, x)] [(0, x)] S h n := by intros; exact eq_ld rfl rfl
theorem rw_X12_can :
  (∀ (d : Nat) (a0 a1 : Int) (S h : mx_H) (n : Int), mx_M d 188 [(2, a0), (0, a1)] S h n = mx_ex d 188 0 [some (2, a0), some (0, a1), none, none] [] S h n) ∧
  (∀ (d : Nat) (x : Int) (l1 l2 l3 : Option mx_V) (S h : mx_H) (n : Int), mx_ex d 188 0 [some (2, x), l1, l2, l3] [] S h n = mx_ex d 188 1 [some (2, x), l1, l2, l3] [(2, x)] S h n) ∧
  (∀ (d : Nat) (x : Int) (l0 l2 l3 : Option mx_V) (v0 : mx_V) (S h : mx_H) (n : Int), mx_ex d 188 1 [l0, some (0, x), l2, l3] [v0] S h n = mx_ex d 188 2 [l0, some (0, x), l2, l3] [(0, x), v0] S h n) ∧
  (∀ (d : Nat) (x0 a : Int) (l0 l1 l2 l3 : Option mx_V) (S h : mx_H) (n : Int), mx_ex (d + 1) 188 2 [l0, l1, l2, l3] [(0, x0), (2, a)] S h n = mx_cl (S a (-2) = 13) d 160 [(2, a), (0, x0)] 188 5 [l0, l1, l2, l3] [] S h n) ∧
  (∀ (d : Nat) (a : Int) (l0 l1 l2 l3 : Option mx_V) (S h : mx_H) (n : Int), mx_ex d 188 5 [l0, l1, l2, l3] [(0, a)] S h n = mx_br (a = 0) d 188 8 10 [l0, l1, l2, l3] [] S h n) ∧
  (∀ (d : Nat) (l0 l1 l2 l3 : Option mx_V) (S h : mx_H) (n : Int), mx_ex d 188 8 [l0, l1, l2, l3] [] S h n = mx_ex d 188 9 [l0, l1, l2, l3] [(0, (-1))] S h n) ∧
  (∀ (d : Nat) (x : Int) (l0 l1 l2 l3 : Option mx_V) (S h : mx_H) (n : Int), mx_ex d 188 9 [l0, l1, l2, l3] [(0, x)] S h n = some (some (0, x), S, h, n)) ∧
  (∀ (d : Nat) (l0 l1 l2 l3 : Option mx_V) (S h : mx_H) (n : Int), mx_ex d 188 10 [l0, l1, l2, l3] [] S h n = mx_ex d 188 11 [l0, l1, l2, l3] [(0, 0)] S h n) ∧
  (∀ (d : Nat) (x : Int) (l0 l1 l2 l3 : Option mx_V) (S h : mx_H) (n : Int), mx_ex d 188 11 [l0, l1, l2, l3] [(0, x)] S h n = mx_ex d 188 12 [l0, mx_nl l1, some (0, x), l3] [] S h n) ∧
  (∀ (d : Nat) (l0 l1 l2 l3 : Option mx_V) (S h : mx_H) (n : Int), mx_ex d 188 12 [l0, l1, l2, l3] [] S h n = mx_ex d 188 13 [l0, l1, l2, l3] [(0, 2)] S h n) ∧
  (∀ (d : Nat) (x : Int) (l0 l1 l2 l3 : Option mx_V) (S h : mx_H) (n : Int), mx_ex d 188 13 [l0, l1, l2, l3] [(0, x)] S h n = mx_ex d 188 14 [l0, l1, mx_nl l2, some (0, x)] [] S h n) ∧
  (∀ (d : Nat) (l0 l1 l2 l3 : Option mx_V) (v0 : mx_V) (S h : mx_H) (n : Int), mx_ex d 188 15 [l0, l1, l2, l3] [v0] S h n = mx_ex d 188 17 [l0, l1, l2, l3] [(0, 16), v0] S h n) ∧
  (∀ (d : Nat) (b a : Int) (l0 l1 l2 l3 : Option mx_V) (S h : mx_H) (n : Int), mx_ex d 188 17 [l0, l1, l2, l3] [(0, b), (0, a)] S h n = mx_br (b < a) d 188 45 20 [l0, l1, l2, l3] [] S h n) ∧
  (∀ (d : Nat) (x : Int) (l0 l1 l3 : Option mx_V) (S h : mx_H) (n : Int), mx_ex d 188 20 [l0, l1, some (0, x), l3] [] S h n = mx_ex d 188 21 [l0, l1, some (0, x), l3] [(0, x)] S h n) ∧
  (∀ (d : Nat) (x : Int) (l1 l2 l3 : Option mx_V) (v0 : mx_V) (S h : mx_H) (n : Int), mx_ex d 188 21 [some (2, x), l1, l2, l3] [v0] S h n = mx_ex d 188 22 [some (2, x), l1, l2, l3] [(2, x), v0] S h n) ∧
  (∀ (d : Nat) (x : Int) (l0 l2 l3 : Option mx_V) (v0 v1 : mx_V) (S h : mx_H) (n : Int), mx_ex d 188 22 [l0, some (0, x), l2, l3] [v0, v1] S h n = mx_ex d 188 23 [l0, some (0, x), l2, l3] [(0, x), v0, v1] S h n) ∧
  (∀ (d : Nat) (x : Int) (l0 l1 l2 : Option mx_V) (v0 v1 v2 : mx_V) (S h : mx_H) (n : Int), mx_ex d 188 23 [l0, l1, l2, some (0, x)] [v0, v1, v2] S h n = mx_ex d 188 24 [l0, l1, l2, some (0, x)] [(0, x), v0, v1, v2] S h n) ∧
  (∀ (d : Nat) (x0 x1 a : Int) (l0 l1 l2 l3 : Option mx_V) (v3 : mx_V) (S h : mx_H) (n : Int), mx_ex (d + 1) 188 24 [l0, l1, l2, l3] [(0, x0), (0, x1), (2, a), v3] S h n = mx_cl (S a (-2) = 13) d 186 [(2, a), (0, x1), (0, x0)] 188 27 [l0, l1, l2, l3] [v3] S h n) ∧
  (∀ (d : Nat) (a : Int) (l0 l1 l2 l3 : Option mx_V) (v1 : mx_V) (S h : mx_H) (n : Int), mx_ex d 188 27 [l0, l1, l2, l3] [(0, a), v1] S h n = mx_br (a = 0) d 188 36 30 [l0, l1, l2, l3] [v1] S h n) ∧
  (∀ (d : Nat) (l0 l1 l2 l3 : Option mx_V) (v0 : mx_V) (S h : mx_H) (n : Int), mx_ex d 188 30 [l0, l1, l2, l3] [v0] S h n = mx_ex d 188 31 [l0, l1, l2, l3] [(0, 1), v0] S h n) ∧
  (∀ (d : Nat) (x : Int) (l0 l1 l2 : Option mx_V) (v0 v1 : mx_V) (S h : mx_H) (n : Int), mx_ex d 188 31 [l0, l1, l2, some (0, x)] [v0, v1] S h n = mx_ex d 188 32 [l0, l1, l2, some (0, x)] [(0, x), v0, v1] S h n) ∧
  (∀ (d : Nat) (b a : Int) (l0 l1 l2 l3 : Option mx_V) (v2 : mx_V) (S h : mx_H) (n : Int), mx_ex d 188 32 [l0, l1, l2, l3] [(0, b), (0, a), v2] S h n = mx_ex d 188 33 [l0, l1, l2, l3] [(0, mx_shl a b), v2] S h n) ∧
  (∀ (d : Nat) (l0 l1 l2 l3 : Option mx_V) (v0 v1 : mx_V) (S h : mx_H) (n : Int), mx_ex d 188 33 [l0, l1, l2, l3] [v0, v1] S h n = mx_ex d 188 37 [l0, l1, l2, l3] [v0, v1] S h n) ∧
  (∀ (d : Nat) (l0 l1 l2 l3 : Option mx_V) (v0 : mx_V) (S h : mx_H) (n : Int), mx_ex d 188 36 [l0, l1, l2, l3] [v0] S h n = mx_ex d 188 37 [l0, l1, l2, l3] [(0, 0), v0] S h n) ∧
  (∀ (d : Nat) (b a : Int) (l0 l1 l2 l3 : Option mx_V) (S h : mx_H) (n : Int), mx_ex d 188 37 [l0, l1, l2, l3] [(0, b), (0, a)] S h n = mx_ex d 188 38 [l0, l1, l2, l3] [(0, mx_or a b)] S h n) ∧
  (∀ (d : Nat) (x : Int) (l0 l1 l2 l3 : Option mx_V) (S h : mx_H) (n : Int), mx_ex d 188 38 [l0, l1, l2, l3] [(0, x)] S h n = mx_ex d 188 39 [l0, mx_nl l1, some (0, x), l3] [] S h n) ∧
  (∀ (d : Nat) (x : Int) (l0 l1 l2 : Option mx_V) (S h : mx_H) (n : Int), mx_ex d 188 39 [l0, l1, l2, some (0, x)] [] S h n = mx_ex d 188 42 [l0, l1, mx_nl l2, some (0, mx_w (x + 1))] [] S h n) ∧
  (∀ (d : Nat) (l0 l1 l2 l3 : Option mx_V) (S h : mx_H) (n : Int), mx_ex d 188 42 [l0, l1, l2, l3] [] S h n = mx_ex d 188 14 [l0, l1, l2, l3] [] S h n) ∧
  (∀ (d : Nat) (x : Int) (l0 l1 l3 : Option mx_V) (S h : mx_H) (n : Int), mx_ex d 188 45 [l0, l1, some (0, x), l3] [] S h n = mx_ex d 188 46 [l0, l1, some (0, x), l3] [(0, x)] S h n) ∧
  (∀ (d : Nat) (x : Int) (l0 l1 l2 l3 : Option mx_V) (S h : mx_H) (n : Int), mx_ex d 188 46 [l0, l1, l2, l3] [(0, x)] S h n = some (some (0, x), S, h, n)) :=
  ⟨by intros; exact rfl,
   by intros; exact eq_ld rfl rfl,
   by intros; exact eq_ld rfl rfl,
   by intros; exact eq_cv rfl (Nat.le_of_ble_eq_true rfl) rfl rfl rfl (Nat.le_of_ble_eq_true rfl),
   by intros; exact eq_if1 rfl,
   by intros; exact eq_push rfl,
   by intros; exact eq_ret rfl,
   by intros; exact eq_push rfl,
   by intros; exact eq_st rfl (by decide) (Nat.le_of_ble_eq_true rfl) rfl,
   by intros; exact eq_push rfl,
   by intros; exact eq_st rfl (by decide) (Nat.le_of_ble_eq_true rfl) rfl,
   by intros; exact eq_push rfl,
   by intros; exact eq_ic4 rfl,
   by intros; exact eq_ld rfl rfl,
   by intros; exact eq_ld rfl rfl,
   by intros; exact eq_ld rfl rfl,
   by intros; exact eq_ld rfl rfl,
   by intros; exact eq_cv rfl (Nat.le_of_ble_eq_true rfl) rfl rfl rfl (Nat.le_of_ble_eq_true rfl),
   by intros; exact eq_if0 rfl,
   by intros; exact eq_push rfl,
   by intros; exact eq_ld rfl rfl,
   by intros; exact eq_i2 (o := mx_shl) rfl,
   by intros; exact eq_go rfl,
   by intros; exact eq_push rfl,
   by intros; exact eq_i2 (o := mx_or) rfl,
   by intros; exact eq_st rfl (by decide) (Nat.le_of_ble_eq_true rfl) rfl,
   by intros; exact eq_inc rfl rfl rfl,
   by intros; exact eq_go rfl,
   by intros; exact eq_ld rfl rfl,
   by intros; exact eq_ret rfl⟩
theorem rw_X12_isLine :
  (∀ (d : Nat) (a0 a1 : Int) (S h : mx_H) (n : Int), mx_M d 189 [(2, a0), (0, a1)] S h n = mx_ex d 189 0 [some (2, a0), some (0, a1)] [] S h n) ∧
  (∀ (d : Nat) (x : Int) (l0 : Option mx_V) (S h : mx_H) (n : Int), mx_ex d 189 0 [l0, some (0, x)] [] S h n = mx_ex d 189 1 [l0, some (0, x)] [(0, x)] S h n) ∧
  (∀ (d : Nat) (l0 l1 : Option mx_V) (v0 : mx_V) (S h : mx_H) (n : Int), mx_ex d 189 1 [l0, l1] [v0] S h n = mx_ex d 189 2 [l0, l1] [(0, 0), v0] S h n) ∧
  (∀ (d : Nat) (x : Int) (l1 : Option mx_V) (v0 v1 : mx_V) (S h : mx_H) (n : Int), mx_ex d 189 2 [some (2, x), l1] [v0, v1] S h n = mx_ex d 189 3 [some (2, x), l1] [(2, x), v0, v1] S h n) ∧
  (∀ (d : Nat) (a : Int) (l0 l1 : Option mx_V) (v1 v2 : mx_V) (S h : mx_H) (n : Int), mx_ex d 189 3 [l0, l1] [(2, a), v1, v2] S h n = mx_gd (13 ≤ S a (-2) ∧ S a (-2) ≤ 13) d 189 6 [l0, l1] [(2, S a 0), v1, v2] S h n) ∧
  (∀ (d : Nat) (l0 l1 : Option mx_V) (v0 v1 v2 : mx_V) (S h : mx_H) (n : Int), mx_ex d 189 6 [l0, l1] [v0, v1, v2] S h n = mx_ex d 189 7 [l0, l1] [(0, 1), v0, v1, v2] S h n) ∧
  (∀ (d : Nat) (i a : Int) (l0 l1 : Option mx_V) (v2 v3 : mx_V) (S h : mx_H) (n : Int), mx_ex d 189 7 [l0, l1] [(0, i), (2, a), v2, v3] S h n = mx_gd ((S a (-2) = 20 ∨ S a (-2) = 24) ∧ 0 ≤ i ∧ i < S a (-1)) d 189 8 [l0, l1] [(0, h a i), v2, v3] S h n) ∧
  (∀ (d : Nat) (l0 l1 : Option mx_V) (v0 v1 v2 : mx_V) (S h : mx_H) (n : Int), mx_ex d 189 8 [l0, l1] [v0, v1, v2] S h n = mx_ex d 189 9 [l0, l1] [(0, 1), v0, v1, v2] S h n) ∧
  (∀ (d : Nat) (b a : Int) (l0 l1 : Option mx_V) (v2 v3 : mx_V) (S h : mx_H) (n : Int), mx_ex d 189 9 [l0, l1] [(0, b), (0, a), v2, v3] S h n = mx_ex d 189 10 [l0, l1] [(0, mx_w (a - b)), v2, v3] S h n) ∧
  (∀ (d : Nat) (x0 x1 x2 : Int) (l0 l1 : Option mx_V) (S h : mx_H) (n : Int), mx_ex (d + 1) 189 10 [l0, l1] [(0, x0), (0, x1), (0, x2)] S h n = mx_rt (mx_M d 159 [(0, x2), (0, x1), (0, x0)] S h n) (d + 1) 189 13 [l0, l1] []) ∧
  (∀ (d : Nat) (x : Int) (l0 l1 : Option mx_V) (S h : mx_H) (n : Int), mx_ex d 189 13 [l0, l1] [(0, x)] S h n = mx_re (0 ≤ x ∧ x ≤ 1) (some (0, x)) S h n) :=
  ⟨by intros; exact rfl,
   by intros; exact eq_ld rfl rfl,
   by intros; exact eq_push rfl,
   by intros; exact eq_ld rfl rfl,
   by intros; exact eq_gr rfl,
   by intros; exact eq_push rfl,
   by intros; exact eq_iald rfl,
   by intros; exact eq_push rfl,
   by intros; exact eq_i2 (o := mx_sub) rfl,
   by intros; exact eq_cs rfl (Nat.le_of_ble_eq_true rfl) rfl rfl rfl (Nat.le_of_ble_eq_true rfl),
   by intros; exact eq_rr rfl⟩
theorem rw_X12_line :
  (∀ (d : Nat) (a0 a1 a2 a3 a4 : Int) (S h : mx_H) (n : Int), mx_M d 190 [(2, a0), (0, a1), (0, a2), (0, a3), (0, a4)] S h n = mx_ex d 190 0 [some (2, a0), some (0, a1), some (0, a2), some (0, a3), some (0, a4), none, none] [] S h n) ∧
  (∀ (d : Nat) (x : Int) (l0 l2 l3 l4 l5 l6 : Option mx_V) (S h : mx_H) (n : Int), mx_ex d 190 0 [l0, some (0, x), l2, l3, l4, l5, l6] [] S h n = mx_ex d 190 1 [l0, some (0, x), l2, l3, l4, l5, l6] [(0, x)] S h n) ∧
  (∀ (d : Nat) (l0 l1 l2 l3 l4 l5 l6 : Option mx_V) (v0 : mx_V) (S h : mx_H) (n : Int), mx_ex d 190 1 [l0, l1, l2, l3, l4, l5, l6] [v0] S h n = mx_ex d 190 2 [l0, l1, l2, l3, l4, l5, l6] [(0, 0), v0] S h n) ∧
  (∀ (d : Nat) (l0 l1 l2 l3 l4 l5 l6 : Option mx_V) (v0 v1 : mx_V) (S h : mx_H) (n : Int), mx_ex d 190 2 [l0, l1, l2, l3, l4, l5, l6] [v0, v1] S h n = mx_ex d 190 3 [l0, l1, l2, l3, l4, l5, l6] [(0, 3), v0, v1] S h n) ∧
  (∀ (d : Nat) (x0 x1 x2 : Int) (l0 l1 l2 l3 l4 l5 l6 : Option mx_V) (S h : mx_H) (n : Int), mx_ex (d + 1) 190 3 [l0, l1, l2, l3, l4, l5, l6] [(0, x0), (0, x1), (0, x2)] S h n = mx_rt (mx_M d 159 [(0, x2), (0, x1), (0, x0)] S h n) (d + 1) 190 6 [l0, l1, l2, l3, l4, l5, l6] []) ∧
  (∀ (d : Nat) (a : Int) (l0 l1 l2 l3 l4 l5 l6 : Option mx_V) (S h : mx_H) (n : Int), mx_ex d 190 6 [l0, l1, l2, l3, l4, l5, l6] [(0, a)] S h n = mx_br (a = 0) d 190 34 9 [l0, l1, l2, l3, l4, l5, l6] [] S h n) ∧
  (∀ (d : Nat) (x : Int) (l1 l2 l3 l4 l5 l6 : Option mx_V) (S h : mx_H) (n : Int), mx_ex d 190 9 [some (2, x), l1, l2, l3, l4, l5, l6] [] S h n = mx_ex d 190 10 [some (2, x), l1, l2, l3, l4, l5, l6] [(2, x)] S h n) ∧
  (∀ (d : Nat) (x : Int) (l0 l1 l3 l4 l5 l6 : Option mx_V) (v0 : mx_V) (S h : mx_H) (n : Int), mx_ex d 190 10 [l0, l1, some (0, x), l3, l4, l5, l6] [v0] S h n = mx_ex d 190 11 [l0, l1, some (0, x), l3, l4, l5, l6] [(0, x), v0] S h n) ∧
  (∀ (d : Nat) (x0 a : Int) (l0 l1 l2 l3 l4 l5 l6 : Option mx_V) (S h : mx_H) (n : Int), mx_ex (d + 1) 190 11 [l0, l1, l2, l3, l4, l5, l6] [(0, x0), (2, a)] S h n = mx_cl (S a (-2) = 13) d 160 [(2, a), (0, x0)] 190 14 [l0, l1, l2, l3, l4, l5, l6] [] S h n) ∧
  (∀ (d : Nat) (a : Int) (l0 l1 l2 l3 l4 l5 l6 : Option mx_V) (S h : mx_H) (n : Int), mx_ex d 190 14 [l0, l1, l2, l3, l4, l5, l6] [(0, a)] S h n = mx_br (a = 0) d 190 34 17 [l0, l1, l2, l3, l4, l5, l6] [] S h n) ∧
  (∀ (d : Nat) (x : Int) (l0 l2 l3 l4 l5 l6 : Option mx_V) (S h : mx_H) (n : Int), mx_ex d 190 17 [l0, some (0, x), l2, l3, l4, l5, l6] [] S h n = mx_ex d 190 18 [l0, some (0, x), l2, l3, l4, l5, l6] [(0, x)] S h n) ∧
  (∀ (d : Nat) (l0 l1 l2 l3 l4 l5 l6 : Option mx_V) (v0 : mx_V) (S h : mx_H) (n : Int), mx_ex d 190 18 [l0, l1, l2, l3, l4, l5, l6] [v0] S h n = mx_ex d 190 19 [l0, l1, l2, l3, l4, l5, l6] [(0, 3), v0] S h n) ∧
  (∀ (d : Nat) (b a : Int) (l0 l1 l2 l3 l4 l5 l6 : Option mx_V) (S h : mx_H) (n : Int), mx_ex d 190 19 [l0, l1, l2, l3, l4, l5, l6] [(0, b), (0, a)] S h n = mx_br (a = b) d 190 30 22 [l0, l1, l2, l3, l4, l5, l6] [] S h n) ∧
  (∀ (d : Nat) (x : Int) (l1 l2 l3 l4 l5 l6 : Option mx_V) (S h : mx_H) (n : Int), mx_ex d 190 22 [some (2, x), l1, l2, l3, l4, l5, l6] [] S h n = mx_ex d 190 23 [some (2, x), l1, l2, l3, l4, l5, l6] [(2, x)] S h n) ∧
  (∀ (d : Nat) (x : Int) (l0 l1 l2 l4 l5 l6 : Option mx_V) (v0 : mx_V) (S h : mx_H) (n : Int), mx_ex d 190 23 [l0, l1, l2, some (0, x), l4, l5, l6] [v0] S h n = mx_ex d 190 24 [l0, l1, l2, some (0, x), l4, l5, l6] [(0, x), v0] S h n) ∧
  (∀ (d : Nat) (x0 a : Int) (l0 l1 l2 l3 l4 l5 l6 : Option mx_V) (S h : mx_H) (n : Int), mx_ex (d + 1) 190 24 [l0, l1, l2, l3, l4, l5, l6] [(0, x0), (2, a)] S h n = mx_cl (S a (-2) = 13) d 160 [(2, a), (0, x0)] 190 27 [l0, l1, l2, l3, l4, l5, l6] [] S h n) ∧
  (∀ (d : Nat) (a : Int) (l0 l1 l2 l3 l4 l5 l6 : Option mx_V) (S h : mx_H) (n : Int), mx_ex d 190 27 [l0, l1, l2, l3, l4, l5, l6] [(0, a)] S h n = mx_br (a = 0) d 190 34 30 [l0, l1, l2, l3, l4, l5, l6] [] S h n) ∧
  (∀ (d : Nat) (l0 l1 l2 l3 l4 l5 l6 : Option mx_V) (S h : mx_H) (n : Int), mx_ex d 190 30 [l0, l1, l2, l3, l4, l5, l6] [] S h n = mx_ex d 190 31 [l0, l1, l2, l3, l4, l5, l6] [(0, 1)] S h n) ∧
  (∀ (d : Nat) (l0 l1 l2 l3 l4 l5 l6 : Option mx_V) (v0 : mx_V) (S h : mx_H) (n : Int), mx_ex d 190 31 [l0, l1, l2, l3, l4, l5, l6] [v0] S h n = mx_ex d 190 35 [l0, l1, l2, l3, l4, l5, l6] [v0] S h n) ∧
  (∀ (d : Nat) (l0 l1 l2 l3 l4 l5 l6 : Option mx_V) (S h : mx_H) (n : Int), mx_ex d 190 34 [l0, l1, l2, l3, l4, l5, l6] [] S h n = mx_ex d 190 35 [l0, l1, l2, l3, l4, l5, l6] [(0, 0)] S h n) ∧
  (∀ (d : Nat) (x : Int) (l0 l1 l2 l3 l4 l5 l6 : Option mx_V) (S h : mx_H) (n : Int), mx_ex d 190 35 [l0, l1, l2, l3, l4, l5, l6] [(0, x)] S h n = mx_ex d 190 37 [l0, l1, l2, l3, mx_nl l4, some (0, x), l6] [] S h n) ∧
  (∀ (d : Nat) (x : Int) (l0 l1 l2 l3 l4 l6 : Option mx_V) (S h : mx_H) (n : Int), mx_ex d 190 37 [l0, l1, l2, l3, l4, some (0, x), l6] [] S h n = mx_ex d 190 39 [l0, l1, l2, l3, l4, some (0, x), l6] [(0, x)] S h n) ∧
  (∀ (d : Nat) (a : Int) (l0 l1 l2 l3 l4 l5 l6 : Option mx_V) (S h : mx_H) (n : Int), mx_ex d 190 39 [l0, l1, l2, l3, l4, l5, l6] [(0, a)] S h n = mx_br (a = 0) d 190 72 42 [l0, l1, l2, l3, l4, l5, l6] [] S h n) ∧
  (∀ (d : Nat) (x : Int) (l0 l2 l3 l4 l5 l6 : Option mx_V) (S h : mx_H) (n : Int), mx_ex d 190 42 [l0, some (0, x), l2, l3, l4, l5, l6] [] S h n = mx_ex d 190 43 [l0, some (0, x), l2, l3, l4, l5, l6] [(0, x)] S h n) ∧
  (∀ (d : Nat) (l0 l1 l2 l3 l4 l5 l6 : Option mx_V) (v0 : mx_V) (S h : mx_H) (n : Int), mx_ex d 190 43 [l0, l1, l2, l3, l4, l5, l6] [v0] S h n = mx_ex d 190 44 [l0, l1, l2, l3, l4, l5, l6] [(0, 2), v0] S h n) ∧
  (∀ (d : Nat) (b a : Int) (l0 l1 l2 l3 l4 l5 l6 : Option mx_V) (S h : mx_H) (n : Int), mx_ex d 190 44 [l0, l1, l2, l3, l4, l5, l6] [(0, b), (0, a)] S h n = mx_br (a = b) d 190 47 56 [l0, l1, l2, l3, l4, l5, l6] [] S h n) ∧
  (∀ (d : Nat) (x : Int) (l1 l2 l3 l4 l5 l6 : Option mx_V) (S h : mx_H) (n : Int), mx_ex d 190 47 [some (2, x), l1, l2, l3, l4, l5, l6] [] S h n = mx_ex d 190 48 [some (2, x), l1, l2, l3, l4, l5, l6] [(2, x)] S h n) ∧
  (∀ (d : Nat) (x : Int) (l0 l1 l2 l3 l5 l6 : Option mx_V) (v0 : mx_V) (S h : mx_H) (n : Int), mx_ex d 190 48 [l0, l1, l2, l3, some (0, x), l5, l6] [v0] S h n = mx_ex d 190 50 [l0, l1, l2, l3, some (0, x), l5, l6] [(0, x), v0] S h n) ∧
  (∀ (d : Nat) (x0 a : Int) (l0 l1 l2 l3 l4 l5 l6 : Option mx_V) (S h : mx_H) (n : Int), mx_ex (d + 1) 190 50 [l0, l1, l2, l3, l4, l5, l6] [(0, x0), (2, a)] S h n = mx_cl (S a (-2) = 13) d 160 [(2, a), (0, x0)] 190 53 [l0, l1, l2, l3, l4, l5, l6] [] S h n) ∧
  (∀ (d : Nat) (a : Int) (l0 l1 l2 l3 l4 l5 l6 : Option mx_V) (S h : mx_H) (n : Int), mx_ex d 190 53 [l0, l1, l2, l3, l4, l5, l6] [(0, a)] S h n = mx_br (a = 0) d 190 72 56 [l0, l1, l2, l3, l4, l5, l6] [] S h n) ∧
  (∀ (d : Nat) (x : Int) (l0 l2 l3 l4 l5 l6 : Option mx_V) (S h : mx_H) (n : Int), mx_ex d 190 56 [l0, some (0, x), l2, l3, l4, l5, l6] [] S h n = mx_ex d 190 57 [l0, some (0, x), l2, l3, l4, l5, l6] [(0, x)] S h n) ∧
  (∀ (d : Nat) (l0 l1 l2 l3 l4 l5 l6 : Option mx_V) (v0 : mx_V) (S h : mx_H) (n : Int), mx_ex d 190 57 [l0, l1, l2, l3, l4, l5, l6] [v0] S h n = mx_ex d 190 58 [l0, l1, l2, l3, l4, l5, l6] [(0, 3), v0] S h n) ∧
  (∀ (d : Nat) (b a : Int) (l0 l1 l2 l3 l4 l5 l6 : Option mx_V) (S h : mx_H) (n : Int), mx_ex d 190 58 [l0, l1, l2, l3, l4, l5, l6] [(0, b), (0, a)] S h n = mx_br (a = b) d 190 61 74 [l0, l1, l2, l3, l4, l5, l6] [] S h n) ∧
  (∀ (d : Nat) (x : Int) (l0 l1 l2 l3 l5 l6 : Option mx_V) (S h : mx_H) (n : Int), mx_ex d 190 61 [l0, l1, l2, l3, some (0, x), l5, l6] [] S h n = mx_ex d 190 63 [l0, l1, l2, l3, some (0, x), l5, l6] [(0, x)] S h n) ∧
  (∀ (d : Nat) (l0 l1 l2 l3 l4 l5 l6 : Option mx_V) (v0 : mx_V) (S h : mx_H) (n : Int), mx_ex d 190 63 [l0, l1, l2, l3, l4, l5, l6] [v0] S h n = mx_ex d 190 64 [l0, l1, l2, l3, l4, l5, l6] [(0, 1), v0] S h n) ∧
  (∀ (d : Nat) (l0 l1 l2 l3 l4 l5 l6 : Option mx_V) (v0 v1 : mx_V) (S h : mx_H) (n : Int), mx_ex d 190 64 [l0, l1, l2, l3, l4, l5, l6] [v0, v1] S h n = mx_ex d 190 66 [l0, l1, l2, l3, l4, l5, l6] [(0, 99), v0, v1] S h n) ∧
  (∀ (d : Nat) (x0 x1 x2 : Int) (l0 l1 l2 l3 l4 l5 l6 : Option mx_V) (S h : mx_H) (n : Int), mx_ex (d + 1) 190 66 [l0, l1, l2, l3, l4, l5, l6] [(0, x0), (0, x1), (0, x2)] S h n = mx_rt (mx_M d 159 [(0, x2), (0, x1), (0, x0)] S h n) (d + 1) 190 69 [l0, l1, l2, l3, l4, l5, l6] []) ∧
  (∀ (d : Nat) (a : Int) (l0 l1 l2 l3 l4 l5 l6 : Option mx_V) (S h : mx_H) (n : Int), mx_ex d 190 69 [l0, l1, l2, l3, l4, l5, l6] [(0, a)] S h n = mx_br (a = 0) d 190 72 74 [l0, l1, l2, l3, l4, l5, l6] [] S h n) ∧
  (∀ (d : Nat) (l0 l1 l2 l3 l4 l5 l6 : Option mx_V) (S h : mx_H) (n : Int), mx_ex d 190 72 [l0, l1, l2, l3, l4, l5, l6] [] S h n = mx_ex d 190 73 [l0, l1, l2, l3, l4, l5, l6] [(0, (-1))] S h n) ∧
  (∀ (d : Nat) (x : Int) (l0 l1 l2 l3 l4 l5 l6 : Option mx_V) (S h : mx_H) (n : Int), mx_ex d 190 73 [l0, l1, l2, l3, l4, l5, l6] [(0, x)] S h n = some (some (0, x), S, h, n)) ∧
  (∀ (d : Nat) (x : Int) (l1 l2 l3 l4 l5 l6 : Option mx_V) (S h : mx_H) (n : Int), mx_ex d 190 74 [some (2, x), l1, l2, l3, l4, l5, l6] [] S h n = mx_ex d 190 75 [some (2, x), l1, l2, l3, l4, l5, l6] [(2, x)] S h n) ∧
  (∀ (d : Nat) (a : Int) (l0 l1 l2 l3 l4 l5 l6 : Option mx_V) (S h : mx_H) (n : Int), mx_ex d 190 75 [l0, l1, l2, l3, l4, l5, l6] [(2, a)] S h n = mx_gd (13 ≤ S a (-2) ∧ S a (-2) ≤ 13) d 190 78 [l0, l1, l2, l3, l4, l5, l6] [(2, S a 0)] S h n) ∧
  (∀ (d : Nat) (l0 l1 l2 l3 l4 l5 l6 : Option mx_V) (v0 : mx_V) (S h : mx_H) (n : Int), mx_ex d 190 78 [l0, l1, l2, l3, l4, l5, l6] [v0] S h n = mx_ex d 190 79 [l0, l1, l2, l3, l4, l5, l6] [(0, 1), v0] S h n) ∧
  (∀ (d : Nat) (i a : Int) (l0 l1 l2 l3 l4 l5 l6 : Option mx_V) (S h : mx_H) (n : Int), mx_ex d 190 79 [l0, l1, l2, l3, l4, l5, l6] [(0, i), (2, a)] S h n = mx_gd ((S a (-2) = 20 ∨ S a (-2) = 24) ∧ 0 ≤ i ∧ i < S a (-1)) d 190 80 [l0, l1, l2, l3, l4, l5, l6] [(0, h a i)] S h n) ∧
  (∀ (d : Nat) (l0 l1 l2 l3 l4 l5 l6 : Option mx_V) (v0 : mx_V) (S h : mx_H) (n : Int), mx_ex d 190 80 [l0, l1, l2, l3, l4, l5, l6] [v0] S h n = mx_ex d 190 82 [l0, l1, l2, l3, l4, l5, l6] [(0, 6), v0] S h n) ∧
  (∀ (d : Nat) (b a : Int) (l0 l1 l2 l3 l4 l5 l6 : Option mx_V) (S h : mx_H) (n : Int), mx_ex d 190 82 [l0, l1, l2, l3, l4, l5, l6] [(0, b), (0, a)] S h n = mx_br (a = b) d 190 85 88 [l0, l1, l2, l3, l4, l5, l6] [] S h n) ∧
  (∀ (d : Nat) (l0 l1 l2 l3 l4 l5 l6 : Option mx_V) (S h : mx_H) (n : Int), mx_ex d 190 85 [l0, l1, l2, l3, l4, l5, l6] [] S h n = mx_ex d 190 87 [l0, l1, l2, l3, l4, l5, l6] [(0, (-2))] S h n) ∧
  (∀ (d : Nat) (x : Int) (l0 l1 l2 l3 l4 l5 l6 : Option mx_V) (S h : mx_H) (n : Int), mx_ex d 190 87 [l0, l1, l2, l3, l4, l5, l6] [(0, x)] S h n = some (some (0, x), S, h, n)) ∧
  (∀ (d : Nat) (l0 l1 l2 l3 l4 l5 l6 : Option mx_V) (S h : mx_H) (n : Int), mx_ex d 190 88 [l0, l1, l2, l3, l4, l5, l6] [] S h n = mx_ex d 190 90 [l0, l1, l2, l3, l4, l5, l6] [(0, 69)] S h n) ∧
  (∀ (d : Nat) (l0 l1 l2 l3 l4 l5 l6 : Option mx_V) (v0 : mx_V) (S h : mx_H) (n : Int), mx_ex d 190 90 [l0, l1, l2, l3, l4, l5, l6] [v0] S h n = mx_ex d 190 91 [l0, l1, l2, l3, l4, l5, l6] [(0, 4), v0] S h n) ∧
  (∀ (d : Nat) (x : Int) (l1 l2 l3 l4 l5 l6 : Option mx_V) (v0 v1 : mx_V) (S h : mx_H) (n : Int), mx_ex d 190 91 [some (2, x), l1, l2, l3, l4, l5, l6] [v0, v1] S h n = mx_ex d 190 92 [some (2, x), l1, l2, l3, l4, l5, l6] [(2, x), v0, v1] S h n) ∧
  (∀ (d : Nat) (a : Int) (l0 l1 l2 l3 l4 l5 l6 : Option mx_V) (v1 v2 : mx_V) (S h : mx_H) (n : Int), mx_ex d 190 92 [l0, l1, l2, l3, l4, l5, l6] [(2, a), v1, v2] S h n = mx_gd (13 ≤ S a (-2) ∧ S a (-2) ≤ 13) d 190 95 [l0, l1, l2, l3, l4, l5, l6] [(2, S a 0), v1, v2] S h n) ∧
  (∀ (d : Nat) (l0 l1 l2 l3 l4 l5 l6 : Option mx_V) (v0 v1 v2 : mx_V) (S h : mx_H) (n : Int), mx_ex d 190 95 [l0, l1, l2, l3, l4, l5, l6] [v0, v1, v2] S h n = mx_ex d 190 96 [l0, l1, l2, l3, l4, l5, l6] [(0, 1), v0, v1, v2] S h n) ∧
  (∀ (d : Nat) (i a : Int) (l0 l1 l2 l3 l4 l5 l6 : Option mx_V) (v2 v3 : mx_V) (S h : mx_H) (n : Int), mx_ex d 190 96 [l0, l1, l2, l3, l4, l5, l6] [(0, i), (2, a), v2, v3] S h n = mx_gd ((S a (-2) = 20 ∨ S a (-2) = 24) ∧ 0 ≤ i ∧ i < S a (-1)) d 190 97 [l0, l1, l2, l3, l4, l5, l6] [(0, h a i), v2, v3] S h n) ∧
  (∀ (d : Nat) (b a : Int) (l0 l1 l2 l3 l4 l5 l6 : Option mx_V) (v2 : mx_V) (S h : mx_H) (n : Int), mx_ex d 190 97 [l0, l1, l2, l3, l4, l5, l6] [(0, b), (0, a), v2] S h n = mx_ex d 190 98 [l0, l1, l2, l3, l4, l5, l6] [(0, mx_w (a * b)), v2] S h n) ∧
  (∀ (d : Nat) (b a : Int) (l0 l1 l2 l3 l4 l5 l6 : Option mx_V) (S h : mx_H) (n : Int), mx_ex d 190 98 [l0, l1, l2, l3, l4, l5, l6] [(0, b), (0, a)] S h n = mx_ex d 190 99 [l0, l1, l2, l3, l4, l5, l6] [(0, mx_w (a + b))] S h n) ∧
  (∀ (d : Nat) (x : Int) (l0 l1 l2 l3 l4 l5 l6 : Option mx_V) (S h : mx_H) (n : Int), mx_ex d 190 99 [l0, l1, l2, l3, l4, l5, l6] [(0, x)] S h n = mx_ex d 190 101 [l0, l1, l2, l3, l4, mx_nl l5, some (0, x)] [] S h n) ∧
  (∀ (d : Nat) (x : Int) (l1 l2 l3 l4 l5 l6 : Option mx_V) (S h : mx_H) (n : Int), mx_ex d 190 101 [some (2, x), l1, l2, l3, l4, l5, l6] [] S h n = mx_ex d 190 102 [some (2, x), l1, l2, l3, l4, l5, l6] [(2, x)] S h n) ∧
  (∀ (d : Nat) (a : Int) (l0 l1 l2 l3 l4 l5 l6 : Option mx_V) (S h : mx_H) (n : Int), mx_ex d 190 102 [l0, l1, l2, l3, l4, l5, l6] [(2, a)] S h n = mx_gd (13 ≤ S a (-2) ∧ S a (-2) ≤ 13) d 190 105 [l0, l1, l2, l3, l4, l5, l6] [(2, S a 0)] S h n) ∧
  (∀ (d : Nat) (x : Int) (l0 l1 l2 l3 l4 l5 : Option mx_V) (v0 : mx_V) (S h : mx_H) (n : Int), mx_ex d 190 105 [l0, l1, l2, l3, l4, l5, some (0, x)] [v0] S h n = mx_ex d 190 107 [l0, l1, l2, l3, l4, l5, some (0, x)] [(0, x), v0] S h n) ∧
  (∀ (d : Nat) (x : Int) (l0 l2 l3 l4 l5 l6 : Option mx_V) (v0 v1 : mx_V) (S h : mx_H) (n : Int), mx_ex d 190 107 [l0, some (0, x), l2, l3, l4, l5, l6] [v0, v1] S h n = mx_ex d 190 108 [l0, some (0, x), l2, l3, l4, l5, l6] [(0, x), v0, v1] S h n) ∧
  (∀ (d : Nat) (v i a : Int) (l0 l1 l2 l3 l4 l5 l6 : Option mx_V) (S h : mx_H) (n : Int), mx_ex d 190 108 [l0, l1, l2, l3, l4, l5, l6] [(0, v), (0, i), (2, a)] S h n = mx_gd (S a (-2) = 20 ∧ 0 ≤ i ∧ i < S a (-1)) d 190 109 [l0, l1, l2, l3, l4, l5, l6] [] S (mx_u h a i v) n) ∧
  (∀ (d : Nat) (x : Int) (l1 l2 l3 l4 l5 l6 : Option mx_V) (S h : mx_H) (n : Int), mx_ex d 190 109 [some (2, x), l1, l2, l3, l4, l5, l6] [] S h n = mx_ex d 190 110 [some (2, x), l1, l2, l3, l4, l5, l6] [(2, x)] S h n) ∧
  (∀ (d : Nat) (a : Int) (l0 l1 l2 l3 l4 l5 l6 : Option mx_V) (S h : mx_H) (n : Int), mx_ex d 190 110 [l0, l1, l2, l3, l4, l5, l6] [(2, a)] S h n = mx_gd (13 ≤ S a (-2) ∧ S a (-2) ≤ 13) d 190 113 [l0, l1, l2, l3, l4, l5, l6] [(2, S a 0)] S h n) ∧
  (∀ (d : Nat) (x : Int) (l0 l1 l2 l3 l4 l5 : Option mx_V) (v0 : mx_V) (S h : mx_H) (n : Int), mx_ex d 190 113 [l0, l1, l2, l3, l4, l5, some (0, x)] [v0] S h n = mx_ex d 190 115 [l0, l1, l2, l3, l4, l5, some (0, x)] [(0, x), v0] S h n) ∧
  (∀ (d : Nat) (l0 l1 l2 l3 l4 l5 l6 : Option mx_V) (v0 v1 : mx_V) (S h : mx_H) (n : Int), mx_ex d 190 115 [l0, l1, l2, l3, l4, l5, l6] [v0, v1] S h n = mx_ex d 190 116 [l0, l1, l2, l3, l4, l5, l6] [(0, 1), v0, v1] S h n) ∧
  (∀ (d : Nat) (b a : Int) (l0 l1 l2 l3 l4 l5 l6 : Option mx_V) (v2 : mx_V) (S h : mx_H) (n : Int), mx_ex d 190 116 [l0, l1, l2, l3, l4, l5, l6] [(0, b), (0, a), v2] S h n = mx_ex d 190 117 [l0, l1, l2, l3, l4, l5, l6] [(0, mx_w (a + b)), v2] S h n) ∧
  (∀ (d : Nat) (x : Int) (l0 l1 l3 l4 l5 l6 : Option mx_V) (v0 v1 : mx_V) (S h : mx_H) (n : Int), mx_ex d 190 117 [l0, l1, some (0, x), l3, l4, l5, l6] [v0, v1] S h n = mx_ex d 190 118 [l0, l1, some (0, x), l3, l4, l5, l6] [(0, x), v0, v1] S h n) ∧
  (∀ (d : Nat) (v i a : Int) (l0 l1 l2 l3 l4 l5 l6 : Option mx_V) (S h : mx_H) (n : Int), mx_ex d 190 118 [l0, l1, l2, l3, l4, l5, l6] [(0, v), (0, i), (2, a)] S h n = mx_gd (S a (-2) = 20 ∧ 0 ≤ i ∧ i < S a (-1)) d 190 119 [l0, l1, l2, l3, l4, l5, l6] [] S (mx_u h a i v) n) ∧
  (∀ (d : Nat) (x : Int) (l1 l2 l3 l4 l5 l6 : Option mx_V) (S h : mx_H) (n : Int), mx_ex d 190 119 [some (2, x), l1, l2, l3, l4, l5, l6] [] S h n = mx_ex d 190 120 [some (2, x), l1, l2, l3, l4, l5, l6] [(2, x)] S h n) :=
  ⟨by intros; exact rfl,
   by intros; exact eq_ld rfl rfl,
   by intros; exact eq_push rfl,
   by intros; exact eq_push rfl,
   by intros; exact eq_cs rfl (Nat.le_of_ble_eq_true rfl) rfl rfl rfl (Nat.le_of_ble_eq_true rfl),
   by intros; exact eq_if0 rfl,
   by intros; exact eq_ld rfl rfl,
   by intros; exact eq_ld rfl rfl,
   by intros; exact eq_cv rfl (Nat.le_of_ble_eq_true rfl) rfl rfl rfl (Nat.le_of_ble_eq_true rfl),
   by intros; exact eq_if0 rfl,
   by intros; exact eq_ld rfl rfl,
   by intros; exact eq_push rfl,
   by intros; exact eq_ic0 rfl,
   by intros; exact eq_ld rfl rfl,
   by intros; exact eq_ld rfl rfl,
   by intros; exact eq_cv rfl (Nat.le_of_ble_eq_true rfl) rfl rfl rfl (Nat.le_of_ble_eq_true rfl),
   by intros; exact eq_if0 rfl,
   by intros; exact eq_push rfl,
   by intros; exact eq_go rfl,
   by intros; exact eq_push rfl,
   by intros; exact eq_st rfl (by decide) (Nat.le_of_ble_eq_true rfl) rfl,
   by intros; exact eq_ld rfl rfl,
   by intros; exact eq_if0 rfl,
   by intros; exact eq_ld rfl rfl,
   by intros; exact eq_push rfl,
   by intros; exact eq_ic1 rfl,
   by intros; exact eq_ld rfl rfl,
   by intros; exact eq_ld rfl rfl,
   by intros; exact eq_cv rfl (Nat.le_of_ble_eq_true rfl) rfl rfl rfl (Nat.le_of_ble_eq_true rfl),
   by intros; exact eq_if0 rfl,
   by intros; exact eq_ld rfl rfl,
   by intros; exact eq_push rfl,
   by intros; exact eq_ic1 rfl,
   by intros; exact eq_ld rfl rfl,
   by intros; exact eq_push rfl,
   by intros; exact eq_push rfl,
   by intros; exact eq_cs rfl (Nat.le_of_ble_eq_true rfl) rfl rfl rfl (Nat.le_of_ble_eq_true rfl),
   by intros; exact eq_if1 rfl,
   by intros; exact eq_push rfl,
   by intros; exact eq_ret rfl,
   by intros; exact eq_ld rfl rfl,
   by intros; exact eq_gr rfl,
   by intros; exact eq_push rfl,
   by intros; exact eq_iald rfl,
   by intros; exact eq_push rfl,
   by intros; exact eq_ic1 rfl,
   by intros; exact eq_push rfl,
   by intros; exact eq_ret rfl,
   by intros; exact eq_push rfl,
   by intros; exact eq_push rfl,
   by intros; exact eq_ld rfl rfl,
   by intros; exact eq_gr rfl,
   by intros; exact eq_push rfl,
   by intros; exact eq_iald rfl,
   by intros; exact eq_i2 (o := mx_mul) rfl,
   by intros; exact eq_i2 (o := mx_add) rfl,
   by intros; exact eq_st rfl (by decide) (Nat.le_of_ble_eq_true rfl) rfl,
   by intros; exact eq_ld rfl rfl,
   by intros; exact eq_gr rfl,
   by intros; exact eq_ld rfl rfl,
   by intros; exact eq_ld rfl rfl,
   by intros; exact eq_iast rfl,
   by intros; exact eq_ld rfl rfl,
   by intros; exact eq_gr rfl,
   by intros; exact eq_ld rfl rfl,
   by intros; exact eq_push rfl,
   by intros; exact eq_i2 (o := mx_add) rfl,
   by intros; exact eq_ld rfl rfl,
   by intros; exact eq_iast rfl,
   by intros; exact eq_ld rfl rfl⟩
theorem rw_X12_line_1 :
  (∀ (d : Nat) (a : Int) (l0 l1 l2 l3 l4 l5 l6 : Option mx_V) (S h : mx_H) (n : Int), mx_ex d 190 120 [l0, l1, l2, l3, l4, l5, l6] [(2, a)] S h n = mx_gd (13 ≤ S a (-2) ∧ S a (-2) ≤ 13) d 190 123 [l0, l1, l2, l3, l4, l5, l6] [(2, S a 0)] S h n) ∧
  (∀ (d : Nat) (x : Int) (l0 l1 l2 l3 l4 l5 : Option mx_V) (v0 : mx_V) (S h : mx_H) (n : Int), mx_ex d 190 123 [l0, l1, l2, l3, l4, l5, some (0, x)] [v0] S h n = mx_ex d 190 125 [l0, l1, l2, l3, l4, l5, some (0, x)] [(0, x), v0] S h n) ∧
  (∀ (d : Nat) (l0 l1 l2 l3 l4 l5 l6 : Option mx_V) (v0 v1 : mx_V) (S h : mx_H) (n : Int), mx_ex d 190 125 [l0, l1, l2, l3, l4, l5, l6] [v0, v1] S h n = mx_ex d 190 126 [l0, l1, l2, l3, l4, l5, l6] [(0, 2), v0, v1] S h n) ∧
  (∀ (d : Nat) (b a : Int) (l0 l1 l2 l3 l4 l5 l6 : Option mx_V) (v2 : mx_V) (S h : mx_H) (n : Int), mx_ex d 190 126 [l0, l1, l2, l3, l4, l5, l6] [(0, b), (0, a), v2] S h n = mx_ex d 190 127 [l0, l1, l2, l3, l4, l5, l6] [(0, mx_w (a + b)), v2] S h n) ∧
  (∀ (d : Nat) (x : Int) (l0 l2 l3 l4 l5 l6 : Option mx_V) (v0 v1 : mx_V) (S h : mx_H) (n : Int), mx_ex d 190 127 [l0, some (0, x), l2, l3, l4, l5, l6] [v0, v1] S h n = mx_ex d 190 128 [l0, some (0, x), l2, l3, l4, l5, l6] [(0, x), v0, v1] S h n) ∧
  (∀ (d : Nat) (l0 l1 l2 l3 l4 l5 l6 : Option mx_V) (v0 v1 v2 : mx_V) (S h : mx_H) (n : Int), mx_ex d 190 128 [l0, l1, l2, l3, l4, l5, l6] [v0, v1, v2] S h n = mx_ex d 190 129 [l0, l1, l2, l3, l4, l5, l6] [(0, 3), v0, v1, v2] S h n) ∧
  (∀ (d : Nat) (b a : Int) (l0 l1 l2 l3 l4 l5 l6 : Option mx_V) (v2 v3 : mx_V) (S h : mx_H) (n : Int), mx_ex d 190 129 [l0, l1, l2, l3, l4, l5, l6] [(0, b), (0, a), v2, v3] S h n = mx_br (a = b) d 190 132 136 [l0, l1, l2, l3, l4, l5, l6] [v2, v3] S h n) ∧
  (∀ (d : Nat) (l0 l1 l2 l3 l4 l5 l6 : Option mx_V) (v0 v1 : mx_V) (S h : mx_H) (n : Int), mx_ex d 190 132 [l0, l1, l2, l3, l4, l5, l6] [v0, v1] S h n = mx_ex d 190 133 [l0, l1, l2, l3, l4, l5, l6] [(0, 0), v0, v1] S h n) ∧
  (∀ (d : Nat) (l0 l1 l2 l3 l4 l5 l6 : Option mx_V) (v0 v1 v2 : mx_V) (S h : mx_H) (n : Int), mx_ex d 190 133 [l0, l1, l2, l3, l4, l5, l6] [v0, v1, v2] S h n = mx_ex d 190 137 [l0, l1, l2, l3, l4, l5, l6] [v0, v1, v2] S h n) ∧
  (∀ (d : Nat) (x : Int) (l0 l1 l2 l4 l5 l6 : Option mx_V) (v0 v1 : mx_V) (S h : mx_H) (n : Int), mx_ex d 190 136 [l0, l1, l2, some (0, x), l4, l5, l6] [v0, v1] S h n = mx_ex d 190 137 [l0, l1, l2, some (0, x), l4, l5, l6] [(0, x), v0, v1] S h n) ∧
  (∀ (d : Nat) (v i a : Int) (l0 l1 l2 l3 l4 l5 l6 : Option mx_V) (S h : mx_H) (n : Int), mx_ex d 190 137 [l0, l1, l2, l3, l4, l5, l6] [(0, v), (0, i), (2, a)] S h n = mx_gd (S a (-2) = 20 ∧ 0 ≤ i ∧ i < S a (-1)) d 190 138 [l0, l1, l2, l3, l4, l5, l6] [] S (mx_u h a i v) n) ∧
  (∀ (d : Nat) (x : Int) (l1 l2 l3 l4 l5 l6 : Option mx_V) (S h : mx_H) (n : Int), mx_ex d 190 138 [some (2, x), l1, l2, l3, l4, l5, l6] [] S h n = mx_ex d 190 139 [some (2, x), l1, l2, l3, l4, l5, l6] [(2, x)] S h n) ∧
  (∀ (d : Nat) (a : Int) (l0 l1 l2 l3 l4 l5 l6 : Option mx_V) (S h : mx_H) (n : Int), mx_ex d 190 139 [l0, l1, l2, l3, l4, l5, l6] [(2, a)] S h n = mx_gd (13 ≤ S a (-2) ∧ S a (-2) ≤ 13) d 190 142 [l0, l1, l2, l3, l4, l5, l6] [(2, S a 0)] S h n) ∧
  (∀ (d : Nat) (x : Int) (l0 l1 l2 l3 l4 l5 : Option mx_V) (v0 : mx_V) (S h : mx_H) (n : Int), mx_ex d 190 142 [l0, l1, l2, l3, l4, l5, some (0, x)] [v0] S h n = mx_ex d 190 144 [l0, l1, l2, l3, l4, l5, some (0, x)] [(0, x), v0] S h n) ∧
  (∀ (d : Nat) (l0 l1 l2 l3 l4 l5 l6 : Option mx_V) (v0 v1 : mx_V) (S h : mx_H) (n : Int), mx_ex d 190 144 [l0, l1, l2, l3, l4, l5, l6] [v0, v1] S h n = mx_ex d 190 145 [l0, l1, l2, l3, l4, l5, l6] [(0, 3), v0, v1] S h n) ∧
  (∀ (d : Nat) (b a : Int) (l0 l1 l2 l3 l4 l5 l6 : Option mx_V) (v2 : mx_V) (S h : mx_H) (n : Int), mx_ex d 190 145 [l0, l1, l2, l3, l4, l5, l6] [(0, b), (0, a), v2] S h n = mx_ex d 190 146 [l0, l1, l2, l3, l4, l5, l6] [(0, mx_w (a + b)), v2] S h n) ∧
  (∀ (d : Nat) (x : Int) (l0 l2 l3 l4 l5 l6 : Option mx_V) (v0 v1 : mx_V) (S h : mx_H) (n : Int), mx_ex d 190 146 [l0, some (0, x), l2, l3, l4, l5, l6] [v0, v1] S h n = mx_ex d 190 147 [l0, some (0, x), l2, l3, l4, l5, l6] [(0, x), v0, v1] S h n) ∧
  (∀ (d : Nat) (l0 l1 l2 l3 l4 l5 l6 : Option mx_V) (v0 v1 v2 : mx_V) (S h : mx_H) (n : Int), mx_ex d 190 147 [l0, l1, l2, l3, l4, l5, l6] [v0, v1, v2] S h n = mx_ex d 190 148 [l0, l1, l2, l3, l4, l5, l6] [(0, 2), v0, v1, v2] S h n) ∧
  (∀ (d : Nat) (b a : Int) (l0 l1 l2 l3 l4 l5 l6 : Option mx_V) (v2 v3 : mx_V) (S h : mx_H) (n : Int), mx_ex d 190 148 [l0, l1, l2, l3, l4, l5, l6] [(0, b), (0, a), v2, v3] S h n = mx_br (a = b) d 190 156 151 [l0, l1, l2, l3, l4, l5, l6] [v2, v3] S h n) ∧
  (∀ (d : Nat) (x : Int) (l0 l2 l3 l4 l5 l6 : Option mx_V) (v0 v1 : mx_V) (S h : mx_H) (n : Int), mx_ex d 190 151 [l0, some (0, x), l2, l3, l4, l5, l6] [v0, v1] S h n = mx_ex d 190 152 [l0, some (0, x), l2, l3, l4, l5, l6] [(0, x), v0, v1] S h n) ∧
  (∀ (d : Nat) (l0 l1 l2 l3 l4 l5 l6 : Option mx_V) (v0 v1 v2 : mx_V) (S h : mx_H) (n : Int), mx_ex d 190 152 [l0, l1, l2, l3, l4, l5, l6] [v0, v1, v2] S h n = mx_ex d 190 153 [l0, l1, l2, l3, l4, l5, l6] [(0, 3), v0, v1, v2] S h n) ∧
  (∀ (d : Nat) (b a : Int) (l0 l1 l2 l3 l4 l5 l6 : Option mx_V) (v2 v3 : mx_V) (S h : mx_H) (n : Int), mx_ex d 190 153 [l0, l1, l2, l3, l4, l5, l6] [(0, b), (0, a), v2, v3] S h n = mx_br (a = b) d 190 156 161 [l0, l1, l2, l3, l4, l5, l6] [v2, v3] S h n) ∧
  (∀ (d : Nat) (x : Int) (l0 l1 l2 l3 l5 l6 : Option mx_V) (v0 v1 : mx_V) (S h : mx_H) (n : Int), mx_ex d 190 156 [l0, l1, l2, l3, some (0, x), l5, l6] [v0, v1] S h n = mx_ex d 190 158 [l0, l1, l2, l3, some (0, x), l5, l6] [(0, x), v0, v1] S h n) ∧
  (∀ (d : Nat) (l0 l1 l2 l3 l4 l5 l6 : Option mx_V) (v0 v1 v2 : mx_V) (S h : mx_H) (n : Int), mx_ex d 190 158 [l0, l1, l2, l3, l4, l5, l6] [v0, v1, v2] S h n = mx_ex d 190 162 [l0, l1, l2, l3, l4, l5, l6] [v0, v1, v2] S h n) ∧
  (∀ (d : Nat) (l0 l1 l2 l3 l4 l5 l6 : Option mx_V) (v0 v1 : mx_V) (S h : mx_H) (n : Int), mx_ex d 190 161 [l0, l1, l2, l3, l4, l5, l6] [v0, v1] S h n = mx_ex d 190 162 [l0, l1, l2, l3, l4, l5, l6] [(0, 0), v0, v1] S h n) ∧
  (∀ (d : Nat) (v i a : Int) (l0 l1 l2 l3 l4 l5 l6 : Option mx_V) (S h : mx_H) (n : Int), mx_ex d 190 162 [l0, l1, l2, l3, l4, l5, l6] [(0, v), (0, i), (2, a)] S h n = mx_gd (S a (-2) = 20 ∧ 0 ≤ i ∧ i < S a (-1)) d 190 163 [l0, l1, l2, l3, l4, l5, l6] [] S (mx_u h a i v) n) ∧
  (∀ (d : Nat) (x : Int) (l1 l2 l3 l4 l5 l6 : Option mx_V) (S h : mx_H) (n : Int), mx_ex d 190 163 [some (2, x), l1, l2, l3, l4, l5, l6] [] S h n = mx_ex d 190 164 [some (2, x), l1, l2, l3, l4, l5, l6] [(2, x)] S h n) ∧
  (∀ (d : Nat) (a : Int) (l0 l1 l2 l3 l4 l5 l6 : Option mx_V) (S h : mx_H) (n : Int), mx_ex d 190 164 [l0, l1, l2, l3, l4, l5, l6] [(2, a)] S h n = mx_gd (13 ≤ S a (-2) ∧ S a (-2) ≤ 13) d 190 167 [l0, l1, l2, l3, l4, l5, l6] [(2, S a 0)] S h n) ∧
  (∀ (d : Nat) (l0 l1 l2 l3 l4 l5 l6 : Option mx_V) (v0 : mx_V) (S h : mx_H) (n : Int), mx_ex d 190 167 [l0, l1, l2, l3, l4, l5, l6] [v0] S h n = mx_ex d 190 168 [l0, l1, l2, l3, l4, l5, l6] [(0, 1), v0] S h n) ∧
  (∀ (d : Nat) (a b : Int) (l0 l1 l2 l3 l4 l5 l6 : Option mx_V) (S h : mx_H) (n : Int), mx_ex d 190 168 [l0, l1, l2, l3, l4, l5, l6] [(0, a), (2, b)] S h n = mx_ex d 190 169 [l0, l1, l2, l3, l4, l5, l6] [(0, a), (2, b), (0, a), (2, b)] S h n) ∧
  (∀ (d : Nat) (i a : Int) (l0 l1 l2 l3 l4 l5 l6 : Option mx_V) (v2 v3 : mx_V) (S h : mx_H) (n : Int), mx_ex d 190 169 [l0, l1, l2, l3, l4, l5, l6] [(0, i), (2, a), v2, v3] S h n = mx_gd ((S a (-2) = 20 ∨ S a (-2) = 24) ∧ 0 ≤ i ∧ i < S a (-1)) d 190 170 [l0, l1, l2, l3, l4, l5, l6] [(0, h a i), v2, v3] S h n) ∧
  (∀ (d : Nat) (l0 l1 l2 l3 l4 l5 l6 : Option mx_V) (v0 v1 v2 : mx_V) (S h : mx_H) (n : Int), mx_ex d 190 170 [l0, l1, l2, l3, l4, l5, l6] [v0, v1, v2] S h n = mx_ex d 190 171 [l0, l1, l2, l3, l4, l5, l6] [(0, 1), v0, v1, v2] S h n) ∧
  (∀ (d : Nat) (b a : Int) (l0 l1 l2 l3 l4 l5 l6 : Option mx_V) (v2 v3 : mx_V) (S h : mx_H) (n : Int), mx_ex d 190 171 [l0, l1, l2, l3, l4, l5, l6] [(0, b), (0, a), v2, v3] S h n = mx_ex d 190 172 [l0, l1, l2, l3, l4, l5, l6] [(0, mx_w (a + b)), v2, v3] S h n) ∧
  (∀ (d : Nat) (v i a : Int) (l0 l1 l2 l3 l4 l5 l6 : Option mx_V) (S h : mx_H) (n : Int), mx_ex d 190 172 [l0, l1, l2, l3, l4, l5, l6] [(0, v), (0, i), (2, a)] S h n = mx_gd (S a (-2) = 20 ∧ 0 ≤ i ∧ i < S a (-1)) d 190 173 [l0, l1, l2, l3, l4, l5, l6] [] S (mx_u h a i v) n) ∧
  (∀ (d : Nat) (x : Int) (l1 l2 l3 l4 l5 l6 : Option mx_V) (S h : mx_H) (n : Int), mx_ex d 190 173 [some (2, x), l1, l2, l3, l4, l5, l6] [] S h n = mx_ex d 190 174 [some (2, x), l1, l2, l3, l4, l5, l6] [(2, x)] S h n) ∧
  (∀ (d : Nat) (a : Int) (l0 l1 l2 l3 l4 l5 l6 : Option mx_V) (S h : mx_H) (n : Int), mx_ex d 190 174 [l0, l1, l2, l3, l4, l5, l6] [(2, a)] S h n = mx_gd (13 ≤ S a (-2) ∧ S a (-2) ≤ 13) d 190 177 [l0, l1, l2, l3, l4, l5, l6] [(2, S a 0)] S h n) ∧
  (∀ (d : Nat) (l0 l1 l2 l3 l4 l5 l6 : Option mx_V) (v0 : mx_V) (S h : mx_H) (n : Int), mx_ex d 190 177 [l0, l1, l2, l3, l4, l5, l6] [v0] S h n = mx_ex d 190 178 [l0, l1, l2, l3, l4, l5, l6] [(0, 1), v0] S h n) ∧
  (∀ (d : Nat) (i a : Int) (l0 l1 l2 l3 l4 l5 l6 : Option mx_V) (S h : mx_H) (n : Int), mx_ex d 190 178 [l0, l1, l2, l3, l4, l5, l6] [(0, i), (2, a)] S h n = mx_gd ((S a (-2) = 20 ∨ S a (-2) = 24) ∧ 0 ≤ i ∧ i < S a (-1)) d 190 179 [l0, l1, l2, l3, l4, l5, l6] [(0, h a i)] S h n) ∧
  (∀ (d : Nat) (l0 l1 l2 l3 l4 l5 l6 : Option mx_V) (v0 : mx_V) (S h : mx_H) (n : Int), mx_ex d 190 179 [l0, l1, l2, l3, l4, l5, l6] [v0] S h n = mx_ex d 190 180 [l0, l1, l2, l3, l4, l5, l6] [(0, 1), v0] S h n) ∧
  (∀ (d : Nat) (b a : Int) (l0 l1 l2 l3 l4 l5 l6 : Option mx_V) (S h : mx_H) (n : Int), mx_ex d 190 180 [l0, l1, l2, l3, l4, l5, l6] [(0, b), (0, a)] S h n = mx_ex d 190 181 [l0, l1, l2, l3, l4, l5, l6] [(0, mx_w (a - b))] S h n) ∧
  (∀ (d : Nat) (x : Int) (l0 l1 l2 l3 l4 l5 l6 : Option mx_V) (S h : mx_H) (n : Int), mx_ex d 190 181 [l0, l1, l2, l3, l4, l5, l6] [(0, x)] S h n = some (some (0, x), S, h, n)) :=
  ⟨by intros; exact eq_gr rfl,
   by intros; exact eq_ld rfl rfl,
   by intros; exact eq_push rfl,
   by intros; exact eq_i2 (o := mx_add) rfl,
   by intros; exact eq_ld rfl rfl,
   by intros; exact eq_push rfl,
   by intros; exact eq_ic1 rfl,
   by intros; exact eq_push rfl,
   by intros; exact eq_go rfl,
   by intros; exact eq_ld rfl rfl,
   by intros; exact eq_iast rfl,
   by intros; exact eq_ld rfl rfl,
   by intros; exact eq_gr rfl,
   by intros; exact eq_ld rfl rfl,
   by intros; exact eq_push rfl,
   by intros; exact eq_i2 (o := mx_add) rfl,
   by intros; exact eq_ld rfl rfl,
   by intros; exact eq_push rfl,
   by intros; exact eq_ic0 rfl,
   by intros; exact eq_ld rfl rfl,
   by intros; exact eq_push rfl,
   by intros; exact eq_ic1 rfl,
   by intros; exact eq_ld rfl rfl,
   by intros; exact eq_go rfl,
   by intros; exact eq_push rfl,
   by intros; exact eq_iast rfl,
   by intros; exact eq_ld rfl rfl,
   by intros; exact eq_gr rfl,
   by intros; exact eq_push rfl,
   by intros; exact eq_dup2 rfl (by decide) (by decide),
   by intros; exact eq_iald rfl,
   by intros; exact eq_push rfl,
   by intros; exact eq_i2 (o := mx_add) rfl,
   by intros; exact eq_iast rfl,
   by intros; exact eq_ld rfl rfl,
   by intros; exact eq_gr rfl,
   by intros; exact eq_push rfl,
   by intros; exact eq_iald rfl,
   by intros; exact eq_push rfl,
   by intros; exact eq_i2 (o := mx_sub) rfl,
   by intros; exact eq_ret rfl⟩
theorem rw_X12_lineOf :
  (∀ (d : Nat) (a0 a1 a2 : Int) (S h : mx_H) (n : Int), mx_M d 191 [(2, a0), (0, a1), (0, a2)] S h n = mx_ex d 191 0 [some (2, a0), some (0, a1), some (0, a2)] [] S h n) ∧
  (∀ (d : Nat) (x : Int) (l1 l2 : Option mx_V) (S h : mx_H) (n : Int), mx_ex d 191 0 [some (2, x), l1, l2] [] S h n = mx_ex d 191 1 [some (2, x), l1, l2] [(2, x)] S h n) ∧
  (∀ (d : Nat) (x : Int) (l0 l2 : Option mx_V) (v0 : mx_V) (S h : mx_H) (n : Int), mx_ex d 191 1 [l0, some (0, x), l2] [v0] S h n = mx_ex d 191 2 [l0, some (0, x), l2] [(0, x), v0] S h n) ∧
  (∀ (d : Nat) (x0 a : Int) (l0 l1 l2 : Option mx_V) (S h : mx_H) (n : Int), mx_ex (d + 1) 191 2 [l0, l1, l2] [(0, x0), (2, a)] S h n = mx_cl (S a (-2) = 13) d 189 [(2, a), (0, x0)] 191 5 [l0, l1, l2] [] S h n) ∧
  (∀ (d : Nat) (a : Int) (l0 l1 l2 : Option mx_V) (S h : mx_H) (n : Int), mx_ex d 191 5 [l0, l1, l2] [(0, a)] S h n = mx_br (a = 0) d 191 26 8 [l0, l1, l2] [] S h n) ∧
  (∀ (d : Nat) (x : Int) (l0 l1 : Option mx_V) (S h : mx_H) (n : Int), mx_ex d 191 8 [l0, l1, some (0, x)] [] S h n = mx_ex d 191 9 [l0, l1, some (0, x)] [(0, x)] S h n) ∧
  (∀ (d : Nat) (l0 l1 l2 : Option mx_V) (v0 : mx_V) (S h : mx_H) (n : Int), mx_ex d 191 9 [l0, l1, l2] [v0] S h n = mx_ex d 191 10 [l0, l1, l2] [(0, 0), v0] S h n) ∧
  (∀ (d : Nat) (l0 l1 l2 : Option mx_V) (v0 v1 : mx_V) (S h : mx_H) (n : Int), mx_ex d 191 10 [l0, l1, l2] [v0, v1] S h n = mx_ex d 191 11 [l0, l1, l2] [(0, 3), v0, v1] S h n) ∧
  (∀ (d : Nat) (x0 x1 x2 : Int) (l0 l1 l2 : Option mx_V) (S h : mx_H) (n : Int), mx_ex (d + 1) 191 11 [l0, l1, l2] [(0, x0), (0, x1), (0, x2)] S h n = mx_rt (mx_M d 159 [(0, x2), (0, x1), (0, x0)] S h n) (d + 1) 191 14 [l0, l1, l2] []) ∧
  (∀ (d : Nat) (a : Int) (l0 l1 l2 : Option mx_V) (S h : mx_H) (n : Int), mx_ex d 191 14 [l0, l1, l2] [(0, a)] S h n = mx_br (a = 0) d 191 26 17 [l0, l1, l2] [] S h n) ∧
  (∀ (d : Nat) (x : Int) (l1 l2 : Option mx_V) (S h : mx_H) (n : Int), mx_ex d 191 17 [some (2, x), l1, l2] [] S h n = mx_ex d 191 18 [some (2, x), l1, l2] [(2, x)] S h n) ∧
  (∀ (d : Nat) (x : Int) (l0 l2 : Option mx_V) (v0 : mx_V) (S h : mx_H) (n : Int), mx_ex d 191 18 [l0, some (0, x), l2] [v0] S h n = mx_ex d 191 19 [l0, some (0, x), l2] [(0, x), v0] S h n) ∧
  (∀ (d : Nat) (x : Int) (l0 l1 : Option mx_V) (v0 v1 : mx_V) (S h : mx_H) (n : Int), mx_ex d 191 19 [l0, l1, some (0, x)] [v0, v1] S h n = mx_ex d 191 20 [l0, l1, some (0, x)] [(0, x), v0, v1] S h n) ∧
  (∀ (d : Nat) (x0 x1 a : Int) (l0 l1 l2 : Option mx_V) (S h : mx_H) (n : Int), mx_ex (d + 1) 191 20 [l0, l1, l2] [(0, x0), (0, x1), (2, a)] S h n = mx_cl (S a (-2) = 13) d 164 [(2, a), (0, x1), (0, x0)] 191 23 [l0, l1, l2] [] S h n) ∧
  (∀ (d : Nat) (l0 l1 l2 : Option mx_V) (v0 : mx_V) (S h : mx_H) (n : Int), mx_ex d 191 23 [l0, l1, l2] [v0] S h n = mx_ex d 191 27 [l0, l1, l2] [v0] S h n) ∧
  (∀ (d : Nat) (l0 l1 l2 : Option mx_V) (S h : mx_H) (n : Int), mx_ex d 191 26 [l0, l1, l2] [] S h n = mx_ex d 191 27 [l0, l1, l2] [(0, (-1))] S h n) ∧
  (∀ (d : Nat) (x : Int) (l0 l1 l2 : Option mx_V) (S h : mx_H) (n : Int), mx_ex d 191 27 [l0, l1, l2] [(0, x)] S h n = some (some (0, x), S, h, n)) :=
  ⟨by intros; exact rfl,
   by intros; exact eq_ld rfl rfl,
   by intros; exact eq_ld rfl rfl,
   by intros; exact eq_cv rfl (Nat.le_of_ble_eq_true rfl) rfl rfl rfl (Nat.le_of_ble_eq_true rfl),
   by intros; exact eq_if0 rfl,
   by intros; exact eq_ld rfl rfl,
   by intros; exact eq_push rfl,
   by intros; exact eq_push rfl,
   by intros; exact eq_cs rfl (Nat.le_of_ble_eq_true rfl) rfl rfl rfl (Nat.le_of_ble_eq_true rfl),
   by intros; exact eq_if0 rfl,
   by intros; exact eq_ld rfl rfl,
   by intros; exact eq_ld rfl rfl,
   by intros; exact eq_ld rfl rfl,
   by intros; exact eq_cv rfl (Nat.le_of_ble_eq_true rfl) rfl rfl rfl (Nat.le_of_ble_eq_true rfl),
   by intros; exact eq_go rfl,
   by intros; exact eq_push rfl,
   by intros; exact eq_ret rfl⟩
theorem rh_X12_strike_27 : ∀ (d : Nat) (x : Int) (l0 l1 : Option mx_V) (S h : mx_H) (n : Int), mx_ex d 192 27 [l0, l1, some (0, x)] [] S h n = mx_ex d 192 28 [l0, l1, some (0, x)] [(0, x)] S h n := by intros; exact eq_ld rfl rfl
theorem rw_X12_strike :
  (∀ (d : Nat) (a0 a1 : Int) (S h : mx_H) (n : Int), mx_M d 192 [(2, a0), (0, a1)] S h n = mx_ex d 192 0 [some (2, a0), some (0, a1), none] [] S h n) ∧
  (∀ (d : Nat) (x : Int) (l1 l2 : Option mx_V) (S h : mx_H) (n : Int), mx_ex d 192 0 [some (2, x), l1, l2] [] S h n = mx_ex d 192 1 [some (2, x), l1, l2] [(2, x)] S h n) ∧
  (∀ (d : Nat) (x : Int) (l0 l2 : Option mx_V) (v0 : mx_V) (S h : mx_H) (n : Int), mx_ex d 192 1 [l0, some (0, x), l2] [v0] S h n = mx_ex d 192 2 [l0, some (0, x), l2] [(0, x), v0] S h n) ∧
  (∀ (d : Nat) (x0 a : Int) (l0 l1 l2 : Option mx_V) (S h : mx_H) (n : Int), mx_ex (d + 1) 192 2 [l0, l1, l2] [(0, x0), (2, a)] S h n = mx_cl (S a (-2) = 13) d 189 [(2, a), (0, x0)] 192 5 [l0, l1, l2] [] S h n) ∧
  (∀ (d : Nat) (a : Int) (l0 l1 l2 : Option mx_V) (S h : mx_H) (n : Int), mx_ex d 192 5 [l0, l1, l2] [(0, a)] S h n = mx_br (a = 0) d 192 8 10 [l0, l1, l2] [] S h n) ∧
  (∀ (d : Nat) (l0 l1 l2 : Option mx_V) (S h : mx_H) (n : Int), mx_ex d 192 8 [l0, l1, l2] [] S h n = mx_ex d 192 9 [l0, l1, l2] [(0, (-1))] S h n) ∧
  (∀ (d : Nat) (x : Int) (l0 l1 l2 : Option mx_V) (S h : mx_H) (n : Int), mx_ex d 192 9 [l0, l1, l2] [(0, x)] S h n = some (some (0, x), S, h, n)) ∧
  (∀ (d : Nat) (x : Int) (l1 l2 : Option mx_V) (S h : mx_H) (n : Int), mx_ex d 192 10 [some (2, x), l1, l2] [] S h n = mx_ex d 192 11 [some (2, x), l1, l2] [(2, x)] S h n) ∧
  (∀ (d : Nat) (a : Int) (l0 l1 l2 : Option mx_V) (S h : mx_H) (n : Int), mx_ex d 192 11 [l0, l1, l2] [(2, a)] S h n = mx_gd (13 ≤ S a (-2) ∧ S a (-2) ≤ 13) d 192 14 [l0, l1, l2] [(2, S a 0)] S h n) ∧
  (∀ (d : Nat) (l0 l1 l2 : Option mx_V) (v0 : mx_V) (S h : mx_H) (n : Int), mx_ex d 192 14 [l0, l1, l2] [v0] S h n = mx_ex d 192 15 [l0, l1, l2] [(0, 1), v0] S h n) ∧
  (∀ (d : Nat) (a b : Int) (l0 l1 l2 : Option mx_V) (S h : mx_H) (n : Int), mx_ex d 192 15 [l0, l1, l2] [(0, a), (2, b)] S h n = mx_ex d 192 16 [l0, l1, l2] [(0, a), (2, b), (0, a), (2, b)] S h n) ∧
  (∀ (d : Nat) (i a : Int) (l0 l1 l2 : Option mx_V) (v2 v3 : mx_V) (S h : mx_H) (n : Int), mx_ex d 192 16 [l0, l1, l2] [(0, i), (2, a), v2, v3] S h n = mx_gd ((S a (-2) = 20 ∨ S a (-2) = 24) ∧ 0 ≤ i ∧ i < S a (-1)) d 192 17 [l0, l1, l2] [(0, h a i), v2, v3] S h n) ∧
  (∀ (d : Nat) (l0 l1 l2 : Option mx_V) (v0 v1 v2 : mx_V) (S h : mx_H) (n : Int), mx_ex d 192 17 [l0, l1, l2] [v0, v1, v2] S h n = mx_ex d 192 18 [l0, l1, l2] [(0, 1), v0, v1, v2] S h n) ∧
  (∀ (d : Nat) (b a : Int) (l0 l1 l2 : Option mx_V) (v2 v3 : mx_V) (S h : mx_H) (n : Int), mx_ex d 192 18 [l0, l1, l2] [(0, b), (0, a), v2, v3] S h n = mx_ex d 192 19 [l0, l1, l2] [(0, mx_w (a - b)), v2, v3] S h n) ∧
  (∀ (d : Nat) (v i a : Int) (l0 l1 l2 : Option mx_V) (S h : mx_H) (n : Int), mx_ex d 192 19 [l0, l1, l2] [(0, v), (0, i), (2, a)] S h n = mx_gd (S a (-2) = 20 ∧ 0 ≤ i ∧ i < S a (-1)) d 192 20 [l0, l1, l2] [] S (mx_u h a i v) n) ∧
  (∀ (d : Nat) (l0 l1 l2 : Option mx_V) (S h : mx_H) (n : Int), mx_ex d 192 20 [l0, l1, l2] [] S h n = mx_ex d 192 22 [l0, l1, l2] [(0, 69)] S h n) ∧
  (∀ (d : Nat) (l0 l1 l2 : Option mx_V) (v0 : mx_V) (S h : mx_H) (n : Int), mx_ex d 192 22 [l0, l1, l2] [v0] S h n = mx_ex d 192 23 [l0, l1, l2] [(0, 4), v0] S h n) ∧
  (∀ (d : Nat) (x : Int) (l0 l2 : Option mx_V) (v0 v1 : mx_V) (S h : mx_H) (n : Int), mx_ex d 192 23 [l0, some (0, x), l2] [v0, v1] S h n = mx_ex d 192 24 [l0, some (0, x), l2] [(0, x), v0, v1] S h n) ∧
  (∀ (d : Nat) (b a : Int) (l0 l1 l2 : Option mx_V) (v2 : mx_V) (S h : mx_H) (n : Int), mx_ex d 192 24 [l0, l1, l2] [(0, b), (0, a), v2] S h n = mx_ex d 192 25 [l0, l1, l2] [(0, mx_w (a * b)), v2] S h n) ∧
  (∀ (d : Nat) (b a : Int) (l0 l1 l2 : Option mx_V) (S h : mx_H) (n : Int), mx_ex d 192 25 [l0, l1, l2] [(0, b), (0, a)] S h n = mx_ex d 192 26 [l0, l1, l2] [(0, mx_w (a + b))] S h n) ∧
  (∀ (d : Nat) (x : Int) (l0 l1 l2 : Option mx_V) (S h : mx_H) (n : Int), mx_ex d 192 26 [l0, l1, l2] [(0, x)] S h n = mx_ex d 192 27 [l0, mx_nl l1, some (0, x)] [] S h n) ∧
  (∀ (d : Nat) (l0 l1 l2 : Option mx_V) (v0 : mx_V) (S h : mx_H) (n : Int), mx_ex d 192 28 [l0, l1, l2] [v0] S h n = mx_ex d 192 30 [l0, l1, l2] [(0, 69), v0] S h n) ∧
  (∀ (d : Nat) (l0 l1 l2 : Option mx_V) (v0 v1 : mx_V) (S h : mx_H) (n : Int), mx_ex d 192 30 [l0, l1, l2] [v0, v1] S h n = mx_ex d 192 31 [l0, l1, l2] [(0, 4), v0, v1] S h n) ∧
  (∀ (d : Nat) (x : Int) (l1 l2 : Option mx_V) (v0 v1 v2 : mx_V) (S h : mx_H) (n : Int), mx_ex d 192 31 [some (2, x), l1, l2] [v0, v1, v2] S h n = mx_ex d 192 32 [some (2, x), l1, l2] [(2, x), v0, v1, v2] S h n) ∧
  (∀ (d : Nat) (a : Int) (l0 l1 l2 : Option mx_V) (v1 v2 v3 : mx_V) (S h : mx_H) (n : Int), mx_ex d 192 32 [l0, l1, l2] [(2, a), v1, v2, v3] S h n = mx_gd (13 ≤ S a (-2) ∧ S a (-2) ≤ 13) d 192 35 [l0, l1, l2] [(2, S a 0), v1, v2, v3] S h n) ∧
  (∀ (d : Nat) (l0 l1 l2 : Option mx_V) (v0 v1 v2 v3 : mx_V) (S h : mx_H) (n : Int), mx_ex d 192 35 [l0, l1, l2] [v0, v1, v2, v3] S h n = mx_ex d 192 36 [l0, l1, l2] [(0, 1), v0, v1, v2, v3] S h n) ∧
  (∀ (d : Nat) (i a : Int) (l0 l1 l2 : Option mx_V) (v2 v3 v4 : mx_V) (S h : mx_H) (n : Int), mx_ex d 192 36 [l0, l1, l2] [(0, i), (2, a), v2, v3, v4] S h n = mx_gd ((S a (-2) = 20 ∨ S a (-2) = 24) ∧ 0 ≤ i ∧ i < S a (-1)) d 192 37 [l0, l1, l2] [(0, h a i), v2, v3, v4] S h n) ∧
  (∀ (d : Nat) (b a : Int) (l0 l1 l2 : Option mx_V) (v2 v3 : mx_V) (S h : mx_H) (n : Int), mx_ex d 192 37 [l0, l1, l2] [(0, b), (0, a), v2, v3] S h n = mx_ex d 192 38 [l0, l1, l2] [(0, mx_w (a * b)), v2, v3] S h n) ∧
  (∀ (d : Nat) (b a : Int) (l0 l1 l2 : Option mx_V) (v2 : mx_V) (S h : mx_H) (n : Int), mx_ex d 192 38 [l0, l1, l2] [(0, b), (0, a), v2] S h n = mx_ex d 192 39 [l0, l1, l2] [(0, mx_w (a + b)), v2] S h n) ∧
  (∀ (d : Nat) (b a : Int) (l0 l1 l2 : Option mx_V) (S h : mx_H) (n : Int), mx_ex d 192 39 [l0, l1, l2] [(0, b), (0, a)] S h n = mx_br (a < b) d 192 42 62 [l0, l1, l2] [] S h n) ∧
  (∀ (d : Nat) (x : Int) (l1 l2 : Option mx_V) (S h : mx_H) (n : Int), mx_ex d 192 42 [some (2, x), l1, l2] [] S h n = mx_ex d 192 43 [some (2, x), l1, l2] [(2, x)] S h n) ∧
  (∀ (d : Nat) (a : Int) (l0 l1 l2 : Option mx_V) (S h : mx_H) (n : Int), mx_ex d 192 43 [l0, l1, l2] [(2, a)] S h n = mx_gd (13 ≤ S a (-2) ∧ S a (-2) ≤ 13) d 192 46 [l0, l1, l2] [(2, S a 0)] S h n) ∧
  (∀ (d : Nat) (x : Int) (l0 l1 : Option mx_V) (v0 : mx_V) (S h : mx_H) (n : Int), mx_ex d 192 46 [l0, l1, some (0, x)] [v0] S h n = mx_ex d 192 47 [l0, l1, some (0, x)] [(0, x), v0] S h n) ∧
  (∀ (d : Nat) (x : Int) (l1 l2 : Option mx_V) (v0 v1 : mx_V) (S h : mx_H) (n : Int), mx_ex d 192 47 [some (2, x), l1, l2] [v0, v1] S h n = mx_ex d 192 48 [some (2, x), l1, l2] [(2, x), v0, v1] S h n) ∧
  (∀ (d : Nat) (a : Int) (l0 l1 l2 : Option mx_V) (v1 v2 : mx_V) (S h : mx_H) (n : Int), mx_ex d 192 48 [l0, l1, l2] [(2, a), v1, v2] S h n = mx_gd (13 ≤ S a (-2) ∧ S a (-2) ≤ 13) d 192 51 [l0, l1, l2] [(2, S a 0), v1, v2] S h n) ∧
  (∀ (d : Nat) (x : Int) (l0 l1 : Option mx_V) (v0 v1 v2 : mx_V) (S h : mx_H) (n : Int), mx_ex d 192 51 [l0, l1, some (0, x)] [v0, v1, v2] S h n = mx_ex d 192 52 [l0, l1, some (0, x)] [(0, x), v0, v1, v2] S h n) ∧
  (∀ (d : Nat) (l0 l1 l2 : Option mx_V) (v0 v1 v2 v3 : mx_V) (S h : mx_H) (n : Int), mx_ex d 192 52 [l0, l1, l2] [v0, v1, v2, v3] S h n = mx_ex d 192 53 [l0, l1, l2] [(0, 4), v0, v1, v2, v3] S h n) ∧
  (∀ (d : Nat) (b a : Int) (l0 l1 l2 : Option mx_V) (v2 v3 v4 : mx_V) (S h : mx_H) (n : Int), mx_ex d 192 53 [l0, l1, l2] [(0, b), (0, a), v2, v3, v4] S h n = mx_ex d 192 54 [l0, l1, l2] [(0, mx_w (a + b)), v2, v3, v4] S h n) ∧
  (∀ (d : Nat) (i a : Int) (l0 l1 l2 : Option mx_V) (v2 v3 : mx_V) (S h : mx_H) (n : Int), mx_ex d 192 54 [l0, l1, l2] [(0, i), (2, a), v2, v3] S h n = mx_gd ((S a (-2) = 20 ∨ S a (-2) = 24) ∧ 0 ≤ i ∧ i < S a (-1)) d 192 55 [l0, l1, l2] [(0, h a i), v2, v3] S h n) ∧
  (∀ (d : Nat) (v i a : Int) (l0 l1 l2 : Option mx_V) (S h : mx_H) (n : Int), mx_ex d 192 55 [l0, l1, l2] [(0, v), (0, i), (2, a)] S h n = mx_gd (S a (-2) = 20 ∧ 0 ≤ i ∧ i < S a (-1)) d 192 56 [l0, l1, l2] [] S (mx_u h a i v) n) ∧
  (∀ (d : Nat) (x : Int) (l0 l1 : Option mx_V) (S h : mx_H) (n : Int), mx_ex d 192 56 [l0, l1, some (0, x)] [] S h n = mx_ex d 192 59 [l0, mx_nl l1, some (0, mx_w (x + 1))] [] S h n) ∧
  (∀ (d : Nat) (l0 l1 l2 : Option mx_V) (S h : mx_H) (n : Int), mx_ex d 192 59 [l0, l1, l2] [] S h n = mx_ex d 192 27 [l0, l1, l2] [] S h n) ∧
  (∀ (d : Nat) (x : Int) (l1 l2 : Option mx_V) (S h : mx_H) (n : Int), mx_ex d 192 62 [some (2, x), l1, l2] [] S h n = mx_ex d 192 63 [some (2, x), l1, l2] [(2, x)] S h n) ∧
  (∀ (d : Nat) (a : Int) (l0 l1 l2 : Option mx_V) (S h : mx_H) (n : Int), mx_ex d 192 63 [l0, l1, l2] [(2, a)] S h n = mx_gd (13 ≤ S a (-2) ∧ S a (-2) ≤ 13) d 192 66 [l0, l1, l2] [(2, S a 0)] S h n) ∧
  (∀ (d : Nat) (l0 l1 l2 : Option mx_V) (v0 : mx_V) (S h : mx_H) (n : Int), mx_ex d 192 66 [l0, l1, l2] [v0] S h n = mx_ex d 192 67 [l0, l1, l2] [(0, 1), v0] S h n) ∧
  (∀ (d : Nat) (i a : Int) (l0 l1 l2 : Option mx_V) (S h : mx_H) (n : Int), mx_ex d 192 67 [l0, l1, l2] [(0, i), (2, a)] S h n = mx_gd ((S a (-2) = 20 ∨ S a (-2) = 24) ∧ 0 ≤ i ∧ i < S a (-1)) d 192 68 [l0, l1, l2] [(0, h a i)] S h n) ∧
  (∀ (d : Nat) (x : Int) (l0 l1 l2 : Option mx_V) (S h : mx_H) (n : Int), mx_ex d 192 68 [l0, l1, l2] [(0, x)] S h n = some (some (0, x), S, h, n)) :=
  ⟨by intros; exact rfl,
   by intros; exact eq_ld rfl rfl,
   by intros; exact eq_ld rfl rfl,
   by intros; exact eq_cv rfl (Nat.le_of_ble_eq_true rfl) rfl rfl rfl (Nat.le_of_ble_eq_true rfl),
   by intros; exact eq_if1 rfl,
   by intros; exact eq_push rfl,
   by intros; exact eq_ret rfl,
   by intros; exact eq_ld rfl rfl,
   by intros; exact eq_gr rfl,
   by intros; exact eq_push rfl,
   by intros; exact eq_dup2 rfl (by decide) (by decide),
   by intros; exact eq_iald rfl,
   by intros; exact eq_push rfl,
   by intros; exact eq_i2 (o := mx_sub) rfl,
   by intros; exact eq_iast rfl,
   by intros; exact eq_push rfl,
   by intros; exact eq_push rfl,
   by intros; exact eq_ld rfl rfl,
   by intros; exact eq_i2 (o := mx_mul) rfl,
   by intros; exact eq_i2 (o := mx_add) rfl,
   by intros; exact eq_st rfl (by decide) (Nat.le_of_ble_eq_true rfl) rfl,
   by intros; exact eq_push rfl,
   by intros; exact eq_push rfl,
   by intros; exact eq_ld rfl rfl,
   by intros; exact eq_gr rfl,
   by intros; exact eq_push rfl,
   by intros; exact eq_iald rfl,
   by intros; exact eq_i2 (o := mx_mul) rfl,
   by intros; exact eq_i2 (o := mx_add) rfl,
   by intros; exact eq_ic3 rfl,
   by intros; exact eq_ld rfl rfl,
   by intros; exact eq_gr rfl,
   by intros; exact eq_ld rfl rfl,
   by intros; exact eq_ld rfl rfl,
   by intros; exact eq_gr rfl,
   by intros; exact eq_ld rfl rfl,
   by intros; exact eq_push rfl,
   by intros; exact eq_i2 (o := mx_add) rfl,
   by intros; exact eq_iald rfl,
   by intros; exact eq_iast rfl,
   by intros; exact eq_inc rfl rfl rfl,
   by intros; exact eq_go rfl,
   by intros; exact eq_ld rfl rfl,
   by intros; exact eq_gr rfl,
   by intros; exact eq_push rfl,
   by intros; exact eq_iald rfl,
   by intros; exact eq_ret rfl⟩
theorem rw_X12_worthNow :
  (∀ (d : Nat) (a0 a1 : Int) (S h : mx_H) (n : Int), mx_M d 193 [(2, a0), (0, a1)] S h n = mx_ex d 193 0 [some (2, a0), some (0, a1)] [] S h n) ∧
  (∀ (d : Nat) (x : Int) (l1 : Option mx_V) (S h : mx_H) (n : Int), mx_ex d 193 0 [some (2, x), l1] [] S h n = mx_ex d 193 1 [some (2, x), l1] [(2, x)] S h n) ∧
  (∀ (d : Nat) (x : Int) (l0 : Option mx_V) (v0 : mx_V) (S h : mx_H) (n : Int), mx_ex d 193 1 [l0, some (0, x)] [v0] S h n = mx_ex d 193 2 [l0, some (0, x)] [(0, x), v0] S h n) ∧
  (∀ (d : Nat) (x : Int) (l1 : Option mx_V) (v0 v1 : mx_V) (S h : mx_H) (n : Int), mx_ex d 193 2 [some (2, x), l1] [v0, v1] S h n = mx_ex d 193 3 [some (2, x), l1] [(2, x), v0, v1] S h n) ∧
  (∀ (d : Nat) (a : Int) (l0 l1 : Option mx_V) (v1 v2 : mx_V) (S h : mx_H) (n : Int), mx_ex d 193 3 [l0, l1] [(2, a), v1, v2] S h n = mx_gd (13 ≤ S a (-2) ∧ S a (-2) ≤ 13) d 193 6 [l0, l1] [(2, S a 11), v1, v2] S h n) ∧
  (∀ (d : Nat) (x : Int) (l1 : Option mx_V) (v0 v1 v2 : mx_V) (S h : mx_H) (n : Int), mx_ex d 193 6 [some (2, x), l1] [v0, v1, v2] S h n = mx_ex d 193 7 [some (2, x), l1] [(2, x), v0, v1, v2] S h n) ∧
  (∀ (d : Nat) (x : Int) (l0 : Option mx_V) (v0 v1 v2 v3 : mx_V) (S h : mx_H) (n : Int), mx_ex d 193 7 [l0, some (0, x)] [v0, v1, v2, v3] S h n = mx_ex d 193 8 [l0, some (0, x)] [(0, x), v0, v1, v2, v3] S h n) ∧
  (∀ (d : Nat) (l0 l1 : Option mx_V) (v0 v1 v2 v3 v4 : mx_V) (S h : mx_H) (n : Int), mx_ex d 193 8 [l0, l1] [v0, v1, v2, v3, v4] S h n = mx_ex d 193 9 [l0, l1] [(0, 1), v0, v1, v2, v3, v4] S h n) ∧
  (∀ (d : Nat) (x0 x1 a : Int) (l0 l1 : Option mx_V) (v3 v4 v5 : mx_V) (S h : mx_H) (n : Int), mx_ex (d + 1) 193 9 [l0, l1] [(0, x0), (0, x1), (2, a), v3, v4, v5] S h n = mx_cl (S a (-2) = 13) d 163 [(2, a), (0, x1), (0, x0)] 193 12 [l0, l1] [v3, v4, v5] S h n) ∧
  (∀ (d : Nat) (i a : Int) (l0 l1 : Option mx_V) (v2 v3 : mx_V) (S h : mx_H) (n : Int), mx_ex d 193 12 [l0, l1] [(0, i), (2, a), v2, v3] S h n = mx_gd ((S a (-2) = 20 ∨ S a (-2) = 24) ∧ 0 ≤ i ∧ i < S a (-1)) d 193 13 [l0, l1] [(0, h a i), v2, v3] S h n) ∧
  (∀ (d : Nat) (x0 x1 a : Int) (l0 l1 : Option mx_V) (S h : mx_H) (n : Int), mx_ex (d + 1) 193 13 [l0, l1] [(0, x0), (0, x1), (2, a)] S h n = mx_cl (S a (-2) = 13) d 185 [(2, a), (0, x1), (0, x0)] 193 16 [l0, l1] [] S h n) ∧
  (∀ (d : Nat) (x : Int) (l0 l1 : Option mx_V) (S h : mx_H) (n : Int), mx_ex d 193 16 [l0, l1] [(1, x)] S h n = some (some (1, x), S, h, n)) :=
  ⟨by intros; exact rfl,
   by intros; exact eq_ld rfl rfl,
   by intros; exact eq_ld rfl rfl,
   by intros; exact eq_ld rfl rfl,
   by intros; exact eq_gr rfl,
   by intros; exact eq_ld rfl rfl,
   by intros; exact eq_ld rfl rfl,
   by intros; exact eq_push rfl,
   by intros; exact eq_cv rfl (Nat.le_of_ble_eq_true rfl) rfl rfl rfl (Nat.le_of_ble_eq_true rfl),
   by intros; exact eq_iald rfl,
   by intros; exact eq_cv rfl (Nat.le_of_ble_eq_true rfl) rfl rfl rfl (Nat.le_of_ble_eq_true rfl),
   by intros; exact eq_ret rfl⟩
theorem rw_X12_holdsNow :
  (∀ (d : Nat) (a0 a1 : Int) (S h : mx_H) (n : Int), mx_M d 194 [(2, a0), (0, a1)] S h n = mx_ex d 194 0 [some (2, a0), some (0, a1), none, none] [] S h n) ∧
  (∀ (d : Nat) (x : Int) (l1 l2 l3 : Option mx_V) (S h : mx_H) (n : Int), mx_ex d 194 0 [some (2, x), l1, l2, l3] [] S h n = mx_ex d 194 1 [some (2, x), l1, l2, l3] [(2, x)] S h n) ∧
  (∀ (d : Nat) (x : Int) (l1 l2 l3 : Option mx_V) (v0 : mx_V) (S h : mx_H) (n : Int), mx_ex d 194 1 [some (2, x), l1, l2, l3] [v0] S h n = mx_ex d 194 2 [some (2, x), l1, l2, l3] [(2, x), v0] S h n) ∧
  (∀ (d : Nat) (x : Int) (l0 l2 l3 : Option mx_V) (v0 v1 : mx_V) (S h : mx_H) (n : Int), mx_ex d 194 2 [l0, some (0, x), l2, l3] [v0, v1] S h n = mx_ex d 194 3 [l0, some (0, x), l2, l3] [(0, x), v0, v1] S h n) ∧
  (∀ (d : Nat) (l0 l1 l2 l3 : Option mx_V) (v0 v1 v2 : mx_V) (S h : mx_H) (n : Int), mx_ex d 194 3 [l0, l1, l2, l3] [v0, v1, v2] S h n = mx_ex d 194 4 [l0, l1, l2, l3] [(0, 1), v0, v1, v2] S h n) ∧
  (∀ (d : Nat) (x0 x1 a : Int) (l0 l1 l2 l3 : Option mx_V) (v3 : mx_V) (S h : mx_H) (n : Int), mx_ex (d + 1) 194 4 [l0, l1, l2, l3] [(0, x0), (0, x1), (2, a), v3] S h n = mx_cl (S a (-2) = 13) d 164 [(2, a), (0, x1), (0, x0)] 194 7 [l0, l1, l2, l3] [v3] S h n) ∧
  (∀ (d : Nat) (x0 a : Int) (l0 l1 l2 l3 : Option mx_V) (S h : mx_H) (n : Int), mx_ex (d + 1) 194 7 [l0, l1, l2, l3] [(0, x0), (2, a)] S h n = mx_cl (S a (-2) = 13) d 193 [(2, a), (0, x0)] 194 10 [l0, l1, l2, l3] [] S h n) ∧
  (∀ (d : Nat) (x : Int) (l0 l1 l2 l3 : Option mx_V) (S h : mx_H) (n : Int), mx_ex d 194 10 [l0, l1, l2, l3] [(1, x)] S h n = mx_ex d 194 11 [l0, mx_nl l1, some (1, x), none] [] S h n) ∧
  (∀ (d : Nat) (x : Int) (l1 l2 l3 : Option mx_V) (S h : mx_H) (n : Int), mx_ex d 194 11 [some (2, x), l1, l2, l3] [] S h n = mx_ex d 194 12 [some (2, x), l1, l2, l3] [(2, x)] S h n) ∧
  (∀ (d : Nat) (x : Int) (l0 l2 l3 : Option mx_V) (v0 : mx_V) (S h : mx_H) (n : Int), mx_ex d 194 12 [l0, some (0, x), l2, l3] [v0] S h n = mx_ex d 194 13 [l0, some (0, x), l2, l3] [(0, x), v0] S h n) ∧
  (∀ (d : Nat) (l0 l1 l2 l3 : Option mx_V) (v0 v1 : mx_V) (S h : mx_H) (n : Int), mx_ex d 194 13 [l0, l1, l2, l3] [v0, v1] S h n = mx_ex d 194 14 [l0, l1, l2, l3] [(0, 0), v0, v1] S h n) ∧
  (∀ (d : Nat) (x0 x1 a : Int) (l0 l1 l2 l3 : Option mx_V) (S h : mx_H) (n : Int), mx_ex (d + 1) 194 14 [l0, l1, l2, l3] [(0, x0), (0, x1), (2, a)] S h n = mx_cl (S a (-2) = 13) d 164 [(2, a), (0, x1), (0, x0)] 194 17 [l0, l1, l2, l3] [] S h n) ∧
  (∀ (d : Nat) (a : Int) (l0 l1 l2 l3 : Option mx_V) (S h : mx_H) (n : Int), mx_ex d 194 17 [l0, l1, l2, l3] [(0, a)] S h n = mx_sw a [(0, 44), (1, 65), (2, 86)] d 194 118 [l0, l1, l2, l3] [] S h n) ∧
  (∀ (d : Nat) (x : Int) (l0 l1 l3 : Option mx_V) (S h : mx_H) (n : Int), mx_ex d 194 44 [l0, l1, some (1, x), l3] [] S h n = mx_ex d 194 45 [l0, l1, some (1, x), l3] [(1, x)] S h n) ∧
  (∀ (d : Nat) (x : Int) (l1 l2 l3 : Option mx_V) (v0 : mx_V) (S h : mx_H) (n : Int), mx_ex d 194 45 [some (2, x), l1, l2, l3] [v0] S h n = mx_ex d 194 46 [some (2, x), l1, l2, l3] [(2, x), v0] S h n) ∧
  (∀ (d : Nat) (x : Int) (l1 l2 l3 : Option mx_V) (v0 v1 : mx_V) (S h : mx_H) (n : Int), mx_ex d 194 46 [some (2, x), l1, l2, l3] [v0, v1] S h n = mx_ex d 194 47 [some (2, x), l1, l2, l3] [(2, x), v0, v1] S h n) ∧
  (∀ (d : Nat) (x : Int) (l0 l2 l3 : Option mx_V) (v0 v1 v2 : mx_V) (S h : mx_H) (n : Int), mx_ex d 194 47 [l0, some (0, x), l2, l3] [v0, v1, v2] S h n = mx_ex d 194 48 [l0, some (0, x), l2, l3] [(0, x), v0, v1, v2] S h n) ∧
  (∀ (d : Nat) (l0 l1 l2 l3 : Option mx_V) (v0 v1 v2 v3 : mx_V) (S h : mx_H) (n : Int), mx_ex d 194 48 [l0, l1, l2, l3] [v0, v1, v2, v3] S h n = mx_ex d 194 49 [l0, l1, l2, l3] [(0, 2), v0, v1, v2, v3] S h n) ∧
  (∀ (d : Nat) (x0 x1 a : Int) (l0 l1 l2 l3 : Option mx_V) (v3 v4 : mx_V) (S h : mx_H) (n : Int), mx_ex (d + 1) 194 49 [l0, l1, l2, l3] [(0, x0), (0, x1), (2, a), v3, v4] S h n = mx_cl (S a (-2) = 13) d 164 [(2, a), (0, x1), (0, x0)] 194 52 [l0, l1, l2, l3] [v3, v4] S h n) ∧
  (∀ (d : Nat) (x0 a : Int) (l0 l1 l2 l3 : Option mx_V) (v2 : mx_V) (S h : mx_H) (n : Int), mx_ex (d + 1) 194 52 [l0, l1, l2, l3] [(0, x0), (2, a), v2] S h n = mx_cl (S a (-2) = 13) d 193 [(2, a), (0, x0)] 194 55 [l0, l1, l2, l3] [v2] S h n) ∧
  (∀ (d : Nat) (b a : Int) (l0 l1 l2 l3 : Option mx_V) (S h : mx_H) (n : Int), mx_ex d 194 55 [l0, l1, l2, l3] [(1, b), (1, a)] S h n = mx_ex d 194 56 [l0, l1, l2, l3] [(0, mx_cmp a b)] S h n) ∧
  (∀ (d : Nat) (a : Int) (l0 l1 l2 l3 : Option mx_V) (S h : mx_H) (n : Int), mx_ex d 194 56 [l0, l1, l2, l3] [(0, a)] S h n = mx_br (a = 0) d 194 59 63 [l0, l1, l2, l3] [] S h n) ∧
  (∀ (d : Nat) (l0 l1 l2 l3 : Option mx_V) (S h : mx_H) (n : Int), mx_ex d 194 59 [l0, l1, l2, l3] [] S h n = mx_ex d 194 60 [l0, l1, l2, l3] [(0, 1)] S h n) ∧
  (∀ (d : Nat) (l0 l1 l2 l3 : Option mx_V) (v0 : mx_V) (S h : mx_H) (n : Int), mx_ex d 194 60 [l0, l1, l2, l3] [v0] S h n = mx_ex d 194 64 [l0, l1, l2, l3] [v0] S h n) ∧
  (∀ (d : Nat) (l0 l1 l2 l3 : Option mx_V) (S h : mx_H) (n : Int), mx_ex d 194 63 [l0, l1, l2, l3] [] S h n = mx_ex d 194 64 [l0, l1, l2, l3] [(0, 0)] S h n) ∧
  (∀ (d : Nat) (x : Int) (l0 l1 l2 l3 : Option mx_V) (S h : mx_H) (n : Int), mx_ex d 194 64 [l0, l1, l2, l3] [(0, x)] S h n = mx_re (0 ≤ x ∧ x ≤ 1) (some (0, x)) S h n) ∧
  (∀ (d : Nat) (x : Int) (l0 l1 l3 : Option mx_V) (S h : mx_H) (n : Int), mx_ex d 194 65 [l0, l1, some (1, x), l3] [] S h n = mx_ex d 194 66 [l0, l1, some (1, x), l3] [(1, x)] S h n) ∧
  (∀ (d : Nat) (x : Int) (l1 l2 l3 : Option mx_V) (v0 : mx_V) (S h : mx_H) (n : Int), mx_ex d 194 66 [some (2, x), l1, l2, l3] [v0] S h n = mx_ex d 194 67 [some (2, x), l1, l2, l3] [(2, x), v0] S h n) ∧
  (∀ (d : Nat) (x : Int) (l1 l2 l3 : Option mx_V) (v0 v1 : mx_V) (S h : mx_H) (n : Int), mx_ex d 194 67 [some (2, x), l1, l2, l3] [v0, v1] S h n = mx_ex d 194 68 [some (2, x), l1, l2, l3] [(2, x), v0, v1] S h n) ∧
  (∀ (d : Nat) (x : Int) (l0 l2 l3 : Option mx_V) (v0 v1 v2 : mx_V) (S h : mx_H) (n : Int), mx_ex d 194 68 [l0, some (0, x), l2, l3] [v0, v1, v2] S h n = mx_ex d 194 69 [l0, some (0, x), l2, l3] [(0, x), v0, v1, v2] S h n) ∧
  (∀ (d : Nat) (l0 l1 l2 l3 : Option mx_V) (v0 v1 v2 v3 : mx_V) (S h : mx_H) (n : Int), mx_ex d 194 69 [l0, l1, l2, l3] [v0, v1, v2, v3] S h n = mx_ex d 194 70 [l0, l1, l2, l3] [(0, 2), v0, v1, v2, v3] S h n) ∧
  (∀ (d : Nat) (x0 x1 a : Int) (l0 l1 l2 l3 : Option mx_V) (v3 v4 : mx_V) (S h : mx_H) (n : Int), mx_ex (d + 1) 194 70 [l0, l1, l2, l3] [(0, x0), (0, x1), (2, a), v3, v4] S h n = mx_cl (S a (-2) = 13) d 164 [(2, a), (0, x1), (0, x0)] 194 73 [l0, l1, l2, l3] [v3, v4] S h n) ∧
  (∀ (d : Nat) (x0 a : Int) (l0 l1 l2 l3 : Option mx_V) (v2 : mx_V) (S h : mx_H) (n : Int), mx_ex (d + 1) 194 73 [l0, l1, l2, l3] [(0, x0), (2, a), v2] S h n = mx_cl (S a (-2) = 13) d 193 [(2, a), (0, x0)] 194 76 [l0, l1, l2, l3] [v2] S h n) ∧
  (∀ (d : Nat) (b a : Int) (l0 l1 l2 l3 : Option mx_V) (S h : mx_H) (n : Int), mx_ex d 194 76 [l0, l1, l2, l3] [(1, b), (1, a)] S h n = mx_ex d 194 77 [l0, l1, l2, l3] [(0, mx_cmp a b)] S h n) ∧
  (∀ (d : Nat) (a : Int) (l0 l1 l2 l3 : Option mx_V) (S h : mx_H) (n : Int), mx_ex d 194 77 [l0, l1, l2, l3] [(0, a)] S h n = mx_br (0 < a) d 194 80 84 [l0, l1, l2, l3] [] S h n) ∧
  (∀ (d : Nat) (l0 l1 l2 l3 : Option mx_V) (S h : mx_H) (n : Int), mx_ex d 194 80 [l0, l1, l2, l3] [] S h n = mx_ex d 194 81 [l0, l1, l2, l3] [(0, 1)] S h n) ∧
  (∀ (d : Nat) (l0 l1 l2 l3 : Option mx_V) (v0 : mx_V) (S h : mx_H) (n : Int), mx_ex d 194 81 [l0, l1, l2, l3] [v0] S h n = mx_ex d 194 85 [l0, l1, l2, l3] [v0] S h n) ∧
  (∀ (d : Nat) (l0 l1 l2 l3 : Option mx_V) (S h : mx_H) (n : Int), mx_ex d 194 84 [l0, l1, l2, l3] [] S h n = mx_ex d 194 85 [l0, l1, l2, l3] [(0, 0)] S h n) ∧
  (∀ (d : Nat) (x : Int) (l0 l1 l2 l3 : Option mx_V) (S h : mx_H) (n : Int), mx_ex d 194 85 [l0, l1, l2, l3] [(0, x)] S h n = mx_re (0 ≤ x ∧ x ≤ 1) (some (0, x)) S h n) ∧
  (∀ (d : Nat) (x : Int) (l0 l1 l3 : Option mx_V) (S h : mx_H) (n : Int), mx_ex d 194 86 [l0, l1, some (1, x), l3] [] S h n = mx_ex d 194 87 [l0, l1, some (1, x), l3] [(1, x)] S h n) ∧
  (∀ (d : Nat) (x : Int) (l1 l2 l3 : Option mx_V) (v0 : mx_V) (S h : mx_H) (n : Int), mx_ex d 194 87 [some (2, x), l1, l2, l3] [v0] S h n = mx_ex d 194 88 [some (2, x), l1, l2, l3] [(2, x), v0] S h n) ∧
  (∀ (d : Nat) (x : Int) (l1 l2 l3 : Option mx_V) (v0 v1 : mx_V) (S h : mx_H) (n : Int), mx_ex d 194 88 [some (2, x), l1, l2, l3] [v0, v1] S h n = mx_ex d 194 89 [some (2, x), l1, l2, l3] [(2, x), v0, v1] S h n) ∧
  (∀ (d : Nat) (x : Int) (l0 l2 l3 : Option mx_V) (v0 v1 v2 : mx_V) (S h : mx_H) (n : Int), mx_ex d 194 89 [l0, some (0, x), l2, l3] [v0, v1, v2] S h n = mx_ex d 194 90 [l0, some (0, x), l2, l3] [(0, x), v0, v1, v2] S h n) ∧
  (∀ (d : Nat) (l0 l1 l2 l3 : Option mx_V) (v0 v1 v2 v3 : mx_V) (S h : mx_H) (n : Int), mx_ex d 194 90 [l0, l1, l2, l3] [v0, v1, v2, v3] S h n = mx_ex d 194 91 [l0, l1, l2, l3] [(0, 2), v0, v1, v2, v3] S h n) ∧
  (∀ (d : Nat) (x0 x1 a : Int) (l0 l1 l2 l3 : Option mx_V) (v3 v4 : mx_V) (S h : mx_H) (n : Int), mx_ex (d + 1) 194 91 [l0, l1, l2, l3] [(0, x0), (0, x1), (2, a), v3, v4] S h n = mx_cl (S a (-2) = 13) d 164 [(2, a), (0, x1), (0, x0)] 194 94 [l0, l1, l2, l3] [v3, v4] S h n) ∧
  (∀ (d : Nat) (x0 a : Int) (l0 l1 l2 l3 : Option mx_V) (v2 : mx_V) (S h : mx_H) (n : Int), mx_ex (d + 1) 194 94 [l0, l1, l2, l3] [(0, x0), (2, a), v2] S h n = mx_cl (S a (-2) = 13) d 193 [(2, a), (0, x0)] 194 97 [l0, l1, l2, l3] [v2] S h n) ∧
  (∀ (d : Nat) (b a : Int) (l0 l1 l2 l3 : Option mx_V) (S h : mx_H) (n : Int), mx_ex d 194 97 [l0, l1, l2, l3] [(1, b), (1, a)] S h n = mx_ex d 194 98 [l0, l1, l2, l3] [(1, mx_l (a + b))] S h n) ∧
  (∀ (d : Nat) (x : Int) (l1 l2 l3 : Option mx_V) (v0 : mx_V) (S h : mx_H) (n : Int), mx_ex d 194 98 [some (2, x), l1, l2, l3] [v0] S h n = mx_ex d 194 99 [some (2, x), l1, l2, l3] [(2, x), v0] S h n) ∧
  (∀ (d : Nat) (x : Int) (l1 l2 l3 : Option mx_V) (v0 v1 : mx_V) (S h : mx_H) (n : Int), mx_ex d 194 99 [some (2, x), l1, l2, l3] [v0, v1] S h n = mx_ex d 194 100 [some (2, x), l1, l2, l3] [(2, x), v0, v1] S h n) ∧
  (∀ (d : Nat) (x : Int) (l0 l2 l3 : Option mx_V) (v0 v1 v2 : mx_V) (S h : mx_H) (n : Int), mx_ex d 194 100 [l0, some (0, x), l2, l3] [v0, v1, v2] S h n = mx_ex d 194 101 [l0, some (0, x), l2, l3] [(0, x), v0, v1, v2] S h n) ∧
  (∀ (d : Nat) (l0 l1 l2 l3 : Option mx_V) (v0 v1 v2 v3 : mx_V) (S h : mx_H) (n : Int), mx_ex d 194 101 [l0, l1, l2, l3] [v0, v1, v2, v3] S h n = mx_ex d 194 102 [l0, l1, l2, l3] [(0, 3), v0, v1, v2, v3] S h n) ∧
  (∀ (d : Nat) (x0 x1 a : Int) (l0 l1 l2 l3 : Option mx_V) (v3 v4 : mx_V) (S h : mx_H) (n : Int), mx_ex (d + 1) 194 102 [l0, l1, l2, l3] [(0, x0), (0, x1), (2, a), v3, v4] S h n = mx_cl (S a (-2) = 13) d 164 [(2, a), (0, x1), (0, x0)] 194 105 [l0, l1, l2, l3] [v3, v4] S h n) ∧
  (∀ (d : Nat) (x0 a : Int) (l0 l1 l2 l3 : Option mx_V) (v2 : mx_V) (S h : mx_H) (n : Int), mx_ex (d + 1) 194 105 [l0, l1, l2, l3] [(0, x0), (2, a), v2] S h n = mx_cl (S a (-2) = 13) d 193 [(2, a), (0, x0)] 194 108 [l0, l1, l2, l3] [v2] S h n) ∧
  (∀ (d : Nat) (b a : Int) (l0 l1 l2 l3 : Option mx_V) (S h : mx_H) (n : Int), mx_ex d 194 108 [l0, l1, l2, l3] [(1, b), (1, a)] S h n = mx_ex d 194 109 [l0, l1, l2, l3] [(0, mx_cmp a b)] S h n) ∧
  (∀ (d : Nat) (a : Int) (l0 l1 l2 l3 : Option mx_V) (S h : mx_H) (n : Int), mx_ex d 194 109 [l0, l1, l2, l3] [(0, a)] S h n = mx_br (a = 0) d 194 112 116 [l0, l1, l2, l3] [] S h n) ∧
  (∀ (d : Nat) (l0 l1 l2 l3 : Option mx_V) (S h : mx_H) (n : Int), mx_ex d 194 112 [l0, l1, l2, l3] [] S h n = mx_ex d 194 113 [l0, l1, l2, l3] [(0, 1)] S h n) ∧
  (∀ (d : Nat) (l0 l1 l2 l3 : Option mx_V) (v0 : mx_V) (S h : mx_H) (n : Int), mx_ex d 194 113 [l0, l1, l2, l3] [v0] S h n = mx_ex d 194 117 [l0, l1, l2, l3] [v0] S h n) ∧
  (∀ (d : Nat) (l0 l1 l2 l3 : Option mx_V) (S h : mx_H) (n : Int), mx_ex d 194 116 [l0, l1, l2, l3] [] S h n = mx_ex d 194 117 [l0, l1, l2, l3] [(0, 0)] S h n) ∧
  (∀ (d : Nat) (x : Int) (l0 l1 l2 l3 : Option mx_V) (S h : mx_H) (n : Int), mx_ex d 194 117 [l0, l1, l2, l3] [(0, x)] S h n = mx_re (0 ≤ x ∧ x ≤ 1) (some (0, x)) S h n) ∧
  (∀ (d : Nat) (x : Int) (l0 l1 l3 : Option mx_V) (S h : mx_H) (n : Int), mx_ex d 194 118 [l0, l1, some (1, x), l3] [] S h n = mx_ex d 194 119 [l0, l1, some (1, x), l3] [(1, x)] S h n) ∧
  (∀ (d : Nat) (x : Int) (l1 l2 l3 : Option mx_V) (v0 : mx_V) (S h : mx_H) (n : Int), mx_ex d 194 119 [some (2, x), l1, l2, l3] [v0] S h n = mx_ex d 194 120 [some (2, x), l1, l2, l3] [(2, x), v0] S h n) ∧
  (∀ (d : Nat) (x : Int) (l0 l2 l3 : Option mx_V) (v0 v1 : mx_V) (S h : mx_H) (n : Int), mx_ex d 194 120 [l0, some (0, x), l2, l3] [v0, v1] S h n = mx_ex d 194 121 [l0, some (0, x), l2, l3] [(0, x), v0, v1] S h n) ∧
  (∀ (d : Nat) (l0 l1 l2 l3 : Option mx_V) (v0 v1 v2 : mx_V) (S h : mx_H) (n : Int), mx_ex d 194 121 [l0, l1, l2, l3] [v0, v1, v2] S h n = mx_ex d 194 122 [l0, l1, l2, l3] [(0, 3), v0, v1, v2] S h n) ∧
  (∀ (d : Nat) (x0 x1 a : Int) (l0 l1 l2 l3 : Option mx_V) (v3 : mx_V) (S h : mx_H) (n : Int), mx_ex (d + 1) 194 122 [l0, l1, l2, l3] [(0, x0), (0, x1), (2, a), v3] S h n = mx_cl (S a (-2) = 13) d 164 [(2, a), (0, x1), (0, x0)] 194 125 [l0, l1, l2, l3] [v3] S h n) ∧
  (∀ (d : Nat) (a : Int) (l0 l1 l2 l3 : Option mx_V) (v1 : mx_V) (S h : mx_H) (n : Int), mx_ex d 194 125 [l0, l1, l2, l3] [(0, a), v1] S h n = mx_ex d 194 126 [l0, l1, l2, l3] [(1, a), v1] S h n) ∧
  (∀ (d : Nat) (b a : Int) (l0 l1 l2 l3 : Option mx_V) (S h : mx_H) (n : Int), mx_ex d 194 126 [l0, l1, l2, l3] [(1, b), (1, a)] S h n = mx_gd (¬ b = 0) d 194 127 [l0, l1, l2, l3] [(1, Int.tmod a b)] S h n) ∧
  (∀ (d : Nat) (l0 l1 l2 l3 : Option mx_V) (v0 : mx_V) (S h : mx_H) (n : Int), mx_ex d 194 127 [l0, l1, l2, l3] [v0] S h n = mx_ex d 194 128 [l0, l1, l2, l3] [(1, 0), v0] S h n) ∧
  (∀ (d : Nat) (b a : Int) (l0 l1 l2 l3 : Option mx_V) (S h : mx_H) (n : Int), mx_ex d 194 128 [l0, l1, l2, l3] [(1, b), (1, a)] S h n = mx_ex d 194 129 [l0, l1, l2, l3] [(0, mx_cmp a b)] S h n) ∧
  (∀ (d : Nat) (a : Int) (l0 l1 l2 l3 : Option mx_V) (S h : mx_H) (n : Int), mx_ex d 194 129 [l0, l1, l2, l3] [(0, a)] S h n = mx_br (a = 0) d 194 132 136 [l0, l1, l2, l3] [] S h n) ∧
  (∀ (d : Nat) (l0 l1 l2 l3 : Option mx_V) (S h : mx_H) (n : Int), mx_ex d 194 132 [l0, l1, l2, l3] [] S h n = mx_ex d 194 133 [l0, l1, l2, l3] [(0, 1)] S h n) :=
  ⟨by intros; exact rfl,
   by intros; exact eq_ld rfl rfl,
   by intros; exact eq_ld rfl rfl,
   by intros; exact eq_ld rfl rfl,
   by intros; exact eq_push rfl,
   by intros; exact eq_cv rfl (Nat.le_of_ble_eq_true rfl) rfl rfl rfl (Nat.le_of_ble_eq_true rfl),
   by intros; exact eq_cv rfl (Nat.le_of_ble_eq_true rfl) rfl rfl rfl (Nat.le_of_ble_eq_true rfl),
   by intros; exact eq_st2 rfl (Nat.le_of_ble_eq_true rfl) rfl,
   by intros; exact eq_ld rfl rfl,
   by intros; exact eq_ld rfl rfl,
   by intros; exact eq_push rfl,
   by intros; exact eq_cv rfl (Nat.le_of_ble_eq_true rfl) rfl rfl rfl (Nat.le_of_ble_eq_true rfl),
   by intros; exact eq_sw rfl,
   by intros; exact eq_ld rfl rfl,
   by intros; exact eq_ld rfl rfl,
   by intros; exact eq_ld rfl rfl,
   by intros; exact eq_ld rfl rfl,
   by intros; exact eq_push rfl,
   by intros; exact eq_cv rfl (Nat.le_of_ble_eq_true rfl) rfl rfl rfl (Nat.le_of_ble_eq_true rfl),
   by intros; exact eq_cv rfl (Nat.le_of_ble_eq_true rfl) rfl rfl rfl (Nat.le_of_ble_eq_true rfl),
   by intros; exact eq_lcmp rfl,
   by intros; exact eq_if1 rfl,
   by intros; exact eq_push rfl,
   by intros; exact eq_go rfl,
   by intros; exact eq_push rfl,
   by intros; exact eq_rr rfl,
   by intros; exact eq_ld rfl rfl,
   by intros; exact eq_ld rfl rfl,
   by intros; exact eq_ld rfl rfl,
   by intros; exact eq_ld rfl rfl,
   by intros; exact eq_push rfl,
   by intros; exact eq_cv rfl (Nat.le_of_ble_eq_true rfl) rfl rfl rfl (Nat.le_of_ble_eq_true rfl),
   by intros; exact eq_cv rfl (Nat.le_of_ble_eq_true rfl) rfl rfl rfl (Nat.le_of_ble_eq_true rfl),
   by intros; exact eq_lcmp rfl,
   by intros; exact eq_if5 rfl,
   by intros; exact eq_push rfl,
   by intros; exact eq_go rfl,
   by intros; exact eq_push rfl,
   by intros; exact eq_rr rfl,
   by intros; exact eq_ld rfl rfl,
   by intros; exact eq_ld rfl rfl,
   by intros; exact eq_ld rfl rfl,
   by intros; exact eq_ld rfl rfl,
   by intros; exact eq_push rfl,
   by intros; exact eq_cv rfl (Nat.le_of_ble_eq_true rfl) rfl rfl rfl (Nat.le_of_ble_eq_true rfl),
   by intros; exact eq_cv rfl (Nat.le_of_ble_eq_true rfl) rfl rfl rfl (Nat.le_of_ble_eq_true rfl),
   by intros; exact eq_l2 (o := ml_add) rfl,
   by intros; exact eq_ld rfl rfl,
   by intros; exact eq_ld rfl rfl,
   by intros; exact eq_ld rfl rfl,
   by intros; exact eq_push rfl,
   by intros; exact eq_cv rfl (Nat.le_of_ble_eq_true rfl) rfl rfl rfl (Nat.le_of_ble_eq_true rfl),
   by intros; exact eq_cv rfl (Nat.le_of_ble_eq_true rfl) rfl rfl rfl (Nat.le_of_ble_eq_true rfl),
   by intros; exact eq_lcmp rfl,
   by intros; exact eq_if1 rfl,
   by intros; exact eq_push rfl,
   by intros; exact eq_go rfl,
   by intros; exact eq_push rfl,
   by intros; exact eq_rr rfl,
   by intros; exact eq_ld rfl rfl,
   by intros; exact eq_ld rfl rfl,
   by intros; exact eq_ld rfl rfl,
   by intros; exact eq_push rfl,
   by intros; exact eq_cv rfl (Nat.le_of_ble_eq_true rfl) rfl rfl rfl (Nat.le_of_ble_eq_true rfl),
   by intros; exact eq_i2l rfl,
   by intros; exact eq_l2d (o := ml_rem) rfl,
   by intros; exact eq_push rfl,
   by intros; exact eq_lcmp rfl,
   by intros; exact eq_if1 rfl,
   by intros; exact eq_push rfl⟩
theorem rw_X12_holdsNow_1 :
  (∀ (d : Nat) (l0 l1 l2 l3 : Option mx_V) (v0 : mx_V) (S h : mx_H) (n : Int), mx_ex d 194 133 [l0, l1, l2, l3] [v0] S h n = mx_ex d 194 137 [l0, l1, l2, l3] [v0] S h n) ∧
  (∀ (d : Nat) (l0 l1 l2 l3 : Option mx_V) (S h : mx_H) (n : Int), mx_ex d 194 136 [l0, l1, l2, l3] [] S h n = mx_ex d 194 137 [l0, l1, l2, l3] [(0, 0)] S h n) ∧
  (∀ (d : Nat) (x : Int) (l0 l1 l2 l3 : Option mx_V) (S h : mx_H) (n : Int), mx_ex d 194 137 [l0, l1, l2, l3] [(0, x)] S h n = mx_re (0 ≤ x ∧ x ≤ 1) (some (0, x)) S h n) :=
  ⟨by intros; exact eq_go rfl,
   by intros; exact eq_push rfl,
   by intros; exact eq_rr rfl⟩
theorem rh_X12_holdAll_2 : ∀ (d : Nat) (x : Int) (l0 l1 : Option mx_V) (S h : mx_H) (n : Int), mx_ex d 195 2 [l0, l1, some (0, x)] [] S h n = mx_ex d 195 3 [l0, l1, some (0, x)] [(0, x)] S h n := by intros; exact eq_ld rfl rfl
theorem rw_X12_holdAll :
  (∀ (d : Nat) (a0 a1 : Int) (S h : mx_H) (n : Int), mx_M d 195 [(2, a0), (0, a1)] S h n = mx_ex d 195 0 [some (2, a0), some (0, a1), none] [] S h n) ∧
  (∀ (d : Nat) (l0 l1 l2 : Option mx_V) (S h : mx_H) (n : Int), mx_ex d 195 0 [l0, l1, l2] [] S h n = mx_ex d 195 1 [l0, l1, l2] [(0, 0)] S h n) ∧
  (∀ (d : Nat) (x : Int) (l0 l1 l2 : Option mx_V) (S h : mx_H) (n : Int), mx_ex d 195 1 [l0, l1, l2] [(0, x)] S h n = mx_ex d 195 2 [l0, mx_nl l1, some (0, x)] [] S h n) ∧
  (∀ (d : Nat) (x : Int) (l1 l2 : Option mx_V) (v0 : mx_V) (S h : mx_H) (n : Int), mx_ex d 195 3 [some (2, x), l1, l2] [v0] S h n = mx_ex d 195 4 [some (2, x), l1, l2] [(2, x), v0] S h n) ∧
  (∀ (d : Nat) (a : Int) (l0 l1 l2 : Option mx_V) (v1 : mx_V) (S h : mx_H) (n : Int), mx_ex d 195 4 [l0, l1, l2] [(2, a), v1] S h n = mx_gd (13 ≤ S a (-2) ∧ S a (-2) ≤ 13) d 195 7 [l0, l1, l2] [(2, S a 0), v1] S h n) ∧
  (∀ (d : Nat) (l0 l1 l2 : Option mx_V) (v0 v1 : mx_V) (S h : mx_H) (n : Int), mx_ex d 195 7 [l0, l1, l2] [v0, v1] S h n = mx_ex d 195 8 [l0, l1, l2] [(0, 1), v0, v1] S h n) ∧
  (∀ (d : Nat) (i a : Int) (l0 l1 l2 : Option mx_V) (v2 : mx_V) (S h : mx_H) (n : Int), mx_ex d 195 8 [l0, l1, l2] [(0, i), (2, a), v2] S h n = mx_gd ((S a (-2) = 20 ∨ S a (-2) = 24) ∧ 0 ≤ i ∧ i < S a (-1)) d 195 9 [l0, l1, l2] [(0, h a i), v2] S h n) ∧
  (∀ (d : Nat) (b a : Int) (l0 l1 l2 : Option mx_V) (S h : mx_H) (n : Int), mx_ex d 195 9 [l0, l1, l2] [(0, b), (0, a)] S h n = mx_br (a < b) d 195 12 37 [l0, l1, l2] [] S h n) ∧
  (∀ (d : Nat) (x : Int) (l0 l2 : Option mx_V) (S h : mx_H) (n : Int), mx_ex d 195 12 [l0, some (0, x), l2] [] S h n = mx_ex d 195 13 [l0, some (0, x), l2] [(0, x)] S h n) ∧
  (∀ (d : Nat) (x : Int) (l0 l1 : Option mx_V) (v0 : mx_V) (S h : mx_H) (n : Int), mx_ex d 195 13 [l0, l1, some (0, x)] [v0] S h n = mx_ex d 195 14 [l0, l1, some (0, x)] [(0, x), v0] S h n) ∧
  (∀ (d : Nat) (b a : Int) (l0 l1 l2 : Option mx_V) (S h : mx_H) (n : Int), mx_ex d 195 14 [l0, l1, l2] [(0, b), (0, a)] S h n = mx_ex d 195 15 [l0, l1, l2] [(0, mx_shr a b)] S h n) ∧
  (∀ (d : Nat) (l0 l1 l2 : Option mx_V) (v0 : mx_V) (S h : mx_H) (n : Int), mx_ex d 195 15 [l0, l1, l2] [v0] S h n = mx_ex d 195 16 [l0, l1, l2] [(0, 1), v0] S h n) ∧
  (∀ (d : Nat) (b a : Int) (l0 l1 l2 : Option mx_V) (S h : mx_H) (n : Int), mx_ex d 195 16 [l0, l1, l2] [(0, b), (0, a)] S h n = mx_ex d 195 17 [l0, l1, l2] [(0, mx_and a b)] S h n) ∧
  (∀ (d : Nat) (l0 l1 l2 : Option mx_V) (v0 : mx_V) (S h : mx_H) (n : Int), mx_ex d 195 17 [l0, l1, l2] [v0] S h n = mx_ex d 195 18 [l0, l1, l2] [(0, 1), v0] S h n) ∧
  (∀ (d : Nat) (b a : Int) (l0 l1 l2 : Option mx_V) (S h : mx_H) (n : Int), mx_ex d 195 18 [l0, l1, l2] [(0, b), (0, a)] S h n = mx_br (a = b) d 195 21 31 [l0, l1, l2] [] S h n) ∧
  (∀ (d : Nat) (x : Int) (l1 l2 : Option mx_V) (S h : mx_H) (n : Int), mx_ex d 195 21 [some (2, x), l1, l2] [] S h n = mx_ex d 195 22 [some (2, x), l1, l2] [(2, x)] S h n) ∧
  (∀ (d : Nat) (x : Int) (l0 l1 : Option mx_V) (v0 : mx_V) (S h : mx_H) (n : Int), mx_ex d 195 22 [l0, l1, some (0, x)] [v0] S h n = mx_ex d 195 23 [l0, l1, some (0, x)] [(0, x), v0] S h n) ∧
  (∀ (d : Nat) (x0 a : Int) (l0 l1 l2 : Option mx_V) (S h : mx_H) (n : Int), mx_ex (d + 1) 195 23 [l0, l1, l2] [(0, x0), (2, a)] S h n = mx_cl (S a (-2) = 13) d 194 [(2, a), (0, x0)] 195 26 [l0, l1, l2] [] S h n) ∧
  (∀ (d : Nat) (a : Int) (l0 l1 l2 : Option mx_V) (S h : mx_H) (n : Int), mx_ex d 195 26 [l0, l1, l2] [(0, a)] S h n = mx_br (a = 0) d 195 29 31 [l0, l1, l2] [] S h n) ∧
  (∀ (d : Nat) (l0 l1 l2 : Option mx_V) (S h : mx_H) (n : Int), mx_ex d 195 29 [l0, l1, l2] [] S h n = mx_ex d 195 30 [l0, l1, l2] [(0, 0)] S h n) ∧
  (∀ (d : Nat) (x : Int) (l0 l1 l2 : Option mx_V) (S h : mx_H) (n : Int), mx_ex d 195 30 [l0, l1, l2] [(0, x)] S h n = mx_re (0 ≤ x ∧ x ≤ 1) (some (0, x)) S h n) ∧
  (∀ (d : Nat) (x : Int) (l0 l1 : Option mx_V) (S h : mx_H) (n : Int), mx_ex d 195 31 [l0, l1, some (0, x)] [] S h n = mx_ex d 195 34 [l0, mx_nl l1, some (0, mx_w (x + 1))] [] S h n) ∧
  (∀ (d : Nat) (l0 l1 l2 : Option mx_V) (S h : mx_H) (n : Int), mx_ex d 195 34 [l0, l1, l2] [] S h n = mx_ex d 195 2 [l0, l1, l2] [] S h n) ∧
  (∀ (d : Nat) (l0 l1 l2 : Option mx_V) (S h : mx_H) (n : Int), mx_ex d 195 37 [l0, l1, l2] [] S h n = mx_ex d 195 38 [l0, l1, l2] [(0, 1)] S h n) ∧
  (∀ (d : Nat) (x : Int) (l0 l1 l2 : Option mx_V) (S h : mx_H) (n : Int), mx_ex d 195 38 [l0, l1, l2] [(0, x)] S h n = mx_re (0 ≤ x ∧ x ≤ 1) (some (0, x)) S h n) :=
  ⟨by intros; exact rfl,
   by intros; exact eq_push rfl,
   by intros; exact eq_st rfl (by decide) (Nat.le_of_ble_eq_true rfl) rfl,
   by intros; exact eq_ld rfl rfl,
   by intros; exact eq_gr rfl,
   by intros; exact eq_push rfl,
   by intros; exact eq_iald rfl,
   by intros; exact eq_ic3 rfl,
   by intros; exact eq_ld rfl rfl,
   by intros; exact eq_ld rfl rfl,
   by intros; exact eq_i2 (o := mx_shr) rfl,
   by intros; exact eq_push rfl,
   by intros; exact eq_i2 (o := mx_and) rfl,
   by intros; exact eq_push rfl,
   by intros; exact eq_ic1 rfl,
   by intros; exact eq_ld rfl rfl,
   by intros; exact eq_ld rfl rfl,
   by intros; exact eq_cv rfl (Nat.le_of_ble_eq_true rfl) rfl rfl rfl (Nat.le_of_ble_eq_true rfl),
   by intros; exact eq_if1 rfl,
   by intros; exact eq_push rfl,
   by intros; exact eq_rr rfl,
   by intros; exact eq_inc rfl rfl rfl,
   by intros; exact eq_go rfl,
   by intros; exact eq_push rfl,
   by intros; exact eq_rr rfl⟩
theorem rh_X12_may1_13 : ∀ (d : Nat) (x : Int) (l0 l1 l2 l4 l5 : Option mx_V) (S h : mx_H) (n : Int), mx_ex d 196 13 [l0, l1, l2, some (0, x), l4, l5] [] S h n = mx_ex d 196 14 [l0, l1, l2, some (0, x), l4, l5] [(0, x)] S h n := by intros; exact eq_ld rfl rfl
theorem rh_X12_may1_35 : ∀ (d : Nat) (x : Int) (l0 l1 l2 l3 l4 : Option mx_V) (S h : mx_H) (n : Int), mx_ex d 196 35 [l0, l1, l2, l3, l4, some (0, x)] [] S h n = mx_ex d 196 37 [l0, l1, l2, l3, l4, some (0, x)] [(0, x)] S h n := by intros; exact eq_ld rfl rfl
theorem rw_X12_may1 :
  (∀ (d : Nat) (a0 a1 : Int) (S h : mx_H) (n : Int), mx_M d 196 [(2, a0), (0, a1)] S h n = mx_ex d 196 0 [some (2, a0), some (0, a1), none, none, none, none] [] S h n) ∧
  (∀ (d : Nat) (l0 l1 l2 l3 l4 l5 : Option mx_V) (S h : mx_H) (n : Int), mx_ex d 196 0 [l0, l1, l2, l3, l4, l5] [] S h n = mx_ex d 196 1 [l0, l1, l2, l3, l4, l5] [(0, 0)] S h n) ∧
  (∀ (d : Nat) (x : Int) (l0 l1 l2 l3 l4 l5 : Option mx_V) (S h : mx_H) (n : Int), mx_ex d 196 1 [l0, l1, l2, l3, l4, l5] [(0, x)] S h n = mx_ex d 196 2 [l0, mx_nl l1, some (0, x), l3, l4, l5] [] S h n) ∧
  (∀ (d : Nat) (x : Int) (l1 l2 l3 l4 l5 : Option mx_V) (S h : mx_H) (n : Int), mx_ex d 196 2 [some (2, x), l1, l2, l3, l4, l5] [] S h n = mx_ex d 196 3 [some (2, x), l1, l2, l3, l4, l5] [(2, x)] S h n) ∧
  (∀ (d : Nat) (a : Int) (l0 l1 l2 l3 l4 l5 : Option mx_V) (S h : mx_H) (n : Int), mx_ex d 196 3 [l0, l1, l2, l3, l4, l5] [(2, a)] S h n = mx_gd (13 ≤ S a (-2) ∧ S a (-2) ≤ 13) d 196 6 [l0, l1, l2, l3, l4, l5] [(2, S a 0)] S h n) ∧
  (∀ (d : Nat) (l0 l1 l2 l3 l4 l5 : Option mx_V) (v0 : mx_V) (S h : mx_H) (n : Int), mx_ex d 196 6 [l0, l1, l2, l3, l4, l5] [v0] S h n = mx_ex d 196 7 [l0, l1, l2, l3, l4, l5] [(0, 3), v0] S h n) ∧
  (∀ (d : Nat) (l0 l1 l2 l3 l4 l5 : Option mx_V) (v0 v1 : mx_V) (S h : mx_H) (n : Int), mx_ex d 196 7 [l0, l1, l2, l3, l4, l5] [v0, v1] S h n = mx_ex d 196 8 [l0, l1, l2, l3, l4, l5] [(0, 2), v0, v1] S h n) ∧
  (∀ (d : Nat) (x : Int) (l0 l2 l3 l4 l5 : Option mx_V) (v0 v1 v2 : mx_V) (S h : mx_H) (n : Int), mx_ex d 196 8 [l0, some (0, x), l2, l3, l4, l5] [v0, v1, v2] S h n = mx_ex d 196 9 [l0, some (0, x), l2, l3, l4, l5] [(0, x), v0, v1, v2] S h n) ∧
  (∀ (d : Nat) (b a : Int) (l0 l1 l2 l3 l4 l5 : Option mx_V) (v2 v3 : mx_V) (S h : mx_H) (n : Int), mx_ex d 196 9 [l0, l1, l2, l3, l4, l5] [(0, b), (0, a), v2, v3] S h n = mx_ex d 196 10 [l0, l1, l2, l3, l4, l5] [(0, mx_w (a * b)), v2, v3] S h n) ∧
  (∀ (d : Nat) (b a : Int) (l0 l1 l2 l3 l4 l5 : Option mx_V) (v2 : mx_V) (S h : mx_H) (n : Int), mx_ex d 196 10 [l0, l1, l2, l3, l4, l5] [(0, b), (0, a), v2] S h n = mx_ex d 196 11 [l0, l1, l2, l3, l4, l5] [(0, mx_w (a + b)), v2] S h n) ∧
  (∀ (d : Nat) (i a : Int) (l0 l1 l2 l3 l4 l5 : Option mx_V) (S h : mx_H) (n : Int), mx_ex d 196 11 [l0, l1, l2, l3, l4, l5] [(0, i), (2, a)] S h n = mx_gd ((S a (-2) = 20 ∨ S a (-2) = 24) ∧ 0 ≤ i ∧ i < S a (-1)) d 196 12 [l0, l1, l2, l3, l4, l5] [(0, h a i)] S h n) ∧
  (∀ (d : Nat) (x : Int) (l0 l1 l2 l3 l4 l5 : Option mx_V) (S h : mx_H) (n : Int), mx_ex d 196 12 [l0, l1, l2, l3, l4, l5] [(0, x)] S h n = mx_ex d 196 13 [l0, l1, mx_nl l2, some (0, x), l4, l5] [] S h n) ∧
  (∀ (d : Nat) (x : Int) (l1 l2 l3 l4 l5 : Option mx_V) (v0 : mx_V) (S h : mx_H) (n : Int), mx_ex d 196 14 [some (2, x), l1, l2, l3, l4, l5] [v0] S h n = mx_ex d 196 15 [some (2, x), l1, l2, l3, l4, l5] [(2, x), v0] S h n) ∧
  (∀ (d : Nat) (a : Int) (l0 l1 l2 l3 l4 l5 : Option mx_V) (v1 : mx_V) (S h : mx_H) (n : Int), mx_ex d 196 15 [l0, l1, l2, l3, l4, l5] [(2, a), v1] S h n = mx_gd (13 ≤ S a (-2) ∧ S a (-2) ≤ 13) d 196 18 [l0, l1, l2, l3, l4, l5] [(2, S a 0), v1] S h n) ∧
  (∀ (d : Nat) (l0 l1 l2 l3 l4 l5 : Option mx_V) (v0 v1 : mx_V) (S h : mx_H) (n : Int), mx_ex d 196 18 [l0, l1, l2, l3, l4, l5] [v0, v1] S h n = mx_ex d 196 19 [l0, l1, l2, l3, l4, l5] [(0, 3), v0, v1] S h n) ∧
  (∀ (d : Nat) (l0 l1 l2 l3 l4 l5 : Option mx_V) (v0 v1 v2 : mx_V) (S h : mx_H) (n : Int), mx_ex d 196 19 [l0, l1, l2, l3, l4, l5] [v0, v1, v2] S h n = mx_ex d 196 20 [l0, l1, l2, l3, l4, l5] [(0, 2), v0, v1, v2] S h n) ∧
  (∀ (d : Nat) (x : Int) (l0 l2 l3 l4 l5 : Option mx_V) (v0 v1 v2 v3 : mx_V) (S h : mx_H) (n : Int), mx_ex d 196 20 [l0, some (0, x), l2, l3, l4, l5] [v0, v1, v2, v3] S h n = mx_ex d 196 21 [l0, some (0, x), l2, l3, l4, l5] [(0, x), v0, v1, v2, v3] S h n) ∧
  (∀ (d : Nat) (b a : Int) (l0 l1 l2 l3 l4 l5 : Option mx_V) (v2 v3 v4 : mx_V) (S h : mx_H) (n : Int), mx_ex d 196 21 [l0, l1, l2, l3, l4, l5] [(0, b), (0, a), v2, v3, v4] S h n = mx_ex d 196 22 [l0, l1, l2, l3, l4, l5] [(0, mx_w (a * b)), v2, v3, v4] S h n) ∧
  (∀ (d : Nat) (b a : Int) (l0 l1 l2 l3 l4 l5 : Option mx_V) (v2 v3 : mx_V) (S h : mx_H) (n : Int), mx_ex d 196 22 [l0, l1, l2, l3, l4, l5] [(0, b), (0, a), v2, v3] S h n = mx_ex d 196 23 [l0, l1, l2, l3, l4, l5] [(0, mx_w (a + b)), v2, v3] S h n) ∧
  (∀ (d : Nat) (l0 l1 l2 l3 l4 l5 : Option mx_V) (v0 v1 v2 : mx_V) (S h : mx_H) (n : Int), mx_ex d 196 23 [l0, l1, l2, l3, l4, l5] [v0, v1, v2] S h n = mx_ex d 196 24 [l0, l1, l2, l3, l4, l5] [(0, 1), v0, v1, v2] S h n) ∧
  (∀ (d : Nat) (b a : Int) (l0 l1 l2 l3 l4 l5 : Option mx_V) (v2 v3 : mx_V) (S h : mx_H) (n : Int), mx_ex d 196 24 [l0, l1, l2, l3, l4, l5] [(0, b), (0, a), v2, v3] S h n = mx_ex d 196 25 [l0, l1, l2, l3, l4, l5] [(0, mx_w (a + b)), v2, v3] S h n) ∧
  (∀ (d : Nat) (i a : Int) (l0 l1 l2 l3 l4 l5 : Option mx_V) (v2 : mx_V) (S h : mx_H) (n : Int), mx_ex d 196 25 [l0, l1, l2, l3, l4, l5] [(0, i), (2, a), v2] S h n = mx_gd ((S a (-2) = 20 ∨ S a (-2) = 24) ∧ 0 ≤ i ∧ i < S a (-1)) d 196 26 [l0, l1, l2, l3, l4, l5] [(0, h a i), v2] S h n) ∧
  (∀ (d : Nat) (b a : Int) (l0 l1 l2 l3 l4 l5 : Option mx_V) (S h : mx_H) (n : Int), mx_ex d 196 26 [l0, l1, l2, l3, l4, l5] [(0, b), (0, a)] S h n = mx_br (b < a) d 196 106 29 [l0, l1, l2, l3, l4, l5] [] S h n) ∧
  (∀ (d : Nat) (l0 l1 l2 l3 l4 l5 : Option mx_V) (S h : mx_H) (n : Int), mx_ex d 196 29 [l0, l1, l2, l3, l4, l5] [] S h n = mx_ex d 196 30 [l0, l1, l2, l3, l4, l5] [(0, 1)] S h n) ∧
  (∀ (d : Nat) (x : Int) (l0 l1 l2 l3 l4 l5 : Option mx_V) (S h : mx_H) (n : Int), mx_ex d 196 30 [l0, l1, l2, l3, l4, l5] [(0, x)] S h n = mx_ex d 196 32 [l0, l1, l2, mx_nl l3, some (0, x), l5] [] S h n) ∧
  (∀ (d : Nat) (l0 l1 l2 l3 l4 l5 : Option mx_V) (S h : mx_H) (n : Int), mx_ex d 196 32 [l0, l1, l2, l3, l4, l5] [] S h n = mx_ex d 196 33 [l0, l1, l2, l3, l4, l5] [(0, 0)] S h n) ∧
  (∀ (d : Nat) (x : Int) (l0 l1 l2 l3 l4 l5 : Option mx_V) (S h : mx_H) (n : Int), mx_ex d 196 33 [l0, l1, l2, l3, l4, l5] [(0, x)] S h n = mx_ex d 196 35 [l0, l1, l2, l3, mx_nl l4, some (0, x)] [] S h n) ∧
  (∀ (d : Nat) (x : Int) (l1 l2 l3 l4 l5 : Option mx_V) (v0 : mx_V) (S h : mx_H) (n : Int), mx_ex d 196 37 [some (2, x), l1, l2, l3, l4, l5] [v0] S h n = mx_ex d 196 38 [some (2, x), l1, l2, l3, l4, l5] [(2, x), v0] S h n) ∧
  (∀ (d : Nat) (a : Int) (l0 l1 l2 l3 l4 l5 : Option mx_V) (v1 : mx_V) (S h : mx_H) (n : Int), mx_ex d 196 38 [l0, l1, l2, l3, l4, l5] [(2, a), v1] S h n = mx_gd (13 ≤ S a (-2) ∧ S a (-2) ≤ 13) d 196 41 [l0, l1, l2, l3, l4, l5] [(2, S a 0), v1] S h n) ∧
  (∀ (d : Nat) (l0 l1 l2 l3 l4 l5 : Option mx_V) (v0 v1 : mx_V) (S h : mx_H) (n : Int), mx_ex d 196 41 [l0, l1, l2, l3, l4, l5] [v0, v1] S h n = mx_ex d 196 42 [l0, l1, l2, l3, l4, l5] [(0, 0), v0, v1] S h n) ∧
  (∀ (d : Nat) (i a : Int) (l0 l1 l2 l3 l4 l5 : Option mx_V) (v2 : mx_V) (S h : mx_H) (n : Int), mx_ex d 196 42 [l0, l1, l2, l3, l4, l5] [(0, i), (2, a), v2] S h n = mx_gd ((S a (-2) = 20 ∨ S a (-2) = 24) ∧ 0 ≤ i ∧ i < S a (-1)) d 196 43 [l0, l1, l2, l3, l4, l5] [(0, h a i), v2] S h n) ∧
  (∀ (d : Nat) (b a : Int) (l0 l1 l2 l3 l4 l5 : Option mx_V) (S h : mx_H) (n : Int), mx_ex d 196 43 [l0, l1, l2, l3, l4, l5] [(0, b), (0, a)] S h n = mx_br (a < b) d 196 46 85 [l0, l1, l2, l3, l4, l5] [] S h n) ∧
  (∀ (d : Nat) (x : Int) (l0 l1 l2 l3 l5 : Option mx_V) (S h : mx_H) (n : Int), mx_ex d 196 46 [l0, l1, l2, l3, some (0, x), l5] [] S h n = mx_ex d 196 48 [l0, l1, l2, l3, some (0, x), l5] [(0, x)] S h n) ∧
  (∀ (d : Nat) (a : Int) (l0 l1 l2 l3 l4 l5 : Option mx_V) (S h : mx_H) (n : Int), mx_ex d 196 48 [l0, l1, l2, l3, l4, l5] [(0, a)] S h n = mx_br (a = 0) d 196 85 51 [l0, l1, l2, l3, l4, l5] [] S h n) ∧
  (∀ (d : Nat) (x : Int) (l1 l2 l3 l4 l5 : Option mx_V) (S h : mx_H) (n : Int), mx_ex d 196 51 [some (2, x), l1, l2, l3, l4, l5] [] S h n = mx_ex d 196 52 [some (2, x), l1, l2, l3, l4, l5] [(2, x)] S h n) ∧
  (∀ (d : Nat) (x : Int) (l0 l1 l2 l3 l4 : Option mx_V) (v0 : mx_V) (S h : mx_H) (n : Int), mx_ex d 196 52 [l0, l1, l2, l3, l4, some (0, x)] [v0] S h n = mx_ex d 196 54 [l0, l1, l2, l3, l4, some (0, x)] [(0, x), v0] S h n) ∧
  (∀ (d : Nat) (l0 l1 l2 l3 l4 l5 : Option mx_V) (v0 v1 : mx_V) (S h : mx_H) (n : Int), mx_ex d 196 54 [l0, l1, l2, l3, l4, l5] [v0, v1] S h n = mx_ex d 196 55 [l0, l1, l2, l3, l4, l5] [(0, 1), v0, v1] S h n) ∧
  (∀ (d : Nat) (x0 x1 a : Int) (l0 l1 l2 l3 l4 l5 : Option mx_V) (S h : mx_H) (n : Int), mx_ex (d + 1) 196 55 [l0, l1, l2, l3, l4, l5] [(0, x0), (0, x1), (2, a)] S h n = mx_cl (S a (-2) = 13) d 163 [(2, a), (0, x1), (0, x0)] 196 58 [l0, l1, l2, l3, l4, l5] [] S h n) ∧
  (∀ (d : Nat) (x : Int) (l0 l2 l3 l4 l5 : Option mx_V) (v0 : mx_V) (S h : mx_H) (n : Int), mx_ex d 196 58 [l0, some (0, x), l2, l3, l4, l5] [v0] S h n = mx_ex d 196 59 [l0, some (0, x), l2, l3, l4, l5] [(0, x), v0] S h n) ∧
  (∀ (d : Nat) (b a : Int) (l0 l1 l2 l3 l4 l5 : Option mx_V) (S h : mx_H) (n : Int), mx_ex d 196 59 [l0, l1, l2, l3, l4, l5] [(0, b), (0, a)] S h n = mx_br (a = b) d 196 62 72 [l0, l1, l2, l3, l4, l5] [] S h n) ∧
  (∀ (d : Nat) (x : Int) (l1 l2 l3 l4 l5 : Option mx_V) (S h : mx_H) (n : Int), mx_ex d 196 62 [some (2, x), l1, l2, l3, l4, l5] [] S h n = mx_ex d 196 63 [some (2, x), l1, l2, l3, l4, l5] [(2, x)] S h n) ∧
  (∀ (d : Nat) (x : Int) (l0 l1 l2 l3 l4 : Option mx_V) (v0 : mx_V) (S h : mx_H) (n : Int), mx_ex d 196 63 [l0, l1, l2, l3, l4, some (0, x)] [v0] S h n = mx_ex d 196 65 [l0, l1, l2, l3, l4, some (0, x)] [(0, x), v0] S h n) ∧
  (∀ (d : Nat) (x : Int) (l0 l1 l2 l4 l5 : Option mx_V) (v0 v1 : mx_V) (S h : mx_H) (n : Int), mx_ex d 196 65 [l0, l1, l2, some (0, x), l4, l5] [v0, v1] S h n = mx_ex d 196 66 [l0, l1, l2, some (0, x), l4, l5] [(0, x), v0, v1] S h n) ∧
  (∀ (d : Nat) (x0 x1 a : Int) (l0 l1 l2 l3 l4 l5 : Option mx_V) (S h : mx_H) (n : Int), mx_ex (d + 1) 196 66 [l0, l1, l2, l3, l4, l5] [(0, x0), (0, x1), (2, a)] S h n = mx_cl (S a (-2) = 13) d 186 [(2, a), (0, x1), (0, x0)] 196 69 [l0, l1, l2, l3, l4, l5] [] S h n) ∧
  (∀ (d : Nat) (a : Int) (l0 l1 l2 l3 l4 l5 : Option mx_V) (S h : mx_H) (n : Int), mx_ex d 196 69 [l0, l1, l2, l3, l4, l5] [(0, a)] S h n = mx_br (a = 0) d 196 76 72 [l0, l1, l2, l3, l4, l5] [] S h n) ∧
  (∀ (d : Nat) (l0 l1 l2 l3 l4 l5 : Option mx_V) (S h : mx_H) (n : Int), mx_ex d 196 72 [l0, l1, l2, l3, l4, l5] [] S h n = mx_ex d 196 73 [l0, l1, l2, l3, l4, l5] [(0, 1)] S h n) ∧
  (∀ (d : Nat) (l0 l1 l2 l3 l4 l5 : Option mx_V) (v0 : mx_V) (S h : mx_H) (n : Int), mx_ex d 196 73 [l0, l1, l2, l3, l4, l5] [v0] S h n = mx_ex d 196 77 [l0, l1, l2, l3, l4, l5] [v0] S h n) ∧
  (∀ (d : Nat) (l0 l1 l2 l3 l4 l5 : Option mx_V) (S h : mx_H) (n : Int), mx_ex d 196 76 [l0, l1, l2, l3, l4, l5] [] S h n = mx_ex d 196 77 [l0, l1, l2, l3, l4, l5] [(0, 0)] S h n) ∧
  (∀ (d : Nat) (x : Int) (l0 l1 l2 l3 l4 l5 : Option mx_V) (S h : mx_H) (n : Int), mx_ex d 196 77 [l0, l1, l2, l3, l4, l5] [(0, x)] S h n = mx_ex d 196 79 [l0, l1, l2, mx_nl l3, some (0, x), l5] [] S h n) ∧
  (∀ (d : Nat) (x : Int) (l0 l1 l2 l3 l4 : Option mx_V) (S h : mx_H) (n : Int), mx_ex d 196 79 [l0, l1, l2, l3, l4, some (0, x)] [] S h n = mx_ex d 196 82 [l0, l1, l2, l3, mx_nl l4, some (0, mx_w (x + 1))] [] S h n) ∧
  (∀ (d : Nat) (l0 l1 l2 l3 l4 l5 : Option mx_V) (S h : mx_H) (n : Int), mx_ex d 196 82 [l0, l1, l2, l3, l4, l5] [] S h n = mx_ex d 196 35 [l0, l1, l2, l3, l4, l5] [] S h n) ∧
  (∀ (d : Nat) (x : Int) (l0 l1 l3 l4 l5 : Option mx_V) (S h : mx_H) (n : Int), mx_ex d 196 85 [l0, l1, some (0, x), l3, l4, l5] [] S h n = mx_ex d 196 86 [l0, l1, some (0, x), l3, l4, l5] [(0, x)] S h n) ∧
  (∀ (d : Nat) (x : Int) (l0 l1 l2 l3 l5 : Option mx_V) (v0 : mx_V) (S h : mx_H) (n : Int), mx_ex d 196 86 [l0, l1, l2, l3, some (0, x), l5] [v0] S h n = mx_ex d 196 88 [l0, l1, l2, l3, some (0, x), l5] [(0, x), v0] S h n) ∧
  (∀ (d : Nat) (a : Int) (l0 l1 l2 l3 l4 l5 : Option mx_V) (v1 : mx_V) (S h : mx_H) (n : Int), mx_ex d 196 88 [l0, l1, l2, l3, l4, l5] [(0, a), v1] S h n = mx_br (a = 0) d 196 97 91 [l0, l1, l2, l3, l4, l5] [v1] S h n) ∧
  (∀ (d : Nat) (l0 l1 l2 l3 l4 l5 : Option mx_V) (v0 : mx_V) (S h : mx_H) (n : Int), mx_ex d 196 91 [l0, l1, l2, l3, l4, l5] [v0] S h n = mx_ex d 196 92 [l0, l1, l2, l3, l4, l5] [(0, 1), v0] S h n) ∧
  (∀ (d : Nat) (x : Int) (l0 l1 l2 l4 l5 : Option mx_V) (v0 v1 : mx_V) (S h : mx_H) (n : Int), mx_ex d 196 92 [l0, l1, l2, some (0, x), l4, l5] [v0, v1] S h n = mx_ex d 196 93 [l0, l1, l2, some (0, x), l4, l5] [(0, x), v0, v1] S h n) ∧
  (∀ (d : Nat) (b a : Int) (l0 l1 l2 l3 l4 l5 : Option mx_V) (v2 : mx_V) (S h : mx_H) (n : Int), mx_ex d 196 93 [l0, l1, l2, l3, l4, l5] [(0, b), (0, a), v2] S h n = mx_ex d 196 94 [l0, l1, l2, l3, l4, l5] [(0, mx_shl a b), v2] S h n) ∧
  (∀ (d : Nat) (l0 l1 l2 l3 l4 l5 : Option mx_V) (v0 v1 : mx_V) (S h : mx_H) (n : Int), mx_ex d 196 94 [l0, l1, l2, l3, l4, l5] [v0, v1] S h n = mx_ex d 196 98 [l0, l1, l2, l3, l4, l5] [v0, v1] S h n) ∧
  (∀ (d : Nat) (l0 l1 l2 l3 l4 l5 : Option mx_V) (v0 : mx_V) (S h : mx_H) (n : Int), mx_ex d 196 97 [l0, l1, l2, l3, l4, l5] [v0] S h n = mx_ex d 196 98 [l0, l1, l2, l3, l4, l5] [(0, 0), v0] S h n) ∧
  (∀ (d : Nat) (b a : Int) (l0 l1 l2 l3 l4 l5 : Option mx_V) (S h : mx_H) (n : Int), mx_ex d 196 98 [l0, l1, l2, l3, l4, l5] [(0, b), (0, a)] S h n = mx_ex d 196 99 [l0, l1, l2, l3, l4, l5] [(0, mx_or a b)] S h n) ∧
  (∀ (d : Nat) (x : Int) (l0 l1 l2 l3 l4 l5 : Option mx_V) (S h : mx_H) (n : Int), mx_ex d 196 99 [l0, l1, l2, l3, l4, l5] [(0, x)] S h n = mx_ex d 196 100 [l0, mx_nl l1, some (0, x), l3, l4, l5] [] S h n) ∧
  (∀ (d : Nat) (x : Int) (l0 l1 l2 l4 l5 : Option mx_V) (S h : mx_H) (n : Int), mx_ex d 196 100 [l0, l1, l2, some (0, x), l4, l5] [] S h n = mx_ex d 196 103 [l0, l1, mx_nl l2, some (0, mx_w (x + 1)), l4, l5] [] S h n) ∧
  (∀ (d : Nat) (l0 l1 l2 l3 l4 l5 : Option mx_V) (S h : mx_H) (n : Int), mx_ex d 196 103 [l0, l1, l2, l3, l4, l5] [] S h n = mx_ex d 196 13 [l0, l1, l2, l3, l4, l5] [] S h n) ∧
  (∀ (d : Nat) (x : Int) (l0 l1 l3 l4 l5 : Option mx_V) (S h : mx_H) (n : Int), mx_ex d 196 106 [l0, l1, some (0, x), l3, l4, l5] [] S h n = mx_ex d 196 107 [l0, l1, some (0, x), l3, l4, l5] [(0, x)] S h n) ∧
  (∀ (d : Nat) (x : Int) (l0 l1 l2 l3 l4 l5 : Option mx_V) (S h : mx_H) (n : Int), mx_ex d 196 107 [l0, l1, l2, l3, l4, l5] [(0, x)] S h n = some (some (0, x), S, h, n)) :=
  ⟨by intros; exact rfl,
   by intros; exact eq_push rfl,
   by intros; exact eq_st rfl (by decide) (Nat.le_of_ble_eq_true rfl) rfl,
   by intros; exact eq_ld rfl rfl,
   by intros; exact eq_gr rfl,
   by intros; exact eq_push rfl,
   by intros; exact eq_push rfl,
   by intros; exact eq_ld rfl rfl,
   by intros; exact eq_i2 (o := mx_mul) rfl,
   by intros; exact eq_i2 (o := mx_add) rfl,
   by intros; exact eq_iald rfl,
   by intros; exact eq_st rfl (by decide) (Nat.le_of_ble_eq_true rfl) rfl,
   by intros; exact eq_ld rfl rfl,
   by intros; exact eq_gr rfl,
   by intros; exact eq_push rfl,
   by intros; exact eq_push rfl,
   by intros; exact eq_ld rfl rfl,
   by intros; exact eq_i2 (o := mx_mul) rfl,
   by intros; exact eq_i2 (o := mx_add) rfl,
   by intros; exact eq_push rfl,
   by intros; exact eq_i2 (o := mx_add) rfl,
   by intros; exact eq_iald rfl,
   by intros; exact eq_ic4 rfl,
   by intros; exact eq_push rfl,
   by intros; exact eq_st rfl (by decide) (Nat.le_of_ble_eq_true rfl) rfl,
   by intros; exact eq_push rfl,
   by intros; exact eq_st rfl (by decide) (Nat.le_of_ble_eq_true rfl) rfl,
   by intros; exact eq_ld rfl rfl,
   by intros; exact eq_gr rfl,
   by intros; exact eq_push rfl,
   by intros; exact eq_iald rfl,
   by intros; exact eq_ic3 rfl,
   by intros; exact eq_ld rfl rfl,
   by intros; exact eq_if0 rfl,
   by intros; exact eq_ld rfl rfl,
   by intros; exact eq_ld rfl rfl,
   by intros; exact eq_push rfl,
   by intros; exact eq_cv rfl (Nat.le_of_ble_eq_true rfl) rfl rfl rfl (Nat.le_of_ble_eq_true rfl),
   by intros; exact eq_ld rfl rfl,
   by intros; exact eq_ic1 rfl,
   by intros; exact eq_ld rfl rfl,
   by intros; exact eq_ld rfl rfl,
   by intros; exact eq_ld rfl rfl,
   by intros; exact eq_cv rfl (Nat.le_of_ble_eq_true rfl) rfl rfl rfl (Nat.le_of_ble_eq_true rfl),
   by intros; exact eq_if0 rfl,
   by intros; exact eq_push rfl,
   by intros; exact eq_go rfl,
   by intros; exact eq_push rfl,
   by intros; exact eq_st rfl (by decide) (Nat.le_of_ble_eq_true rfl) rfl,
   by intros; exact eq_inc rfl rfl rfl,
   by intros; exact eq_go rfl,
   by intros; exact eq_ld rfl rfl,
   by intros; exact eq_ld rfl rfl,
   by intros; exact eq_if0 rfl,
   by intros; exact eq_push rfl,
   by intros; exact eq_ld rfl rfl,
   by intros; exact eq_i2 (o := mx_shl) rfl,
   by intros; exact eq_go rfl,
   by intros; exact eq_push rfl,
   by intros; exact eq_i2 (o := mx_or) rfl,
   by intros; exact eq_st rfl (by decide) (Nat.le_of_ble_eq_true rfl) rfl,
   by intros; exact eq_inc rfl rfl rfl,
   by intros; exact eq_go rfl,
   by intros; exact eq_ld rfl rfl,
   by intros; exact eq_ret rfl⟩
theorem rh_X12_findWorlds_2 : ∀ (d : Nat) (x : Int) (l0 l1 l2 l4 l5 l6 : Option mx_V) (S h : mx_H) (n : Int), mx_ex d 197 2 [l0, l1, l2, some (0, x), l4, l5, l6] [] S h n = mx_ex d 197 3 [l0, l1, l2, some (0, x), l4, l5, l6] [(0, x)] S h n := by intros; exact eq_ld rfl rfl
theorem rh_X12_findWorlds_36 : ∀ (d : Nat) (x : Int) (l0 l1 l2 l3 l5 l6 : Option mx_V) (S h : mx_H) (n : Int), mx_ex d 197 36 [l0, l1, l2, l3, some (0, x), l5, l6] [] S h n = mx_ex d 197 38 [l0, l1, l2, l3, some (0, x), l5, l6] [(0, x)] S h n := by intros; exact eq_ld rfl rfl
theorem rh_X12_findWorlds_46 : ∀ (d : Nat) (x : Int) (l0 l1 l2 l3 l4 l6 : Option mx_V) (S h : mx_H) (n : Int), mx_ex d 197 46 [l0, l1, l2, l3, l4, some (0, x), l6] [] S h n = mx_ex d 197 48 [l0, l1, l2, l3, l4, some (0, x), l6] [(0, x)] S h n := by intros; exact eq_ld rfl rfl
theorem rh_X12_findWorlds_71 : ∀ (d : Nat) (x : Int) (l0 l1 l2 l3 l4 l5 : Option mx_V) (S h : mx_H) (n : Int), mx_ex d 197 71 [l0, l1, l2, l3, l4, l5, some (0, x)] [] S h n = mx_ex d 197 73 [l0, l1, l2, l3, l4, l5, some (0, x)] [(0, x)] S h n := by intros; exact eq_ld rfl rfl
theorem rw_X12_findWorlds :
  (∀ (d : Nat) (a0 a1 a2 : Int) (S h : mx_H) (n : Int), mx_M d 197 [(2, a0), (0, a1), (0, a2)] S h n = mx_ex d 197 0 [some (2, a0), some (0, a1), some (0, a2), none, none, none, none] [] S h n) ∧
  (∀ (d : Nat) (l0 l1 l2 l3 l4 l5 l6 : Option mx_V) (S h : mx_H) (n : Int), mx_ex d 197 0 [l0, l1, l2, l3, l4, l5, l6] [] S h n = mx_ex d 197 1 [l0, l1, l2, l3, l4, l5, l6] [(0, 0)] S h n) ∧
  (∀ (d : Nat) (x : Int) (l0 l1 l2 l3 l4 l5 l6 : Option mx_V) (S h : mx_H) (n : Int), mx_ex d 197 1 [l0, l1, l2, l3, l4, l5, l6] [(0, x)] S h n = mx_ex d 197 2 [l0, l1, mx_nl l2, some (0, x), l4, l5, l6] [] S h n) ∧
  (∀ (d : Nat) (l0 l1 l2 l3 l4 l5 l6 : Option mx_V) (v0 : mx_V) (S h : mx_H) (n : Int), mx_ex d 197 3 [l0, l1, l2, l3, l4, l5, l6] [v0] S h n = mx_ex d 197 4 [l0, l1, l2, l3, l4, l5, l6] [(0, 3), v0] S h n) ∧
  (∀ (d : Nat) (b a : Int) (l0 l1 l2 l3 l4 l5 l6 : Option mx_V) (S h : mx_H) (n : Int), mx_ex d 197 4 [l0, l1, l2, l3, l4, l5, l6] [(0, b), (0, a)] S h n = mx_br (a < b) d 197 7 31 [l0, l1, l2, l3, l4, l5, l6] [] S h n) ∧
  (∀ (d : Nat) (x : Int) (l1 l2 l3 l4 l5 l6 : Option mx_V) (S h : mx_H) (n : Int), mx_ex d 197 7 [some (2, x), l1, l2, l3, l4, l5, l6] [] S h n = mx_ex d 197 8 [some (2, x), l1, l2, l3, l4, l5, l6] [(2, x)] S h n) ∧
  (∀ (d : Nat) (a : Int) (l0 l1 l2 l3 l4 l5 l6 : Option mx_V) (S h : mx_H) (n : Int), mx_ex d 197 8 [l0, l1, l2, l3, l4, l5, l6] [(2, a)] S h n = mx_gd (13 ≤ S a (-2) ∧ S a (-2) ≤ 13) d 197 11 [l0, l1, l2, l3, l4, l5, l6] [(2, S a 12)] S h n) ∧
  (∀ (d : Nat) (x : Int) (l0 l1 l2 l4 l5 l6 : Option mx_V) (v0 : mx_V) (S h : mx_H) (n : Int), mx_ex d 197 11 [l0, l1, l2, some (0, x), l4, l5, l6] [v0] S h n = mx_ex d 197 12 [l0, l1, l2, some (0, x), l4, l5, l6] [(0, x), v0] S h n) ∧
  (∀ (d : Nat) (x : Int) (l1 l2 l3 l4 l5 l6 : Option mx_V) (v0 v1 : mx_V) (S h : mx_H) (n : Int), mx_ex d 197 12 [some (2, x), l1, l2, l3, l4, l5, l6] [v0, v1] S h n = mx_ex d 197 13 [some (2, x), l1, l2, l3, l4, l5, l6] [(2, x), v0, v1] S h n) ∧
  (∀ (d : Nat) (x : Int) (l0 l1 l2 l4 l5 l6 : Option mx_V) (v0 v1 v2 : mx_V) (S h : mx_H) (n : Int), mx_ex d 197 13 [l0, l1, l2, some (0, x), l4, l5, l6] [v0, v1, v2] S h n = mx_ex d 197 14 [l0, l1, l2, some (0, x), l4, l5, l6] [(0, x), v0, v1, v2] S h n) ∧
  (∀ (d : Nat) (x0 a : Int) (l0 l1 l2 l3 l4 l5 l6 : Option mx_V) (v2 v3 : mx_V) (S h : mx_H) (n : Int), mx_ex (d + 1) 197 14 [l0, l1, l2, l3, l4, l5, l6] [(0, x0), (2, a), v2, v3] S h n = mx_cl (S a (-2) = 13) d 196 [(2, a), (0, x0)] 197 17 [l0, l1, l2, l3, l4, l5, l6] [v2, v3] S h n) ∧
  (∀ (d : Nat) (v i a : Int) (l0 l1 l2 l3 l4 l5 l6 : Option mx_V) (S h : mx_H) (n : Int), mx_ex d 197 17 [l0, l1, l2, l3, l4, l5, l6] [(0, v), (0, i), (2, a)] S h n = mx_gd (S a (-2) = 20 ∧ 0 ≤ i ∧ i < S a (-1)) d 197 18 [l0, l1, l2, l3, l4, l5, l6] [] S (mx_u h a i v) n) ∧
  (∀ (d : Nat) (x : Int) (l1 l2 l3 l4 l5 l6 : Option mx_V) (S h : mx_H) (n : Int), mx_ex d 197 18 [some (2, x), l1, l2, l3, l4, l5, l6] [] S h n = mx_ex d 197 19 [some (2, x), l1, l2, l3, l4, l5, l6] [(2, x)] S h n) ∧
  (∀ (d : Nat) (a : Int) (l0 l1 l2 l3 l4 l5 l6 : Option mx_V) (S h : mx_H) (n : Int), mx_ex d 197 19 [l0, l1, l2, l3, l4, l5, l6] [(2, a)] S h n = mx_gd (13 ≤ S a (-2) ∧ S a (-2) ≤ 13) d 197 22 [l0, l1, l2, l3, l4, l5, l6] [(2, S a 13)] S h n) ∧
  (∀ (d : Nat) (x : Int) (l0 l1 l2 l4 l5 l6 : Option mx_V) (v0 : mx_V) (S h : mx_H) (n : Int), mx_ex d 197 22 [l0, l1, l2, some (0, x), l4, l5, l6] [v0] S h n = mx_ex d 197 23 [l0, l1, l2, some (0, x), l4, l5, l6] [(0, x), v0] S h n) ∧
  (∀ (d : Nat) (l0 l1 l2 l3 l4 l5 l6 : Option mx_V) (v0 v1 : mx_V) (S h : mx_H) (n : Int), mx_ex d 197 23 [l0, l1, l2, l3, l4, l5, l6] [v0, v1] S h n = mx_ex d 197 24 [l0, l1, l2, l3, l4, l5, l6] [(0, 0), v0, v1] S h n) ∧
  (∀ (d : Nat) (v i a : Int) (l0 l1 l2 l3 l4 l5 l6 : Option mx_V) (S h : mx_H) (n : Int), mx_ex d 197 24 [l0, l1, l2, l3, l4, l5, l6] [(0, v), (0, i), (2, a)] S h n = mx_gd (S a (-2) = 20 ∧ 0 ≤ i ∧ i < S a (-1)) d 197 25 [l0, l1, l2, l3, l4, l5, l6] [] S (mx_u h a i v) n) ∧
  (∀ (d : Nat) (x : Int) (l0 l1 l2 l4 l5 l6 : Option mx_V) (S h : mx_H) (n : Int), mx_ex d 197 25 [l0, l1, l2, some (0, x), l4, l5, l6] [] S h n = mx_ex d 197 28 [l0, l1, mx_nl l2, some (0, mx_w (x + 1)), l4, l5, l6] [] S h n) ∧
  (∀ (d : Nat) (l0 l1 l2 l3 l4 l5 l6 : Option mx_V) (S h : mx_H) (n : Int), mx_ex d 197 28 [l0, l1, l2, l3, l4, l5, l6] [] S h n = mx_ex d 197 2 [l0, l1, l2, l3, l4, l5, l6] [] S h n) ∧
  (∀ (d : Nat) (l0 l1 l2 l3 l4 l5 l6 : Option mx_V) (S h : mx_H) (n : Int), mx_ex d 197 31 [l0, l1, l2, l3, l4, l5, l6] [] S h n = mx_ex d 197 32 [l0, l1, l2, l3, l4, l5, l6] [(0, 0)] S h n) ∧
  (∀ (d : Nat) (x : Int) (l0 l1 l2 l3 l4 l5 l6 : Option mx_V) (S h : mx_H) (n : Int), mx_ex d 197 32 [l0, l1, l2, l3, l4, l5, l6] [(0, x)] S h n = mx_ex d 197 33 [l0, l1, mx_nl l2, some (0, x), l4, l5, l6] [] S h n) ∧
  (∀ (d : Nat) (l0 l1 l2 l3 l4 l5 l6 : Option mx_V) (S h : mx_H) (n : Int), mx_ex d 197 33 [l0, l1, l2, l3, l4, l5, l6] [] S h n = mx_ex d 197 34 [l0, l1, l2, l3, l4, l5, l6] [(0, 2)] S h n) ∧
  (∀ (d : Nat) (x : Int) (l0 l1 l2 l3 l4 l5 l6 : Option mx_V) (S h : mx_H) (n : Int), mx_ex d 197 34 [l0, l1, l2, l3, l4, l5, l6] [(0, x)] S h n = mx_ex d 197 36 [l0, l1, l2, mx_nl l3, some (0, x), l5, l6] [] S h n) ∧
  (∀ (d : Nat) (l0 l1 l2 l3 l4 l5 l6 : Option mx_V) (v0 : mx_V) (S h : mx_H) (n : Int), mx_ex d 197 38 [l0, l1, l2, l3, l4, l5, l6] [v0] S h n = mx_ex d 197 40 [l0, l1, l2, l3, l4, l5, l6] [(0, 16), v0] S h n) ∧
  (∀ (d : Nat) (b a : Int) (l0 l1 l2 l3 l4 l5 l6 : Option mx_V) (S h : mx_H) (n : Int), mx_ex d 197 40 [l0, l1, l2, l3, l4, l5, l6] [(0, b), (0, a)] S h n = mx_br (b < a) d 197 207 43 [l0, l1, l2, l3, l4, l5, l6] [] S h n) ∧
  (∀ (d : Nat) (l0 l1 l2 l3 l4 l5 l6 : Option mx_V) (S h : mx_H) (n : Int), mx_ex d 197 43 [l0, l1, l2, l3, l4, l5, l6] [] S h n = mx_ex d 197 44 [l0, l1, l2, l3, l4, l5, l6] [(0, 2)] S h n) ∧
  (∀ (d : Nat) (x : Int) (l0 l1 l2 l3 l4 l5 l6 : Option mx_V) (S h : mx_H) (n : Int), mx_ex d 197 44 [l0, l1, l2, l3, l4, l5, l6] [(0, x)] S h n = mx_ex d 197 46 [l0, l1, l2, l3, mx_nl l4, some (0, x), l6] [] S h n) ∧
  (∀ (d : Nat) (l0 l1 l2 l3 l4 l5 l6 : Option mx_V) (v0 : mx_V) (S h : mx_H) (n : Int), mx_ex d 197 48 [l0, l1, l2, l3, l4, l5, l6] [v0] S h n = mx_ex d 197 50 [l0, l1, l2, l3, l4, l5, l6] [(0, 16), v0] S h n) ∧
  (∀ (d : Nat) (b a : Int) (l0 l1 l2 l3 l4 l5 l6 : Option mx_V) (S h : mx_H) (n : Int), mx_ex d 197 50 [l0, l1, l2, l3, l4, l5, l6] [(0, b), (0, a)] S h n = mx_br (b < a) d 197 201 53 [l0, l1, l2, l3, l4, l5, l6] [] S h n) ∧
  (∀ (d : Nat) (x : Int) (l1 l2 l3 l4 l5 l6 : Option mx_V) (S h : mx_H) (n : Int), mx_ex d 197 53 [some (2, x), l1, l2, l3, l4, l5, l6] [] S h n = mx_ex d 197 54 [some (2, x), l1, l2, l3, l4, l5, l6] [(2, x)] S h n) ∧
  (∀ (d : Nat) (a : Int) (l0 l1 l2 l3 l4 l5 l6 : Option mx_V) (S h : mx_H) (n : Int), mx_ex d 197 54 [l0, l1, l2, l3, l4, l5, l6] [(2, a)] S h n = mx_gd (13 ≤ S a (-2) ∧ S a (-2) ≤ 13) d 197 57 [l0, l1, l2, l3, l4, l5, l6] [(2, S a 12)] S h n) ∧
  (∀ (d : Nat) (l0 l1 l2 l3 l4 l5 l6 : Option mx_V) (v0 : mx_V) (S h : mx_H) (n : Int), mx_ex d 197 57 [l0, l1, l2, l3, l4, l5, l6] [v0] S h n = mx_ex d 197 58 [l0, l1, l2, l3, l4, l5, l6] [(0, 0), v0] S h n) ∧
  (∀ (d : Nat) (i a : Int) (l0 l1 l2 l3 l4 l5 l6 : Option mx_V) (S h : mx_H) (n : Int), mx_ex d 197 58 [l0, l1, l2, l3, l4, l5, l6] [(0, i), (2, a)] S h n = mx_gd ((S a (-2) = 20 ∨ S a (-2) = 24) ∧ 0 ≤ i ∧ i < S a (-1)) d 197 59 [l0, l1, l2, l3, l4, l5, l6] [(0, h a i)] S h n) ∧
  (∀ (d : Nat) (x : Int) (l0 l1 l2 l3 l5 l6 : Option mx_V) (v0 : mx_V) (S h : mx_H) (n : Int), mx_ex d 197 59 [l0, l1, l2, l3, some (0, x), l5, l6] [v0] S h n = mx_ex d 197 61 [l0, l1, l2, l3, some (0, x), l5, l6] [(0, x), v0] S h n) ∧
  (∀ (d : Nat) (b a : Int) (l0 l1 l2 l3 l4 l5 l6 : Option mx_V) (S h : mx_H) (n : Int), mx_ex d 197 61 [l0, l1, l2, l3, l4, l5, l6] [(0, b), (0, a)] S h n = mx_ex d 197 62 [l0, l1, l2, l3, l4, l5, l6] [(0, mx_shr a b)] S h n) ∧
  (∀ (d : Nat) (l0 l1 l2 l3 l4 l5 l6 : Option mx_V) (v0 : mx_V) (S h : mx_H) (n : Int), mx_ex d 197 62 [l0, l1, l2, l3, l4, l5, l6] [v0] S h n = mx_ex d 197 63 [l0, l1, l2, l3, l4, l5, l6] [(0, 1), v0] S h n) ∧
  (∀ (d : Nat) (b a : Int) (l0 l1 l2 l3 l4 l5 l6 : Option mx_V) (S h : mx_H) (n : Int), mx_ex d 197 63 [l0, l1, l2, l3, l4, l5, l6] [(0, b), (0, a)] S h n = mx_ex d 197 64 [l0, l1, l2, l3, l4, l5, l6] [(0, mx_and a b)] S h n) ∧
  (∀ (d : Nat) (l0 l1 l2 l3 l4 l5 l6 : Option mx_V) (v0 : mx_V) (S h : mx_H) (n : Int), mx_ex d 197 64 [l0, l1, l2, l3, l4, l5, l6] [v0] S h n = mx_ex d 197 65 [l0, l1, l2, l3, l4, l5, l6] [(0, 1), v0] S h n) ∧
  (∀ (d : Nat) (b a : Int) (l0 l1 l2 l3 l4 l5 l6 : Option mx_V) (S h : mx_H) (n : Int), mx_ex d 197 65 [l0, l1, l2, l3, l4, l5, l6] [(0, b), (0, a)] S h n = mx_br (a = b) d 197 68 201 [l0, l1, l2, l3, l4, l5, l6] [] S h n) ∧
  (∀ (d : Nat) (l0 l1 l2 l3 l4 l5 l6 : Option mx_V) (S h : mx_H) (n : Int), mx_ex d 197 68 [l0, l1, l2, l3, l4, l5, l6] [] S h n = mx_ex d 197 69 [l0, l1, l2, l3, l4, l5, l6] [(0, 2)] S h n) ∧
  (∀ (d : Nat) (x : Int) (l0 l1 l2 l3 l4 l5 l6 : Option mx_V) (S h : mx_H) (n : Int), mx_ex d 197 69 [l0, l1, l2, l3, l4, l5, l6] [(0, x)] S h n = mx_ex d 197 71 [l0, l1, l2, l3, l4, mx_nl l5, some (0, x)] [] S h n) ∧
  (∀ (d : Nat) (l0 l1 l2 l3 l4 l5 l6 : Option mx_V) (v0 : mx_V) (S h : mx_H) (n : Int), mx_ex d 197 73 [l0, l1, l2, l3, l4, l5, l6] [v0] S h n = mx_ex d 197 75 [l0, l1, l2, l3, l4, l5, l6] [(0, 16), v0] S h n) ∧
  (∀ (d : Nat) (b a : Int) (l0 l1 l2 l3 l4 l5 l6 : Option mx_V) (S h : mx_H) (n : Int), mx_ex d 197 75 [l0, l1, l2, l3, l4, l5, l6] [(0, b), (0, a)] S h n = mx_br (b < a) d 197 195 78 [l0, l1, l2, l3, l4, l5, l6] [] S h n) ∧
  (∀ (d : Nat) (x : Int) (l1 l2 l3 l4 l5 l6 : Option mx_V) (S h : mx_H) (n : Int), mx_ex d 197 78 [some (2, x), l1, l2, l3, l4, l5, l6] [] S h n = mx_ex d 197 79 [some (2, x), l1, l2, l3, l4, l5, l6] [(2, x)] S h n) ∧
  (∀ (d : Nat) (a : Int) (l0 l1 l2 l3 l4 l5 l6 : Option mx_V) (S h : mx_H) (n : Int), mx_ex d 197 79 [l0, l1, l2, l3, l4, l5, l6] [(2, a)] S h n = mx_gd (13 ≤ S a (-2) ∧ S a (-2) ≤ 13) d 197 82 [l0, l1, l2, l3, l4, l5, l6] [(2, S a 12)] S h n) ∧
  (∀ (d : Nat) (l0 l1 l2 l3 l4 l5 l6 : Option mx_V) (v0 : mx_V) (S h : mx_H) (n : Int), mx_ex d 197 82 [l0, l1, l2, l3, l4, l5, l6] [v0] S h n = mx_ex d 197 83 [l0, l1, l2, l3, l4, l5, l6] [(0, 1), v0] S h n) ∧
  (∀ (d : Nat) (i a : Int) (l0 l1 l2 l3 l4 l5 l6 : Option mx_V) (S h : mx_H) (n : Int), mx_ex d 197 83 [l0, l1, l2, l3, l4, l5, l6] [(0, i), (2, a)] S h n = mx_gd ((S a (-2) = 20 ∨ S a (-2) = 24) ∧ 0 ≤ i ∧ i < S a (-1)) d 197 84 [l0, l1, l2, l3, l4, l5, l6] [(0, h a i)] S h n) ∧
  (∀ (d : Nat) (x : Int) (l0 l1 l2 l3 l4 l6 : Option mx_V) (v0 : mx_V) (S h : mx_H) (n : Int), mx_ex d 197 84 [l0, l1, l2, l3, l4, some (0, x), l6] [v0] S h n = mx_ex d 197 86 [l0, l1, l2, l3, l4, some (0, x), l6] [(0, x), v0] S h n) ∧
  (∀ (d : Nat) (b a : Int) (l0 l1 l2 l3 l4 l5 l6 : Option mx_V) (S h : mx_H) (n : Int), mx_ex d 197 86 [l0, l1, l2, l3, l4, l5, l6] [(0, b), (0, a)] S h n = mx_ex d 197 87 [l0, l1, l2, l3, l4, l5, l6] [(0, mx_shr a b)] S h n) ∧
  (∀ (d : Nat) (l0 l1 l2 l3 l4 l5 l6 : Option mx_V) (v0 : mx_V) (S h : mx_H) (n : Int), mx_ex d 197 87 [l0, l1, l2, l3, l4, l5, l6] [v0] S h n = mx_ex d 197 88 [l0, l1, l2, l3, l4, l5, l6] [(0, 1), v0] S h n) ∧
  (∀ (d : Nat) (b a : Int) (l0 l1 l2 l3 l4 l5 l6 : Option mx_V) (S h : mx_H) (n : Int), mx_ex d 197 88 [l0, l1, l2, l3, l4, l5, l6] [(0, b), (0, a)] S h n = mx_ex d 197 89 [l0, l1, l2, l3, l4, l5, l6] [(0, mx_and a b)] S h n) ∧
  (∀ (d : Nat) (l0 l1 l2 l3 l4 l5 l6 : Option mx_V) (v0 : mx_V) (S h : mx_H) (n : Int), mx_ex d 197 89 [l0, l1, l2, l3, l4, l5, l6] [v0] S h n = mx_ex d 197 90 [l0, l1, l2, l3, l4, l5, l6] [(0, 1), v0] S h n) ∧
  (∀ (d : Nat) (b a : Int) (l0 l1 l2 l3 l4 l5 l6 : Option mx_V) (S h : mx_H) (n : Int), mx_ex d 197 90 [l0, l1, l2, l3, l4, l5, l6] [(0, b), (0, a)] S h n = mx_br (a = b) d 197 93 195 [l0, l1, l2, l3, l4, l5, l6] [] S h n) ∧
  (∀ (d : Nat) (x : Int) (l1 l2 l3 l4 l5 l6 : Option mx_V) (S h : mx_H) (n : Int), mx_ex d 197 93 [some (2, x), l1, l2, l3, l4, l5, l6] [] S h n = mx_ex d 197 94 [some (2, x), l1, l2, l3, l4, l5, l6] [(2, x)] S h n) ∧
  (∀ (d : Nat) (a : Int) (l0 l1 l2 l3 l4 l5 l6 : Option mx_V) (S h : mx_H) (n : Int), mx_ex d 197 94 [l0, l1, l2, l3, l4, l5, l6] [(2, a)] S h n = mx_gd (13 ≤ S a (-2) ∧ S a (-2) ≤ 13) d 197 97 [l0, l1, l2, l3, l4, l5, l6] [(2, S a 11)] S h n) ∧
  (∀ (d : Nat) (l0 l1 l2 l3 l4 l5 l6 : Option mx_V) (v0 : mx_V) (S h : mx_H) (n : Int), mx_ex d 197 97 [l0, l1, l2, l3, l4, l5, l6] [v0] S h n = mx_ex d 197 98 [l0, l1, l2, l3, l4, l5, l6] [(0, 0), v0] S h n) ∧
  (∀ (d : Nat) (x : Int) (l0 l1 l2 l3 l5 l6 : Option mx_V) (v0 v1 : mx_V) (S h : mx_H) (n : Int), mx_ex d 197 98 [l0, l1, l2, l3, some (0, x), l5, l6] [v0, v1] S h n = mx_ex d 197 100 [l0, l1, l2, l3, some (0, x), l5, l6] [(0, x), v0, v1] S h n) ∧
  (∀ (d : Nat) (v i a : Int) (l0 l1 l2 l3 l4 l5 l6 : Option mx_V) (S h : mx_H) (n : Int), mx_ex d 197 100 [l0, l1, l2, l3, l4, l5, l6] [(0, v), (0, i), (2, a)] S h n = mx_gd (S a (-2) = 20 ∧ 0 ≤ i ∧ i < S a (-1)) d 197 101 [l0, l1, l2, l3, l4, l5, l6] [] S (mx_u h a i v) n) ∧
  (∀ (d : Nat) (x : Int) (l1 l2 l3 l4 l5 l6 : Option mx_V) (S h : mx_H) (n : Int), mx_ex d 197 101 [some (2, x), l1, l2, l3, l4, l5, l6] [] S h n = mx_ex d 197 102 [some (2, x), l1, l2, l3, l4, l5, l6] [(2, x)] S h n) ∧
  (∀ (d : Nat) (a : Int) (l0 l1 l2 l3 l4 l5 l6 : Option mx_V) (S h : mx_H) (n : Int), mx_ex d 197 102 [l0, l1, l2, l3, l4, l5, l6] [(2, a)] S h n = mx_gd (13 ≤ S a (-2) ∧ S a (-2) ≤ 13) d 197 105 [l0, l1, l2, l3, l4, l5, l6] [(2, S a 11)] S h n) ∧
  (∀ (d : Nat) (l0 l1 l2 l3 l4 l5 l6 : Option mx_V) (v0 : mx_V) (S h : mx_H) (n : Int), mx_ex d 197 105 [l0, l1, l2, l3, l4, l5, l6] [v0] S h n = mx_ex d 197 106 [l0, l1, l2, l3, l4, l5, l6] [(0, 1), v0] S h n) ∧
  (∀ (d : Nat) (x : Int) (l0 l1 l2 l3 l4 l6 : Option mx_V) (v0 v1 : mx_V) (S h : mx_H) (n : Int), mx_ex d 197 106 [l0, l1, l2, l3, l4, some (0, x), l6] [v0, v1] S h n = mx_ex d 197 108 [l0, l1, l2, l3, l4, some (0, x), l6] [(0, x), v0, v1] S h n) ∧
  (∀ (d : Nat) (v i a : Int) (l0 l1 l2 l3 l4 l5 l6 : Option mx_V) (S h : mx_H) (n : Int), mx_ex d 197 108 [l0, l1, l2, l3, l4, l5, l6] [(0, v), (0, i), (2, a)] S h n = mx_gd (S a (-2) = 20 ∧ 0 ≤ i ∧ i < S a (-1)) d 197 109 [l0, l1, l2, l3, l4, l5, l6] [] S (mx_u h a i v) n) ∧
  (∀ (d : Nat) (x : Int) (l1 l2 l3 l4 l5 l6 : Option mx_V) (S h : mx_H) (n : Int), mx_ex d 197 109 [some (2, x), l1, l2, l3, l4, l5, l6] [] S h n = mx_ex d 197 110 [some (2, x), l1, l2, l3, l4, l5, l6] [(2, x)] S h n) ∧
  (∀ (d : Nat) (a : Int) (l0 l1 l2 l3 l4 l5 l6 : Option mx_V) (S h : mx_H) (n : Int), mx_ex d 197 110 [l0, l1, l2, l3, l4, l5, l6] [(2, a)] S h n = mx_gd (13 ≤ S a (-2) ∧ S a (-2) ≤ 13) d 197 113 [l0, l1, l2, l3, l4, l5, l6] [(2, S a 11)] S h n) ∧
  (∀ (d : Nat) (l0 l1 l2 l3 l4 l5 l6 : Option mx_V) (v0 : mx_V) (S h : mx_H) (n : Int), mx_ex d 197 113 [l0, l1, l2, l3, l4, l5, l6] [v0] S h n = mx_ex d 197 114 [l0, l1, l2, l3, l4, l5, l6] [(0, 2), v0] S h n) ∧
  (∀ (d : Nat) (x : Int) (l0 l1 l2 l3 l4 l5 : Option mx_V) (v0 v1 : mx_V) (S h : mx_H) (n : Int), mx_ex d 197 114 [l0, l1, l2, l3, l4, l5, some (0, x)] [v0, v1] S h n = mx_ex d 197 116 [l0, l1, l2, l3, l4, l5, some (0, x)] [(0, x), v0, v1] S h n) ∧
  (∀ (d : Nat) (v i a : Int) (l0 l1 l2 l3 l4 l5 l6 : Option mx_V) (S h : mx_H) (n : Int), mx_ex d 197 116 [l0, l1, l2, l3, l4, l5, l6] [(0, v), (0, i), (2, a)] S h n = mx_gd (S a (-2) = 20 ∧ 0 ≤ i ∧ i < S a (-1)) d 197 117 [l0, l1, l2, l3, l4, l5, l6] [] S (mx_u h a i v) n) ∧
  (∀ (d : Nat) (x : Int) (l1 l2 l3 l4 l5 l6 : Option mx_V) (S h : mx_H) (n : Int), mx_ex d 197 117 [some (2, x), l1, l2, l3, l4, l5, l6] [] S h n = mx_ex d 197 118 [some (2, x), l1, l2, l3, l4, l5, l6] [(2, x)] S h n) ∧
  (∀ (d : Nat) (a : Int) (l0 l1 l2 l3 l4 l5 l6 : Option mx_V) (S h : mx_H) (n : Int), mx_ex d 197 118 [l0, l1, l2, l3, l4, l5, l6] [(2, a)] S h n = mx_gd (13 ≤ S a (-2) ∧ S a (-2) ≤ 13) d 197 121 [l0, l1, l2, l3, l4, l5, l6] [(2, S a 12)] S h n) :=
  ⟨by intros; exact rfl,
   by intros; exact eq_push rfl,
   by intros; exact eq_st rfl (by decide) (Nat.le_of_ble_eq_true rfl) rfl,
   by intros; exact eq_push rfl,
   by intros; exact eq_ic3 rfl,
   by intros; exact eq_ld rfl rfl,
   by intros; exact eq_gr rfl,
   by intros; exact eq_ld rfl rfl,
   by intros; exact eq_ld rfl rfl,
   by intros; exact eq_ld rfl rfl,
   by intros; exact eq_cv rfl (Nat.le_of_ble_eq_true rfl) rfl rfl rfl (Nat.le_of_ble_eq_true rfl),
   by intros; exact eq_iast rfl,
   by intros; exact eq_ld rfl rfl,
   by intros; exact eq_gr rfl,
   by intros; exact eq_ld rfl rfl,
   by intros; exact eq_push rfl,
   by intros; exact eq_iast rfl,
   by intros; exact eq_inc rfl rfl rfl,
   by intros; exact eq_go rfl,
   by intros; exact eq_push rfl,
   by intros; exact eq_st rfl (by decide) (Nat.le_of_ble_eq_true rfl) rfl,
   by intros; exact eq_push rfl,
   by intros; exact eq_st rfl (by decide) (Nat.le_of_ble_eq_true rfl) rfl,
   by intros; exact eq_push rfl,
   by intros; exact eq_ic4 rfl,
   by intros; exact eq_push rfl,
   by intros; exact eq_st rfl (by decide) (Nat.le_of_ble_eq_true rfl) rfl,
   by intros; exact eq_push rfl,
   by intros; exact eq_ic4 rfl,
   by intros; exact eq_ld rfl rfl,
   by intros; exact eq_gr rfl,
   by intros; exact eq_push rfl,
   by intros; exact eq_iald rfl,
   by intros; exact eq_ld rfl rfl,
   by intros; exact eq_i2 (o := mx_shr) rfl,
   by intros; exact eq_push rfl,
   by intros; exact eq_i2 (o := mx_and) rfl,
   by intros; exact eq_push rfl,
   by intros; exact eq_ic1 rfl,
   by intros; exact eq_push rfl,
   by intros; exact eq_st rfl (by decide) (Nat.le_of_ble_eq_true rfl) rfl,
   by intros; exact eq_push rfl,
   by intros; exact eq_ic4 rfl,
   by intros; exact eq_ld rfl rfl,
   by intros; exact eq_gr rfl,
   by intros; exact eq_push rfl,
   by intros; exact eq_iald rfl,
   by intros; exact eq_ld rfl rfl,
   by intros; exact eq_i2 (o := mx_shr) rfl,
   by intros; exact eq_push rfl,
   by intros; exact eq_i2 (o := mx_and) rfl,
   by intros; exact eq_push rfl,
   by intros; exact eq_ic1 rfl,
   by intros; exact eq_ld rfl rfl,
   by intros; exact eq_gr rfl,
   by intros; exact eq_push rfl,
   by intros; exact eq_ld rfl rfl,
   by intros; exact eq_iast rfl,
   by intros; exact eq_ld rfl rfl,
   by intros; exact eq_gr rfl,
   by intros; exact eq_push rfl,
   by intros; exact eq_ld rfl rfl,
   by intros; exact eq_iast rfl,
   by intros; exact eq_ld rfl rfl,
   by intros; exact eq_gr rfl,
   by intros; exact eq_push rfl,
   by intros; exact eq_ld rfl rfl,
   by intros; exact eq_iast rfl,
   by intros; exact eq_ld rfl rfl,
   by intros; exact eq_gr rfl⟩
theorem rw_X12_findWorlds_1 :
  (∀ (d : Nat) (l0 l1 l2 l3 l4 l5 l6 : Option mx_V) (v0 : mx_V) (S h : mx_H) (n : Int), mx_ex d 197 121 [l0, l1, l2, l3, l4, l5, l6] [v0] S h n = mx_ex d 197 122 [l0, l1, l2, l3, l4, l5, l6] [(0, 2), v0] S h n) ∧
  (∀ (d : Nat) (i a : Int) (l0 l1 l2 l3 l4 l5 l6 : Option mx_V) (S h : mx_H) (n : Int), mx_ex d 197 122 [l0, l1, l2, l3, l4, l5, l6] [(0, i), (2, a)] S h n = mx_gd ((S a (-2) = 20 ∨ S a (-2) = 24) ∧ 0 ≤ i ∧ i < S a (-1)) d 197 123 [l0, l1, l2, l3, l4, l5, l6] [(0, h a i)] S h n) ∧
  (∀ (d : Nat) (x : Int) (l0 l1 l2 l3 l4 l5 : Option mx_V) (v0 : mx_V) (S h : mx_H) (n : Int), mx_ex d 197 123 [l0, l1, l2, l3, l4, l5, some (0, x)] [v0] S h n = mx_ex d 197 125 [l0, l1, l2, l3, l4, l5, some (0, x)] [(0, x), v0] S h n) ∧
  (∀ (d : Nat) (b a : Int) (l0 l1 l2 l3 l4 l5 l6 : Option mx_V) (S h : mx_H) (n : Int), mx_ex d 197 125 [l0, l1, l2, l3, l4, l5, l6] [(0, b), (0, a)] S h n = mx_ex d 197 126 [l0, l1, l2, l3, l4, l5, l6] [(0, mx_shr a b)] S h n) ∧
  (∀ (d : Nat) (l0 l1 l2 l3 l4 l5 l6 : Option mx_V) (v0 : mx_V) (S h : mx_H) (n : Int), mx_ex d 197 126 [l0, l1, l2, l3, l4, l5, l6] [v0] S h n = mx_ex d 197 127 [l0, l1, l2, l3, l4, l5, l6] [(0, 1), v0] S h n) ∧
  (∀ (d : Nat) (b a : Int) (l0 l1 l2 l3 l4 l5 l6 : Option mx_V) (S h : mx_H) (n : Int), mx_ex d 197 127 [l0, l1, l2, l3, l4, l5, l6] [(0, b), (0, a)] S h n = mx_ex d 197 128 [l0, l1, l2, l3, l4, l5, l6] [(0, mx_and a b)] S h n) ∧
  (∀ (d : Nat) (l0 l1 l2 l3 l4 l5 l6 : Option mx_V) (v0 : mx_V) (S h : mx_H) (n : Int), mx_ex d 197 128 [l0, l1, l2, l3, l4, l5, l6] [v0] S h n = mx_ex d 197 129 [l0, l1, l2, l3, l4, l5, l6] [(0, 1), v0] S h n) ∧
  (∀ (d : Nat) (b a : Int) (l0 l1 l2 l3 l4 l5 l6 : Option mx_V) (S h : mx_H) (n : Int), mx_ex d 197 129 [l0, l1, l2, l3, l4, l5, l6] [(0, b), (0, a)] S h n = mx_br (a = b) d 197 132 189 [l0, l1, l2, l3, l4, l5, l6] [] S h n) ∧
  (∀ (d : Nat) (x : Int) (l1 l2 l3 l4 l5 l6 : Option mx_V) (S h : mx_H) (n : Int), mx_ex d 197 132 [some (2, x), l1, l2, l3, l4, l5, l6] [] S h n = mx_ex d 197 133 [some (2, x), l1, l2, l3, l4, l5, l6] [(2, x)] S h n) ∧
  (∀ (d : Nat) (x : Int) (l0 l2 l3 l4 l5 l6 : Option mx_V) (v0 : mx_V) (S h : mx_H) (n : Int), mx_ex d 197 133 [l0, some (0, x), l2, l3, l4, l5, l6] [v0] S h n = mx_ex d 197 134 [l0, some (0, x), l2, l3, l4, l5, l6] [(0, x), v0] S h n) ∧
  (∀ (d : Nat) (x0 a : Int) (l0 l1 l2 l3 l4 l5 l6 : Option mx_V) (S h : mx_H) (n : Int), mx_ex (d + 1) 197 134 [l0, l1, l2, l3, l4, l5, l6] [(0, x0), (2, a)] S h n = mx_cl (S a (-2) = 13) d 195 [(2, a), (0, x0)] 197 137 [l0, l1, l2, l3, l4, l5, l6] [] S h n) ∧
  (∀ (d : Nat) (a : Int) (l0 l1 l2 l3 l4 l5 l6 : Option mx_V) (S h : mx_H) (n : Int), mx_ex d 197 137 [l0, l1, l2, l3, l4, l5, l6] [(0, a)] S h n = mx_br (a = 0) d 197 189 140 [l0, l1, l2, l3, l4, l5, l6] [] S h n) ∧
  (∀ (d : Nat) (x : Int) (l1 l2 l3 l4 l5 l6 : Option mx_V) (S h : mx_H) (n : Int), mx_ex d 197 140 [some (2, x), l1, l2, l3, l4, l5, l6] [] S h n = mx_ex d 197 141 [some (2, x), l1, l2, l3, l4, l5, l6] [(2, x)] S h n) ∧
  (∀ (d : Nat) (a : Int) (l0 l1 l2 l3 l4 l5 l6 : Option mx_V) (S h : mx_H) (n : Int), mx_ex d 197 141 [l0, l1, l2, l3, l4, l5, l6] [(2, a)] S h n = mx_gd (13 ≤ S a (-2) ∧ S a (-2) ≤ 13) d 197 144 [l0, l1, l2, l3, l4, l5, l6] [(2, S a 13)] S h n) ∧
  (∀ (d : Nat) (l0 l1 l2 l3 l4 l5 l6 : Option mx_V) (v0 : mx_V) (S h : mx_H) (n : Int), mx_ex d 197 144 [l0, l1, l2, l3, l4, l5, l6] [v0] S h n = mx_ex d 197 145 [l0, l1, l2, l3, l4, l5, l6] [(0, 0), v0] S h n) ∧
  (∀ (d : Nat) (a b : Int) (l0 l1 l2 l3 l4 l5 l6 : Option mx_V) (S h : mx_H) (n : Int), mx_ex d 197 145 [l0, l1, l2, l3, l4, l5, l6] [(0, a), (2, b)] S h n = mx_ex d 197 146 [l0, l1, l2, l3, l4, l5, l6] [(0, a), (2, b), (0, a), (2, b)] S h n) ∧
  (∀ (d : Nat) (i a : Int) (l0 l1 l2 l3 l4 l5 l6 : Option mx_V) (v2 v3 : mx_V) (S h : mx_H) (n : Int), mx_ex d 197 146 [l0, l1, l2, l3, l4, l5, l6] [(0, i), (2, a), v2, v3] S h n = mx_gd ((S a (-2) = 20 ∨ S a (-2) = 24) ∧ 0 ≤ i ∧ i < S a (-1)) d 197 147 [l0, l1, l2, l3, l4, l5, l6] [(0, h a i), v2, v3] S h n) ∧
  (∀ (d : Nat) (l0 l1 l2 l3 l4 l5 l6 : Option mx_V) (v0 v1 v2 : mx_V) (S h : mx_H) (n : Int), mx_ex d 197 147 [l0, l1, l2, l3, l4, l5, l6] [v0, v1, v2] S h n = mx_ex d 197 148 [l0, l1, l2, l3, l4, l5, l6] [(0, 1), v0, v1, v2] S h n) ∧
  (∀ (d : Nat) (x : Int) (l0 l1 l2 l3 l5 l6 : Option mx_V) (v0 v1 v2 v3 : mx_V) (S h : mx_H) (n : Int), mx_ex d 197 148 [l0, l1, l2, l3, some (0, x), l5, l6] [v0, v1, v2, v3] S h n = mx_ex d 197 150 [l0, l1, l2, l3, some (0, x), l5, l6] [(0, x), v0, v1, v2, v3] S h n) ∧
  (∀ (d : Nat) (b a : Int) (l0 l1 l2 l3 l4 l5 l6 : Option mx_V) (v2 v3 v4 : mx_V) (S h : mx_H) (n : Int), mx_ex d 197 150 [l0, l1, l2, l3, l4, l5, l6] [(0, b), (0, a), v2, v3, v4] S h n = mx_ex d 197 151 [l0, l1, l2, l3, l4, l5, l6] [(0, mx_shl a b), v2, v3, v4] S h n) ∧
  (∀ (d : Nat) (b a : Int) (l0 l1 l2 l3 l4 l5 l6 : Option mx_V) (v2 v3 : mx_V) (S h : mx_H) (n : Int), mx_ex d 197 151 [l0, l1, l2, l3, l4, l5, l6] [(0, b), (0, a), v2, v3] S h n = mx_ex d 197 152 [l0, l1, l2, l3, l4, l5, l6] [(0, mx_or a b), v2, v3] S h n) ∧
  (∀ (d : Nat) (v i a : Int) (l0 l1 l2 l3 l4 l5 l6 : Option mx_V) (S h : mx_H) (n : Int), mx_ex d 197 152 [l0, l1, l2, l3, l4, l5, l6] [(0, v), (0, i), (2, a)] S h n = mx_gd (S a (-2) = 20 ∧ 0 ≤ i ∧ i < S a (-1)) d 197 153 [l0, l1, l2, l3, l4, l5, l6] [] S (mx_u h a i v) n) ∧
  (∀ (d : Nat) (x : Int) (l1 l2 l3 l4 l5 l6 : Option mx_V) (S h : mx_H) (n : Int), mx_ex d 197 153 [some (2, x), l1, l2, l3, l4, l5, l6] [] S h n = mx_ex d 197 154 [some (2, x), l1, l2, l3, l4, l5, l6] [(2, x)] S h n) ∧
  (∀ (d : Nat) (a : Int) (l0 l1 l2 l3 l4 l5 l6 : Option mx_V) (S h : mx_H) (n : Int), mx_ex d 197 154 [l0, l1, l2, l3, l4, l5, l6] [(2, a)] S h n = mx_gd (13 ≤ S a (-2) ∧ S a (-2) ≤ 13) d 197 157 [l0, l1, l2, l3, l4, l5, l6] [(2, S a 13)] S h n) ∧
  (∀ (d : Nat) (l0 l1 l2 l3 l4 l5 l6 : Option mx_V) (v0 : mx_V) (S h : mx_H) (n : Int), mx_ex d 197 157 [l0, l1, l2, l3, l4, l5, l6] [v0] S h n = mx_ex d 197 158 [l0, l1, l2, l3, l4, l5, l6] [(0, 1), v0] S h n) ∧
  (∀ (d : Nat) (a b : Int) (l0 l1 l2 l3 l4 l5 l6 : Option mx_V) (S h : mx_H) (n : Int), mx_ex d 197 158 [l0, l1, l2, l3, l4, l5, l6] [(0, a), (2, b)] S h n = mx_ex d 197 159 [l0, l1, l2, l3, l4, l5, l6] [(0, a), (2, b), (0, a), (2, b)] S h n) ∧
  (∀ (d : Nat) (i a : Int) (l0 l1 l2 l3 l4 l5 l6 : Option mx_V) (v2 v3 : mx_V) (S h : mx_H) (n : Int), mx_ex d 197 159 [l0, l1, l2, l3, l4, l5, l6] [(0, i), (2, a), v2, v3] S h n = mx_gd ((S a (-2) = 20 ∨ S a (-2) = 24) ∧ 0 ≤ i ∧ i < S a (-1)) d 197 160 [l0, l1, l2, l3, l4, l5, l6] [(0, h a i), v2, v3] S h n) ∧
  (∀ (d : Nat) (l0 l1 l2 l3 l4 l5 l6 : Option mx_V) (v0 v1 v2 : mx_V) (S h : mx_H) (n : Int), mx_ex d 197 160 [l0, l1, l2, l3, l4, l5, l6] [v0, v1, v2] S h n = mx_ex d 197 161 [l0, l1, l2, l3, l4, l5, l6] [(0, 1), v0, v1, v2] S h n) ∧
  (∀ (d : Nat) (x : Int) (l0 l1 l2 l3 l4 l6 : Option mx_V) (v0 v1 v2 v3 : mx_V) (S h : mx_H) (n : Int), mx_ex d 197 161 [l0, l1, l2, l3, l4, some (0, x), l6] [v0, v1, v2, v3] S h n = mx_ex d 197 163 [l0, l1, l2, l3, l4, some (0, x), l6] [(0, x), v0, v1, v2, v3] S h n) ∧
  (∀ (d : Nat) (b a : Int) (l0 l1 l2 l3 l4 l5 l6 : Option mx_V) (v2 v3 v4 : mx_V) (S h : mx_H) (n : Int), mx_ex d 197 163 [l0, l1, l2, l3, l4, l5, l6] [(0, b), (0, a), v2, v3, v4] S h n = mx_ex d 197 164 [l0, l1, l2, l3, l4, l5, l6] [(0, mx_shl a b), v2, v3, v4] S h n) ∧
  (∀ (d : Nat) (b a : Int) (l0 l1 l2 l3 l4 l5 l6 : Option mx_V) (v2 v3 : mx_V) (S h : mx_H) (n : Int), mx_ex d 197 164 [l0, l1, l2, l3, l4, l5, l6] [(0, b), (0, a), v2, v3] S h n = mx_ex d 197 165 [l0, l1, l2, l3, l4, l5, l6] [(0, mx_or a b), v2, v3] S h n) ∧
  (∀ (d : Nat) (v i a : Int) (l0 l1 l2 l3 l4 l5 l6 : Option mx_V) (S h : mx_H) (n : Int), mx_ex d 197 165 [l0, l1, l2, l3, l4, l5, l6] [(0, v), (0, i), (2, a)] S h n = mx_gd (S a (-2) = 20 ∧ 0 ≤ i ∧ i < S a (-1)) d 197 166 [l0, l1, l2, l3, l4, l5, l6] [] S (mx_u h a i v) n) ∧
  (∀ (d : Nat) (x : Int) (l1 l2 l3 l4 l5 l6 : Option mx_V) (S h : mx_H) (n : Int), mx_ex d 197 166 [some (2, x), l1, l2, l3, l4, l5, l6] [] S h n = mx_ex d 197 167 [some (2, x), l1, l2, l3, l4, l5, l6] [(2, x)] S h n) ∧
  (∀ (d : Nat) (a : Int) (l0 l1 l2 l3 l4 l5 l6 : Option mx_V) (S h : mx_H) (n : Int), mx_ex d 197 167 [l0, l1, l2, l3, l4, l5, l6] [(2, a)] S h n = mx_gd (13 ≤ S a (-2) ∧ S a (-2) ≤ 13) d 197 170 [l0, l1, l2, l3, l4, l5, l6] [(2, S a 13)] S h n) ∧
  (∀ (d : Nat) (l0 l1 l2 l3 l4 l5 l6 : Option mx_V) (v0 : mx_V) (S h : mx_H) (n : Int), mx_ex d 197 170 [l0, l1, l2, l3, l4, l5, l6] [v0] S h n = mx_ex d 197 171 [l0, l1, l2, l3, l4, l5, l6] [(0, 2), v0] S h n) ∧
  (∀ (d : Nat) (a b : Int) (l0 l1 l2 l3 l4 l5 l6 : Option mx_V) (S h : mx_H) (n : Int), mx_ex d 197 171 [l0, l1, l2, l3, l4, l5, l6] [(0, a), (2, b)] S h n = mx_ex d 197 172 [l0, l1, l2, l3, l4, l5, l6] [(0, a), (2, b), (0, a), (2, b)] S h n) ∧
  (∀ (d : Nat) (i a : Int) (l0 l1 l2 l3 l4 l5 l6 : Option mx_V) (v2 v3 : mx_V) (S h : mx_H) (n : Int), mx_ex d 197 172 [l0, l1, l2, l3, l4, l5, l6] [(0, i), (2, a), v2, v3] S h n = mx_gd ((S a (-2) = 20 ∨ S a (-2) = 24) ∧ 0 ≤ i ∧ i < S a (-1)) d 197 173 [l0, l1, l2, l3, l4, l5, l6] [(0, h a i), v2, v3] S h n) ∧
  (∀ (d : Nat) (l0 l1 l2 l3 l4 l5 l6 : Option mx_V) (v0 v1 v2 : mx_V) (S h : mx_H) (n : Int), mx_ex d 197 173 [l0, l1, l2, l3, l4, l5, l6] [v0, v1, v2] S h n = mx_ex d 197 174 [l0, l1, l2, l3, l4, l5, l6] [(0, 1), v0, v1, v2] S h n) ∧
  (∀ (d : Nat) (x : Int) (l0 l1 l2 l3 l4 l5 : Option mx_V) (v0 v1 v2 v3 : mx_V) (S h : mx_H) (n : Int), mx_ex d 197 174 [l0, l1, l2, l3, l4, l5, some (0, x)] [v0, v1, v2, v3] S h n = mx_ex d 197 176 [l0, l1, l2, l3, l4, l5, some (0, x)] [(0, x), v0, v1, v2, v3] S h n) ∧
  (∀ (d : Nat) (b a : Int) (l0 l1 l2 l3 l4 l5 l6 : Option mx_V) (v2 v3 v4 : mx_V) (S h : mx_H) (n : Int), mx_ex d 197 176 [l0, l1, l2, l3, l4, l5, l6] [(0, b), (0, a), v2, v3, v4] S h n = mx_ex d 197 177 [l0, l1, l2, l3, l4, l5, l6] [(0, mx_shl a b), v2, v3, v4] S h n) ∧
  (∀ (d : Nat) (b a : Int) (l0 l1 l2 l3 l4 l5 l6 : Option mx_V) (v2 v3 : mx_V) (S h : mx_H) (n : Int), mx_ex d 197 177 [l0, l1, l2, l3, l4, l5, l6] [(0, b), (0, a), v2, v3] S h n = mx_ex d 197 178 [l0, l1, l2, l3, l4, l5, l6] [(0, mx_or a b), v2, v3] S h n) ∧
  (∀ (d : Nat) (v i a : Int) (l0 l1 l2 l3 l4 l5 l6 : Option mx_V) (S h : mx_H) (n : Int), mx_ex d 197 178 [l0, l1, l2, l3, l4, l5, l6] [(0, v), (0, i), (2, a)] S h n = mx_gd (S a (-2) = 20 ∧ 0 ≤ i ∧ i < S a (-1)) d 197 179 [l0, l1, l2, l3, l4, l5, l6] [] S (mx_u h a i v) n) ∧
  (∀ (d : Nat) (x : Int) (l0 l1 l2 l4 l5 l6 : Option mx_V) (S h : mx_H) (n : Int), mx_ex d 197 179 [l0, l1, l2, some (0, x), l4, l5, l6] [] S h n = mx_ex d 197 182 [l0, l1, mx_nl l2, some (0, mx_w (x + 1)), l4, l5, l6] [] S h n) ∧
  (∀ (d : Nat) (x : Int) (l0 l1 l2 l4 l5 l6 : Option mx_V) (S h : mx_H) (n : Int), mx_ex d 197 182 [l0, l1, l2, some (0, x), l4, l5, l6] [] S h n = mx_ex d 197 183 [l0, l1, l2, some (0, x), l4, l5, l6] [(0, x)] S h n) ∧
  (∀ (d : Nat) (x : Int) (l0 l1 l3 l4 l5 l6 : Option mx_V) (v0 : mx_V) (S h : mx_H) (n : Int), mx_ex d 197 183 [l0, l1, some (0, x), l3, l4, l5, l6] [v0] S h n = mx_ex d 197 184 [l0, l1, some (0, x), l3, l4, l5, l6] [(0, x), v0] S h n) ∧
  (∀ (d : Nat) (b a : Int) (l0 l1 l2 l3 l4 l5 l6 : Option mx_V) (S h : mx_H) (n : Int), mx_ex d 197 184 [l0, l1, l2, l3, l4, l5, l6] [(0, b), (0, a)] S h n = mx_br (a = b) d 197 187 189 [l0, l1, l2, l3, l4, l5, l6] [] S h n) ∧
  (∀ (d : Nat) (x : Int) (l0 l1 l2 l4 l5 l6 : Option mx_V) (S h : mx_H) (n : Int), mx_ex d 197 187 [l0, l1, l2, some (0, x), l4, l5, l6] [] S h n = mx_ex d 197 188 [l0, l1, l2, some (0, x), l4, l5, l6] [(0, x)] S h n) ∧
  (∀ (d : Nat) (x : Int) (l0 l1 l2 l3 l4 l5 l6 : Option mx_V) (S h : mx_H) (n : Int), mx_ex d 197 188 [l0, l1, l2, l3, l4, l5, l6] [(0, x)] S h n = some (some (0, x), S, h, n)) ∧
  (∀ (d : Nat) (x : Int) (l0 l1 l2 l3 l4 l5 : Option mx_V) (S h : mx_H) (n : Int), mx_ex d 197 189 [l0, l1, l2, l3, l4, l5, some (0, x)] [] S h n = mx_ex d 197 192 [l0, l1, l2, l3, l4, mx_nl l5, some (0, mx_w (x + 1))] [] S h n) ∧
  (∀ (d : Nat) (l0 l1 l2 l3 l4 l5 l6 : Option mx_V) (S h : mx_H) (n : Int), mx_ex d 197 192 [l0, l1, l2, l3, l4, l5, l6] [] S h n = mx_ex d 197 71 [l0, l1, l2, l3, l4, l5, l6] [] S h n) ∧
  (∀ (d : Nat) (x : Int) (l0 l1 l2 l3 l4 l6 : Option mx_V) (S h : mx_H) (n : Int), mx_ex d 197 195 [l0, l1, l2, l3, l4, some (0, x), l6] [] S h n = mx_ex d 197 198 [l0, l1, l2, l3, mx_nl l4, some (0, mx_w (x + 1)), l6] [] S h n) ∧
  (∀ (d : Nat) (l0 l1 l2 l3 l4 l5 l6 : Option mx_V) (S h : mx_H) (n : Int), mx_ex d 197 198 [l0, l1, l2, l3, l4, l5, l6] [] S h n = mx_ex d 197 46 [l0, l1, l2, l3, l4, l5, l6] [] S h n) ∧
  (∀ (d : Nat) (x : Int) (l0 l1 l2 l3 l5 l6 : Option mx_V) (S h : mx_H) (n : Int), mx_ex d 197 201 [l0, l1, l2, l3, some (0, x), l5, l6] [] S h n = mx_ex d 197 204 [l0, l1, l2, mx_nl l3, some (0, mx_w (x + 1)), l5, l6] [] S h n) ∧
  (∀ (d : Nat) (l0 l1 l2 l3 l4 l5 l6 : Option mx_V) (S h : mx_H) (n : Int), mx_ex d 197 204 [l0, l1, l2, l3, l4, l5, l6] [] S h n = mx_ex d 197 36 [l0, l1, l2, l3, l4, l5, l6] [] S h n) ∧
  (∀ (d : Nat) (x : Int) (l0 l1 l2 l4 l5 l6 : Option mx_V) (S h : mx_H) (n : Int), mx_ex d 197 207 [l0, l1, l2, some (0, x), l4, l5, l6] [] S h n = mx_ex d 197 208 [l0, l1, l2, some (0, x), l4, l5, l6] [(0, x)] S h n) ∧
  (∀ (d : Nat) (x : Int) (l0 l1 l2 l3 l4 l5 l6 : Option mx_V) (S h : mx_H) (n : Int), mx_ex d 197 208 [l0, l1, l2, l3, l4, l5, l6] [(0, x)] S h n = some (some (0, x), S, h, n)) :=
  ⟨by intros; exact eq_push rfl,
   by intros; exact eq_iald rfl,
   by intros; exact eq_ld rfl rfl,
   by intros; exact eq_i2 (o := mx_shr) rfl,
   by intros; exact eq_push rfl,
   by intros; exact eq_i2 (o := mx_and) rfl,
   by intros; exact eq_push rfl,
   by intros; exact eq_ic1 rfl,
   by intros; exact eq_ld rfl rfl,
   by intros; exact eq_ld rfl rfl,
   by intros; exact eq_cv rfl (Nat.le_of_ble_eq_true rfl) rfl rfl rfl (Nat.le_of_ble_eq_true rfl),
   by intros; exact eq_if0 rfl,
   by intros; exact eq_ld rfl rfl,
   by intros; exact eq_gr rfl,
   by intros; exact eq_push rfl,
   by intros; exact eq_dup2 rfl (by decide) (by decide),
   by intros; exact eq_iald rfl,
   by intros; exact eq_push rfl,
   by intros; exact eq_ld rfl rfl,
   by intros; exact eq_i2 (o := mx_shl) rfl,
   by intros; exact eq_i2 (o := mx_or) rfl,
   by intros; exact eq_iast rfl,
   by intros; exact eq_ld rfl rfl,
   by intros; exact eq_gr rfl,
   by intros; exact eq_push rfl,
   by intros; exact eq_dup2 rfl (by decide) (by decide),
   by intros; exact eq_iald rfl,
   by intros; exact eq_push rfl,
   by intros; exact eq_ld rfl rfl,
   by intros; exact eq_i2 (o := mx_shl) rfl,
   by intros; exact eq_i2 (o := mx_or) rfl,
   by intros; exact eq_iast rfl,
   by intros; exact eq_ld rfl rfl,
   by intros; exact eq_gr rfl,
   by intros; exact eq_push rfl,
   by intros; exact eq_dup2 rfl (by decide) (by decide),
   by intros; exact eq_iald rfl,
   by intros; exact eq_push rfl,
   by intros; exact eq_ld rfl rfl,
   by intros; exact eq_i2 (o := mx_shl) rfl,
   by intros; exact eq_i2 (o := mx_or) rfl,
   by intros; exact eq_iast rfl,
   by intros; exact eq_inc rfl rfl rfl,
   by intros; exact eq_ld rfl rfl,
   by intros; exact eq_ld rfl rfl,
   by intros; exact eq_ic1 rfl,
   by intros; exact eq_ld rfl rfl,
   by intros; exact eq_ret rfl,
   by intros; exact eq_inc rfl rfl rfl,
   by intros; exact eq_go rfl,
   by intros; exact eq_inc rfl rfl rfl,
   by intros; exact eq_go rfl,
   by intros; exact eq_inc rfl rfl rfl,
   by intros; exact eq_go rfl,
   by intros; exact eq_ld rfl rfl,
   by intros; exact eq_ret rfl⟩
theorem rw_X12_worlds :
  (∀ (d : Nat) (a0 : Int) (S h : mx_H) (n : Int), mx_M d 198 [(2, a0)] S h n = mx_ex d 198 0 [some (2, a0)] [] S h n) ∧
  (∀ (d : Nat) (x : Int) (S h : mx_H) (n : Int), mx_ex d 198 0 [some (2, x)] [] S h n = mx_ex d 198 1 [some (2, x)] [(2, x)] S h n) ∧
  (∀ (d : Nat) (l0 : Option mx_V) (v0 : mx_V) (S h : mx_H) (n : Int), mx_ex d 198 1 [l0] [v0] S h n = mx_ex d 198 3 [l0] [(0, 63), v0] S h n) ∧
  (∀ (d : Nat) (l0 : Option mx_V) (v0 v1 : mx_V) (S h : mx_H) (n : Int), mx_ex d 198 3 [l0] [v0, v1] S h n = mx_ex d 198 6 [l0] [(0, 9999), v0, v1] S h n) ∧
  (∀ (d : Nat) (x0 x1 a : Int) (l0 : Option mx_V) (S h : mx_H) (n : Int), mx_ex (d + 1) 198 6 [l0] [(0, x0), (0, x1), (2, a)] S h n = mx_cl (S a (-2) = 13) d 197 [(2, a), (0, x1), (0, x0)] 198 9 [l0] [] S h n) ∧
  (∀ (d : Nat) (x : Int) (l0 : Option mx_V) (S h : mx_H) (n : Int), mx_ex d 198 9 [l0] [(0, x)] S h n = some (some (0, x), S, h, n)) :=
  ⟨by intros; exact rfl,
   by intros; exact eq_ld rfl rfl,
   by intros; exact eq_push rfl,
   by intros; exact eq_push rfl,
   by intros; exact eq_cv rfl (Nat.le_of_ble_eq_true rfl) rfl rfl rfl (Nat.le_of_ble_eq_true rfl),
   by intros; exact eq_ret rfl⟩
theorem rw_X12_hasWorld :
  (∀ (d : Nat) (a0 a1 : Int) (S h : mx_H) (n : Int), mx_M d 199 [(2, a0), (0, a1)] S h n = mx_ex d 199 0 [some (2, a0), some (0, a1)] [] S h n) ∧
  (∀ (d : Nat) (x : Int) (l1 : Option mx_V) (S h : mx_H) (n : Int), mx_ex d 199 0 [some (2, x), l1] [] S h n = mx_ex d 199 1 [some (2, x), l1] [(2, x)] S h n) ∧
  (∀ (d : Nat) (x : Int) (l0 : Option mx_V) (v0 : mx_V) (S h : mx_H) (n : Int), mx_ex d 199 1 [l0, some (0, x)] [v0] S h n = mx_ex d 199 2 [l0, some (0, x)] [(0, x), v0] S h n) ∧
  (∀ (d : Nat) (l0 l1 : Option mx_V) (v0 v1 : mx_V) (S h : mx_H) (n : Int), mx_ex d 199 2 [l0, l1] [v0, v1] S h n = mx_ex d 199 3 [l0, l1] [(0, 1), v0, v1] S h n) ∧
  (∀ (d : Nat) (x0 x1 a : Int) (l0 l1 : Option mx_V) (S h : mx_H) (n : Int), mx_ex (d + 1) 199 3 [l0, l1] [(0, x0), (0, x1), (2, a)] S h n = mx_cl (S a (-2) = 13) d 197 [(2, a), (0, x1), (0, x0)] 199 6 [l0, l1] [] S h n) ∧
  (∀ (d : Nat) (l0 l1 : Option mx_V) (v0 : mx_V) (S h : mx_H) (n : Int), mx_ex d 199 6 [l0, l1] [v0] S h n = mx_ex d 199 7 [l0, l1] [(0, 1), v0] S h n) ∧
  (∀ (d : Nat) (b a : Int) (l0 l1 : Option mx_V) (S h : mx_H) (n : Int), mx_ex d 199 7 [l0, l1] [(0, b), (0, a)] S h n = mx_br (a = b) d 199 10 14 [l0, l1] [] S h n) ∧
  (∀ (d : Nat) (l0 l1 : Option mx_V) (S h : mx_H) (n : Int), mx_ex d 199 10 [l0, l1] [] S h n = mx_ex d 199 11 [l0, l1] [(0, 1)] S h n) ∧
  (∀ (d : Nat) (l0 l1 : Option mx_V) (v0 : mx_V) (S h : mx_H) (n : Int), mx_ex d 199 11 [l0, l1] [v0] S h n = mx_ex d 199 15 [l0, l1] [v0] S h n) ∧
  (∀ (d : Nat) (l0 l1 : Option mx_V) (S h : mx_H) (n : Int), mx_ex d 199 14 [l0, l1] [] S h n = mx_ex d 199 15 [l0, l1] [(0, 0)] S h n) ∧
  (∀ (d : Nat) (x : Int) (l0 l1 : Option mx_V) (S h : mx_H) (n : Int), mx_ex d 199 15 [l0, l1] [(0, x)] S h n = mx_re (0 ≤ x ∧ x ≤ 1) (some (0, x)) S h n) :=
  ⟨by intros; exact rfl,
   by intros; exact eq_ld rfl rfl,
   by intros; exact eq_ld rfl rfl,
   by intros; exact eq_push rfl,
   by intros; exact eq_cv rfl (Nat.le_of_ble_eq_true rfl) rfl rfl rfl (Nat.le_of_ble_eq_true rfl),
   by intros; exact eq_push rfl,
   by intros; exact eq_ic1 rfl,
   by intros; exact eq_push rfl,
   by intros; exact eq_go rfl,
   by intros; exact eq_push rfl,
   by intros; exact eq_rr rfl⟩
theorem rw_X12_findWorld :
  (∀ (d : Nat) (a0 a1 : Int) (S h : mx_H) (n : Int), mx_M d 200 [(2, a0), (0, a1)] S h n = mx_ex d 200 0 [some (2, a0), some (0, a1)] [] S h n) ∧
  (∀ (d : Nat) (x : Int) (l0 : Option mx_V) (S h : mx_H) (n : Int), mx_ex d 200 0 [l0, some (0, x)] [] S h n = mx_ex d 200 1 [l0, some (0, x)] [(0, x)] S h n) ∧
  (∀ (d : Nat) (l0 l1 : Option mx_V) (v0 : mx_V) (S h : mx_H) (n : Int), mx_ex d 200 1 [l0, l1] [v0] S h n = mx_ex d 200 2 [l0, l1] [(0, 0), v0] S h n) ∧
  (∀ (d : Nat) (l0 l1 : Option mx_V) (v0 v1 : mx_V) (S h : mx_H) (n : Int), mx_ex d 200 2 [l0, l1] [v0, v1] S h n = mx_ex d 200 5 [l0, l1] [(0, 9999), v0, v1] S h n) ∧
  (∀ (d : Nat) (x0 x1 x2 : Int) (l0 l1 : Option mx_V) (S h : mx_H) (n : Int), mx_ex (d + 1) 200 5 [l0, l1] [(0, x0), (0, x1), (0, x2)] S h n = mx_rt (mx_M d 159 [(0, x2), (0, x1), (0, x0)] S h n) (d + 1) 200 8 [l0, l1] []) ∧
  (∀ (d : Nat) (a : Int) (l0 l1 : Option mx_V) (S h : mx_H) (n : Int), mx_ex d 200 8 [l0, l1] [(0, a)] S h n = mx_br (a = 0) d 200 30 11 [l0, l1] [] S h n) ∧
  (∀ (d : Nat) (x : Int) (l1 : Option mx_V) (S h : mx_H) (n : Int), mx_ex d 200 11 [some (2, x), l1] [] S h n = mx_ex d 200 12 [some (2, x), l1] [(2, x)] S h n) ∧
  (∀ (d : Nat) (l0 l1 : Option mx_V) (v0 : mx_V) (S h : mx_H) (n : Int), mx_ex d 200 12 [l0, l1] [v0] S h n = mx_ex d 200 14 [l0, l1] [(0, 63), v0] S h n) ∧
  (∀ (d : Nat) (x : Int) (l0 : Option mx_V) (v0 v1 : mx_V) (S h : mx_H) (n : Int), mx_ex d 200 14 [l0, some (0, x)] [v0, v1] S h n = mx_ex d 200 15 [l0, some (0, x)] [(0, x), v0, v1] S h n) ∧
  (∀ (d : Nat) (l0 l1 : Option mx_V) (v0 v1 v2 : mx_V) (S h : mx_H) (n : Int), mx_ex d 200 15 [l0, l1] [v0, v1, v2] S h n = mx_ex d 200 16 [l0, l1] [(0, 1), v0, v1, v2] S h n) ∧
  (∀ (d : Nat) (b a : Int) (l0 l1 : Option mx_V) (v2 v3 : mx_V) (S h : mx_H) (n : Int), mx_ex d 200 16 [l0, l1] [(0, b), (0, a), v2, v3] S h n = mx_ex d 200 17 [l0, l1] [(0, mx_w (a + b)), v2, v3] S h n) ∧
  (∀ (d : Nat) (x0 x1 a : Int) (l0 l1 : Option mx_V) (S h : mx_H) (n : Int), mx_ex (d + 1) 200 17 [l0, l1] [(0, x0), (0, x1), (2, a)] S h n = mx_cl (S a (-2) = 13) d 197 [(2, a), (0, x1), (0, x0)] 200 20 [l0, l1] [] S h n) ∧
  (∀ (d : Nat) (x : Int) (l0 : Option mx_V) (v0 : mx_V) (S h : mx_H) (n : Int), mx_ex d 200 20 [l0, some (0, x)] [v0] S h n = mx_ex d 200 21 [l0, some (0, x)] [(0, x), v0] S h n) ∧
  (∀ (d : Nat) (l0 l1 : Option mx_V) (v0 v1 : mx_V) (S h : mx_H) (n : Int), mx_ex d 200 21 [l0, l1] [v0, v1] S h n = mx_ex d 200 22 [l0, l1] [(0, 1), v0, v1] S h n) ∧
  (∀ (d : Nat) (b a : Int) (l0 l1 : Option mx_V) (v2 : mx_V) (S h : mx_H) (n : Int), mx_ex d 200 22 [l0, l1] [(0, b), (0, a), v2] S h n = mx_ex d 200 23 [l0, l1] [(0, mx_w (a + b)), v2] S h n) ∧
  (∀ (d : Nat) (b a : Int) (l0 l1 : Option mx_V) (S h : mx_H) (n : Int), mx_ex d 200 23 [l0, l1] [(0, b), (0, a)] S h n = mx_br (a = b) d 200 26 30 [l0, l1] [] S h n) ∧
  (∀ (d : Nat) (l0 l1 : Option mx_V) (S h : mx_H) (n : Int), mx_ex d 200 26 [l0, l1] [] S h n = mx_ex d 200 27 [l0, l1] [(0, 1)] S h n) ∧
  (∀ (d : Nat) (l0 l1 : Option mx_V) (v0 : mx_V) (S h : mx_H) (n : Int), mx_ex d 200 27 [l0, l1] [v0] S h n = mx_ex d 200 31 [l0, l1] [v0] S h n) ∧
  (∀ (d : Nat) (l0 l1 : Option mx_V) (S h : mx_H) (n : Int), mx_ex d 200 30 [l0, l1] [] S h n = mx_ex d 200 31 [l0, l1] [(0, 0)] S h n) ∧
  (∀ (d : Nat) (x : Int) (l0 l1 : Option mx_V) (S h : mx_H) (n : Int), mx_ex d 200 31 [l0, l1] [(0, x)] S h n = mx_re (0 ≤ x ∧ x ≤ 1) (some (0, x)) S h n) :=
  ⟨by intros; exact rfl,
   by intros; exact eq_ld rfl rfl,
   by intros; exact eq_push rfl,
   by intros; exact eq_push rfl,
   by intros; exact eq_cs rfl (Nat.le_of_ble_eq_true rfl) rfl rfl rfl (Nat.le_of_ble_eq_true rfl),
   by intros; exact eq_if0 rfl,
   by intros; exact eq_ld rfl rfl,
   by intros; exact eq_push rfl,
   by intros; exact eq_ld rfl rfl,
   by intros; exact eq_push rfl,
   by intros; exact eq_i2 (o := mx_add) rfl,
   by intros; exact eq_cv rfl (Nat.le_of_ble_eq_true rfl) rfl rfl rfl (Nat.le_of_ble_eq_true rfl),
   by intros; exact eq_ld rfl rfl,
   by intros; exact eq_push rfl,
   by intros; exact eq_i2 (o := mx_add) rfl,
   by intros; exact eq_ic1 rfl,
   by intros; exact eq_push rfl,
   by intros; exact eq_go rfl,
   by intros; exact eq_push rfl,
   by intros; exact eq_rr rfl⟩
theorem rw_X12_world :
  (∀ (d : Nat) (a0 a1 a2 : Int) (S h : mx_H) (n : Int), mx_M d 201 [(2, a0), (0, a1), (0, a2)] S h n = mx_ex d 201 0 [some (2, a0), some (0, a1), some (0, a2)] [] S h n) ∧
  (∀ (d : Nat) (x : Int) (l0 l1 : Option mx_V) (S h : mx_H) (n : Int), mx_ex d 201 0 [l0, l1, some (0, x)] [] S h n = mx_ex d 201 1 [l0, l1, some (0, x)] [(0, x)] S h n) ∧
  (∀ (d : Nat) (x0 : Int) (l0 l1 l2 : Option mx_V) (S h : mx_H) (n : Int), mx_ex (d + 1) 201 1 [l0, l1, l2] [(0, x0)] S h n = mx_rt (mx_M d 161 [(0, x0)] S h n) (d + 1) 201 4 [l0, l1, l2] []) ∧
  (∀ (d : Nat) (a : Int) (l0 l1 l2 : Option mx_V) (S h : mx_H) (n : Int), mx_ex d 201 4 [l0, l1, l2] [(0, a)] S h n = mx_br (a = 0) d 201 7 9 [l0, l1, l2] [] S h n) ∧
  (∀ (d : Nat) (l0 l1 l2 : Option mx_V) (S h : mx_H) (n : Int), mx_ex d 201 7 [l0, l1, l2] [] S h n = mx_ex d 201 8 [l0, l1, l2] [(0, (-1))] S h n) ∧
  (∀ (d : Nat) (x : Int) (l0 l1 l2 : Option mx_V) (S h : mx_H) (n : Int), mx_ex d 201 8 [l0, l1, l2] [(0, x)] S h n = some (some (0, x), S, h, n)) ∧
  (∀ (d : Nat) (x : Int) (l1 l2 : Option mx_V) (S h : mx_H) (n : Int), mx_ex d 201 9 [some (2, x), l1, l2] [] S h n = mx_ex d 201 10 [some (2, x), l1, l2] [(2, x)] S h n) ∧
  (∀ (d : Nat) (x : Int) (l0 l2 : Option mx_V) (v0 : mx_V) (S h : mx_H) (n : Int), mx_ex d 201 10 [l0, some (0, x), l2] [v0] S h n = mx_ex d 201 11 [l0, some (0, x), l2] [(0, x), v0] S h n) ∧
  (∀ (d : Nat) (x0 a : Int) (l0 l1 l2 : Option mx_V) (S h : mx_H) (n : Int), mx_ex (d + 1) 201 11 [l0, l1, l2] [(0, x0), (2, a)] S h n = mx_cl (S a (-2) = 13) d 200 [(2, a), (0, x0)] 201 14 [l0, l1, l2] [] S h n) ∧
  (∀ (d : Nat) (a : Int) (l0 l1 l2 : Option mx_V) (S h : mx_H) (n : Int), mx_ex d 201 14 [l0, l1, l2] [(0, a)] S h n = mx_br (a = 0) d 201 26 17 [l0, l1, l2] [] S h n) ∧
  (∀ (d : Nat) (x : Int) (l1 l2 : Option mx_V) (S h : mx_H) (n : Int), mx_ex d 201 17 [some (2, x), l1, l2] [] S h n = mx_ex d 201 18 [some (2, x), l1, l2] [(2, x)] S h n) ∧
  (∀ (d : Nat) (a : Int) (l0 l1 l2 : Option mx_V) (S h : mx_H) (n : Int), mx_ex d 201 18 [l0, l1, l2] [(2, a)] S h n = mx_gd (13 ≤ S a (-2) ∧ S a (-2) ≤ 13) d 201 21 [l0, l1, l2] [(2, S a 11)] S h n) ∧
  (∀ (d : Nat) (x : Int) (l0 l1 : Option mx_V) (v0 : mx_V) (S h : mx_H) (n : Int), mx_ex d 201 21 [l0, l1, some (0, x)] [v0] S h n = mx_ex d 201 22 [l0, l1, some (0, x)] [(0, x), v0] S h n) ∧
  (∀ (d : Nat) (i a : Int) (l0 l1 l2 : Option mx_V) (S h : mx_H) (n : Int), mx_ex d 201 22 [l0, l1, l2] [(0, i), (2, a)] S h n = mx_gd ((S a (-2) = 20 ∨ S a (-2) = 24) ∧ 0 ≤ i ∧ i < S a (-1)) d 201 23 [l0, l1, l2] [(0, h a i)] S h n) ∧
  (∀ (d : Nat) (l0 l1 l2 : Option mx_V) (v0 : mx_V) (S h : mx_H) (n : Int), mx_ex d 201 23 [l0, l1, l2] [v0] S h n = mx_ex d 201 28 [l0, l1, l2] [v0] S h n) ∧
  (∀ (d : Nat) (l0 l1 l2 : Option mx_V) (S h : mx_H) (n : Int), mx_ex d 201 26 [l0, l1, l2] [] S h n = mx_ex d 201 28 [l0, l1, l2] [(0, (-3))] S h n) ∧
  (∀ (d : Nat) (x : Int) (l0 l1 l2 : Option mx_V) (S h : mx_H) (n : Int), mx_ex d 201 28 [l0, l1, l2] [(0, x)] S h n = some (some (0, x), S, h, n)) :=
  ⟨by intros; exact rfl,
   by intros; exact eq_ld rfl rfl,
   by intros; exact eq_cs rfl (Nat.le_of_ble_eq_true rfl) rfl rfl rfl (Nat.le_of_ble_eq_true rfl),
   by intros; exact eq_if1 rfl,
   by intros; exact eq_push rfl,
   by intros; exact eq_ret rfl,
   by intros; exact eq_ld rfl rfl,
   by intros; exact eq_ld rfl rfl,
   by intros; exact eq_cv rfl (Nat.le_of_ble_eq_true rfl) rfl rfl rfl (Nat.le_of_ble_eq_true rfl),
   by intros; exact eq_if0 rfl,
   by intros; exact eq_ld rfl rfl,
   by intros; exact eq_gr rfl,
   by intros; exact eq_ld rfl rfl,
   by intros; exact eq_iald rfl,
   by intros; exact eq_go rfl,
   by intros; exact eq_push rfl,
   by intros; exact eq_ret rfl⟩
theorem rw_X12_may :
  (∀ (d : Nat) (a0 a1 : Int) (S h : mx_H) (n : Int), mx_M d 202 [(2, a0), (0, a1)] S h n = mx_ex d 202 0 [some (2, a0), some (0, a1), none] [] S h n) ∧
  (∀ (d : Nat) (x : Int) (l0 l2 : Option mx_V) (S h : mx_H) (n : Int), mx_ex d 202 0 [l0, some (0, x), l2] [] S h n = mx_ex d 202 1 [l0, some (0, x), l2] [(0, x)] S h n) ∧
  (∀ (d : Nat) (x0 : Int) (l0 l1 l2 : Option mx_V) (S h : mx_H) (n : Int), mx_ex (d + 1) 202 1 [l0, l1, l2] [(0, x0)] S h n = mx_rt (mx_M d 161 [(0, x0)] S h n) (d + 1) 202 4 [l0, l1, l2] []) ∧
  (∀ (d : Nat) (a : Int) (l0 l1 l2 : Option mx_V) (S h : mx_H) (n : Int), mx_ex d 202 4 [l0, l1, l2] [(0, a)] S h n = mx_br (a = 0) d 202 7 9 [l0, l1, l2] [] S h n) ∧
  (∀ (d : Nat) (l0 l1 l2 : Option mx_V) (S h : mx_H) (n : Int), mx_ex d 202 7 [l0, l1, l2] [] S h n = mx_ex d 202 8 [l0, l1, l2] [(0, (-1))] S h n) ∧
  (∀ (d : Nat) (x : Int) (l0 l1 l2 : Option mx_V) (S h : mx_H) (n : Int), mx_ex d 202 8 [l0, l1, l2] [(0, x)] S h n = some (some (0, x), S, h, n)) ∧
  (∀ (d : Nat) (x : Int) (l1 l2 : Option mx_V) (S h : mx_H) (n : Int), mx_ex d 202 9 [some (2, x), l1, l2] [] S h n = mx_ex d 202 10 [some (2, x), l1, l2] [(2, x)] S h n) ∧
  (∀ (d : Nat) (l0 l1 l2 : Option mx_V) (v0 : mx_V) (S h : mx_H) (n : Int), mx_ex d 202 10 [l0, l1, l2] [v0] S h n = mx_ex d 202 12 [l0, l1, l2] [(0, 63), v0] S h n) ∧
  (∀ (d : Nat) (l0 l1 l2 : Option mx_V) (v0 v1 : mx_V) (S h : mx_H) (n : Int), mx_ex d 202 12 [l0, l1, l2] [v0, v1] S h n = mx_ex d 202 15 [l0, l1, l2] [(0, 9999), v0, v1] S h n) ∧
  (∀ (d : Nat) (x0 x1 a : Int) (l0 l1 l2 : Option mx_V) (S h : mx_H) (n : Int), mx_ex (d + 1) 202 15 [l0, l1, l2] [(0, x0), (0, x1), (2, a)] S h n = mx_cl (S a (-2) = 13) d 197 [(2, a), (0, x1), (0, x0)] 202 18 [l0, l1, l2] [] S h n) ∧
  (∀ (d : Nat) (x : Int) (l0 l1 l2 : Option mx_V) (S h : mx_H) (n : Int), mx_ex d 202 18 [l0, l1, l2] [(0, x)] S h n = mx_ex d 202 19 [l0, mx_nl l1, some (0, x)] [] S h n) ∧
  (∀ (d : Nat) (x : Int) (l1 l2 : Option mx_V) (S h : mx_H) (n : Int), mx_ex d 202 19 [some (2, x), l1, l2] [] S h n = mx_ex d 202 20 [some (2, x), l1, l2] [(2, x)] S h n) ∧
  (∀ (d : Nat) (a : Int) (l0 l1 l2 : Option mx_V) (S h : mx_H) (n : Int), mx_ex d 202 20 [l0, l1, l2] [(2, a)] S h n = mx_gd (13 ≤ S a (-2) ∧ S a (-2) ≤ 13) d 202 23 [l0, l1, l2] [(2, S a 13)] S h n) ∧
  (∀ (d : Nat) (x : Int) (l0 l2 : Option mx_V) (v0 : mx_V) (S h : mx_H) (n : Int), mx_ex d 202 23 [l0, some (0, x), l2] [v0] S h n = mx_ex d 202 24 [l0, some (0, x), l2] [(0, x), v0] S h n) ∧
  (∀ (d : Nat) (i a : Int) (l0 l1 l2 : Option mx_V) (S h : mx_H) (n : Int), mx_ex d 202 24 [l0, l1, l2] [(0, i), (2, a)] S h n = mx_gd ((S a (-2) = 20 ∨ S a (-2) = 24) ∧ 0 ≤ i ∧ i < S a (-1)) d 202 25 [l0, l1, l2] [(0, h a i)] S h n) ∧
  (∀ (d : Nat) (x : Int) (l0 l1 l2 : Option mx_V) (S h : mx_H) (n : Int), mx_ex d 202 25 [l0, l1, l2] [(0, x)] S h n = some (some (0, x), S, h, n)) :=
  ⟨by intros; exact rfl,
   by intros; exact eq_ld rfl rfl,
   by intros; exact eq_cs rfl (Nat.le_of_ble_eq_true rfl) rfl rfl rfl (Nat.le_of_ble_eq_true rfl),
   by intros; exact eq_if1 rfl,
   by intros; exact eq_push rfl,
   by intros; exact eq_ret rfl,
   by intros; exact eq_ld rfl rfl,
   by intros; exact eq_push rfl,
   by intros; exact eq_push rfl,
   by intros; exact eq_cv rfl (Nat.le_of_ble_eq_true rfl) rfl rfl rfl (Nat.le_of_ble_eq_true rfl),
   by intros; exact eq_st rfl (by decide) (Nat.le_of_ble_eq_true rfl) rfl,
   by intros; exact eq_ld rfl rfl,
   by intros; exact eq_gr rfl,
   by intros; exact eq_ld rfl rfl,
   by intros; exact eq_iald rfl,
   by intros; exact eq_ret rfl⟩
theorem rh_X12_sure_21 : ∀ (d : Nat) (x : Int) (l0 l1 l2 : Option mx_V) (S h : mx_H) (n : Int), mx_ex d 203 21 [l0, l1, l2, some (0, x)] [] S h n = mx_ex d 203 22 [l0, l1, l2, some (0, x)] [(0, x)] S h n := by intros; exact eq_ld rfl rfl
theorem rw_X12_sure :
  (∀ (d : Nat) (a0 a1 : Int) (S h : mx_H) (n : Int), mx_M d 203 [(2, a0), (0, a1)] S h n = mx_ex d 203 0 [some (2, a0), some (0, a1), none, none] [] S h n) ∧
  (∀ (d : Nat) (x : Int) (l0 l2 l3 : Option mx_V) (S h : mx_H) (n : Int), mx_ex d 203 0 [l0, some (0, x), l2, l3] [] S h n = mx_ex d 203 1 [l0, some (0, x), l2, l3] [(0, x)] S h n) ∧
  (∀ (d : Nat) (x0 : Int) (l0 l1 l2 l3 : Option mx_V) (S h : mx_H) (n : Int), mx_ex (d + 1) 203 1 [l0, l1, l2, l3] [(0, x0)] S h n = mx_rt (mx_M d 161 [(0, x0)] S h n) (d + 1) 203 4 [l0, l1, l2, l3] []) ∧
  (∀ (d : Nat) (a : Int) (l0 l1 l2 l3 : Option mx_V) (S h : mx_H) (n : Int), mx_ex d 203 4 [l0, l1, l2, l3] [(0, a)] S h n = mx_br (a = 0) d 203 7 9 [l0, l1, l2, l3] [] S h n) ∧
  (∀ (d : Nat) (l0 l1 l2 l3 : Option mx_V) (S h : mx_H) (n : Int), mx_ex d 203 7 [l0, l1, l2, l3] [] S h n = mx_ex d 203 8 [l0, l1, l2, l3] [(0, (-1))] S h n) ∧
  (∀ (d : Nat) (x : Int) (l0 l1 l2 l3 : Option mx_V) (S h : mx_H) (n : Int), mx_ex d 203 8 [l0, l1, l2, l3] [(0, x)] S h n = some (some (0, x), S, h, n)) ∧
  (∀ (d : Nat) (x : Int) (l1 l2 l3 : Option mx_V) (S h : mx_H) (n : Int), mx_ex d 203 9 [some (2, x), l1, l2, l3] [] S h n = mx_ex d 203 10 [some (2, x), l1, l2, l3] [(2, x)] S h n) ∧
  (∀ (d : Nat) (l0 l1 l2 l3 : Option mx_V) (v0 : mx_V) (S h : mx_H) (n : Int), mx_ex d 203 10 [l0, l1, l2, l3] [v0] S h n = mx_ex d 203 12 [l0, l1, l2, l3] [(0, 63), v0] S h n) ∧
  (∀ (d : Nat) (l0 l1 l2 l3 : Option mx_V) (v0 v1 : mx_V) (S h : mx_H) (n : Int), mx_ex d 203 12 [l0, l1, l2, l3] [v0, v1] S h n = mx_ex d 203 15 [l0, l1, l2, l3] [(0, 9999), v0, v1] S h n) ∧
  (∀ (d : Nat) (x0 x1 a : Int) (l0 l1 l2 l3 : Option mx_V) (S h : mx_H) (n : Int), mx_ex (d + 1) 203 15 [l0, l1, l2, l3] [(0, x0), (0, x1), (2, a)] S h n = mx_cl (S a (-2) = 13) d 197 [(2, a), (0, x1), (0, x0)] 203 18 [l0, l1, l2, l3] [] S h n) ∧
  (∀ (d : Nat) (x : Int) (l0 l1 l2 l3 : Option mx_V) (S h : mx_H) (n : Int), mx_ex d 203 18 [l0, l1, l2, l3] [(0, x)] S h n = mx_ex d 203 19 [l0, mx_nl l1, some (0, x), l3] [] S h n) ∧
  (∀ (d : Nat) (l0 l1 l2 l3 : Option mx_V) (S h : mx_H) (n : Int), mx_ex d 203 19 [l0, l1, l2, l3] [] S h n = mx_ex d 203 20 [l0, l1, l2, l3] [(0, 2)] S h n) ∧
  (∀ (d : Nat) (x : Int) (l0 l1 l2 l3 : Option mx_V) (S h : mx_H) (n : Int), mx_ex d 203 20 [l0, l1, l2, l3] [(0, x)] S h n = mx_ex d 203 21 [l0, l1, mx_nl l2, some (0, x)] [] S h n) ∧
  (∀ (d : Nat) (l0 l1 l2 l3 : Option mx_V) (v0 : mx_V) (S h : mx_H) (n : Int), mx_ex d 203 22 [l0, l1, l2, l3] [v0] S h n = mx_ex d 203 24 [l0, l1, l2, l3] [(0, 16), v0] S h n) ∧
  (∀ (d : Nat) (b a : Int) (l0 l1 l2 l3 : Option mx_V) (S h : mx_H) (n : Int), mx_ex d 203 24 [l0, l1, l2, l3] [(0, b), (0, a)] S h n = mx_br (b < a) d 203 47 27 [l0, l1, l2, l3] [] S h n) ∧
  (∀ (d : Nat) (x : Int) (l1 l2 l3 : Option mx_V) (S h : mx_H) (n : Int), mx_ex d 203 27 [some (2, x), l1, l2, l3] [] S h n = mx_ex d 203 28 [some (2, x), l1, l2, l3] [(2, x)] S h n) ∧
  (∀ (d : Nat) (a : Int) (l0 l1 l2 l3 : Option mx_V) (S h : mx_H) (n : Int), mx_ex d 203 28 [l0, l1, l2, l3] [(2, a)] S h n = mx_gd (13 ≤ S a (-2) ∧ S a (-2) ≤ 13) d 203 31 [l0, l1, l2, l3] [(2, S a 13)] S h n) ∧
  (∀ (d : Nat) (x : Int) (l0 l2 l3 : Option mx_V) (v0 : mx_V) (S h : mx_H) (n : Int), mx_ex d 203 31 [l0, some (0, x), l2, l3] [v0] S h n = mx_ex d 203 32 [l0, some (0, x), l2, l3] [(0, x), v0] S h n) ∧
  (∀ (d : Nat) (i a : Int) (l0 l1 l2 l3 : Option mx_V) (S h : mx_H) (n : Int), mx_ex d 203 32 [l0, l1, l2, l3] [(0, i), (2, a)] S h n = mx_gd ((S a (-2) = 20 ∨ S a (-2) = 24) ∧ 0 ≤ i ∧ i < S a (-1)) d 203 33 [l0, l1, l2, l3] [(0, h a i)] S h n) ∧
  (∀ (d : Nat) (l0 l1 l2 l3 : Option mx_V) (v0 : mx_V) (S h : mx_H) (n : Int), mx_ex d 203 33 [l0, l1, l2, l3] [v0] S h n = mx_ex d 203 34 [l0, l1, l2, l3] [(0, 1), v0] S h n) ∧
  (∀ (d : Nat) (x : Int) (l0 l1 l2 : Option mx_V) (v0 v1 : mx_V) (S h : mx_H) (n : Int), mx_ex d 203 34 [l0, l1, l2, some (0, x)] [v0, v1] S h n = mx_ex d 203 35 [l0, l1, l2, some (0, x)] [(0, x), v0, v1] S h n) ∧
  (∀ (d : Nat) (b a : Int) (l0 l1 l2 l3 : Option mx_V) (v2 : mx_V) (S h : mx_H) (n : Int), mx_ex d 203 35 [l0, l1, l2, l3] [(0, b), (0, a), v2] S h n = mx_ex d 203 36 [l0, l1, l2, l3] [(0, mx_shl a b), v2] S h n) ∧
  (∀ (d : Nat) (b a : Int) (l0 l1 l2 l3 : Option mx_V) (S h : mx_H) (n : Int), mx_ex d 203 36 [l0, l1, l2, l3] [(0, b), (0, a)] S h n = mx_br (a = b) d 203 39 41 [l0, l1, l2, l3] [] S h n) ∧
  (∀ (d : Nat) (x : Int) (l0 l1 l2 : Option mx_V) (S h : mx_H) (n : Int), mx_ex d 203 39 [l0, l1, l2, some (0, x)] [] S h n = mx_ex d 203 40 [l0, l1, l2, some (0, x)] [(0, x)] S h n) ∧
  (∀ (d : Nat) (x : Int) (l0 l1 l2 l3 : Option mx_V) (S h : mx_H) (n : Int), mx_ex d 203 40 [l0, l1, l2, l3] [(0, x)] S h n = some (some (0, x), S, h, n)) ∧
  (∀ (d : Nat) (x : Int) (l0 l1 l2 : Option mx_V) (S h : mx_H) (n : Int), mx_ex d 203 41 [l0, l1, l2, some (0, x)] [] S h n = mx_ex d 203 44 [l0, l1, mx_nl l2, some (0, mx_w (x + 1))] [] S h n) ∧
  (∀ (d : Nat) (l0 l1 l2 l3 : Option mx_V) (S h : mx_H) (n : Int), mx_ex d 203 44 [l0, l1, l2, l3] [] S h n = mx_ex d 203 21 [l0, l1, l2, l3] [] S h n) ∧
  (∀ (d : Nat) (l0 l1 l2 l3 : Option mx_V) (S h : mx_H) (n : Int), mx_ex d 203 47 [l0, l1, l2, l3] [] S h n = mx_ex d 203 49 [l0, l1, l2, l3] [(0, (-3))] S h n) ∧
  (∀ (d : Nat) (x : Int) (l0 l1 l2 l3 : Option mx_V) (S h : mx_H) (n : Int), mx_ex d 203 49 [l0, l1, l2, l3] [(0, x)] S h n = some (some (0, x), S, h, n)) :=
  ⟨by intros; exact rfl,
   by intros; exact eq_ld rfl rfl,
   by intros; exact eq_cs rfl (Nat.le_of_ble_eq_true rfl) rfl rfl rfl (Nat.le_of_ble_eq_true rfl),
   by intros; exact eq_if1 rfl,
   by intros; exact eq_push rfl,
   by intros; exact eq_ret rfl,
   by intros; exact eq_ld rfl rfl,
   by intros; exact eq_push rfl,
   by intros; exact eq_push rfl,
   by intros; exact eq_cv rfl (Nat.le_of_ble_eq_true rfl) rfl rfl rfl (Nat.le_of_ble_eq_true rfl),
   by intros; exact eq_st rfl (by decide) (Nat.le_of_ble_eq_true rfl) rfl,
   by intros; exact eq_push rfl,
   by intros; exact eq_st rfl (by decide) (Nat.le_of_ble_eq_true rfl) rfl,
   by intros; exact eq_push rfl,
   by intros; exact eq_ic4 rfl,
   by intros; exact eq_ld rfl rfl,
   by intros; exact eq_gr rfl,
   by intros; exact eq_ld rfl rfl,
   by intros; exact eq_iald rfl,
   by intros; exact eq_push rfl,
   by intros; exact eq_ld rfl rfl,
   by intros; exact eq_i2 (o := mx_shl) rfl,
   by intros; exact eq_ic1 rfl,
   by intros; exact eq_ld rfl rfl,
   by intros; exact eq_ret rfl,
   by intros; exact eq_inc rfl rfl rfl,
   by intros; exact eq_go rfl,
   by intros; exact eq_push rfl,
   by intros; exact eq_ret rfl⟩
theorem rw_X12_holds :
  (∀ (d : Nat) (a0 a1 a2 a3 a4 : Int) (S h : mx_H) (n : Int), mx_M d 204 [(2, a0), (0, a1), (0, a2), (0, a3), (0, a4)] S h n = mx_ex d 204 0 [some (2, a0), some (0, a1), some (0, a2), some (0, a3), some (0, a4)] [] S h n) ∧
  (∀ (d : Nat) (x : Int) (l1 l2 l3 l4 : Option mx_V) (S h : mx_H) (n : Int), mx_ex d 204 0 [some (2, x), l1, l2, l3, l4] [] S h n = mx_ex d 204 1 [some (2, x), l1, l2, l3, l4] [(2, x)] S h n) ∧
  (∀ (d : Nat) (x : Int) (l0 l2 l3 l4 : Option mx_V) (v0 : mx_V) (S h : mx_H) (n : Int), mx_ex d 204 1 [l0, some (0, x), l2, l3, l4] [v0] S h n = mx_ex d 204 2 [l0, some (0, x), l2, l3, l4] [(0, x), v0] S h n) ∧
  (∀ (d : Nat) (x0 a : Int) (l0 l1 l2 l3 l4 : Option mx_V) (S h : mx_H) (n : Int), mx_ex (d + 1) 204 2 [l0, l1, l2, l3, l4] [(0, x0), (2, a)] S h n = mx_cl (S a (-2) = 13) d 189 [(2, a), (0, x0)] 204 5 [l0, l1, l2, l3, l4] [] S h n) ∧
  (∀ (d : Nat) (a : Int) (l0 l1 l2 l3 l4 : Option mx_V) (S h : mx_H) (n : Int), mx_ex d 204 5 [l0, l1, l2, l3, l4] [(0, a)] S h n = mx_br (a = 0) d 204 30 8 [l0, l1, l2, l3, l4] [] S h n) ∧
  (∀ (d : Nat) (x : Int) (l0 l1 l3 l4 : Option mx_V) (S h : mx_H) (n : Int), mx_ex d 204 8 [l0, l1, some (0, x), l3, l4] [] S h n = mx_ex d 204 9 [l0, l1, some (0, x), l3, l4] [(0, x)] S h n) ∧
  (∀ (d : Nat) (x0 : Int) (l0 l1 l2 l3 l4 : Option mx_V) (S h : mx_H) (n : Int), mx_ex (d + 1) 204 9 [l0, l1, l2, l3, l4] [(0, x0)] S h n = mx_rt (mx_M d 162 [(0, x0)] S h n) (d + 1) 204 12 [l0, l1, l2, l3, l4] []) ∧
  (∀ (d : Nat) (a : Int) (l0 l1 l2 l3 l4 : Option mx_V) (S h : mx_H) (n : Int), mx_ex d 204 12 [l0, l1, l2, l3, l4] [(0, a)] S h n = mx_br (a = 0) d 204 30 15 [l0, l1, l2, l3, l4] [] S h n) ∧
  (∀ (d : Nat) (x : Int) (l0 l1 l2 l4 : Option mx_V) (S h : mx_H) (n : Int), mx_ex d 204 15 [l0, l1, l2, some (0, x), l4] [] S h n = mx_ex d 204 16 [l0, l1, l2, some (0, x), l4] [(0, x)] S h n) ∧
  (∀ (d : Nat) (x0 : Int) (l0 l1 l2 l3 l4 : Option mx_V) (S h : mx_H) (n : Int), mx_ex (d + 1) 204 16 [l0, l1, l2, l3, l4] [(0, x0)] S h n = mx_rt (mx_M d 162 [(0, x0)] S h n) (d + 1) 204 19 [l0, l1, l2, l3, l4] []) ∧
  (∀ (d : Nat) (a : Int) (l0 l1 l2 l3 l4 : Option mx_V) (S h : mx_H) (n : Int), mx_ex d 204 19 [l0, l1, l2, l3, l4] [(0, a)] S h n = mx_br (a = 0) d 204 30 22 [l0, l1, l2, l3, l4] [] S h n) ∧
  (∀ (d : Nat) (x : Int) (l0 l1 l2 l3 : Option mx_V) (S h : mx_H) (n : Int), mx_ex d 204 22 [l0, l1, l2, l3, some (0, x)] [] S h n = mx_ex d 204 24 [l0, l1, l2, l3, some (0, x)] [(0, x)] S h n) ∧
  (∀ (d : Nat) (x0 : Int) (l0 l1 l2 l3 l4 : Option mx_V) (S h : mx_H) (n : Int), mx_ex (d + 1) 204 24 [l0, l1, l2, l3, l4] [(0, x0)] S h n = mx_rt (mx_M d 162 [(0, x0)] S h n) (d + 1) 204 27 [l0, l1, l2, l3, l4] []) ∧
  (∀ (d : Nat) (a : Int) (l0 l1 l2 l3 l4 : Option mx_V) (S h : mx_H) (n : Int), mx_ex d 204 27 [l0, l1, l2, l3, l4] [(0, a)] S h n = mx_br (a = 0) d 204 30 32 [l0, l1, l2, l3, l4] [] S h n) ∧
  (∀ (d : Nat) (l0 l1 l2 l3 l4 : Option mx_V) (S h : mx_H) (n : Int), mx_ex d 204 30 [l0, l1, l2, l3, l4] [] S h n = mx_ex d 204 31 [l0, l1, l2, l3, l4] [(0, (-1))] S h n) ∧
  (∀ (d : Nat) (x : Int) (l0 l1 l2 l3 l4 : Option mx_V) (S h : mx_H) (n : Int), mx_ex d 204 31 [l0, l1, l2, l3, l4] [(0, x)] S h n = some (some (0, x), S, h, n)) ∧
  (∀ (d : Nat) (x : Int) (l1 l2 l3 l4 : Option mx_V) (S h : mx_H) (n : Int), mx_ex d 204 32 [some (2, x), l1, l2, l3, l4] [] S h n = mx_ex d 204 33 [some (2, x), l1, l2, l3, l4] [(2, x)] S h n) ∧
  (∀ (d : Nat) (a : Int) (l0 l1 l2 l3 l4 : Option mx_V) (S h : mx_H) (n : Int), mx_ex d 204 33 [l0, l1, l2, l3, l4] [(2, a)] S h n = mx_gd (13 ≤ S a (-2) ∧ S a (-2) ≤ 13) d 204 36 [l0, l1, l2, l3, l4] [(2, S a 11)] S h n) ∧
  (∀ (d : Nat) (l0 l1 l2 l3 l4 : Option mx_V) (v0 : mx_V) (S h : mx_H) (n : Int), mx_ex d 204 36 [l0, l1, l2, l3, l4] [v0] S h n = mx_ex d 204 37 [l0, l1, l2, l3, l4] [(0, 0), v0] S h n) ∧
  (∀ (d : Nat) (x : Int) (l0 l1 l3 l4 : Option mx_V) (v0 v1 : mx_V) (S h : mx_H) (n : Int), mx_ex d 204 37 [l0, l1, some (0, x), l3, l4] [v0, v1] S h n = mx_ex d 204 38 [l0, l1, some (0, x), l3, l4] [(0, x), v0, v1] S h n) ∧
  (∀ (d : Nat) (v i a : Int) (l0 l1 l2 l3 l4 : Option mx_V) (S h : mx_H) (n : Int), mx_ex d 204 38 [l0, l1, l2, l3, l4] [(0, v), (0, i), (2, a)] S h n = mx_gd (S a (-2) = 20 ∧ 0 ≤ i ∧ i < S a (-1)) d 204 39 [l0, l1, l2, l3, l4] [] S (mx_u h a i v) n) ∧
  (∀ (d : Nat) (x : Int) (l1 l2 l3 l4 : Option mx_V) (S h : mx_H) (n : Int), mx_ex d 204 39 [some (2, x), l1, l2, l3, l4] [] S h n = mx_ex d 204 40 [some (2, x), l1, l2, l3, l4] [(2, x)] S h n) ∧
  (∀ (d : Nat) (a : Int) (l0 l1 l2 l3 l4 : Option mx_V) (S h : mx_H) (n : Int), mx_ex d 204 40 [l0, l1, l2, l3, l4] [(2, a)] S h n = mx_gd (13 ≤ S a (-2) ∧ S a (-2) ≤ 13) d 204 43 [l0, l1, l2, l3, l4] [(2, S a 11)] S h n) ∧
  (∀ (d : Nat) (l0 l1 l2 l3 l4 : Option mx_V) (v0 : mx_V) (S h : mx_H) (n : Int), mx_ex d 204 43 [l0, l1, l2, l3, l4] [v0] S h n = mx_ex d 204 44 [l0, l1, l2, l3, l4] [(0, 1), v0] S h n) ∧
  (∀ (d : Nat) (x : Int) (l0 l1 l2 l4 : Option mx_V) (v0 v1 : mx_V) (S h : mx_H) (n : Int), mx_ex d 204 44 [l0, l1, l2, some (0, x), l4] [v0, v1] S h n = mx_ex d 204 45 [l0, l1, l2, some (0, x), l4] [(0, x), v0, v1] S h n) ∧
  (∀ (d : Nat) (v i a : Int) (l0 l1 l2 l3 l4 : Option mx_V) (S h : mx_H) (n : Int), mx_ex d 204 45 [l0, l1, l2, l3, l4] [(0, v), (0, i), (2, a)] S h n = mx_gd (S a (-2) = 20 ∧ 0 ≤ i ∧ i < S a (-1)) d 204 46 [l0, l1, l2, l3, l4] [] S (mx_u h a i v) n) ∧
  (∀ (d : Nat) (x : Int) (l1 l2 l3 l4 : Option mx_V) (S h : mx_H) (n : Int), mx_ex d 204 46 [some (2, x), l1, l2, l3, l4] [] S h n = mx_ex d 204 47 [some (2, x), l1, l2, l3, l4] [(2, x)] S h n) ∧
  (∀ (d : Nat) (a : Int) (l0 l1 l2 l3 l4 : Option mx_V) (S h : mx_H) (n : Int), mx_ex d 204 47 [l0, l1, l2, l3, l4] [(2, a)] S h n = mx_gd (13 ≤ S a (-2) ∧ S a (-2) ≤ 13) d 204 50 [l0, l1, l2, l3, l4] [(2, S a 11)] S h n) ∧
  (∀ (d : Nat) (l0 l1 l2 l3 l4 : Option mx_V) (v0 : mx_V) (S h : mx_H) (n : Int), mx_ex d 204 50 [l0, l1, l2, l3, l4] [v0] S h n = mx_ex d 204 51 [l0, l1, l2, l3, l4] [(0, 2), v0] S h n) ∧
  (∀ (d : Nat) (x : Int) (l0 l1 l2 l3 : Option mx_V) (v0 v1 : mx_V) (S h : mx_H) (n : Int), mx_ex d 204 51 [l0, l1, l2, l3, some (0, x)] [v0, v1] S h n = mx_ex d 204 53 [l0, l1, l2, l3, some (0, x)] [(0, x), v0, v1] S h n) ∧
  (∀ (d : Nat) (v i a : Int) (l0 l1 l2 l3 l4 : Option mx_V) (S h : mx_H) (n : Int), mx_ex d 204 53 [l0, l1, l2, l3, l4] [(0, v), (0, i), (2, a)] S h n = mx_gd (S a (-2) = 20 ∧ 0 ≤ i ∧ i < S a (-1)) d 204 54 [l0, l1, l2, l3, l4] [] S (mx_u h a i v) n) ∧
  (∀ (d : Nat) (x : Int) (l1 l2 l3 l4 : Option mx_V) (S h : mx_H) (n : Int), mx_ex d 204 54 [some (2, x), l1, l2, l3, l4] [] S h n = mx_ex d 204 55 [some (2, x), l1, l2, l3, l4] [(2, x)] S h n) ∧
  (∀ (d : Nat) (x : Int) (l0 l2 l3 l4 : Option mx_V) (v0 : mx_V) (S h : mx_H) (n : Int), mx_ex d 204 55 [l0, some (0, x), l2, l3, l4] [v0] S h n = mx_ex d 204 56 [l0, some (0, x), l2, l3, l4] [(0, x), v0] S h n) ∧
  (∀ (d : Nat) (x0 a : Int) (l0 l1 l2 l3 l4 : Option mx_V) (S h : mx_H) (n : Int), mx_ex (d + 1) 204 56 [l0, l1, l2, l3, l4] [(0, x0), (2, a)] S h n = mx_cl (S a (-2) = 13) d 194 [(2, a), (0, x0)] 204 59 [l0, l1, l2, l3, l4] [] S h n) ∧
  (∀ (d : Nat) (a : Int) (l0 l1 l2 l3 l4 : Option mx_V) (S h : mx_H) (n : Int), mx_ex d 204 59 [l0, l1, l2, l3, l4] [(0, a)] S h n = mx_br (a = 0) d 204 66 62 [l0, l1, l2, l3, l4] [] S h n) ∧
  (∀ (d : Nat) (l0 l1 l2 l3 l4 : Option mx_V) (S h : mx_H) (n : Int), mx_ex d 204 62 [l0, l1, l2, l3, l4] [] S h n = mx_ex d 204 63 [l0, l1, l2, l3, l4] [(0, 1)] S h n) ∧
  (∀ (d : Nat) (l0 l1 l2 l3 l4 : Option mx_V) (v0 : mx_V) (S h : mx_H) (n : Int), mx_ex d 204 63 [l0, l1, l2, l3, l4] [v0] S h n = mx_ex d 204 67 [l0, l1, l2, l3, l4] [v0] S h n) ∧
  (∀ (d : Nat) (l0 l1 l2 l3 l4 : Option mx_V) (S h : mx_H) (n : Int), mx_ex d 204 66 [l0, l1, l2, l3, l4] [] S h n = mx_ex d 204 67 [l0, l1, l2, l3, l4] [(0, 0)] S h n) ∧
  (∀ (d : Nat) (x : Int) (l0 l1 l2 l3 l4 : Option mx_V) (S h : mx_H) (n : Int), mx_ex d 204 67 [l0, l1, l2, l3, l4] [(0, x)] S h n = some (some (0, x), S, h, n)) :=
  ⟨by intros; exact rfl,
   by intros; exact eq_ld rfl rfl,
   by intros; exact eq_ld rfl rfl,
   by intros; exact eq_cv rfl (Nat.le_of_ble_eq_true rfl) rfl rfl rfl (Nat.le_of_ble_eq_true rfl),
   by intros; exact eq_if0 rfl,
   by intros; exact eq_ld rfl rfl,
   by intros; exact eq_cs rfl (Nat.le_of_ble_eq_true rfl) rfl rfl rfl (Nat.le_of_ble_eq_true rfl),
   by intros; exact eq_if0 rfl,
   by intros; exact eq_ld rfl rfl,
   by intros; exact eq_cs rfl (Nat.le_of_ble_eq_true rfl) rfl rfl rfl (Nat.le_of_ble_eq_true rfl),
   by intros; exact eq_if0 rfl,
   by intros; exact eq_ld rfl rfl,
   by intros; exact eq_cs rfl (Nat.le_of_ble_eq_true rfl) rfl rfl rfl (Nat.le_of_ble_eq_true rfl),
   by intros; exact eq_if1 rfl,
   by intros; exact eq_push rfl,
   by intros; exact eq_ret rfl,
   by intros; exact eq_ld rfl rfl,
   by intros; exact eq_gr rfl,
   by intros; exact eq_push rfl,
   by intros; exact eq_ld rfl rfl,
   by intros; exact eq_iast rfl,
   by intros; exact eq_ld rfl rfl,
   by intros; exact eq_gr rfl,
   by intros; exact eq_push rfl,
   by intros; exact eq_ld rfl rfl,
   by intros; exact eq_iast rfl,
   by intros; exact eq_ld rfl rfl,
   by intros; exact eq_gr rfl,
   by intros; exact eq_push rfl,
   by intros; exact eq_ld rfl rfl,
   by intros; exact eq_iast rfl,
   by intros; exact eq_ld rfl rfl,
   by intros; exact eq_ld rfl rfl,
   by intros; exact eq_cv rfl (Nat.le_of_ble_eq_true rfl) rfl rfl rfl (Nat.le_of_ble_eq_true rfl),
   by intros; exact eq_if0 rfl,
   by intros; exact eq_push rfl,
   by intros; exact eq_go rfl,
   by intros; exact eq_push rfl,
   by intros; exact eq_ret rfl⟩
theorem rh_X12_many_4 : ∀ (d : Nat) (x : Int) (l0 l1 l2 : Option mx_V) (S h : mx_H) (n : Int), mx_ex d 205 4 [l0, l1, l2, some (0, x)] [] S h n = mx_ex d 205 5 [l0, l1, l2, some (0, x)] [(0, x)] S h n := by intros; exact eq_ld rfl rfl
theorem rw_X12_many :
  (∀ (d : Nat) (a0 a1 : Int) (S h : mx_H) (n : Int), mx_M d 205 [(0, a0), (0, a1)] S h n = mx_ex d 205 0 [some (0, a0), some (0, a1), none, none] [] S h n) ∧
  (∀ (d : Nat) (l0 l1 l2 l3 : Option mx_V) (S h : mx_H) (n : Int), mx_ex d 205 0 [l0, l1, l2, l3] [] S h n = mx_ex d 205 1 [l0, l1, l2, l3] [(0, 0)] S h n) ∧
  (∀ (d : Nat) (x : Int) (l0 l1 l2 l3 : Option mx_V) (S h : mx_H) (n : Int), mx_ex d 205 1 [l0, l1, l2, l3] [(0, x)] S h n = mx_ex d 205 2 [l0, mx_nl l1, some (0, x), l3] [] S h n) ∧
  (∀ (d : Nat) (l0 l1 l2 l3 : Option mx_V) (S h : mx_H) (n : Int), mx_ex d 205 2 [l0, l1, l2, l3] [] S h n = mx_ex d 205 3 [l0, l1, l2, l3] [(0, 0)] S h n) ∧
  (∀ (d : Nat) (x : Int) (l0 l1 l2 l3 : Option mx_V) (S h : mx_H) (n : Int), mx_ex d 205 3 [l0, l1, l2, l3] [(0, x)] S h n = mx_ex d 205 4 [l0, l1, mx_nl l2, some (0, x)] [] S h n) ∧
  (∀ (d : Nat) (x : Int) (l0 l2 l3 : Option mx_V) (v0 : mx_V) (S h : mx_H) (n : Int), mx_ex d 205 5 [l0, some (0, x), l2, l3] [v0] S h n = mx_ex d 205 6 [l0, some (0, x), l2, l3] [(0, x), v0] S h n) ∧
  (∀ (d : Nat) (b a : Int) (l0 l1 l2 l3 : Option mx_V) (S h : mx_H) (n : Int), mx_ex d 205 6 [l0, l1, l2, l3] [(0, b), (0, a)] S h n = mx_br (a < b) d 205 9 23 [l0, l1, l2, l3] [] S h n) ∧
  (∀ (d : Nat) (x : Int) (l0 l1 l3 : Option mx_V) (S h : mx_H) (n : Int), mx_ex d 205 9 [l0, l1, some (0, x), l3] [] S h n = mx_ex d 205 10 [l0, l1, some (0, x), l3] [(0, x)] S h n) ∧
  (∀ (d : Nat) (x : Int) (l1 l2 l3 : Option mx_V) (v0 : mx_V) (S h : mx_H) (n : Int), mx_ex d 205 10 [some (0, x), l1, l2, l3] [v0] S h n = mx_ex d 205 11 [some (0, x), l1, l2, l3] [(0, x), v0] S h n) ∧
  (∀ (d : Nat) (x : Int) (l0 l1 l2 : Option mx_V) (v0 v1 : mx_V) (S h : mx_H) (n : Int), mx_ex d 205 11 [l0, l1, l2, some (0, x)] [v0, v1] S h n = mx_ex d 205 12 [l0, l1, l2, some (0, x)] [(0, x), v0, v1] S h n) ∧
  (∀ (d : Nat) (b a : Int) (l0 l1 l2 l3 : Option mx_V) (v2 : mx_V) (S h : mx_H) (n : Int), mx_ex d 205 12 [l0, l1, l2, l3] [(0, b), (0, a), v2] S h n = mx_ex d 205 13 [l0, l1, l2, l3] [(0, mx_shr a b), v2] S h n) ∧
  (∀ (d : Nat) (l0 l1 l2 l3 : Option mx_V) (v0 v1 : mx_V) (S h : mx_H) (n : Int), mx_ex d 205 13 [l0, l1, l2, l3] [v0, v1] S h n = mx_ex d 205 14 [l0, l1, l2, l3] [(0, 1), v0, v1] S h n) ∧
  (∀ (d : Nat) (b a : Int) (l0 l1 l2 l3 : Option mx_V) (v2 : mx_V) (S h : mx_H) (n : Int), mx_ex d 205 14 [l0, l1, l2, l3] [(0, b), (0, a), v2] S h n = mx_ex d 205 15 [l0, l1, l2, l3] [(0, mx_and a b), v2] S h n) ∧
  (∀ (d : Nat) (b a : Int) (l0 l1 l2 l3 : Option mx_V) (S h : mx_H) (n : Int), mx_ex d 205 15 [l0, l1, l2, l3] [(0, b), (0, a)] S h n = mx_ex d 205 16 [l0, l1, l2, l3] [(0, mx_w (a + b))] S h n) ∧
  (∀ (d : Nat) (x : Int) (l0 l1 l2 l3 : Option mx_V) (S h : mx_H) (n : Int), mx_ex d 205 16 [l0, l1, l2, l3] [(0, x)] S h n = mx_ex d 205 17 [l0, mx_nl l1, some (0, x), l3] [] S h n) ∧
  (∀ (d : Nat) (x : Int) (l0 l1 l2 : Option mx_V) (S h : mx_H) (n : Int), mx_ex d 205 17 [l0, l1, l2, some (0, x)] [] S h n = mx_ex d 205 20 [l0, l1, mx_nl l2, some (0, mx_w (x + 1))] [] S h n) ∧
  (∀ (d : Nat) (l0 l1 l2 l3 : Option mx_V) (S h : mx_H) (n : Int), mx_ex d 205 20 [l0, l1, l2, l3] [] S h n = mx_ex d 205 4 [l0, l1, l2, l3] [] S h n) ∧
  (∀ (d : Nat) (x : Int) (l0 l1 l3 : Option mx_V) (S h : mx_H) (n : Int), mx_ex d 205 23 [l0, l1, some (0, x), l3] [] S h n = mx_ex d 205 24 [l0, l1, some (0, x), l3] [(0, x)] S h n) ∧
  (∀ (d : Nat) (x : Int) (l0 l1 l2 l3 : Option mx_V) (S h : mx_H) (n : Int), mx_ex d 205 24 [l0, l1, l2, l3] [(0, x)] S h n = some (some (0, x), S, h, n)) :=
  ⟨by intros; exact rfl,
   by intros; exact eq_push rfl,
   by intros; exact eq_st rfl (by decide) (Nat.le_of_ble_eq_true rfl) rfl,
   by intros; exact eq_push rfl,
   by intros; exact eq_st rfl (by decide) (Nat.le_of_ble_eq_true rfl) rfl,
   by intros; exact eq_ld rfl rfl,
   by intros; exact eq_ic3 rfl,
   by intros; exact eq_ld rfl rfl,
   by intros; exact eq_ld rfl rfl,
   by intros; exact eq_ld rfl rfl,
   by intros; exact eq_i2 (o := mx_shr) rfl,
   by intros; exact eq_push rfl,
   by intros; exact eq_i2 (o := mx_and) rfl,
   by intros; exact eq_i2 (o := mx_add) rfl,
   by intros; exact eq_st rfl (by decide) (Nat.le_of_ble_eq_true rfl) rfl,
   by intros; exact eq_inc rfl rfl rfl,
   by intros; exact eq_go rfl,
   by intros; exact eq_ld rfl rfl,
   by intros; exact eq_ret rfl⟩
theorem rh_X12_proof_16 : ∀ (d : Nat) (x : Int) (l0 l1 l3 : Option mx_V) (S h : mx_H) (n : Int), mx_ex d 206 16 [l0, l1, some (0, x), l3] [] S h n = mx_ex d 206 17 [l0, l1, some (0, x), l3] [(0, x)] S h n := by intros; exact eq_ld rfl rfl
theorem rw_X12_proof :
  (∀ (d : Nat) (a0 : Int) (S h : mx_H) (n : Int), mx_M d 206 [(2, a0)] S h n = mx_ex d 206 0 [some (2, a0), none, none, none] [] S h n) ∧
  (∀ (d : Nat) (x : Int) (l1 l2 l3 : Option mx_V) (S h : mx_H) (n : Int), mx_ex d 206 0 [some (2, x), l1, l2, l3] [] S h n = mx_ex d 206 1 [some (2, x), l1, l2, l3] [(2, x)] S h n) ∧
  (∀ (d : Nat) (l0 l1 l2 l3 : Option mx_V) (v0 : mx_V) (S h : mx_H) (n : Int), mx_ex d 206 1 [l0, l1, l2, l3] [v0] S h n = mx_ex d 206 3 [l0, l1, l2, l3] [(0, 63), v0] S h n) ∧
  (∀ (d : Nat) (x0 a : Int) (l0 l1 l2 l3 : Option mx_V) (S h : mx_H) (n : Int), mx_ex (d + 1) 206 3 [l0, l1, l2, l3] [(0, x0), (2, a)] S h n = mx_cl (S a (-2) = 13) d 199 [(2, a), (0, x0)] 206 6 [l0, l1, l2, l3] [] S h n) ∧
  (∀ (d : Nat) (a : Int) (l0 l1 l2 l3 : Option mx_V) (S h : mx_H) (n : Int), mx_ex d 206 6 [l0, l1, l2, l3] [(0, a)] S h n = mx_br (a = 0) d 206 12 9 [l0, l1, l2, l3] [] S h n) ∧
  (∀ (d : Nat) (l0 l1 l2 l3 : Option mx_V) (S h : mx_H) (n : Int), mx_ex d 206 9 [l0, l1, l2, l3] [] S h n = mx_ex d 206 11 [l0, l1, l2, l3] [(0, (-3))] S h n) ∧
  (∀ (d : Nat) (x : Int) (l0 l1 l2 l3 : Option mx_V) (S h : mx_H) (n : Int), mx_ex d 206 11 [l0, l1, l2, l3] [(0, x)] S h n = some (some (0, x), S, h, n)) ∧
  (∀ (d : Nat) (l0 l1 l2 l3 : Option mx_V) (S h : mx_H) (n : Int), mx_ex d 206 12 [l0, l1, l2, l3] [] S h n = mx_ex d 206 13 [l0, l1, l2, l3] [(0, (-1))] S h n) ∧
  (∀ (d : Nat) (x : Int) (l0 l1 l2 l3 : Option mx_V) (S h : mx_H) (n : Int), mx_ex d 206 13 [l0, l1, l2, l3] [(0, x)] S h n = mx_ex d 206 14 [mx_nl l0, some (0, x), l2, l3] [] S h n) ∧
  (∀ (d : Nat) (l0 l1 l2 l3 : Option mx_V) (S h : mx_H) (n : Int), mx_ex d 206 14 [l0, l1, l2, l3] [] S h n = mx_ex d 206 15 [l0, l1, l2, l3] [(0, 0)] S h n) ∧
  (∀ (d : Nat) (x : Int) (l0 l1 l2 l3 : Option mx_V) (S h : mx_H) (n : Int), mx_ex d 206 15 [l0, l1, l2, l3] [(0, x)] S h n = mx_ex d 206 16 [l0, mx_nl l1, some (0, x), l3] [] S h n) ∧
  (∀ (d : Nat) (l0 l1 l2 l3 : Option mx_V) (v0 : mx_V) (S h : mx_H) (n : Int), mx_ex d 206 17 [l0, l1, l2, l3] [v0] S h n = mx_ex d 206 18 [l0, l1, l2, l3] [(0, 1), v0] S h n) ∧
  (∀ (d : Nat) (x : Int) (l1 l2 l3 : Option mx_V) (v0 v1 : mx_V) (S h : mx_H) (n : Int), mx_ex d 206 18 [some (2, x), l1, l2, l3] [v0, v1] S h n = mx_ex d 206 19 [some (2, x), l1, l2, l3] [(2, x), v0, v1] S h n) ∧
  (∀ (d : Nat) (a : Int) (l0 l1 l2 l3 : Option mx_V) (v1 v2 : mx_V) (S h : mx_H) (n : Int), mx_ex d 206 19 [l0, l1, l2, l3] [(2, a), v1, v2] S h n = mx_gd (13 ≤ S a (-2) ∧ S a (-2) ≤ 13) d 206 22 [l0, l1, l2, l3] [(2, S a 0), v1, v2] S h n) ∧
  (∀ (d : Nat) (l0 l1 l2 l3 : Option mx_V) (v0 v1 v2 : mx_V) (S h : mx_H) (n : Int), mx_ex d 206 22 [l0, l1, l2, l3] [v0, v1, v2] S h n = mx_ex d 206 23 [l0, l1, l2, l3] [(0, 1), v0, v1, v2] S h n) ∧
  (∀ (d : Nat) (i a : Int) (l0 l1 l2 l3 : Option mx_V) (v2 v3 : mx_V) (S h : mx_H) (n : Int), mx_ex d 206 23 [l0, l1, l2, l3] [(0, i), (2, a), v2, v3] S h n = mx_gd ((S a (-2) = 20 ∨ S a (-2) = 24) ∧ 0 ≤ i ∧ i < S a (-1)) d 206 24 [l0, l1, l2, l3] [(0, h a i), v2, v3] S h n) ∧
  (∀ (d : Nat) (b a : Int) (l0 l1 l2 l3 : Option mx_V) (v2 : mx_V) (S h : mx_H) (n : Int), mx_ex d 206 24 [l0, l1, l2, l3] [(0, b), (0, a), v2] S h n = mx_ex d 206 25 [l0, l1, l2, l3] [(0, mx_shl a b), v2] S h n) ∧
  (∀ (d : Nat) (b a : Int) (l0 l1 l2 l3 : Option mx_V) (S h : mx_H) (n : Int), mx_ex d 206 25 [l0, l1, l2, l3] [(0, b), (0, a)] S h n = mx_br (a < b) d 206 28 77 [l0, l1, l2, l3] [] S h n) ∧
  (∀ (d : Nat) (x : Int) (l0 l2 l3 : Option mx_V) (S h : mx_H) (n : Int), mx_ex d 206 28 [l0, some (0, x), l2, l3] [] S h n = mx_ex d 206 29 [l0, some (0, x), l2, l3] [(0, x)] S h n) ∧
  (∀ (d : Nat) (a : Int) (l0 l1 l2 l3 : Option mx_V) (S h : mx_H) (n : Int), mx_ex d 206 29 [l0, l1, l2, l3] [(0, a)] S h n = mx_br (a < 0) d 206 47 32 [l0, l1, l2, l3] [] S h n) ∧
  (∀ (d : Nat) (x : Int) (l0 l1 l3 : Option mx_V) (S h : mx_H) (n : Int), mx_ex d 206 32 [l0, l1, some (0, x), l3] [] S h n = mx_ex d 206 33 [l0, l1, some (0, x), l3] [(0, x)] S h n) ∧
  (∀ (d : Nat) (l0 l1 l2 l3 : Option mx_V) (v0 : mx_V) (S h : mx_H) (n : Int), mx_ex d 206 33 [l0, l1, l2, l3] [v0] S h n = mx_ex d 206 35 [l0, l1, l2, l3] [(0, 6), v0] S h n) ∧
  (∀ (d : Nat) (x0 x1 : Int) (l0 l1 l2 l3 : Option mx_V) (S h : mx_H) (n : Int), mx_ex (d + 1) 206 35 [l0, l1, l2, l3] [(0, x0), (0, x1)] S h n = mx_rt (mx_M d 205 [(0, x1), (0, x0)] S h n) (d + 1) 206 38 [l0, l1, l2, l3] []) ∧
  (∀ (d : Nat) (x : Int) (l0 l2 l3 : Option mx_V) (v0 : mx_V) (S h : mx_H) (n : Int), mx_ex d 206 38 [l0, some (0, x), l2, l3] [v0] S h n = mx_ex d 206 39 [l0, some (0, x), l2, l3] [(0, x), v0] S h n) ∧
  (∀ (d : Nat) (l0 l1 l2 l3 : Option mx_V) (v0 v1 : mx_V) (S h : mx_H) (n : Int), mx_ex d 206 39 [l0, l1, l2, l3] [v0, v1] S h n = mx_ex d 206 41 [l0, l1, l2, l3] [(0, 6), v0, v1] S h n) ∧
  (∀ (d : Nat) (x0 x1 : Int) (l0 l1 l2 l3 : Option mx_V) (v2 : mx_V) (S h : mx_H) (n : Int), mx_ex (d + 1) 206 41 [l0, l1, l2, l3] [(0, x0), (0, x1), v2] S h n = mx_rt (mx_M d 205 [(0, x1), (0, x0)] S h n) (d + 1) 206 44 [l0, l1, l2, l3] [v2]) ∧
  (∀ (d : Nat) (b a : Int) (l0 l1 l2 l3 : Option mx_V) (S h : mx_H) (n : Int), mx_ex d 206 44 [l0, l1, l2, l3] [(0, b), (0, a)] S h n = mx_br (a < b) d 206 47 51 [l0, l1, l2, l3] [] S h n) ∧
  (∀ (d : Nat) (l0 l1 l2 l3 : Option mx_V) (S h : mx_H) (n : Int), mx_ex d 206 47 [l0, l1, l2, l3] [] S h n = mx_ex d 206 48 [l0, l1, l2, l3] [(0, 1)] S h n) ∧
  (∀ (d : Nat) (l0 l1 l2 l3 : Option mx_V) (v0 : mx_V) (S h : mx_H) (n : Int), mx_ex d 206 48 [l0, l1, l2, l3] [v0] S h n = mx_ex d 206 52 [l0, l1, l2, l3] [v0] S h n) ∧
  (∀ (d : Nat) (l0 l1 l2 l3 : Option mx_V) (S h : mx_H) (n : Int), mx_ex d 206 51 [l0, l1, l2, l3] [] S h n = mx_ex d 206 52 [l0, l1, l2, l3] [(0, 0)] S h n) ∧
  (∀ (d : Nat) (x : Int) (l0 l1 l2 l3 : Option mx_V) (S h : mx_H) (n : Int), mx_ex d 206 52 [l0, l1, l2, l3] [(0, x)] S h n = mx_ex d 206 53 [l0, l1, mx_nl l2, some (0, x)] [] S h n) ∧
  (∀ (d : Nat) (x : Int) (l0 l1 l2 : Option mx_V) (S h : mx_H) (n : Int), mx_ex d 206 53 [l0, l1, l2, some (0, x)] [] S h n = mx_ex d 206 54 [l0, l1, l2, some (0, x)] [(0, x)] S h n) ∧
  (∀ (d : Nat) (a : Int) (l0 l1 l2 l3 : Option mx_V) (S h : mx_H) (n : Int), mx_ex d 206 54 [l0, l1, l2, l3] [(0, a)] S h n = mx_br (a = 0) d 206 69 57 [l0, l1, l2, l3] [] S h n) ∧
  (∀ (d : Nat) (x : Int) (l1 l2 l3 : Option mx_V) (S h : mx_H) (n : Int), mx_ex d 206 57 [some (2, x), l1, l2, l3] [] S h n = mx_ex d 206 58 [some (2, x), l1, l2, l3] [(2, x)] S h n) ∧
  (∀ (d : Nat) (x : Int) (l0 l1 l3 : Option mx_V) (v0 : mx_V) (S h : mx_H) (n : Int), mx_ex d 206 58 [l0, l1, some (0, x), l3] [v0] S h n = mx_ex d 206 59 [l0, l1, some (0, x), l3] [(0, x), v0] S h n) ∧
  (∀ (d : Nat) (x0 a : Int) (l0 l1 l2 l3 : Option mx_V) (S h : mx_H) (n : Int), mx_ex (d + 1) 206 59 [l0, l1, l2, l3] [(0, x0), (2, a)] S h n = mx_cl (S a (-2) = 13) d 199 [(2, a), (0, x0)] 206 62 [l0, l1, l2, l3] [] S h n) ∧
  (∀ (d : Nat) (a : Int) (l0 l1 l2 l3 : Option mx_V) (S h : mx_H) (n : Int), mx_ex d 206 62 [l0, l1, l2, l3] [(0, a)] S h n = mx_br (a = 0) d 206 65 69 [l0, l1, l2, l3] [] S h n) ∧
  (∀ (d : Nat) (x : Int) (l0 l1 l3 : Option mx_V) (S h : mx_H) (n : Int), mx_ex d 206 65 [l0, l1, some (0, x), l3] [] S h n = mx_ex d 206 66 [l0, l1, some (0, x), l3] [(0, x)] S h n) ∧
  (∀ (d : Nat) (l0 l1 l2 l3 : Option mx_V) (v0 : mx_V) (S h : mx_H) (n : Int), mx_ex d 206 66 [l0, l1, l2, l3] [v0] S h n = mx_ex d 206 70 [l0, l1, l2, l3] [v0] S h n) ∧
  (∀ (d : Nat) (x : Int) (l0 l2 l3 : Option mx_V) (S h : mx_H) (n : Int), mx_ex d 206 69 [l0, some (0, x), l2, l3] [] S h n = mx_ex d 206 70 [l0, some (0, x), l2, l3] [(0, x)] S h n) ∧
  (∀ (d : Nat) (x : Int) (l0 l1 l2 l3 : Option mx_V) (S h : mx_H) (n : Int), mx_ex d 206 70 [l0, l1, l2, l3] [(0, x)] S h n = mx_ex d 206 71 [mx_nl l0, some (0, x), l2, l3] [] S h n) ∧
  (∀ (d : Nat) (x : Int) (l0 l1 l3 : Option mx_V) (S h : mx_H) (n : Int), mx_ex d 206 71 [l0, l1, some (0, x), l3] [] S h n = mx_ex d 206 74 [l0, mx_nl l1, some (0, mx_w (x + 1)), l3] [] S h n) ∧
  (∀ (d : Nat) (l0 l1 l2 l3 : Option mx_V) (S h : mx_H) (n : Int), mx_ex d 206 74 [l0, l1, l2, l3] [] S h n = mx_ex d 206 16 [l0, l1, l2, l3] [] S h n) ∧
  (∀ (d : Nat) (x : Int) (l0 l2 l3 : Option mx_V) (S h : mx_H) (n : Int), mx_ex d 206 77 [l0, some (0, x), l2, l3] [] S h n = mx_ex d 206 78 [l0, some (0, x), l2, l3] [(0, x)] S h n) ∧
  (∀ (d : Nat) (x : Int) (l0 l1 l2 l3 : Option mx_V) (S h : mx_H) (n : Int), mx_ex d 206 78 [l0, l1, l2, l3] [(0, x)] S h n = some (some (0, x), S, h, n)) :=
  ⟨by intros; exact rfl,
   by intros; exact eq_ld rfl rfl,
   by intros; exact eq_push rfl,
   by intros; exact eq_cv rfl (Nat.le_of_ble_eq_true rfl) rfl rfl rfl (Nat.le_of_ble_eq_true rfl),
   by intros; exact eq_if0 rfl,
   by intros; exact eq_push rfl,
   by intros; exact eq_ret rfl,
   by intros; exact eq_push rfl,
   by intros; exact eq_st rfl (by decide) (Nat.le_of_ble_eq_true rfl) rfl,
   by intros; exact eq_push rfl,
   by intros; exact eq_st rfl (by decide) (Nat.le_of_ble_eq_true rfl) rfl,
   by intros; exact eq_push rfl,
   by intros; exact eq_ld rfl rfl,
   by intros; exact eq_gr rfl,
   by intros; exact eq_push rfl,
   by intros; exact eq_iald rfl,
   by intros; exact eq_i2 (o := mx_shl) rfl,
   by intros; exact eq_ic3 rfl,
   by intros; exact eq_ld rfl rfl,
   by intros; exact eq_if2 rfl,
   by intros; exact eq_ld rfl rfl,
   by intros; exact eq_push rfl,
   by intros; exact eq_cs rfl (Nat.le_of_ble_eq_true rfl) rfl rfl rfl (Nat.le_of_ble_eq_true rfl),
   by intros; exact eq_ld rfl rfl,
   by intros; exact eq_push rfl,
   by intros; exact eq_cs rfl (Nat.le_of_ble_eq_true rfl) rfl rfl rfl (Nat.le_of_ble_eq_true rfl),
   by intros; exact eq_ic3 rfl,
   by intros; exact eq_push rfl,
   by intros; exact eq_go rfl,
   by intros; exact eq_push rfl,
   by intros; exact eq_st rfl (by decide) (Nat.le_of_ble_eq_true rfl) rfl,
   by intros; exact eq_ld rfl rfl,
   by intros; exact eq_if0 rfl,
   by intros; exact eq_ld rfl rfl,
   by intros; exact eq_ld rfl rfl,
   by intros; exact eq_cv rfl (Nat.le_of_ble_eq_true rfl) rfl rfl rfl (Nat.le_of_ble_eq_true rfl),
   by intros; exact eq_if1 rfl,
   by intros; exact eq_ld rfl rfl,
   by intros; exact eq_go rfl,
   by intros; exact eq_ld rfl rfl,
   by intros; exact eq_st rfl (by decide) (Nat.le_of_ble_eq_true rfl) rfl,
   by intros; exact eq_inc rfl rfl rfl,
   by intros; exact eq_go rfl,
   by intros; exact eq_ld rfl rfl,
   by intros; exact eq_ret rfl⟩
theorem rh_X12_mended_25 : ∀ (d : Nat) (x : Int) (l0 l1 l3 l4 l5 l6 l7 l8 : Option mx_V) (S h : mx_H) (n : Int), mx_ex d 207 25 [l0, l1, some (0, x), l3, l4, l5, l6, l7, l8] [] S h n = mx_ex d 207 26 [l0, l1, some (0, x), l3, l4, l5, l6, l7, l8] [(0, x)] S h n := by intros; exact eq_ld rfl rfl
theorem rw_X12_mended :
  (∀ (d : Nat) (a0 a1 : Int) (S h : mx_H) (n : Int), mx_M d 207 [(2, a0), (0, a1)] S h n = mx_ex d 207 0 [some (2, a0), some (0, a1), none, none, none, none, none, none, none] [] S h n) ∧
  (∀ (d : Nat) (x : Int) (l0 l2 l3 l4 l5 l6 l7 l8 : Option mx_V) (S h : mx_H) (n : Int), mx_ex d 207 0 [l0, some (0, x), l2, l3, l4, l5, l6, l7, l8] [] S h n = mx_ex d 207 1 [l0, some (0, x), l2, l3, l4, l5, l6, l7, l8] [(0, x)] S h n) ∧
  (∀ (d : Nat) (l0 l1 l2 l3 l4 l5 l6 l7 l8 : Option mx_V) (v0 : mx_V) (S h : mx_H) (n : Int), mx_ex d 207 1 [l0, l1, l2, l3, l4, l5, l6, l7, l8] [v0] S h n = mx_ex d 207 2 [l0, l1, l2, l3, l4, l5, l6, l7, l8] [(0, 0), v0] S h n) ∧
  (∀ (d : Nat) (l0 l1 l2 l3 l4 l5 l6 l7 l8 : Option mx_V) (v0 v1 : mx_V) (S h : mx_H) (n : Int), mx_ex d 207 2 [l0, l1, l2, l3, l4, l5, l6, l7, l8] [v0, v1] S h n = mx_ex d 207 3 [l0, l1, l2, l3, l4, l5, l6, l7, l8] [(0, 2), v0, v1] S h n) ∧
  (∀ (d : Nat) (x0 x1 x2 : Int) (l0 l1 l2 l3 l4 l5 l6 l7 l8 : Option mx_V) (S h : mx_H) (n : Int), mx_ex (d + 1) 207 3 [l0, l1, l2, l3, l4, l5, l6, l7, l8] [(0, x0), (0, x1), (0, x2)] S h n = mx_rt (mx_M d 159 [(0, x2), (0, x1), (0, x0)] S h n) (d + 1) 207 6 [l0, l1, l2, l3, l4, l5, l6, l7, l8] []) ∧
  (∀ (d : Nat) (a : Int) (l0 l1 l2 l3 l4 l5 l6 l7 l8 : Option mx_V) (S h : mx_H) (n : Int), mx_ex d 207 6 [l0, l1, l2, l3, l4, l5, l6, l7, l8] [(0, a)] S h n = mx_br (a = 0) d 207 9 11 [l0, l1, l2, l3, l4, l5, l6, l7, l8] [] S h n) ∧
  (∀ (d : Nat) (l0 l1 l2 l3 l4 l5 l6 l7 l8 : Option mx_V) (S h : mx_H) (n : Int), mx_ex d 207 9 [l0, l1, l2, l3, l4, l5, l6, l7, l8] [] S h n = mx_ex d 207 10 [l0, l1, l2, l3, l4, l5, l6, l7, l8] [(0, (-1))] S h n) ∧
  (∀ (d : Nat) (x : Int) (l0 l1 l2 l3 l4 l5 l6 l7 l8 : Option mx_V) (S h : mx_H) (n : Int), mx_ex d 207 10 [l0, l1, l2, l3, l4, l5, l6, l7, l8] [(0, x)] S h n = some (some (0, x), S, h, n)) ∧
  (∀ (d : Nat) (x : Int) (l1 l2 l3 l4 l5 l6 l7 l8 : Option mx_V) (S h : mx_H) (n : Int), mx_ex d 207 11 [some (2, x), l1, l2, l3, l4, l5, l6, l7, l8] [] S h n = mx_ex d 207 12 [some (2, x), l1, l2, l3, l4, l5, l6, l7, l8] [(2, x)] S h n) ∧
  (∀ (d : Nat) (l0 l1 l2 l3 l4 l5 l6 l7 l8 : Option mx_V) (v0 : mx_V) (S h : mx_H) (n : Int), mx_ex d 207 12 [l0, l1, l2, l3, l4, l5, l6, l7, l8] [v0] S h n = mx_ex d 207 14 [l0, l1, l2, l3, l4, l5, l6, l7, l8] [(0, 63), v0] S h n) ∧
  (∀ (d : Nat) (x0 a : Int) (l0 l1 l2 l3 l4 l5 l6 l7 l8 : Option mx_V) (S h : mx_H) (n : Int), mx_ex (d + 1) 207 14 [l0, l1, l2, l3, l4, l5, l6, l7, l8] [(0, x0), (2, a)] S h n = mx_cl (S a (-2) = 13) d 199 [(2, a), (0, x0)] 207 17 [l0, l1, l2, l3, l4, l5, l6, l7, l8] [] S h n) ∧
  (∀ (d : Nat) (a : Int) (l0 l1 l2 l3 l4 l5 l6 l7 l8 : Option mx_V) (S h : mx_H) (n : Int), mx_ex d 207 17 [l0, l1, l2, l3, l4, l5, l6, l7, l8] [(0, a)] S h n = mx_br (a = 0) d 207 23 20 [l0, l1, l2, l3, l4, l5, l6, l7, l8] [] S h n) ∧
  (∀ (d : Nat) (l0 l1 l2 l3 l4 l5 l6 l7 l8 : Option mx_V) (S h : mx_H) (n : Int), mx_ex d 207 20 [l0, l1, l2, l3, l4, l5, l6, l7, l8] [] S h n = mx_ex d 207 22 [l0, l1, l2, l3, l4, l5, l6, l7, l8] [(0, (-4))] S h n) ∧
  (∀ (d : Nat) (x : Int) (l0 l1 l2 l3 l4 l5 l6 l7 l8 : Option mx_V) (S h : mx_H) (n : Int), mx_ex d 207 22 [l0, l1, l2, l3, l4, l5, l6, l7, l8] [(0, x)] S h n = some (some (0, x), S, h, n)) ∧
  (∀ (d : Nat) (l0 l1 l2 l3 l4 l5 l6 l7 l8 : Option mx_V) (S h : mx_H) (n : Int), mx_ex d 207 23 [l0, l1, l2, l3, l4, l5, l6, l7, l8] [] S h n = mx_ex d 207 24 [l0, l1, l2, l3, l4, l5, l6, l7, l8] [(0, 0)] S h n) ∧
  (∀ (d : Nat) (x : Int) (l0 l1 l2 l3 l4 l5 l6 l7 l8 : Option mx_V) (S h : mx_H) (n : Int), mx_ex d 207 24 [l0, l1, l2, l3, l4, l5, l6, l7, l8] [(0, x)] S h n = mx_ex d 207 25 [l0, mx_nl l1, some (0, x), l3, l4, l5, l6, l7, l8] [] S h n) ∧
  (∀ (d : Nat) (x : Int) (l1 l2 l3 l4 l5 l6 l7 l8 : Option mx_V) (v0 : mx_V) (S h : mx_H) (n : Int), mx_ex d 207 26 [some (2, x), l1, l2, l3, l4, l5, l6, l7, l8] [v0] S h n = mx_ex d 207 27 [some (2, x), l1, l2, l3, l4, l5, l6, l7, l8] [(2, x), v0] S h n) ∧
  (∀ (d : Nat) (a : Int) (l0 l1 l2 l3 l4 l5 l6 l7 l8 : Option mx_V) (v1 : mx_V) (S h : mx_H) (n : Int), mx_ex d 207 27 [l0, l1, l2, l3, l4, l5, l6, l7, l8] [(2, a), v1] S h n = mx_gd (13 ≤ S a (-2) ∧ S a (-2) ≤ 13) d 207 30 [l0, l1, l2, l3, l4, l5, l6, l7, l8] [(2, S a 0), v1] S h n) ∧
  (∀ (d : Nat) (l0 l1 l2 l3 l4 l5 l6 l7 l8 : Option mx_V) (v0 v1 : mx_V) (S h : mx_H) (n : Int), mx_ex d 207 30 [l0, l1, l2, l3, l4, l5, l6, l7, l8] [v0, v1] S h n = mx_ex d 207 31 [l0, l1, l2, l3, l4, l5, l6, l7, l8] [(0, 0), v0, v1] S h n) ∧
  (∀ (d : Nat) (i a : Int) (l0 l1 l2 l3 l4 l5 l6 l7 l8 : Option mx_V) (v2 : mx_V) (S h : mx_H) (n : Int), mx_ex d 207 31 [l0, l1, l2, l3, l4, l5, l6, l7, l8] [(0, i), (2, a), v2] S h n = mx_gd ((S a (-2) = 20 ∨ S a (-2) = 24) ∧ 0 ≤ i ∧ i < S a (-1)) d 207 32 [l0, l1, l2, l3, l4, l5, l6, l7, l8] [(0, h a i), v2] S h n) ∧
  (∀ (d : Nat) (l0 l1 l2 l3 l4 l5 l6 l7 l8 : Option mx_V) (v0 v1 : mx_V) (S h : mx_H) (n : Int), mx_ex d 207 32 [l0, l1, l2, l3, l4, l5, l6, l7, l8] [v0, v1] S h n = mx_ex d 207 34 [l0, l1, l2, l3, l4, l5, l6, l7, l8] [(0, 6), v0, v1] S h n) ∧
  (∀ (d : Nat) (b a : Int) (l0 l1 l2 l3 l4 l5 l6 l7 l8 : Option mx_V) (v2 : mx_V) (S h : mx_H) (n : Int), mx_ex d 207 34 [l0, l1, l2, l3, l4, l5, l6, l7, l8] [(0, b), (0, a), v2] S h n = mx_ex d 207 35 [l0, l1, l2, l3, l4, l5, l6, l7, l8] [(0, mx_w (a * b)), v2] S h n) ∧
  (∀ (d : Nat) (l0 l1 l2 l3 l4 l5 l6 l7 l8 : Option mx_V) (v0 v1 : mx_V) (S h : mx_H) (n : Int), mx_ex d 207 35 [l0, l1, l2, l3, l4, l5, l6, l7, l8] [v0, v1] S h n = mx_ex d 207 37 [l0, l1, l2, l3, l4, l5, l6, l7, l8] [(0, 16), v0, v1] S h n) ∧
  (∀ (d : Nat) (b a : Int) (l0 l1 l2 l3 l4 l5 l6 l7 l8 : Option mx_V) (v2 : mx_V) (S h : mx_H) (n : Int), mx_ex d 207 37 [l0, l1, l2, l3, l4, l5, l6, l7, l8] [(0, b), (0, a), v2] S h n = mx_ex d 207 38 [l0, l1, l2, l3, l4, l5, l6, l7, l8] [(0, mx_w (a * b)), v2] S h n) ∧
  (∀ (d : Nat) (b a : Int) (l0 l1 l2 l3 l4 l5 l6 l7 l8 : Option mx_V) (S h : mx_H) (n : Int), mx_ex d 207 38 [l0, l1, l2, l3, l4, l5, l6, l7, l8] [(0, b), (0, a)] S h n = mx_br (a < b) d 207 41 147 [l0, l1, l2, l3, l4, l5, l6, l7, l8] [] S h n) ∧
  (∀ (d : Nat) (x : Int) (l0 l1 l3 l4 l5 l6 l7 l8 : Option mx_V) (S h : mx_H) (n : Int), mx_ex d 207 41 [l0, l1, some (0, x), l3, l4, l5, l6, l7, l8] [] S h n = mx_ex d 207 42 [l0, l1, some (0, x), l3, l4, l5, l6, l7, l8] [(0, x)] S h n) ∧
  (∀ (d : Nat) (l0 l1 l2 l3 l4 l5 l6 l7 l8 : Option mx_V) (v0 : mx_V) (S h : mx_H) (n : Int), mx_ex d 207 42 [l0, l1, l2, l3, l4, l5, l6, l7, l8] [v0] S h n = mx_ex d 207 44 [l0, l1, l2, l3, l4, l5, l6, l7, l8] [(0, 96), v0] S h n) ∧
  (∀ (d : Nat) (b a : Int) (l0 l1 l2 l3 l4 l5 l6 l7 l8 : Option mx_V) (S h : mx_H) (n : Int), mx_ex d 207 44 [l0, l1, l2, l3, l4, l5, l6, l7, l8] [(0, b), (0, a)] S h n = mx_gd (¬ b = 0) d 207 45 [l0, l1, l2, l3, l4, l5, l6, l7, l8] [(0, mx_w (Int.tdiv a b))] S h n) ∧
  (∀ (d : Nat) (x : Int) (l0 l1 l2 l3 l4 l5 l6 l7 l8 : Option mx_V) (S h : mx_H) (n : Int), mx_ex d 207 45 [l0, l1, l2, l3, l4, l5, l6, l7, l8] [(0, x)] S h n = mx_ex d 207 46 [l0, l1, mx_nl l2, some (0, x), l4, l5, l6, l7, l8] [] S h n) ∧
  (∀ (d : Nat) (x : Int) (l0 l1 l3 l4 l5 l6 l7 l8 : Option mx_V) (S h : mx_H) (n : Int), mx_ex d 207 46 [l0, l1, some (0, x), l3, l4, l5, l6, l7, l8] [] S h n = mx_ex d 207 47 [l0, l1, some (0, x), l3, l4, l5, l6, l7, l8] [(0, x)] S h n) ∧
  (∀ (d : Nat) (l0 l1 l2 l3 l4 l5 l6 l7 l8 : Option mx_V) (v0 : mx_V) (S h : mx_H) (n : Int), mx_ex d 207 47 [l0, l1, l2, l3, l4, l5, l6, l7, l8] [v0] S h n = mx_ex d 207 49 [l0, l1, l2, l3, l4, l5, l6, l7, l8] [(0, 16), v0] S h n) ∧
  (∀ (d : Nat) (b a : Int) (l0 l1 l2 l3 l4 l5 l6 l7 l8 : Option mx_V) (S h : mx_H) (n : Int), mx_ex d 207 49 [l0, l1, l2, l3, l4, l5, l6, l7, l8] [(0, b), (0, a)] S h n = mx_gd (¬ b = 0) d 207 50 [l0, l1, l2, l3, l4, l5, l6, l7, l8] [(0, mx_w (Int.tdiv a b))] S h n) ∧
  (∀ (d : Nat) (l0 l1 l2 l3 l4 l5 l6 l7 l8 : Option mx_V) (v0 : mx_V) (S h : mx_H) (n : Int), mx_ex d 207 50 [l0, l1, l2, l3, l4, l5, l6, l7, l8] [v0] S h n = mx_ex d 207 52 [l0, l1, l2, l3, l4, l5, l6, l7, l8] [(0, 6), v0] S h n) ∧
  (∀ (d : Nat) (b a : Int) (l0 l1 l2 l3 l4 l5 l6 l7 l8 : Option mx_V) (S h : mx_H) (n : Int), mx_ex d 207 52 [l0, l1, l2, l3, l4, l5, l6, l7, l8] [(0, b), (0, a)] S h n = mx_gd (¬ b = 0) d 207 53 [l0, l1, l2, l3, l4, l5, l6, l7, l8] [(0, Int.tmod a b)] S h n) ∧
  (∀ (d : Nat) (x : Int) (l0 l1 l2 l3 l4 l5 l6 l7 l8 : Option mx_V) (S h : mx_H) (n : Int), mx_ex d 207 53 [l0, l1, l2, l3, l4, l5, l6, l7, l8] [(0, x)] S h n = mx_ex d 207 55 [l0, l1, l2, mx_nl l3, some (0, x), l5, l6, l7, l8] [] S h n) ∧
  (∀ (d : Nat) (x : Int) (l0 l1 l3 l4 l5 l6 l7 l8 : Option mx_V) (S h : mx_H) (n : Int), mx_ex d 207 55 [l0, l1, some (0, x), l3, l4, l5, l6, l7, l8] [] S h n = mx_ex d 207 56 [l0, l1, some (0, x), l3, l4, l5, l6, l7, l8] [(0, x)] S h n) ∧
  (∀ (d : Nat) (l0 l1 l2 l3 l4 l5 l6 l7 l8 : Option mx_V) (v0 : mx_V) (S h : mx_H) (n : Int), mx_ex d 207 56 [l0, l1, l2, l3, l4, l5, l6, l7, l8] [v0] S h n = mx_ex d 207 58 [l0, l1, l2, l3, l4, l5, l6, l7, l8] [(0, 16), v0] S h n) ∧
  (∀ (d : Nat) (b a : Int) (l0 l1 l2 l3 l4 l5 l6 l7 l8 : Option mx_V) (S h : mx_H) (n : Int), mx_ex d 207 58 [l0, l1, l2, l3, l4, l5, l6, l7, l8] [(0, b), (0, a)] S h n = mx_gd (¬ b = 0) d 207 59 [l0, l1, l2, l3, l4, l5, l6, l7, l8] [(0, Int.tmod a b)] S h n) ∧
  (∀ (d : Nat) (x : Int) (l0 l1 l2 l3 l4 l5 l6 l7 l8 : Option mx_V) (S h : mx_H) (n : Int), mx_ex d 207 59 [l0, l1, l2, l3, l4, l5, l6, l7, l8] [(0, x)] S h n = mx_ex d 207 61 [l0, l1, l2, l3, mx_nl l4, some (0, x), l6, l7, l8] [] S h n) ∧
  (∀ (d : Nat) (x : Int) (l1 l2 l3 l4 l5 l6 l7 l8 : Option mx_V) (S h : mx_H) (n : Int), mx_ex d 207 61 [some (2, x), l1, l2, l3, l4, l5, l6, l7, l8] [] S h n = mx_ex d 207 62 [some (2, x), l1, l2, l3, l4, l5, l6, l7, l8] [(2, x)] S h n) ∧
  (∀ (d : Nat) (x : Int) (l0 l1 l2 l4 l5 l6 l7 l8 : Option mx_V) (v0 : mx_V) (S h : mx_H) (n : Int), mx_ex d 207 62 [l0, l1, l2, some (0, x), l4, l5, l6, l7, l8] [v0] S h n = mx_ex d 207 63 [l0, l1, l2, some (0, x), l4, l5, l6, l7, l8] [(0, x), v0] S h n) ∧
  (∀ (d : Nat) (x : Int) (l0 l1 l2 l3 l5 l6 l7 l8 : Option mx_V) (v0 v1 : mx_V) (S h : mx_H) (n : Int), mx_ex d 207 63 [l0, l1, l2, l3, some (0, x), l5, l6, l7, l8] [v0, v1] S h n = mx_ex d 207 65 [l0, l1, l2, l3, some (0, x), l5, l6, l7, l8] [(0, x), v0, v1] S h n) ∧
  (∀ (d : Nat) (x0 x1 a : Int) (l0 l1 l2 l3 l4 l5 l6 l7 l8 : Option mx_V) (S h : mx_H) (n : Int), mx_ex (d + 1) 207 65 [l0, l1, l2, l3, l4, l5, l6, l7, l8] [(0, x0), (0, x1), (2, a)] S h n = mx_cl (S a (-2) = 13) d 181 [(2, a), (0, x1), (0, x0)] 207 68 [l0, l1, l2, l3, l4, l5, l6, l7, l8] [] S h n) ∧
  (∀ (d : Nat) (a : Int) (l0 l1 l2 l3 l4 l5 l6 l7 l8 : Option mx_V) (S h : mx_H) (n : Int), mx_ex d 207 68 [l0, l1, l2, l3, l4, l5, l6, l7, l8] [(0, a)] S h n = mx_br (a = 0) d 207 141 71 [l0, l1, l2, l3, l4, l5, l6, l7, l8] [] S h n) ∧
  (∀ (d : Nat) (x : Int) (l1 l2 l3 l4 l5 l6 l7 l8 : Option mx_V) (S h : mx_H) (n : Int), mx_ex d 207 71 [some (2, x), l1, l2, l3, l4, l5, l6, l7, l8] [] S h n = mx_ex d 207 72 [some (2, x), l1, l2, l3, l4, l5, l6, l7, l8] [(2, x)] S h n) ∧
  (∀ (d : Nat) (x : Int) (l0 l1 l2 l4 l5 l6 l7 l8 : Option mx_V) (v0 : mx_V) (S h : mx_H) (n : Int), mx_ex d 207 72 [l0, l1, l2, some (0, x), l4, l5, l6, l7, l8] [v0] S h n = mx_ex d 207 73 [l0, l1, l2, some (0, x), l4, l5, l6, l7, l8] [(0, x), v0] S h n) ∧
  (∀ (d : Nat) (l0 l1 l2 l3 l4 l5 l6 l7 l8 : Option mx_V) (v0 v1 : mx_V) (S h : mx_H) (n : Int), mx_ex d 207 73 [l0, l1, l2, l3, l4, l5, l6, l7, l8] [v0, v1] S h n = mx_ex d 207 74 [l0, l1, l2, l3, l4, l5, l6, l7, l8] [(0, 4), v0, v1] S h n) ∧
  (∀ (d : Nat) (x : Int) (l0 l1 l2 l3 l5 l6 l7 l8 : Option mx_V) (v0 v1 v2 : mx_V) (S h : mx_H) (n : Int), mx_ex d 207 74 [l0, l1, l2, l3, some (0, x), l5, l6, l7, l8] [v0, v1, v2] S h n = mx_ex d 207 76 [l0, l1, l2, l3, some (0, x), l5, l6, l7, l8] [(0, x), v0, v1, v2] S h n) ∧
  (∀ (d : Nat) (b a : Int) (l0 l1 l2 l3 l4 l5 l6 l7 l8 : Option mx_V) (v2 v3 : mx_V) (S h : mx_H) (n : Int), mx_ex d 207 76 [l0, l1, l2, l3, l4, l5, l6, l7, l8] [(0, b), (0, a), v2, v3] S h n = mx_ex d 207 77 [l0, l1, l2, l3, l4, l5, l6, l7, l8] [(0, mx_w (a + b)), v2, v3] S h n) ∧
  (∀ (d : Nat) (x0 x1 a : Int) (l0 l1 l2 l3 l4 l5 l6 l7 l8 : Option mx_V) (S h : mx_H) (n : Int), mx_ex (d + 1) 207 77 [l0, l1, l2, l3, l4, l5, l6, l7, l8] [(0, x0), (0, x1), (2, a)] S h n = mx_cl (S a (-2) = 13) d 163 [(2, a), (0, x1), (0, x0)] 207 80 [l0, l1, l2, l3, l4, l5, l6, l7, l8] [] S h n) ∧
  (∀ (d : Nat) (x : Int) (l0 l1 l2 l3 l4 l6 l7 l8 : Option mx_V) (v0 : mx_V) (S h : mx_H) (n : Int), mx_ex d 207 80 [l0, l1, l2, l3, l4, some (0, x), l6, l7, l8] [v0] S h n = mx_ex d 207 82 [l0, l1, l2, l3, l4, some (0, x), l6, l7, l8] [(0, x), v0] S h n) ∧
  (∀ (d : Nat) (b a : Int) (l0 l1 l2 l3 l4 l5 l6 l7 l8 : Option mx_V) (S h : mx_H) (n : Int), mx_ex d 207 82 [l0, l1, l2, l3, l4, l5, l6, l7, l8] [(0, b), (0, a)] S h n = mx_br (a = b) d 207 141 85 [l0, l1, l2, l3, l4, l5, l6, l7, l8] [] S h n) ∧
  (∀ (d : Nat) (x : Int) (l1 l2 l3 l4 l5 l6 l7 l8 : Option mx_V) (S h : mx_H) (n : Int), mx_ex d 207 85 [some (2, x), l1, l2, l3, l4, l5, l6, l7, l8] [] S h n = mx_ex d 207 86 [some (2, x), l1, l2, l3, l4, l5, l6, l7, l8] [(2, x)] S h n) ∧
  (∀ (d : Nat) (x : Int) (l0 l1 l2 l4 l5 l6 l7 l8 : Option mx_V) (v0 : mx_V) (S h : mx_H) (n : Int), mx_ex d 207 86 [l0, l1, l2, some (0, x), l4, l5, l6, l7, l8] [v0] S h n = mx_ex d 207 87 [l0, l1, l2, some (0, x), l4, l5, l6, l7, l8] [(0, x), v0] S h n) ∧
  (∀ (d : Nat) (x : Int) (l0 l1 l2 l3 l5 l6 l7 l8 : Option mx_V) (v0 v1 : mx_V) (S h : mx_H) (n : Int), mx_ex d 207 87 [l0, l1, l2, l3, some (0, x), l5, l6, l7, l8] [v0, v1] S h n = mx_ex d 207 89 [l0, l1, l2, l3, some (0, x), l5, l6, l7, l8] [(0, x), v0, v1] S h n) ∧
  (∀ (d : Nat) (x : Int) (l0 l1 l2 l3 l4 l6 l7 l8 : Option mx_V) (v0 v1 v2 : mx_V) (S h : mx_H) (n : Int), mx_ex d 207 89 [l0, l1, l2, l3, l4, some (0, x), l6, l7, l8] [v0, v1, v2] S h n = mx_ex d 207 91 [l0, l1, l2, l3, l4, some (0, x), l6, l7, l8] [(0, x), v0, v1, v2] S h n) ∧
  (∀ (d : Nat) (x0 x1 x2 a : Int) (l0 l1 l2 l3 l4 l5 l6 l7 l8 : Option mx_V) (S h : mx_H) (n : Int), mx_ex (d + 1) 207 91 [l0, l1, l2, l3, l4, l5, l6, l7, l8] [(0, x0), (0, x1), (0, x2), (2, a)] S h n = mx_cl (S a (-2) = 13) d 182 [(2, a), (0, x2), (0, x1), (0, x0)] 207 94 [l0, l1, l2, l3, l4, l5, l6, l7, l8] [] S h n) ∧
  (∀ (d : Nat) (x : Int) (l0 l1 l2 l3 l4 l5 l6 l7 l8 : Option mx_V) (S h : mx_H) (n : Int), mx_ex d 207 94 [l0, l1, l2, l3, l4, l5, l6, l7, l8] [(0, x)] S h n = mx_ex d 207 96 [l0, l1, l2, l3, l4, mx_nl l5, some (0, x), l7, l8] [] S h n) ∧
  (∀ (d : Nat) (x : Int) (l1 l2 l3 l4 l5 l6 l7 l8 : Option mx_V) (S h : mx_H) (n : Int), mx_ex d 207 96 [some (2, x), l1, l2, l3, l4, l5, l6, l7, l8] [] S h n = mx_ex d 207 97 [some (2, x), l1, l2, l3, l4, l5, l6, l7, l8] [(2, x)] S h n) ∧
  (∀ (d : Nat) (l0 l1 l2 l3 l4 l5 l6 l7 l8 : Option mx_V) (v0 : mx_V) (S h : mx_H) (n : Int), mx_ex d 207 97 [l0, l1, l2, l3, l4, l5, l6, l7, l8] [v0] S h n = mx_ex d 207 99 [l0, l1, l2, l3, l4, l5, l6, l7, l8] [(0, 63), v0] S h n) ∧
  (∀ (d : Nat) (x0 a : Int) (l0 l1 l2 l3 l4 l5 l6 l7 l8 : Option mx_V) (S h : mx_H) (n : Int), mx_ex (d + 1) 207 99 [l0, l1, l2, l3, l4, l5, l6, l7, l8] [(0, x0), (2, a)] S h n = mx_cl (S a (-2) = 13) d 199 [(2, a), (0, x0)] 207 102 [l0, l1, l2, l3, l4, l5, l6, l7, l8] [] S h n) ∧
  (∀ (d : Nat) (x : Int) (l0 l1 l2 l3 l4 l5 l6 l7 l8 : Option mx_V) (S h : mx_H) (n : Int), mx_ex d 207 102 [l0, l1, l2, l3, l4, l5, l6, l7, l8] [(0, x)] S h n = mx_ex d 207 104 [l0, l1, l2, l3, l4, l5, mx_nl l6, some (0, x), l8] [] S h n) ∧
  (∀ (d : Nat) (x : Int) (l1 l2 l3 l4 l5 l6 l7 l8 : Option mx_V) (S h : mx_H) (n : Int), mx_ex d 207 104 [some (2, x), l1, l2, l3, l4, l5, l6, l7, l8] [] S h n = mx_ex d 207 105 [some (2, x), l1, l2, l3, l4, l5, l6, l7, l8] [(2, x)] S h n) ∧
  (∀ (d : Nat) (x : Int) (l0 l1 l2 l4 l5 l6 l7 l8 : Option mx_V) (v0 : mx_V) (S h : mx_H) (n : Int), mx_ex d 207 105 [l0, l1, l2, some (0, x), l4, l5, l6, l7, l8] [v0] S h n = mx_ex d 207 106 [l0, l1, l2, some (0, x), l4, l5, l6, l7, l8] [(0, x), v0] S h n) ∧
  (∀ (d : Nat) (x : Int) (l0 l1 l2 l3 l5 l6 l7 l8 : Option mx_V) (v0 v1 : mx_V) (S h : mx_H) (n : Int), mx_ex d 207 106 [l0, l1, l2, l3, some (0, x), l5, l6, l7, l8] [v0, v1] S h n = mx_ex d 207 108 [l0, l1, l2, l3, some (0, x), l5, l6, l7, l8] [(0, x), v0, v1] S h n) ∧
  (∀ (d : Nat) (x : Int) (l0 l1 l2 l3 l4 l5 l7 l8 : Option mx_V) (v0 v1 v2 : mx_V) (S h : mx_H) (n : Int), mx_ex d 207 108 [l0, l1, l2, l3, l4, l5, some (0, x), l7, l8] [v0, v1, v2] S h n = mx_ex d 207 110 [l0, l1, l2, l3, l4, l5, some (0, x), l7, l8] [(0, x), v0, v1, v2] S h n) ∧
  (∀ (d : Nat) (x0 x1 x2 a : Int) (l0 l1 l2 l3 l4 l5 l6 l7 l8 : Option mx_V) (S h : mx_H) (n : Int), mx_ex (d + 1) 207 110 [l0, l1, l2, l3, l4, l5, l6, l7, l8] [(0, x0), (0, x1), (0, x2), (2, a)] S h n = mx_cl (S a (-2) = 13) d 182 [(2, a), (0, x2), (0, x1), (0, x0)] 207 113 [l0, l1, l2, l3, l4, l5, l6, l7, l8] [] S h n) ∧
  (∀ (d : Nat) (x : Int) (l0 l1 l2 l3 l4 l5 l6 l7 l8 : Option mx_V) (S h : mx_H) (n : Int), mx_ex d 207 113 [l0, l1, l2, l3, l4, l5, l6, l7, l8] [(0, x)] S h n = mx_ex d 207 115 [l0, l1, l2, l3, l4, l5, l6, mx_nl l7, some (0, x)] [] S h n) ∧
  (∀ (d : Nat) (x : Int) (l0 l1 l2 l3 l4 l5 l6 l8 : Option mx_V) (S h : mx_H) (n : Int), mx_ex d 207 115 [l0, l1, l2, l3, l4, l5, l6, some (0, x), l8] [] S h n = mx_ex d 207 117 [l0, l1, l2, l3, l4, l5, l6, some (0, x), l8] [(0, x)] S h n) ∧
  (∀ (d : Nat) (a : Int) (l0 l1 l2 l3 l4 l5 l6 l7 l8 : Option mx_V) (S h : mx_H) (n : Int), mx_ex d 207 117 [l0, l1, l2, l3, l4, l5, l6, l7, l8] [(0, a)] S h n = mx_br (a = 0) d 207 141 120 [l0, l1, l2, l3, l4, l5, l6, l7, l8] [] S h n) :=
  ⟨by intros; exact rfl,
   by intros; exact eq_ld rfl rfl,
   by intros; exact eq_push rfl,
   by intros; exact eq_push rfl,
   by intros; exact eq_cs rfl (Nat.le_of_ble_eq_true rfl) rfl rfl rfl (Nat.le_of_ble_eq_true rfl),
   by intros; exact eq_if1 rfl,
   by intros; exact eq_push rfl,
   by intros; exact eq_ret rfl,
   by intros; exact eq_ld rfl rfl,
   by intros; exact eq_push rfl,
   by intros; exact eq_cv rfl (Nat.le_of_ble_eq_true rfl) rfl rfl rfl (Nat.le_of_ble_eq_true rfl),
   by intros; exact eq_if0 rfl,
   by intros; exact eq_push rfl,
   by intros; exact eq_ret rfl,
   by intros; exact eq_push rfl,
   by intros; exact eq_st rfl (by decide) (Nat.le_of_ble_eq_true rfl) rfl,
   by intros; exact eq_ld rfl rfl,
   by intros; exact eq_gr rfl,
   by intros; exact eq_push rfl,
   by intros; exact eq_iald rfl,
   by intros; exact eq_push rfl,
   by intros; exact eq_i2 (o := mx_mul) rfl,
   by intros; exact eq_push rfl,
   by intros; exact eq_i2 (o := mx_mul) rfl,
   by intros; exact eq_ic3 rfl,
   by intros; exact eq_ld rfl rfl,
   by intros; exact eq_push rfl,
   by intros; exact eq_i2d (o := mx_div) rfl,
   by intros; exact eq_st rfl (by decide) (Nat.le_of_ble_eq_true rfl) rfl,
   by intros; exact eq_ld rfl rfl,
   by intros; exact eq_push rfl,
   by intros; exact eq_i2d (o := mx_div) rfl,
   by intros; exact eq_push rfl,
   by intros; exact eq_i2d (o := mx_rem) rfl,
   by intros; exact eq_st rfl (by decide) (Nat.le_of_ble_eq_true rfl) rfl,
   by intros; exact eq_ld rfl rfl,
   by intros; exact eq_push rfl,
   by intros; exact eq_i2d (o := mx_rem) rfl,
   by intros; exact eq_st rfl (by decide) (Nat.le_of_ble_eq_true rfl) rfl,
   by intros; exact eq_ld rfl rfl,
   by intros; exact eq_ld rfl rfl,
   by intros; exact eq_ld rfl rfl,
   by intros; exact eq_cv rfl (Nat.le_of_ble_eq_true rfl) rfl rfl rfl (Nat.le_of_ble_eq_true rfl),
   by intros; exact eq_if0 rfl,
   by intros; exact eq_ld rfl rfl,
   by intros; exact eq_ld rfl rfl,
   by intros; exact eq_push rfl,
   by intros; exact eq_ld rfl rfl,
   by intros; exact eq_i2 (o := mx_add) rfl,
   by intros; exact eq_cv rfl (Nat.le_of_ble_eq_true rfl) rfl rfl rfl (Nat.le_of_ble_eq_true rfl),
   by intros; exact eq_ld rfl rfl,
   by intros; exact eq_ic0 rfl,
   by intros; exact eq_ld rfl rfl,
   by intros; exact eq_ld rfl rfl,
   by intros; exact eq_ld rfl rfl,
   by intros; exact eq_ld rfl rfl,
   by intros; exact eq_cv rfl (Nat.le_of_ble_eq_true rfl) rfl rfl rfl (Nat.le_of_ble_eq_true rfl),
   by intros; exact eq_st rfl (by decide) (Nat.le_of_ble_eq_true rfl) rfl,
   by intros; exact eq_ld rfl rfl,
   by intros; exact eq_push rfl,
   by intros; exact eq_cv rfl (Nat.le_of_ble_eq_true rfl) rfl rfl rfl (Nat.le_of_ble_eq_true rfl),
   by intros; exact eq_st rfl (by decide) (Nat.le_of_ble_eq_true rfl) rfl,
   by intros; exact eq_ld rfl rfl,
   by intros; exact eq_ld rfl rfl,
   by intros; exact eq_ld rfl rfl,
   by intros; exact eq_ld rfl rfl,
   by intros; exact eq_cv rfl (Nat.le_of_ble_eq_true rfl) rfl rfl rfl (Nat.le_of_ble_eq_true rfl),
   by intros; exact eq_st rfl (by decide) (Nat.le_of_ble_eq_true rfl) rfl,
   by intros; exact eq_ld rfl rfl,
   by intros; exact eq_if0 rfl⟩
theorem rw_X12_mended_1 :
  (∀ (d : Nat) (x : Int) (l0 l2 l3 l4 l5 l6 l7 l8 : Option mx_V) (S h : mx_H) (n : Int), mx_ex d 207 120 [l0, some (0, x), l2, l3, l4, l5, l6, l7, l8] [] S h n = mx_ex d 207 121 [l0, some (0, x), l2, l3, l4, l5, l6, l7, l8] [(0, x)] S h n) ∧
  (∀ (d : Nat) (a : Int) (l0 l1 l2 l3 l4 l5 l6 l7 l8 : Option mx_V) (S h : mx_H) (n : Int), mx_ex d 207 121 [l0, l1, l2, l3, l4, l5, l6, l7, l8] [(0, a)] S h n = mx_br (a = 0) d 207 124 128 [l0, l1, l2, l3, l4, l5, l6, l7, l8] [] S h n) ∧
  (∀ (d : Nat) (x : Int) (l0 l1 l2 l4 l5 l6 l7 l8 : Option mx_V) (S h : mx_H) (n : Int), mx_ex d 207 124 [l0, l1, l2, some (0, x), l4, l5, l6, l7, l8] [] S h n = mx_ex d 207 125 [l0, l1, l2, some (0, x), l4, l5, l6, l7, l8] [(0, x)] S h n) ∧
  (∀ (d : Nat) (l0 l1 l2 l3 l4 l5 l6 l7 l8 : Option mx_V) (v0 : mx_V) (S h : mx_H) (n : Int), mx_ex d 207 125 [l0, l1, l2, l3, l4, l5, l6, l7, l8] [v0] S h n = mx_ex d 207 140 [l0, l1, l2, l3, l4, l5, l6, l7, l8] [v0] S h n) ∧
  (∀ (d : Nat) (x : Int) (l0 l2 l3 l4 l5 l6 l7 l8 : Option mx_V) (S h : mx_H) (n : Int), mx_ex d 207 128 [l0, some (0, x), l2, l3, l4, l5, l6, l7, l8] [] S h n = mx_ex d 207 129 [l0, some (0, x), l2, l3, l4, l5, l6, l7, l8] [(0, x)] S h n) ∧
  (∀ (d : Nat) (l0 l1 l2 l3 l4 l5 l6 l7 l8 : Option mx_V) (v0 : mx_V) (S h : mx_H) (n : Int), mx_ex d 207 129 [l0, l1, l2, l3, l4, l5, l6, l7, l8] [v0] S h n = mx_ex d 207 130 [l0, l1, l2, l3, l4, l5, l6, l7, l8] [(0, 1), v0] S h n) ∧
  (∀ (d : Nat) (b a : Int) (l0 l1 l2 l3 l4 l5 l6 l7 l8 : Option mx_V) (S h : mx_H) (n : Int), mx_ex d 207 130 [l0, l1, l2, l3, l4, l5, l6, l7, l8] [(0, b), (0, a)] S h n = mx_br (a = b) d 207 133 138 [l0, l1, l2, l3, l4, l5, l6, l7, l8] [] S h n) ∧
  (∀ (d : Nat) (x : Int) (l0 l1 l2 l3 l5 l6 l7 l8 : Option mx_V) (S h : mx_H) (n : Int), mx_ex d 207 133 [l0, l1, l2, l3, some (0, x), l5, l6, l7, l8] [] S h n = mx_ex d 207 135 [l0, l1, l2, l3, some (0, x), l5, l6, l7, l8] [(0, x)] S h n) ∧
  (∀ (d : Nat) (l0 l1 l2 l3 l4 l5 l6 l7 l8 : Option mx_V) (v0 : mx_V) (S h : mx_H) (n : Int), mx_ex d 207 135 [l0, l1, l2, l3, l4, l5, l6, l7, l8] [v0] S h n = mx_ex d 207 140 [l0, l1, l2, l3, l4, l5, l6, l7, l8] [v0] S h n) ∧
  (∀ (d : Nat) (x : Int) (l0 l1 l2 l3 l4 l6 l7 l8 : Option mx_V) (S h : mx_H) (n : Int), mx_ex d 207 138 [l0, l1, l2, l3, l4, some (0, x), l6, l7, l8] [] S h n = mx_ex d 207 140 [l0, l1, l2, l3, l4, some (0, x), l6, l7, l8] [(0, x)] S h n) ∧
  (∀ (d : Nat) (x : Int) (l0 l1 l2 l3 l4 l5 l6 l7 l8 : Option mx_V) (S h : mx_H) (n : Int), mx_ex d 207 140 [l0, l1, l2, l3, l4, l5, l6, l7, l8] [(0, x)] S h n = some (some (0, x), S, h, n)) ∧
  (∀ (d : Nat) (x : Int) (l0 l1 l3 l4 l5 l6 l7 l8 : Option mx_V) (S h : mx_H) (n : Int), mx_ex d 207 141 [l0, l1, some (0, x), l3, l4, l5, l6, l7, l8] [] S h n = mx_ex d 207 144 [l0, mx_nl l1, some (0, mx_w (x + 1)), l3, l4, l5, l6, l7, l8] [] S h n) ∧
  (∀ (d : Nat) (l0 l1 l2 l3 l4 l5 l6 l7 l8 : Option mx_V) (S h : mx_H) (n : Int), mx_ex d 207 144 [l0, l1, l2, l3, l4, l5, l6, l7, l8] [] S h n = mx_ex d 207 25 [l0, l1, l2, l3, l4, l5, l6, l7, l8] [] S h n) ∧
  (∀ (d : Nat) (l0 l1 l2 l3 l4 l5 l6 l7 l8 : Option mx_V) (S h : mx_H) (n : Int), mx_ex d 207 147 [l0, l1, l2, l3, l4, l5, l6, l7, l8] [] S h n = mx_ex d 207 149 [l0, l1, l2, l3, l4, l5, l6, l7, l8] [(0, (-3))] S h n) ∧
  (∀ (d : Nat) (x : Int) (l0 l1 l2 l3 l4 l5 l6 l7 l8 : Option mx_V) (S h : mx_H) (n : Int), mx_ex d 207 149 [l0, l1, l2, l3, l4, l5, l6, l7, l8] [(0, x)] S h n = some (some (0, x), S, h, n)) :=
  ⟨by intros; exact eq_ld rfl rfl,
   by intros; exact eq_if1 rfl,
   by intros; exact eq_ld rfl rfl,
   by intros; exact eq_go rfl,
   by intros; exact eq_ld rfl rfl,
   by intros; exact eq_push rfl,
   by intros; exact eq_ic1 rfl,
   by intros; exact eq_ld rfl rfl,
   by intros; exact eq_go rfl,
   by intros; exact eq_ld rfl rfl,
   by intros; exact eq_ret rfl,
   by intros; exact eq_inc rfl rfl rfl,
   by intros; exact eq_go rfl,
   by intros; exact eq_push rfl,
   by intros; exact eq_ret rfl⟩
theorem rh_X12_which_22 : ∀ (d : Nat) (x : Int) (l0 l1 l2 l3 l5 : Option mx_V) (S h : mx_H) (n : Int), mx_ex d 208 22 [l0, l1, l2, l3, some (0, x), l5] [] S h n = mx_ex d 208 24 [l0, l1, l2, l3, some (0, x), l5] [(0, x)] S h n := by intros; exact eq_ld rfl rfl
theorem rw_X12_which :
  (∀ (d : Nat) (a0 a1 : Int) (S h : mx_H) (n : Int), mx_M d 208 [(2, a0), (0, a1)] S h n = mx_ex d 208 0 [some (2, a0), some (0, a1), none, none, none, none] [] S h n) ∧
  (∀ (d : Nat) (x : Int) (l1 l2 l3 l4 l5 : Option mx_V) (S h : mx_H) (n : Int), mx_ex d 208 0 [some (2, x), l1, l2, l3, l4, l5] [] S h n = mx_ex d 208 1 [some (2, x), l1, l2, l3, l4, l5] [(2, x)] S h n) ∧
  (∀ (d : Nat) (x : Int) (l0 l2 l3 l4 l5 : Option mx_V) (v0 : mx_V) (S h : mx_H) (n : Int), mx_ex d 208 1 [l0, some (0, x), l2, l3, l4, l5] [v0] S h n = mx_ex d 208 2 [l0, some (0, x), l2, l3, l4, l5] [(0, x), v0] S h n) ∧
  (∀ (d : Nat) (x0 a : Int) (l0 l1 l2 l3 l4 l5 : Option mx_V) (S h : mx_H) (n : Int), mx_ex (d + 1) 208 2 [l0, l1, l2, l3, l4, l5] [(0, x0), (2, a)] S h n = mx_cl (S a (-2) = 13) d 160 [(2, a), (0, x0)] 208 5 [l0, l1, l2, l3, l4, l5] [] S h n) ∧
  (∀ (d : Nat) (a : Int) (l0 l1 l2 l3 l4 l5 : Option mx_V) (S h : mx_H) (n : Int), mx_ex d 208 5 [l0, l1, l2, l3, l4, l5] [(0, a)] S h n = mx_br (a = 0) d 208 8 10 [l0, l1, l2, l3, l4, l5] [] S h n) ∧
  (∀ (d : Nat) (l0 l1 l2 l3 l4 l5 : Option mx_V) (S h : mx_H) (n : Int), mx_ex d 208 8 [l0, l1, l2, l3, l4, l5] [] S h n = mx_ex d 208 9 [l0, l1, l2, l3, l4, l5] [(0, (-1))] S h n) ∧
  (∀ (d : Nat) (x : Int) (l0 l1 l2 l3 l4 l5 : Option mx_V) (S h : mx_H) (n : Int), mx_ex d 208 9 [l0, l1, l2, l3, l4, l5] [(0, x)] S h n = some (some (0, x), S, h, n)) ∧
  (∀ (d : Nat) (x : Int) (l1 l2 l3 l4 l5 : Option mx_V) (S h : mx_H) (n : Int), mx_ex d 208 10 [some (2, x), l1, l2, l3, l4, l5] [] S h n = mx_ex d 208 11 [some (2, x), l1, l2, l3, l4, l5] [(2, x)] S h n) ∧
  (∀ (d : Nat) (x : Int) (l0 l2 l3 l4 l5 : Option mx_V) (v0 : mx_V) (S h : mx_H) (n : Int), mx_ex d 208 11 [l0, some (0, x), l2, l3, l4, l5] [v0] S h n = mx_ex d 208 12 [l0, some (0, x), l2, l3, l4, l5] [(0, x), v0] S h n) ∧
  (∀ (d : Nat) (l0 l1 l2 l3 l4 l5 : Option mx_V) (v0 v1 : mx_V) (S h : mx_H) (n : Int), mx_ex d 208 12 [l0, l1, l2, l3, l4, l5] [v0, v1] S h n = mx_ex d 208 13 [l0, l1, l2, l3, l4, l5] [(0, 1), v0, v1] S h n) ∧
  (∀ (d : Nat) (x0 x1 a : Int) (l0 l1 l2 l3 l4 l5 : Option mx_V) (S h : mx_H) (n : Int), mx_ex (d + 1) 208 13 [l0, l1, l2, l3, l4, l5] [(0, x0), (0, x1), (2, a)] S h n = mx_cl (S a (-2) = 13) d 163 [(2, a), (0, x1), (0, x0)] 208 16 [l0, l1, l2, l3, l4, l5] [] S h n) ∧
  (∀ (d : Nat) (x : Int) (l0 l1 l2 l3 l4 l5 : Option mx_V) (S h : mx_H) (n : Int), mx_ex d 208 16 [l0, l1, l2, l3, l4, l5] [(0, x)] S h n = mx_ex d 208 17 [l0, mx_nl l1, some (0, x), l3, l4, l5] [] S h n) ∧
  (∀ (d : Nat) (l0 l1 l2 l3 l4 l5 : Option mx_V) (S h : mx_H) (n : Int), mx_ex d 208 17 [l0, l1, l2, l3, l4, l5] [] S h n = mx_ex d 208 18 [l0, l1, l2, l3, l4, l5] [(0, 0)] S h n) ∧
  (∀ (d : Nat) (x : Int) (l0 l1 l2 l3 l4 l5 : Option mx_V) (S h : mx_H) (n : Int), mx_ex d 208 18 [l0, l1, l2, l3, l4, l5] [(0, x)] S h n = mx_ex d 208 19 [l0, l1, mx_nl l2, some (0, x), l4, l5] [] S h n) ∧
  (∀ (d : Nat) (l0 l1 l2 l3 l4 l5 : Option mx_V) (S h : mx_H) (n : Int), mx_ex d 208 19 [l0, l1, l2, l3, l4, l5] [] S h n = mx_ex d 208 20 [l0, l1, l2, l3, l4, l5] [(0, 0)] S h n) ∧
  (∀ (d : Nat) (x : Int) (l0 l1 l2 l3 l4 l5 : Option mx_V) (S h : mx_H) (n : Int), mx_ex d 208 20 [l0, l1, l2, l3, l4, l5] [(0, x)] S h n = mx_ex d 208 22 [l0, l1, l2, mx_nl l3, some (0, x), l5] [] S h n) ∧
  (∀ (d : Nat) (l0 l1 l2 l3 l4 l5 : Option mx_V) (v0 : mx_V) (S h : mx_H) (n : Int), mx_ex d 208 24 [l0, l1, l2, l3, l4, l5] [v0] S h n = mx_ex d 208 25 [l0, l1, l2, l3, l4, l5] [(0, 3), v0] S h n) ∧
  (∀ (d : Nat) (b a : Int) (l0 l1 l2 l3 l4 l5 : Option mx_V) (S h : mx_H) (n : Int), mx_ex d 208 25 [l0, l1, l2, l3, l4, l5] [(0, b), (0, a)] S h n = mx_br (a < b) d 208 28 63 [l0, l1, l2, l3, l4, l5] [] S h n) ∧
  (∀ (d : Nat) (x : Int) (l1 l2 l3 l4 l5 : Option mx_V) (S h : mx_H) (n : Int), mx_ex d 208 28 [some (2, x), l1, l2, l3, l4, l5] [] S h n = mx_ex d 208 29 [some (2, x), l1, l2, l3, l4, l5] [(2, x)] S h n) ∧
  (∀ (d : Nat) (x : Int) (l0 l2 l3 l4 l5 : Option mx_V) (v0 : mx_V) (S h : mx_H) (n : Int), mx_ex d 208 29 [l0, some (0, x), l2, l3, l4, l5] [v0] S h n = mx_ex d 208 30 [l0, some (0, x), l2, l3, l4, l5] [(0, x), v0] S h n) ∧
  (∀ (d : Nat) (x : Int) (l0 l1 l2 l3 l5 : Option mx_V) (v0 v1 : mx_V) (S h : mx_H) (n : Int), mx_ex d 208 30 [l0, l1, l2, l3, some (0, x), l5] [v0, v1] S h n = mx_ex d 208 32 [l0, l1, l2, l3, some (0, x), l5] [(0, x), v0, v1] S h n) ∧
  (∀ (d : Nat) (x0 x1 a : Int) (l0 l1 l2 l3 l4 l5 : Option mx_V) (S h : mx_H) (n : Int), mx_ex (d + 1) 208 32 [l0, l1, l2, l3, l4, l5] [(0, x0), (0, x1), (2, a)] S h n = mx_cl (S a (-2) = 13) d 183 [(2, a), (0, x1), (0, x0)] 208 35 [l0, l1, l2, l3, l4, l5] [] S h n) ∧
  (∀ (d : Nat) (x : Int) (l0 l1 l2 l3 l4 l5 : Option mx_V) (S h : mx_H) (n : Int), mx_ex d 208 35 [l0, l1, l2, l3, l4, l5] [(0, x)] S h n = mx_ex d 208 37 [l0, l1, l2, l3, mx_nl l4, some (0, x)] [] S h n) ∧
  (∀ (d : Nat) (x : Int) (l0 l1 l2 l4 l5 : Option mx_V) (S h : mx_H) (n : Int), mx_ex d 208 37 [l0, l1, l2, some (0, x), l4, l5] [] S h n = mx_ex d 208 38 [l0, l1, l2, some (0, x), l4, l5] [(0, x)] S h n) ∧
  (∀ (d : Nat) (x : Int) (l1 l2 l3 l4 l5 : Option mx_V) (v0 : mx_V) (S h : mx_H) (n : Int), mx_ex d 208 38 [some (2, x), l1, l2, l3, l4, l5] [v0] S h n = mx_ex d 208 39 [some (2, x), l1, l2, l3, l4, l5] [(2, x), v0] S h n) ∧
  (∀ (d : Nat) (l0 l1 l2 l3 l4 l5 : Option mx_V) (v0 v1 : mx_V) (S h : mx_H) (n : Int), mx_ex d 208 39 [l0, l1, l2, l3, l4, l5] [v0, v1] S h n = mx_ex d 208 41 [l0, l1, l2, l3, l4, l5] [(0, 63), v0, v1] S h n) ∧
  (∀ (d : Nat) (x0 a : Int) (l0 l1 l2 l3 l4 l5 : Option mx_V) (v2 : mx_V) (S h : mx_H) (n : Int), mx_ex (d + 1) 208 41 [l0, l1, l2, l3, l4, l5] [(0, x0), (2, a), v2] S h n = mx_cl (S a (-2) = 13) d 199 [(2, a), (0, x0)] 208 44 [l0, l1, l2, l3, l4, l5] [v2] S h n) ∧
  (∀ (d : Nat) (a : Int) (l0 l1 l2 l3 l4 l5 : Option mx_V) (v1 : mx_V) (S h : mx_H) (n : Int), mx_ex d 208 44 [l0, l1, l2, l3, l4, l5] [(0, a), v1] S h n = mx_br (a = 0) d 208 54 47 [l0, l1, l2, l3, l4, l5] [v1] S h n) ∧
  (∀ (d : Nat) (l0 l1 l2 l3 l4 l5 : Option mx_V) (v0 : mx_V) (S h : mx_H) (n : Int), mx_ex d 208 47 [l0, l1, l2, l3, l4, l5] [v0] S h n = mx_ex d 208 48 [l0, l1, l2, l3, l4, l5] [(0, 1), v0] S h n) ∧
  (∀ (d : Nat) (x : Int) (l0 l1 l2 l3 l5 : Option mx_V) (v0 v1 : mx_V) (S h : mx_H) (n : Int), mx_ex d 208 48 [l0, l1, l2, l3, some (0, x), l5] [v0, v1] S h n = mx_ex d 208 50 [l0, l1, l2, l3, some (0, x), l5] [(0, x), v0, v1] S h n) ∧
  (∀ (d : Nat) (b a : Int) (l0 l1 l2 l3 l4 l5 : Option mx_V) (v2 : mx_V) (S h : mx_H) (n : Int), mx_ex d 208 50 [l0, l1, l2, l3, l4, l5] [(0, b), (0, a), v2] S h n = mx_ex d 208 51 [l0, l1, l2, l3, l4, l5] [(0, mx_shl a b), v2] S h n) ∧
  (∀ (d : Nat) (l0 l1 l2 l3 l4 l5 : Option mx_V) (v0 v1 : mx_V) (S h : mx_H) (n : Int), mx_ex d 208 51 [l0, l1, l2, l3, l4, l5] [v0, v1] S h n = mx_ex d 208 55 [l0, l1, l2, l3, l4, l5] [v0, v1] S h n) ∧
  (∀ (d : Nat) (l0 l1 l2 l3 l4 l5 : Option mx_V) (v0 : mx_V) (S h : mx_H) (n : Int), mx_ex d 208 54 [l0, l1, l2, l3, l4, l5] [v0] S h n = mx_ex d 208 55 [l0, l1, l2, l3, l4, l5] [(0, 0), v0] S h n) ∧
  (∀ (d : Nat) (b a : Int) (l0 l1 l2 l3 l4 l5 : Option mx_V) (S h : mx_H) (n : Int), mx_ex d 208 55 [l0, l1, l2, l3, l4, l5] [(0, b), (0, a)] S h n = mx_ex d 208 56 [l0, l1, l2, l3, l4, l5] [(0, mx_or a b)] S h n) ∧
  (∀ (d : Nat) (x : Int) (l0 l1 l2 l3 l4 l5 : Option mx_V) (S h : mx_H) (n : Int), mx_ex d 208 56 [l0, l1, l2, l3, l4, l5] [(0, x)] S h n = mx_ex d 208 57 [l0, l1, mx_nl l2, some (0, x), l4, l5] [] S h n) ∧
  (∀ (d : Nat) (x : Int) (l0 l1 l2 l3 l5 : Option mx_V) (S h : mx_H) (n : Int), mx_ex d 208 57 [l0, l1, l2, l3, some (0, x), l5] [] S h n = mx_ex d 208 60 [l0, l1, l2, mx_nl l3, some (0, mx_w (x + 1)), l5] [] S h n) ∧
  (∀ (d : Nat) (l0 l1 l2 l3 l4 l5 : Option mx_V) (S h : mx_H) (n : Int), mx_ex d 208 60 [l0, l1, l2, l3, l4, l5] [] S h n = mx_ex d 208 22 [l0, l1, l2, l3, l4, l5] [] S h n) ∧
  (∀ (d : Nat) (x : Int) (l1 l2 l3 l4 l5 : Option mx_V) (S h : mx_H) (n : Int), mx_ex d 208 63 [some (2, x), l1, l2, l3, l4, l5] [] S h n = mx_ex d 208 64 [some (2, x), l1, l2, l3, l4, l5] [(2, x)] S h n) ∧
  (∀ (d : Nat) (x : Int) (l0 l2 l3 l4 l5 : Option mx_V) (v0 : mx_V) (S h : mx_H) (n : Int), mx_ex d 208 64 [l0, some (0, x), l2, l3, l4, l5] [v0] S h n = mx_ex d 208 65 [l0, some (0, x), l2, l3, l4, l5] [(0, x), v0] S h n) ∧
  (∀ (d : Nat) (x : Int) (l0 l1 l3 l4 l5 : Option mx_V) (v0 v1 : mx_V) (S h : mx_H) (n : Int), mx_ex d 208 65 [l0, l1, some (0, x), l3, l4, l5] [v0, v1] S h n = mx_ex d 208 66 [l0, l1, some (0, x), l3, l4, l5] [(0, x), v0, v1] S h n) ∧
  (∀ (d : Nat) (x0 x1 a : Int) (l0 l1 l2 l3 l4 l5 : Option mx_V) (S h : mx_H) (n : Int), mx_ex (d + 1) 208 66 [l0, l1, l2, l3, l4, l5] [(0, x0), (0, x1), (2, a)] S h n = mx_cl (S a (-2) = 13) d 183 [(2, a), (0, x1), (0, x0)] 208 69 [l0, l1, l2, l3, l4, l5] [] S h n) ∧
  (∀ (d : Nat) (x : Int) (l0 l1 l2 l3 l4 l5 : Option mx_V) (S h : mx_H) (n : Int), mx_ex d 208 69 [l0, l1, l2, l3, l4, l5] [(0, x)] S h n = mx_ex d 208 71 [l0, l1, l2, mx_nl l3, some (0, x), l5] [] S h n) ∧
  (∀ (d : Nat) (x : Int) (l0 l1 l2 l4 l5 : Option mx_V) (S h : mx_H) (n : Int), mx_ex d 208 71 [l0, l1, l2, some (0, x), l4, l5] [] S h n = mx_ex d 208 72 [l0, l1, l2, some (0, x), l4, l5] [(0, x)] S h n) ∧
  (∀ (d : Nat) (x : Int) (l0 l1 l2 l3 l4 l5 : Option mx_V) (S h : mx_H) (n : Int), mx_ex d 208 72 [l0, l1, l2, l3, l4, l5] [(0, x)] S h n = some (some (0, x), S, h, n)) :=
  ⟨by intros; exact rfl,
   by intros; exact eq_ld rfl rfl,
   by intros; exact eq_ld rfl rfl,
   by intros; exact eq_cv rfl (Nat.le_of_ble_eq_true rfl) rfl rfl rfl (Nat.le_of_ble_eq_true rfl),
   by intros; exact eq_if1 rfl,
   by intros; exact eq_push rfl,
   by intros; exact eq_ret rfl,
   by intros; exact eq_ld rfl rfl,
   by intros; exact eq_ld rfl rfl,
   by intros; exact eq_push rfl,
   by intros; exact eq_cv rfl (Nat.le_of_ble_eq_true rfl) rfl rfl rfl (Nat.le_of_ble_eq_true rfl),
   by intros; exact eq_st rfl (by decide) (Nat.le_of_ble_eq_true rfl) rfl,
   by intros; exact eq_push rfl,
   by intros; exact eq_st rfl (by decide) (Nat.le_of_ble_eq_true rfl) rfl,
   by intros; exact eq_push rfl,
   by intros; exact eq_st rfl (by decide) (Nat.le_of_ble_eq_true rfl) rfl,
   by intros; exact eq_push rfl,
   by intros; exact eq_ic3 rfl,
   by intros; exact eq_ld rfl rfl,
   by intros; exact eq_ld rfl rfl,
   by intros; exact eq_ld rfl rfl,
   by intros; exact eq_cv rfl (Nat.le_of_ble_eq_true rfl) rfl rfl rfl (Nat.le_of_ble_eq_true rfl),
   by intros; exact eq_st rfl (by decide) (Nat.le_of_ble_eq_true rfl) rfl,
   by intros; exact eq_ld rfl rfl,
   by intros; exact eq_ld rfl rfl,
   by intros; exact eq_push rfl,
   by intros; exact eq_cv rfl (Nat.le_of_ble_eq_true rfl) rfl rfl rfl (Nat.le_of_ble_eq_true rfl),
   by intros; exact eq_if0 rfl,
   by intros; exact eq_push rfl,
   by intros; exact eq_ld rfl rfl,
   by intros; exact eq_i2 (o := mx_shl) rfl,
   by intros; exact eq_go rfl,
   by intros; exact eq_push rfl,
   by intros; exact eq_i2 (o := mx_or) rfl,
   by intros; exact eq_st rfl (by decide) (Nat.le_of_ble_eq_true rfl) rfl,
   by intros; exact eq_inc rfl rfl rfl,
   by intros; exact eq_go rfl,
   by intros; exact eq_ld rfl rfl,
   by intros; exact eq_ld rfl rfl,
   by intros; exact eq_ld rfl rfl,
   by intros; exact eq_cv rfl (Nat.le_of_ble_eq_true rfl) rfl rfl rfl (Nat.le_of_ble_eq_true rfl),
   by intros; exact eq_st rfl (by decide) (Nat.le_of_ble_eq_true rfl) rfl,
   by intros; exact eq_ld rfl rfl,
   by intros; exact eq_ret rfl⟩
theorem rw_X12_gain :
  (∀ (d : Nat) (a0 a1 a2 a3 : Int) (S h : mx_H) (n : Int), mx_M d 209 [(2, a0), (0, a1), (0, a2), (0, a3)] S h n = mx_ex d 209 0 [some (2, a0), some (0, a1), some (0, a2), some (0, a3)] [] S h n) ∧
  (∀ (d : Nat) (x : Int) (l1 l2 l3 : Option mx_V) (S h : mx_H) (n : Int), mx_ex d 209 0 [some (2, x), l1, l2, l3] [] S h n = mx_ex d 209 1 [some (2, x), l1, l2, l3] [(2, x)] S h n) ∧
  (∀ (d : Nat) (x : Int) (l0 l2 l3 : Option mx_V) (v0 : mx_V) (S h : mx_H) (n : Int), mx_ex d 209 1 [l0, some (0, x), l2, l3] [v0] S h n = mx_ex d 209 2 [l0, some (0, x), l2, l3] [(0, x), v0] S h n) ∧
  (∀ (d : Nat) (x0 a : Int) (l0 l1 l2 l3 : Option mx_V) (S h : mx_H) (n : Int), mx_ex (d + 1) 209 2 [l0, l1, l2, l3] [(0, x0), (2, a)] S h n = mx_cl (S a (-2) = 13) d 160 [(2, a), (0, x0)] 209 5 [l0, l1, l2, l3] [] S h n) ∧
  (∀ (d : Nat) (a : Int) (l0 l1 l2 l3 : Option mx_V) (S h : mx_H) (n : Int), mx_ex d 209 5 [l0, l1, l2, l3] [(0, a)] S h n = mx_br (a = 0) d 209 38 8 [l0, l1, l2, l3] [] S h n) ∧
  (∀ (d : Nat) (x : Int) (l0 l1 l3 : Option mx_V) (S h : mx_H) (n : Int), mx_ex d 209 8 [l0, l1, some (0, x), l3] [] S h n = mx_ex d 209 9 [l0, l1, some (0, x), l3] [(0, x)] S h n) ∧
  (∀ (d : Nat) (x0 : Int) (l0 l1 l2 l3 : Option mx_V) (S h : mx_H) (n : Int), mx_ex (d + 1) 209 9 [l0, l1, l2, l3] [(0, x0)] S h n = mx_rt (mx_M d 162 [(0, x0)] S h n) (d + 1) 209 12 [l0, l1, l2, l3] []) ∧
  (∀ (d : Nat) (a : Int) (l0 l1 l2 l3 : Option mx_V) (S h : mx_H) (n : Int), mx_ex d 209 12 [l0, l1, l2, l3] [(0, a)] S h n = mx_br (a = 0) d 209 38 15 [l0, l1, l2, l3] [] S h n) ∧
  (∀ (d : Nat) (x : Int) (l0 l1 l2 : Option mx_V) (S h : mx_H) (n : Int), mx_ex d 209 15 [l0, l1, l2, some (0, x)] [] S h n = mx_ex d 209 16 [l0, l1, l2, some (0, x)] [(0, x)] S h n) ∧
  (∀ (d : Nat) (x0 : Int) (l0 l1 l2 l3 : Option mx_V) (S h : mx_H) (n : Int), mx_ex (d + 1) 209 16 [l0, l1, l2, l3] [(0, x0)] S h n = mx_rt (mx_M d 162 [(0, x0)] S h n) (d + 1) 209 19 [l0, l1, l2, l3] []) ∧
  (∀ (d : Nat) (a : Int) (l0 l1 l2 l3 : Option mx_V) (S h : mx_H) (n : Int), mx_ex d 209 19 [l0, l1, l2, l3] [(0, a)] S h n = mx_br (a = 0) d 209 38 22 [l0, l1, l2, l3] [] S h n) ∧
  (∀ (d : Nat) (x : Int) (l1 l2 l3 : Option mx_V) (S h : mx_H) (n : Int), mx_ex d 209 22 [some (2, x), l1, l2, l3] [] S h n = mx_ex d 209 23 [some (2, x), l1, l2, l3] [(2, x)] S h n) ∧
  (∀ (d : Nat) (x : Int) (l0 l2 l3 : Option mx_V) (v0 : mx_V) (S h : mx_H) (n : Int), mx_ex d 209 23 [l0, some (0, x), l2, l3] [v0] S h n = mx_ex d 209 24 [l0, some (0, x), l2, l3] [(0, x), v0] S h n) ∧
  (∀ (d : Nat) (x : Int) (l0 l1 l2 : Option mx_V) (v0 v1 : mx_V) (S h : mx_H) (n : Int), mx_ex d 209 24 [l0, l1, l2, some (0, x)] [v0, v1] S h n = mx_ex d 209 25 [l0, l1, l2, some (0, x)] [(0, x), v0, v1] S h n) ∧
  (∀ (d : Nat) (x0 x1 a : Int) (l0 l1 l2 l3 : Option mx_V) (S h : mx_H) (n : Int), mx_ex (d + 1) 209 25 [l0, l1, l2, l3] [(0, x0), (0, x1), (2, a)] S h n = mx_cl (S a (-2) = 13) d 185 [(2, a), (0, x1), (0, x0)] 209 28 [l0, l1, l2, l3] [] S h n) ∧
  (∀ (d : Nat) (x : Int) (l1 l2 l3 : Option mx_V) (v0 : mx_V) (S h : mx_H) (n : Int), mx_ex d 209 28 [some (2, x), l1, l2, l3] [v0] S h n = mx_ex d 209 29 [some (2, x), l1, l2, l3] [(2, x), v0] S h n) ∧
  (∀ (d : Nat) (x : Int) (l0 l2 l3 : Option mx_V) (v0 v1 : mx_V) (S h : mx_H) (n : Int), mx_ex d 209 29 [l0, some (0, x), l2, l3] [v0, v1] S h n = mx_ex d 209 30 [l0, some (0, x), l2, l3] [(0, x), v0, v1] S h n) ∧
  (∀ (d : Nat) (x : Int) (l0 l1 l3 : Option mx_V) (v0 v1 v2 : mx_V) (S h : mx_H) (n : Int), mx_ex d 209 30 [l0, l1, some (0, x), l3] [v0, v1, v2] S h n = mx_ex d 209 31 [l0, l1, some (0, x), l3] [(0, x), v0, v1, v2] S h n) ∧
  (∀ (d : Nat) (x0 x1 a : Int) (l0 l1 l2 l3 : Option mx_V) (v3 : mx_V) (S h : mx_H) (n : Int), mx_ex (d + 1) 209 31 [l0, l1, l2, l3] [(0, x0), (0, x1), (2, a), v3] S h n = mx_cl (S a (-2) = 13) d 185 [(2, a), (0, x1), (0, x0)] 209 34 [l0, l1, l2, l3] [v3] S h n) ∧
  (∀ (d : Nat) (b a : Int) (l0 l1 l2 l3 : Option mx_V) (S h : mx_H) (n : Int), mx_ex d 209 34 [l0, l1, l2, l3] [(1, b), (1, a)] S h n = mx_ex d 209 35 [l0, l1, l2, l3] [(1, mx_l (a - b))] S h n) ∧
  (∀ (d : Nat) (l0 l1 l2 l3 : Option mx_V) (v0 : mx_V) (S h : mx_H) (n : Int), mx_ex d 209 35 [l0, l1, l2, l3] [v0] S h n = mx_ex d 209 41 [l0, l1, l2, l3] [v0] S h n) ∧
  (∀ (d : Nat) (l0 l1 l2 l3 : Option mx_V) (S h : mx_H) (n : Int), mx_ex d 209 38 [l0, l1, l2, l3] [] S h n = mx_ex d 209 41 [l0, l1, l2, l3] [(1, (-1000000000000))] S h n) ∧
  (∀ (d : Nat) (x : Int) (l0 l1 l2 l3 : Option mx_V) (S h : mx_H) (n : Int), mx_ex d 209 41 [l0, l1, l2, l3] [(1, x)] S h n = some (some (1, x), S, h, n)) :=
  ⟨by intros; exact rfl,
   by intros; exact eq_ld rfl rfl,
   by intros; exact eq_ld rfl rfl,
   by intros; exact eq_cv rfl (Nat.le_of_ble_eq_true rfl) rfl rfl rfl (Nat.le_of_ble_eq_true rfl),
   by intros; exact eq_if0 rfl,
   by intros; exact eq_ld rfl rfl,
   by intros; exact eq_cs rfl (Nat.le_of_ble_eq_true rfl) rfl rfl rfl (Nat.le_of_ble_eq_true rfl),
   by intros; exact eq_if0 rfl,
   by intros; exact eq_ld rfl rfl,
   by intros; exact eq_cs rfl (Nat.le_of_ble_eq_true rfl) rfl rfl rfl (Nat.le_of_ble_eq_true rfl),
   by intros; exact eq_if0 rfl,
   by intros; exact eq_ld rfl rfl,
   by intros; exact eq_ld rfl rfl,
   by intros; exact eq_ld rfl rfl,
   by intros; exact eq_cv rfl (Nat.le_of_ble_eq_true rfl) rfl rfl rfl (Nat.le_of_ble_eq_true rfl),
   by intros; exact eq_ld rfl rfl,
   by intros; exact eq_ld rfl rfl,
   by intros; exact eq_ld rfl rfl,
   by intros; exact eq_cv rfl (Nat.le_of_ble_eq_true rfl) rfl rfl rfl (Nat.le_of_ble_eq_true rfl),
   by intros; exact eq_l2 (o := ml_sub) rfl,
   by intros; exact eq_go rfl,
   by intros; exact eq_push rfl,
   by intros; exact eq_ret rfl⟩
theorem rh_X12_signsOf_6 : ∀ (d : Nat) (x : Int) (l0 l1 l2 : Option mx_V) (S h : mx_H) (n : Int), mx_ex d 210 6 [l0, l1, l2, some (0, x)] [] S h n = mx_ex d 210 7 [l0, l1, l2, some (0, x)] [(0, x)] S h n := by intros; exact eq_ld rfl rfl
theorem rw_X12_signsOf :
  (∀ (d : Nat) (a0 a1 : Int) (S h : mx_H) (n : Int), mx_M d 210 [(0, a0), (0, a1)] S h n = mx_ex d 210 0 [some (0, a0), some (0, a1), none, none] [] S h n) ∧
  (∀ (d : Nat) (l0 l1 l2 l3 : Option mx_V) (S h : mx_H) (n : Int), mx_ex d 210 0 [l0, l1, l2, l3] [] S h n = mx_ex d 210 1 [l0, l1, l2, l3] [(0, 1)] S h n) ∧
  (∀ (d : Nat) (x : Int) (l0 l1 l2 l3 : Option mx_V) (S h : mx_H) (n : Int), mx_ex d 210 1 [l0, l1, l2, l3] [(0, x)] S h n = mx_ex d 210 2 [l0, mx_nl l1, some (0, x), l3] [] S h n) ∧
  (∀ (d : Nat) (x : Int) (l1 l2 l3 : Option mx_V) (S h : mx_H) (n : Int), mx_ex d 210 2 [some (0, x), l1, l2, l3] [] S h n = mx_ex d 210 3 [some (0, x), l1, l2, l3] [(0, x)] S h n) ∧
  (∀ (d : Nat) (x : Int) (l0 l2 l3 : Option mx_V) (v0 : mx_V) (S h : mx_H) (n : Int), mx_ex d 210 3 [l0, some (0, x), l2, l3] [v0] S h n = mx_ex d 210 4 [l0, some (0, x), l2, l3] [(0, x), v0] S h n) ∧
  (∀ (d : Nat) (b a : Int) (l0 l1 l2 l3 : Option mx_V) (S h : mx_H) (n : Int), mx_ex d 210 4 [l0, l1, l2, l3] [(0, b), (0, a)] S h n = mx_gd (¬ b = 0) d 210 5 [l0, l1, l2, l3] [(0, mx_w (Int.tdiv a b))] S h n) ∧
  (∀ (d : Nat) (x : Int) (l0 l1 l2 l3 : Option mx_V) (S h : mx_H) (n : Int), mx_ex d 210 5 [l0, l1, l2, l3] [(0, x)] S h n = mx_ex d 210 6 [l0, l1, mx_nl l2, some (0, x)] [] S h n) ∧
  (∀ (d : Nat) (a : Int) (l0 l1 l2 l3 : Option mx_V) (S h : mx_H) (n : Int), mx_ex d 210 7 [l0, l1, l2, l3] [(0, a)] S h n = mx_br (0 < a) d 210 10 20 [l0, l1, l2, l3] [] S h n) ∧
  (∀ (d : Nat) (x : Int) (l0 l1 l3 : Option mx_V) (S h : mx_H) (n : Int), mx_ex d 210 10 [l0, l1, some (0, x), l3] [] S h n = mx_ex d 210 13 [l0, mx_nl l1, some (0, mx_w (x + 1)), l3] [] S h n) ∧
  (∀ (d : Nat) (x : Int) (l0 l1 l2 : Option mx_V) (S h : mx_H) (n : Int), mx_ex d 210 13 [l0, l1, l2, some (0, x)] [] S h n = mx_ex d 210 14 [l0, l1, l2, some (0, x)] [(0, x)] S h n) ∧
  (∀ (d : Nat) (x : Int) (l0 l2 l3 : Option mx_V) (v0 : mx_V) (S h : mx_H) (n : Int), mx_ex d 210 14 [l0, some (0, x), l2, l3] [v0] S h n = mx_ex d 210 15 [l0, some (0, x), l2, l3] [(0, x), v0] S h n) ∧
  (∀ (d : Nat) (b a : Int) (l0 l1 l2 l3 : Option mx_V) (S h : mx_H) (n : Int), mx_ex d 210 15 [l0, l1, l2, l3] [(0, b), (0, a)] S h n = mx_gd (¬ b = 0) d 210 16 [l0, l1, l2, l3] [(0, mx_w (Int.tdiv a b))] S h n) ∧
  (∀ (d : Nat) (x : Int) (l0 l1 l2 l3 : Option mx_V) (S h : mx_H) (n : Int), mx_ex d 210 16 [l0, l1, l2, l3] [(0, x)] S h n = mx_ex d 210 17 [l0, l1, mx_nl l2, some (0, x)] [] S h n) ∧
  (∀ (d : Nat) (l0 l1 l2 l3 : Option mx_V) (S h : mx_H) (n : Int), mx_ex d 210 17 [l0, l1, l2, l3] [] S h n = mx_ex d 210 6 [l0, l1, l2, l3] [] S h n) ∧
  (∀ (d : Nat) (x : Int) (l0 l1 l3 : Option mx_V) (S h : mx_H) (n : Int), mx_ex d 210 20 [l0, l1, some (0, x), l3] [] S h n = mx_ex d 210 21 [l0, l1, some (0, x), l3] [(0, x)] S h n) ∧
  (∀ (d : Nat) (x : Int) (l0 l1 l2 l3 : Option mx_V) (S h : mx_H) (n : Int), mx_ex d 210 21 [l0, l1, l2, l3] [(0, x)] S h n = some (some (0, x), S, h, n)) :=
  ⟨by intros; exact rfl,
   by intros; exact eq_push rfl,
   by intros; exact eq_st rfl (by decide) (Nat.le_of_ble_eq_true rfl) rfl,
   by intros; exact eq_ld rfl rfl,
   by intros; exact eq_ld rfl rfl,
   by intros; exact eq_i2d (o := mx_div) rfl,
   by intros; exact eq_st rfl (by decide) (Nat.le_of_ble_eq_true rfl) rfl,
   by intros; exact eq_if5 rfl,
   by intros; exact eq_inc rfl rfl rfl,
   by intros; exact eq_ld rfl rfl,
   by intros; exact eq_ld rfl rfl,
   by intros; exact eq_i2d (o := mx_div) rfl,
   by intros; exact eq_st rfl (by decide) (Nat.le_of_ble_eq_true rfl) rfl,
   by intros; exact eq_go rfl,
   by intros; exact eq_ld rfl rfl,
   by intros; exact eq_ret rfl⟩
theorem rh_X12_signFromEnd_5 : ∀ (d : Nat) (x : Int) (l0 l1 l2 l3 : Option mx_V) (S h : mx_H) (n : Int), mx_ex d 211 5 [l0, l1, l2, l3, some (0, x)] [] S h n = mx_ex d 211 7 [l0, l1, l2, l3, some (0, x)] [(0, x)] S h n := by intros; exact eq_ld rfl rfl
theorem rw_X12_signFromEnd :
  (∀ (d : Nat) (a0 a1 a2 : Int) (S h : mx_H) (n : Int), mx_M d 211 [(0, a0), (0, a1), (0, a2)] S h n = mx_ex d 211 0 [some (0, a0), some (0, a1), some (0, a2), none, none] [] S h n) ∧
  (∀ (d : Nat) (x : Int) (l1 l2 l3 l4 : Option mx_V) (S h : mx_H) (n : Int), mx_ex d 211 0 [some (0, x), l1, l2, l3, l4] [] S h n = mx_ex d 211 1 [some (0, x), l1, l2, l3, l4] [(0, x)] S h n) ∧
  (∀ (d : Nat) (x : Int) (l0 l1 l2 l3 l4 : Option mx_V) (S h : mx_H) (n : Int), mx_ex d 211 1 [l0, l1, l2, l3, l4] [(0, x)] S h n = mx_ex d 211 2 [l0, l1, mx_nl l2, some (0, x), l4] [] S h n) ∧
  (∀ (d : Nat) (l0 l1 l2 l3 l4 : Option mx_V) (S h : mx_H) (n : Int), mx_ex d 211 2 [l0, l1, l2, l3, l4] [] S h n = mx_ex d 211 3 [l0, l1, l2, l3, l4] [(0, 0)] S h n) ∧
  (∀ (d : Nat) (x : Int) (l0 l1 l2 l3 l4 : Option mx_V) (S h : mx_H) (n : Int), mx_ex d 211 3 [l0, l1, l2, l3, l4] [(0, x)] S h n = mx_ex d 211 5 [l0, l1, l2, mx_nl l3, some (0, x)] [] S h n) ∧
  (∀ (d : Nat) (x : Int) (l0 l1 l3 l4 : Option mx_V) (v0 : mx_V) (S h : mx_H) (n : Int), mx_ex d 211 7 [l0, l1, some (0, x), l3, l4] [v0] S h n = mx_ex d 211 8 [l0, l1, some (0, x), l3, l4] [(0, x), v0] S h n) ∧
  (∀ (d : Nat) (b a : Int) (l0 l1 l2 l3 l4 : Option mx_V) (S h : mx_H) (n : Int), mx_ex d 211 8 [l0, l1, l2, l3, l4] [(0, b), (0, a)] S h n = mx_br (a < b) d 211 11 21 [l0, l1, l2, l3, l4] [] S h n) ∧
  (∀ (d : Nat) (x : Int) (l0 l1 l2 l4 : Option mx_V) (S h : mx_H) (n : Int), mx_ex d 211 11 [l0, l1, l2, some (0, x), l4] [] S h n = mx_ex d 211 12 [l0, l1, l2, some (0, x), l4] [(0, x)] S h n) ∧
  (∀ (d : Nat) (x : Int) (l0 l2 l3 l4 : Option mx_V) (v0 : mx_V) (S h : mx_H) (n : Int), mx_ex d 211 12 [l0, some (0, x), l2, l3, l4] [v0] S h n = mx_ex d 211 13 [l0, some (0, x), l2, l3, l4] [(0, x), v0] S h n) ∧
  (∀ (d : Nat) (b a : Int) (l0 l1 l2 l3 l4 : Option mx_V) (S h : mx_H) (n : Int), mx_ex d 211 13 [l0, l1, l2, l3, l4] [(0, b), (0, a)] S h n = mx_gd (¬ b = 0) d 211 14 [l0, l1, l2, l3, l4] [(0, mx_w (Int.tdiv a b))] S h n) ∧
  (∀ (d : Nat) (x : Int) (l0 l1 l2 l3 l4 : Option mx_V) (S h : mx_H) (n : Int), mx_ex d 211 14 [l0, l1, l2, l3, l4] [(0, x)] S h n = mx_ex d 211 15 [l0, l1, mx_nl l2, some (0, x), l4] [] S h n) ∧
  (∀ (d : Nat) (x : Int) (l0 l1 l2 l3 : Option mx_V) (S h : mx_H) (n : Int), mx_ex d 211 15 [l0, l1, l2, l3, some (0, x)] [] S h n = mx_ex d 211 18 [l0, l1, l2, mx_nl l3, some (0, mx_w (x + 1))] [] S h n) ∧
  (∀ (d : Nat) (l0 l1 l2 l3 l4 : Option mx_V) (S h : mx_H) (n : Int), mx_ex d 211 18 [l0, l1, l2, l3, l4] [] S h n = mx_ex d 211 5 [l0, l1, l2, l3, l4] [] S h n) ∧
  (∀ (d : Nat) (x : Int) (l0 l1 l2 l4 : Option mx_V) (S h : mx_H) (n : Int), mx_ex d 211 21 [l0, l1, l2, some (0, x), l4] [] S h n = mx_ex d 211 22 [l0, l1, l2, some (0, x), l4] [(0, x)] S h n) ∧
  (∀ (d : Nat) (x : Int) (l0 l2 l3 l4 : Option mx_V) (v0 : mx_V) (S h : mx_H) (n : Int), mx_ex d 211 22 [l0, some (0, x), l2, l3, l4] [v0] S h n = mx_ex d 211 23 [l0, some (0, x), l2, l3, l4] [(0, x), v0] S h n) ∧
  (∀ (d : Nat) (b a : Int) (l0 l1 l2 l3 l4 : Option mx_V) (S h : mx_H) (n : Int), mx_ex d 211 23 [l0, l1, l2, l3, l4] [(0, b), (0, a)] S h n = mx_gd (¬ b = 0) d 211 24 [l0, l1, l2, l3, l4] [(0, Int.tmod a b)] S h n) ∧
  (∀ (d : Nat) (x : Int) (l0 l1 l2 l3 l4 : Option mx_V) (S h : mx_H) (n : Int), mx_ex d 211 24 [l0, l1, l2, l3, l4] [(0, x)] S h n = some (some (0, x), S, h, n)) :=
  ⟨by intros; exact rfl,
   by intros; exact eq_ld rfl rfl,
   by intros; exact eq_st rfl (by decide) (Nat.le_of_ble_eq_true rfl) rfl,
   by intros; exact eq_push rfl,
   by intros; exact eq_st rfl (by decide) (Nat.le_of_ble_eq_true rfl) rfl,
   by intros; exact eq_ld rfl rfl,
   by intros; exact eq_ic3 rfl,
   by intros; exact eq_ld rfl rfl,
   by intros; exact eq_ld rfl rfl,
   by intros; exact eq_i2d (o := mx_div) rfl,
   by intros; exact eq_st rfl (by decide) (Nat.le_of_ble_eq_true rfl) rfl,
   by intros; exact eq_inc rfl rfl rfl,
   by intros; exact eq_go rfl,
   by intros; exact eq_ld rfl rfl,
   by intros; exact eq_ld rfl rfl,
   by intros; exact eq_i2d (o := mx_rem) rfl,
   by intros; exact eq_ret rfl⟩
theorem rw_X12_written :
  (∀ (d : Nat) (a0 a1 a2 a3 : Int) (S h : mx_H) (n : Int), mx_M d 212 [(2, a0), (0, a1), (0, a2), (0, a3)] S h n = mx_ex d 212 0 [some (2, a0), some (0, a1), some (0, a2), some (0, a3), none] [] S h n) ∧
  (∀ (d : Nat) (x : Int) (l0 l2 l3 l4 : Option mx_V) (S h : mx_H) (n : Int), mx_ex d 212 0 [l0, some (0, x), l2, l3, l4] [] S h n = mx_ex d 212 1 [l0, some (0, x), l2, l3, l4] [(0, x)] S h n) ∧
  (∀ (d : Nat) (l0 l1 l2 l3 l4 : Option mx_V) (v0 : mx_V) (S h : mx_H) (n : Int), mx_ex d 212 1 [l0, l1, l2, l3, l4] [v0] S h n = mx_ex d 212 2 [l0, l1, l2, l3, l4] [(0, 0), v0] S h n) ∧
  (∀ (d : Nat) (l0 l1 l2 l3 l4 : Option mx_V) (v0 v1 : mx_V) (S h : mx_H) (n : Int), mx_ex d 212 2 [l0, l1, l2, l3, l4] [v0, v1] S h n = mx_ex d 212 5 [l0, l1, l2, l3, l4] [(0, 9999), v0, v1] S h n) ∧
  (∀ (d : Nat) (x0 x1 x2 : Int) (l0 l1 l2 l3 l4 : Option mx_V) (S h : mx_H) (n : Int), mx_ex (d + 1) 212 5 [l0, l1, l2, l3, l4] [(0, x0), (0, x1), (0, x2)] S h n = mx_rt (mx_M d 159 [(0, x2), (0, x1), (0, x0)] S h n) (d + 1) 212 8 [l0, l1, l2, l3, l4] []) ∧
  (∀ (d : Nat) (a : Int) (l0 l1 l2 l3 l4 : Option mx_V) (S h : mx_H) (n : Int), mx_ex d 212 8 [l0, l1, l2, l3, l4] [(0, a)] S h n = mx_br (a = 0) d 212 23 11 [l0, l1, l2, l3, l4] [] S h n) ∧
  (∀ (d : Nat) (x : Int) (l0 l1 l3 l4 : Option mx_V) (S h : mx_H) (n : Int), mx_ex d 212 11 [l0, l1, some (0, x), l3, l4] [] S h n = mx_ex d 212 12 [l0, l1, some (0, x), l3, l4] [(0, x)] S h n) ∧
  (∀ (d : Nat) (x0 : Int) (l0 l1 l2 l3 l4 : Option mx_V) (S h : mx_H) (n : Int), mx_ex (d + 1) 212 12 [l0, l1, l2, l3, l4] [(0, x0)] S h n = mx_rt (mx_M d 162 [(0, x0)] S h n) (d + 1) 212 15 [l0, l1, l2, l3, l4] []) ∧
  (∀ (d : Nat) (a : Int) (l0 l1 l2 l3 l4 : Option mx_V) (S h : mx_H) (n : Int), mx_ex d 212 15 [l0, l1, l2, l3, l4] [(0, a)] S h n = mx_br (a = 0) d 212 23 18 [l0, l1, l2, l3, l4] [] S h n) ∧
  (∀ (d : Nat) (x : Int) (l0 l1 l2 l4 : Option mx_V) (S h : mx_H) (n : Int), mx_ex d 212 18 [l0, l1, l2, some (0, x), l4] [] S h n = mx_ex d 212 19 [l0, l1, l2, some (0, x), l4] [(0, x)] S h n) ∧
  (∀ (d : Nat) (l0 l1 l2 l3 l4 : Option mx_V) (v0 : mx_V) (S h : mx_H) (n : Int), mx_ex d 212 19 [l0, l1, l2, l3, l4] [v0] S h n = mx_ex d 212 20 [l0, l1, l2, l3, l4] [(0, (-1)), v0] S h n) ∧
  (∀ (d : Nat) (b a : Int) (l0 l1 l2 l3 l4 : Option mx_V) (S h : mx_H) (n : Int), mx_ex d 212 20 [l0, l1, l2, l3, l4] [(0, b), (0, a)] S h n = mx_br (a < b) d 212 23 25 [l0, l1, l2, l3, l4] [] S h n) ∧
  (∀ (d : Nat) (l0 l1 l2 l3 l4 : Option mx_V) (S h : mx_H) (n : Int), mx_ex d 212 23 [l0, l1, l2, l3, l4] [] S h n = mx_ex d 212 24 [l0, l1, l2, l3, l4] [(0, (-1))] S h n) ∧
  (∀ (d : Nat) (x : Int) (l0 l1 l2 l3 l4 : Option mx_V) (S h : mx_H) (n : Int), mx_ex d 212 24 [l0, l1, l2, l3, l4] [(0, x)] S h n = some (some (0, x), S, h, n)) ∧
  (∀ (d : Nat) (x : Int) (l0 l2 l3 l4 : Option mx_V) (S h : mx_H) (n : Int), mx_ex d 212 25 [l0, some (0, x), l2, l3, l4] [] S h n = mx_ex d 212 26 [l0, some (0, x), l2, l3, l4] [(0, x)] S h n) ∧
  (∀ (d : Nat) (x : Int) (l0 l1 l3 l4 : Option mx_V) (v0 : mx_V) (S h : mx_H) (n : Int), mx_ex d 212 26 [l0, l1, some (0, x), l3, l4] [v0] S h n = mx_ex d 212 27 [l0, l1, some (0, x), l3, l4] [(0, x), v0] S h n) ∧
  (∀ (d : Nat) (x0 x1 : Int) (l0 l1 l2 l3 l4 : Option mx_V) (S h : mx_H) (n : Int), mx_ex (d + 1) 212 27 [l0, l1, l2, l3, l4] [(0, x0), (0, x1)] S h n = mx_rt (mx_M d 210 [(0, x1), (0, x0)] S h n) (d + 1) 212 30 [l0, l1, l2, l3, l4] []) ∧
  (∀ (d : Nat) (x : Int) (l0 l1 l2 l3 l4 : Option mx_V) (S h : mx_H) (n : Int), mx_ex d 212 30 [l0, l1, l2, l3, l4] [(0, x)] S h n = mx_ex d 212 32 [l0, l1, l2, mx_nl l3, some (0, x)] [] S h n) ∧
  (∀ (d : Nat) (x : Int) (l0 l1 l2 l4 : Option mx_V) (S h : mx_H) (n : Int), mx_ex d 212 32 [l0, l1, l2, some (0, x), l4] [] S h n = mx_ex d 212 33 [l0, l1, l2, some (0, x), l4] [(0, x)] S h n) ∧
  (∀ (d : Nat) (a : Int) (l0 l1 l2 l3 l4 : Option mx_V) (S h : mx_H) (n : Int), mx_ex d 212 33 [l0, l1, l2, l3, l4] [(0, a)] S h n = mx_br (a < 0) d 212 36 41 [l0, l1, l2, l3, l4] [] S h n) ∧
  (∀ (d : Nat) (x : Int) (l0 l1 l2 l3 : Option mx_V) (S h : mx_H) (n : Int), mx_ex d 212 36 [l0, l1, l2, l3, some (0, x)] [] S h n = mx_ex d 212 38 [l0, l1, l2, l3, some (0, x)] [(0, x)] S h n) ∧
  (∀ (d : Nat) (l0 l1 l2 l3 l4 : Option mx_V) (v0 : mx_V) (S h : mx_H) (n : Int), mx_ex d 212 38 [l0, l1, l2, l3, l4] [v0] S h n = mx_ex d 212 63 [l0, l1, l2, l3, l4] [v0] S h n) ∧
  (∀ (d : Nat) (x : Int) (l0 l1 l2 l4 : Option mx_V) (S h : mx_H) (n : Int), mx_ex d 212 41 [l0, l1, l2, some (0, x), l4] [] S h n = mx_ex d 212 42 [l0, l1, l2, some (0, x), l4] [(0, x)] S h n) ∧
  (∀ (d : Nat) (x : Int) (l0 l1 l2 l3 : Option mx_V) (v0 : mx_V) (S h : mx_H) (n : Int), mx_ex d 212 42 [l0, l1, l2, l3, some (0, x)] [v0] S h n = mx_ex d 212 44 [l0, l1, l2, l3, some (0, x)] [(0, x), v0] S h n) ∧
  (∀ (d : Nat) (b a : Int) (l0 l1 l2 l3 l4 : Option mx_V) (S h : mx_H) (n : Int), mx_ex d 212 44 [l0, l1, l2, l3, l4] [(0, b), (0, a)] S h n = mx_br (a < b) d 212 47 61 [l0, l1, l2, l3, l4] [] S h n) ∧
  (∀ (d : Nat) (x : Int) (l0 l2 l3 l4 : Option mx_V) (S h : mx_H) (n : Int), mx_ex d 212 47 [l0, some (0, x), l2, l3, l4] [] S h n = mx_ex d 212 48 [l0, some (0, x), l2, l3, l4] [(0, x)] S h n) ∧
  (∀ (d : Nat) (x : Int) (l0 l1 l3 l4 : Option mx_V) (v0 : mx_V) (S h : mx_H) (n : Int), mx_ex d 212 48 [l0, l1, some (0, x), l3, l4] [v0] S h n = mx_ex d 212 49 [l0, l1, some (0, x), l3, l4] [(0, x), v0] S h n) ∧
  (∀ (d : Nat) (x : Int) (l0 l1 l2 l3 : Option mx_V) (v0 v1 : mx_V) (S h : mx_H) (n : Int), mx_ex d 212 49 [l0, l1, l2, l3, some (0, x)] [v0, v1] S h n = mx_ex d 212 51 [l0, l1, l2, l3, some (0, x)] [(0, x), v0, v1] S h n) ∧
  (∀ (d : Nat) (l0 l1 l2 l3 l4 : Option mx_V) (v0 v1 v2 : mx_V) (S h : mx_H) (n : Int), mx_ex d 212 51 [l0, l1, l2, l3, l4] [v0, v1, v2] S h n = mx_ex d 212 52 [l0, l1, l2, l3, l4] [(0, 1), v0, v1, v2] S h n) ∧
  (∀ (d : Nat) (b a : Int) (l0 l1 l2 l3 l4 : Option mx_V) (v2 v3 : mx_V) (S h : mx_H) (n : Int), mx_ex d 212 52 [l0, l1, l2, l3, l4] [(0, b), (0, a), v2, v3] S h n = mx_ex d 212 53 [l0, l1, l2, l3, l4] [(0, mx_w (a - b)), v2, v3] S h n) ∧
  (∀ (d : Nat) (x : Int) (l0 l1 l2 l4 : Option mx_V) (v0 v1 v2 : mx_V) (S h : mx_H) (n : Int), mx_ex d 212 53 [l0, l1, l2, some (0, x), l4] [v0, v1, v2] S h n = mx_ex d 212 54 [l0, l1, l2, some (0, x), l4] [(0, x), v0, v1, v2] S h n) ∧
  (∀ (d : Nat) (b a : Int) (l0 l1 l2 l3 l4 : Option mx_V) (v2 v3 : mx_V) (S h : mx_H) (n : Int), mx_ex d 212 54 [l0, l1, l2, l3, l4] [(0, b), (0, a), v2, v3] S h n = mx_ex d 212 55 [l0, l1, l2, l3, l4] [(0, mx_w (a - b)), v2, v3] S h n) ∧
  (∀ (d : Nat) (x0 x1 x2 : Int) (l0 l1 l2 l3 l4 : Option mx_V) (S h : mx_H) (n : Int), mx_ex (d + 1) 212 55 [l0, l1, l2, l3, l4] [(0, x0), (0, x1), (0, x2)] S h n = mx_rt (mx_M d 211 [(0, x2), (0, x1), (0, x0)] S h n) (d + 1) 212 58 [l0, l1, l2, l3, l4] []) ∧
  (∀ (d : Nat) (l0 l1 l2 l3 l4 : Option mx_V) (v0 : mx_V) (S h : mx_H) (n : Int), mx_ex d 212 58 [l0, l1, l2, l3, l4] [v0] S h n = mx_ex d 212 63 [l0, l1, l2, l3, l4] [v0] S h n) ∧
  (∀ (d : Nat) (l0 l1 l2 l3 l4 : Option mx_V) (S h : mx_H) (n : Int), mx_ex d 212 61 [l0, l1, l2, l3, l4] [] S h n = mx_ex d 212 63 [l0, l1, l2, l3, l4] [(0, (-3))] S h n) ∧
  (∀ (d : Nat) (x : Int) (l0 l1 l2 l3 l4 : Option mx_V) (S h : mx_H) (n : Int), mx_ex d 212 63 [l0, l1, l2, l3, l4] [(0, x)] S h n = some (some (0, x), S, h, n)) :=
  ⟨by intros; exact rfl,
   by intros; exact eq_ld rfl rfl,
   by intros; exact eq_push rfl,
   by intros; exact eq_push rfl,
   by intros; exact eq_cs rfl (Nat.le_of_ble_eq_true rfl) rfl rfl rfl (Nat.le_of_ble_eq_true rfl),
   by intros; exact eq_if0 rfl,
   by intros; exact eq_ld rfl rfl,
   by intros; exact eq_cs rfl (Nat.le_of_ble_eq_true rfl) rfl rfl rfl (Nat.le_of_ble_eq_true rfl),
   by intros; exact eq_if0 rfl,
   by intros; exact eq_ld rfl rfl,
   by intros; exact eq_push rfl,
   by intros; exact eq_ic3 rfl,
   by intros; exact eq_push rfl,
   by intros; exact eq_ret rfl,
   by intros; exact eq_ld rfl rfl,
   by intros; exact eq_ld rfl rfl,
   by intros; exact eq_cs rfl (Nat.le_of_ble_eq_true rfl) rfl rfl rfl (Nat.le_of_ble_eq_true rfl),
   by intros; exact eq_st rfl (by decide) (Nat.le_of_ble_eq_true rfl) rfl,
   by intros; exact eq_ld rfl rfl,
   by intros; exact eq_if3 rfl,
   by intros; exact eq_ld rfl rfl,
   by intros; exact eq_go rfl,
   by intros; exact eq_ld rfl rfl,
   by intros; exact eq_ld rfl rfl,
   by intros; exact eq_ic3 rfl,
   by intros; exact eq_ld rfl rfl,
   by intros; exact eq_ld rfl rfl,
   by intros; exact eq_ld rfl rfl,
   by intros; exact eq_push rfl,
   by intros; exact eq_i2 (o := mx_sub) rfl,
   by intros; exact eq_ld rfl rfl,
   by intros; exact eq_i2 (o := mx_sub) rfl,
   by intros; exact eq_cs rfl (Nat.le_of_ble_eq_true rfl) rfl rfl rfl (Nat.le_of_ble_eq_true rfl),
   by intros; exact eq_go rfl,
   by intros; exact eq_push rfl,
   by intros; exact eq_ret rfl⟩
theorem rw_X12_areBases :
  (∀ (d : Nat) (a0 : Int) (S h : mx_H) (n : Int), mx_M d 213 [(0, a0)] S h n = mx_ex d 213 0 [some (0, a0)] [] S h n) ∧
  (∀ (d : Nat) (x : Int) (S h : mx_H) (n : Int), mx_ex d 213 0 [some (0, x)] [] S h n = mx_ex d 213 1 [some (0, x)] [(0, x)] S h n) ∧
  (∀ (d : Nat) (a : Int) (l0 : Option mx_V) (S h : mx_H) (n : Int), mx_ex d 213 1 [l0] [(0, a)] S h n = mx_br (0 < a) d 213 4 20 [l0] [] S h n) ∧
  (∀ (d : Nat) (x : Int) (S h : mx_H) (n : Int), mx_ex d 213 4 [some (0, x)] [] S h n = mx_ex d 213 5 [some (0, x)] [(0, x)] S h n) ∧
  (∀ (d : Nat) (l0 : Option mx_V) (v0 : mx_V) (S h : mx_H) (n : Int), mx_ex d 213 5 [l0] [v0] S h n = mx_ex d 213 7 [l0] [(0, 131072), v0] S h n) ∧
  (∀ (d : Nat) (b a : Int) (l0 : Option mx_V) (S h : mx_H) (n : Int), mx_ex d 213 7 [l0] [(0, b), (0, a)] S h n = mx_br (a < b) d 213 10 20 [l0] [] S h n) ∧
  (∀ (d : Nat) (x : Int) (S h : mx_H) (n : Int), mx_ex d 213 10 [some (0, x)] [] S h n = mx_ex d 213 11 [some (0, x)] [(0, x)] S h n) ∧
  (∀ (d : Nat) (l0 : Option mx_V) (v0 : mx_V) (S h : mx_H) (n : Int), mx_ex d 213 11 [l0] [v0] S h n = mx_ex d 213 12 [l0] [(0, 3), v0] S h n) ∧
  (∀ (d : Nat) (b a : Int) (l0 : Option mx_V) (S h : mx_H) (n : Int), mx_ex d 213 12 [l0] [(0, b), (0, a)] S h n = mx_ex d 213 13 [l0] [(0, mx_and a b)] S h n) ∧
  (∀ (d : Nat) (a : Int) (l0 : Option mx_V) (S h : mx_H) (n : Int), mx_ex d 213 13 [l0] [(0, a)] S h n = mx_br (a = 0) d 213 16 20 [l0] [] S h n) ∧
  (∀ (d : Nat) (l0 : Option mx_V) (S h : mx_H) (n : Int), mx_ex d 213 16 [l0] [] S h n = mx_ex d 213 17 [l0] [(0, 1)] S h n) ∧
  (∀ (d : Nat) (l0 : Option mx_V) (v0 : mx_V) (S h : mx_H) (n : Int), mx_ex d 213 17 [l0] [v0] S h n = mx_ex d 213 21 [l0] [v0] S h n) ∧
  (∀ (d : Nat) (l0 : Option mx_V) (S h : mx_H) (n : Int), mx_ex d 213 20 [l0] [] S h n = mx_ex d 213 21 [l0] [(0, 0)] S h n) ∧
  (∀ (d : Nat) (x : Int) (l0 : Option mx_V) (S h : mx_H) (n : Int), mx_ex d 213 21 [l0] [(0, x)] S h n = mx_re (0 ≤ x ∧ x ≤ 1) (some (0, x)) S h n) :=
  ⟨by intros; exact rfl,
   by intros; exact eq_ld rfl rfl,
   by intros; exact eq_if5 rfl,
   by intros; exact eq_ld rfl rfl,
   by intros; exact eq_push rfl,
   by intros; exact eq_ic3 rfl,
   by intros; exact eq_ld rfl rfl,
   by intros; exact eq_push rfl,
   by intros; exact eq_i2 (o := mx_and) rfl,
   by intros; exact eq_if1 rfl,
   by intros; exact eq_push rfl,
   by intros; exact eq_go rfl,
   by intros; exact eq_push rfl,
   by intros; exact eq_rr rfl⟩
theorem rh_X12_isAlike_4 : ∀ (d : Nat) (x : Int) (l0 l1 l2 l4 : Option mx_V) (S h : mx_H) (n : Int), mx_ex d 214 4 [l0, l1, l2, some (0, x), l4] [] S h n = mx_ex d 214 5 [l0, l1, l2, some (0, x), l4] [(0, x)] S h n := by intros; exact eq_ld rfl rfl
theorem rh_X12_isAlike_47 : ∀ (d : Nat) (x : Int) (l0 l1 l2 l3 : Option mx_V) (S h : mx_H) (n : Int), mx_ex d 214 47 [l0, l1, l2, l3, some (0, x)] [] S h n = mx_ex d 214 49 [l0, l1, l2, l3, some (0, x)] [(0, x)] S h n := by intros; exact eq_ld rfl rfl
theorem rw_X12_isAlike :
  (∀ (d : Nat) (a0 a1 : Int) (S h : mx_H) (n : Int), mx_M d 214 [(0, a0), (0, a1)] S h n = mx_ex d 214 0 [some (0, a0), some (0, a1), none, none, none] [] S h n) ∧
  (∀ (d : Nat) (l0 l1 l2 l3 l4 : Option mx_V) (S h : mx_H) (n : Int), mx_ex d 214 0 [l0, l1, l2, l3, l4] [] S h n = mx_ex d 214 1 [l0, l1, l2, l3, l4] [(0, 0)] S h n) ∧
  (∀ (d : Nat) (x : Int) (l0 l1 l2 l3 l4 : Option mx_V) (S h : mx_H) (n : Int), mx_ex d 214 1 [l0, l1, l2, l3, l4] [(0, x)] S h n = mx_ex d 214 2 [l0, mx_nl l1, some (0, x), l3, l4] [] S h n) ∧
  (∀ (d : Nat) (l0 l1 l2 l3 l4 : Option mx_V) (S h : mx_H) (n : Int), mx_ex d 214 2 [l0, l1, l2, l3, l4] [] S h n = mx_ex d 214 3 [l0, l1, l2, l3, l4] [(0, 2)] S h n) ∧
  (∀ (d : Nat) (x : Int) (l0 l1 l2 l3 l4 : Option mx_V) (S h : mx_H) (n : Int), mx_ex d 214 3 [l0, l1, l2, l3, l4] [(0, x)] S h n = mx_ex d 214 4 [l0, l1, mx_nl l2, some (0, x), l4] [] S h n) ∧
  (∀ (d : Nat) (l0 l1 l2 l3 l4 : Option mx_V) (v0 : mx_V) (S h : mx_H) (n : Int), mx_ex d 214 5 [l0, l1, l2, l3, l4] [v0] S h n = mx_ex d 214 7 [l0, l1, l2, l3, l4] [(0, 16), v0] S h n) ∧
  (∀ (d : Nat) (b a : Int) (l0 l1 l2 l3 l4 : Option mx_V) (S h : mx_H) (n : Int), mx_ex d 214 7 [l0, l1, l2, l3, l4] [(0, b), (0, a)] S h n = mx_br (b < a) d 214 88 10 [l0, l1, l2, l3, l4] [] S h n) ∧
  (∀ (d : Nat) (x : Int) (l0 l2 l3 l4 : Option mx_V) (S h : mx_H) (n : Int), mx_ex d 214 10 [l0, some (0, x), l2, l3, l4] [] S h n = mx_ex d 214 11 [l0, some (0, x), l2, l3, l4] [(0, x)] S h n) ∧
  (∀ (d : Nat) (x : Int) (l0 l1 l2 l4 : Option mx_V) (v0 : mx_V) (S h : mx_H) (n : Int), mx_ex d 214 11 [l0, l1, l2, some (0, x), l4] [v0] S h n = mx_ex d 214 12 [l0, l1, l2, some (0, x), l4] [(0, x), v0] S h n) ∧
  (∀ (d : Nat) (b a : Int) (l0 l1 l2 l3 l4 : Option mx_V) (S h : mx_H) (n : Int), mx_ex d 214 12 [l0, l1, l2, l3, l4] [(0, b), (0, a)] S h n = mx_ex d 214 13 [l0, l1, l2, l3, l4] [(0, mx_shr a b)] S h n) ∧
  (∀ (d : Nat) (l0 l1 l2 l3 l4 : Option mx_V) (v0 : mx_V) (S h : mx_H) (n : Int), mx_ex d 214 13 [l0, l1, l2, l3, l4] [v0] S h n = mx_ex d 214 14 [l0, l1, l2, l3, l4] [(0, 1), v0] S h n) ∧
  (∀ (d : Nat) (b a : Int) (l0 l1 l2 l3 l4 : Option mx_V) (S h : mx_H) (n : Int), mx_ex d 214 14 [l0, l1, l2, l3, l4] [(0, b), (0, a)] S h n = mx_ex d 214 15 [l0, l1, l2, l3, l4] [(0, mx_and a b)] S h n) ∧
  (∀ (d : Nat) (l0 l1 l2 l3 l4 : Option mx_V) (v0 : mx_V) (S h : mx_H) (n : Int), mx_ex d 214 15 [l0, l1, l2, l3, l4] [v0] S h n = mx_ex d 214 16 [l0, l1, l2, l3, l4] [(0, 1), v0] S h n) ∧
  (∀ (d : Nat) (b a : Int) (l0 l1 l2 l3 l4 : Option mx_V) (S h : mx_H) (n : Int), mx_ex d 214 16 [l0, l1, l2, l3, l4] [(0, b), (0, a)] S h n = mx_br (a = b) d 214 19 82 [l0, l1, l2, l3, l4] [] S h n) ∧
  (∀ (d : Nat) (x : Int) (l0 l1 l3 l4 : Option mx_V) (S h : mx_H) (n : Int), mx_ex d 214 19 [l0, l1, some (0, x), l3, l4] [] S h n = mx_ex d 214 20 [l0, l1, some (0, x), l3, l4] [(0, x)] S h n) ∧
  (∀ (d : Nat) (a : Int) (l0 l1 l2 l3 l4 : Option mx_V) (S h : mx_H) (n : Int), mx_ex d 214 20 [l0, l1, l2, l3, l4] [(0, a)] S h n = mx_br (a = 0) d 214 23 27 [l0, l1, l2, l3, l4] [] S h n) ∧
  (∀ (d : Nat) (x : Int) (l0 l1 l2 l4 : Option mx_V) (S h : mx_H) (n : Int), mx_ex d 214 23 [l0, l1, l2, some (0, x), l4] [] S h n = mx_ex d 214 24 [l0, l1, l2, some (0, x), l4] [(0, x)] S h n) ∧
  (∀ (d : Nat) (l0 l1 l2 l3 l4 : Option mx_V) (v0 : mx_V) (S h : mx_H) (n : Int), mx_ex d 214 24 [l0, l1, l2, l3, l4] [v0] S h n = mx_ex d 214 28 [l0, l1, l2, l3, l4] [v0] S h n) ∧
  (∀ (d : Nat) (x : Int) (l0 l1 l3 l4 : Option mx_V) (S h : mx_H) (n : Int), mx_ex d 214 27 [l0, l1, some (0, x), l3, l4] [] S h n = mx_ex d 214 28 [l0, l1, some (0, x), l3, l4] [(0, x)] S h n) ∧
  (∀ (d : Nat) (x : Int) (l0 l1 l2 l3 l4 : Option mx_V) (S h : mx_H) (n : Int), mx_ex d 214 28 [l0, l1, l2, l3, l4] [(0, x)] S h n = mx_ex d 214 29 [l0, mx_nl l1, some (0, x), l3, l4] [] S h n) ∧
  (∀ (d : Nat) (x : Int) (l1 l2 l3 l4 : Option mx_V) (S h : mx_H) (n : Int), mx_ex d 214 29 [some (0, x), l1, l2, l3, l4] [] S h n = mx_ex d 214 30 [some (0, x), l1, l2, l3, l4] [(0, x)] S h n) ∧
  (∀ (d : Nat) (x : Int) (l0 l1 l2 l4 : Option mx_V) (v0 : mx_V) (S h : mx_H) (n : Int), mx_ex d 214 30 [l0, l1, l2, some (0, x), l4] [v0] S h n = mx_ex d 214 31 [l0, l1, l2, some (0, x), l4] [(0, x), v0] S h n) ∧
  (∀ (d : Nat) (x0 x1 : Int) (l0 l1 l2 l3 l4 : Option mx_V) (S h : mx_H) (n : Int), mx_ex (d + 1) 214 31 [l0, l1, l2, l3, l4] [(0, x0), (0, x1)] S h n = mx_rt (mx_M d 210 [(0, x1), (0, x0)] S h n) (d + 1) 214 34 [l0, l1, l2, l3, l4] []) ∧
  (∀ (d : Nat) (x : Int) (l1 l2 l3 l4 : Option mx_V) (v0 : mx_V) (S h : mx_H) (n : Int), mx_ex d 214 34 [some (0, x), l1, l2, l3, l4] [v0] S h n = mx_ex d 214 35 [some (0, x), l1, l2, l3, l4] [(0, x), v0] S h n) ∧
  (∀ (d : Nat) (x : Int) (l0 l1 l3 l4 : Option mx_V) (v0 v1 : mx_V) (S h : mx_H) (n : Int), mx_ex d 214 35 [l0, l1, some (0, x), l3, l4] [v0, v1] S h n = mx_ex d 214 36 [l0, l1, some (0, x), l3, l4] [(0, x), v0, v1] S h n) ∧
  (∀ (d : Nat) (x0 x1 : Int) (l0 l1 l2 l3 l4 : Option mx_V) (v2 : mx_V) (S h : mx_H) (n : Int), mx_ex (d + 1) 214 36 [l0, l1, l2, l3, l4] [(0, x0), (0, x1), v2] S h n = mx_rt (mx_M d 210 [(0, x1), (0, x0)] S h n) (d + 1) 214 39 [l0, l1, l2, l3, l4] [v2]) ∧
  (∀ (d : Nat) (b a : Int) (l0 l1 l2 l3 l4 : Option mx_V) (S h : mx_H) (n : Int), mx_ex d 214 39 [l0, l1, l2, l3, l4] [(0, b), (0, a)] S h n = mx_br (a = b) d 214 44 42 [l0, l1, l2, l3, l4] [] S h n) ∧
  (∀ (d : Nat) (l0 l1 l2 l3 l4 : Option mx_V) (S h : mx_H) (n : Int), mx_ex d 214 42 [l0, l1, l2, l3, l4] [] S h n = mx_ex d 214 43 [l0, l1, l2, l3, l4] [(0, 0)] S h n) ∧
  (∀ (d : Nat) (x : Int) (l0 l1 l2 l3 l4 : Option mx_V) (S h : mx_H) (n : Int), mx_ex d 214 43 [l0, l1, l2, l3, l4] [(0, x)] S h n = mx_re (0 ≤ x ∧ x ≤ 1) (some (0, x)) S h n) ∧
  (∀ (d : Nat) (l0 l1 l2 l3 l4 : Option mx_V) (S h : mx_H) (n : Int), mx_ex d 214 44 [l0, l1, l2, l3, l4] [] S h n = mx_ex d 214 45 [l0, l1, l2, l3, l4] [(0, 0)] S h n) ∧
  (∀ (d : Nat) (x : Int) (l0 l1 l2 l3 l4 : Option mx_V) (S h : mx_H) (n : Int), mx_ex d 214 45 [l0, l1, l2, l3, l4] [(0, x)] S h n = mx_ex d 214 47 [l0, l1, l2, mx_nl l3, some (0, x)] [] S h n) ∧
  (∀ (d : Nat) (x : Int) (l1 l2 l3 l4 : Option mx_V) (v0 : mx_V) (S h : mx_H) (n : Int), mx_ex d 214 49 [some (0, x), l1, l2, l3, l4] [v0] S h n = mx_ex d 214 50 [some (0, x), l1, l2, l3, l4] [(0, x), v0] S h n) ∧
  (∀ (d : Nat) (x : Int) (l0 l1 l2 l4 : Option mx_V) (v0 v1 : mx_V) (S h : mx_H) (n : Int), mx_ex d 214 50 [l0, l1, l2, some (0, x), l4] [v0, v1] S h n = mx_ex d 214 51 [l0, l1, l2, some (0, x), l4] [(0, x), v0, v1] S h n) ∧
  (∀ (d : Nat) (x0 x1 : Int) (l0 l1 l2 l3 l4 : Option mx_V) (v2 : mx_V) (S h : mx_H) (n : Int), mx_ex (d + 1) 214 51 [l0, l1, l2, l3, l4] [(0, x0), (0, x1), v2] S h n = mx_rt (mx_M d 210 [(0, x1), (0, x0)] S h n) (d + 1) 214 54 [l0, l1, l2, l3, l4] [v2]) ∧
  (∀ (d : Nat) (b a : Int) (l0 l1 l2 l3 l4 : Option mx_V) (S h : mx_H) (n : Int), mx_ex d 214 54 [l0, l1, l2, l3, l4] [(0, b), (0, a)] S h n = mx_br (a < b) d 214 57 82 [l0, l1, l2, l3, l4] [] S h n) ∧
  (∀ (d : Nat) (x : Int) (l1 l2 l3 l4 : Option mx_V) (S h : mx_H) (n : Int), mx_ex d 214 57 [some (0, x), l1, l2, l3, l4] [] S h n = mx_ex d 214 58 [some (0, x), l1, l2, l3, l4] [(0, x)] S h n) ∧
  (∀ (d : Nat) (x : Int) (l0 l1 l2 l4 : Option mx_V) (v0 : mx_V) (S h : mx_H) (n : Int), mx_ex d 214 58 [l0, l1, l2, some (0, x), l4] [v0] S h n = mx_ex d 214 59 [l0, l1, l2, some (0, x), l4] [(0, x), v0] S h n) ∧
  (∀ (d : Nat) (x : Int) (l0 l1 l2 l3 : Option mx_V) (v0 v1 : mx_V) (S h : mx_H) (n : Int), mx_ex d 214 59 [l0, l1, l2, l3, some (0, x)] [v0, v1] S h n = mx_ex d 214 61 [l0, l1, l2, l3, some (0, x)] [(0, x), v0, v1] S h n) ∧
  (∀ (d : Nat) (x0 x1 x2 : Int) (l0 l1 l2 l3 l4 : Option mx_V) (S h : mx_H) (n : Int), mx_ex (d + 1) 214 61 [l0, l1, l2, l3, l4] [(0, x0), (0, x1), (0, x2)] S h n = mx_rt (mx_M d 211 [(0, x2), (0, x1), (0, x0)] S h n) (d + 1) 214 64 [l0, l1, l2, l3, l4] []) ∧
  (∀ (d : Nat) (x : Int) (l1 l2 l3 l4 : Option mx_V) (v0 : mx_V) (S h : mx_H) (n : Int), mx_ex d 214 64 [some (0, x), l1, l2, l3, l4] [v0] S h n = mx_ex d 214 65 [some (0, x), l1, l2, l3, l4] [(0, x), v0] S h n) ∧
  (∀ (d : Nat) (x : Int) (l0 l1 l3 l4 : Option mx_V) (v0 v1 : mx_V) (S h : mx_H) (n : Int), mx_ex d 214 65 [l0, l1, some (0, x), l3, l4] [v0, v1] S h n = mx_ex d 214 66 [l0, l1, some (0, x), l3, l4] [(0, x), v0, v1] S h n) ∧
  (∀ (d : Nat) (x : Int) (l0 l1 l2 l3 : Option mx_V) (v0 v1 v2 : mx_V) (S h : mx_H) (n : Int), mx_ex d 214 66 [l0, l1, l2, l3, some (0, x)] [v0, v1, v2] S h n = mx_ex d 214 68 [l0, l1, l2, l3, some (0, x)] [(0, x), v0, v1, v2] S h n) ∧
  (∀ (d : Nat) (x0 x1 x2 : Int) (l0 l1 l2 l3 l4 : Option mx_V) (v3 : mx_V) (S h : mx_H) (n : Int), mx_ex (d + 1) 214 68 [l0, l1, l2, l3, l4] [(0, x0), (0, x1), (0, x2), v3] S h n = mx_rt (mx_M d 211 [(0, x2), (0, x1), (0, x0)] S h n) (d + 1) 214 71 [l0, l1, l2, l3, l4] [v3]) ∧
  (∀ (d : Nat) (b a : Int) (l0 l1 l2 l3 l4 : Option mx_V) (S h : mx_H) (n : Int), mx_ex d 214 71 [l0, l1, l2, l3, l4] [(0, b), (0, a)] S h n = mx_br (a = b) d 214 76 74 [l0, l1, l2, l3, l4] [] S h n) ∧
  (∀ (d : Nat) (l0 l1 l2 l3 l4 : Option mx_V) (S h : mx_H) (n : Int), mx_ex d 214 74 [l0, l1, l2, l3, l4] [] S h n = mx_ex d 214 75 [l0, l1, l2, l3, l4] [(0, 0)] S h n) ∧
  (∀ (d : Nat) (x : Int) (l0 l1 l2 l3 l4 : Option mx_V) (S h : mx_H) (n : Int), mx_ex d 214 75 [l0, l1, l2, l3, l4] [(0, x)] S h n = mx_re (0 ≤ x ∧ x ≤ 1) (some (0, x)) S h n) ∧
  (∀ (d : Nat) (x : Int) (l0 l1 l2 l3 : Option mx_V) (S h : mx_H) (n : Int), mx_ex d 214 76 [l0, l1, l2, l3, some (0, x)] [] S h n = mx_ex d 214 79 [l0, l1, l2, mx_nl l3, some (0, mx_w (x + 1))] [] S h n) ∧
  (∀ (d : Nat) (l0 l1 l2 l3 l4 : Option mx_V) (S h : mx_H) (n : Int), mx_ex d 214 79 [l0, l1, l2, l3, l4] [] S h n = mx_ex d 214 47 [l0, l1, l2, l3, l4] [] S h n) ∧
  (∀ (d : Nat) (x : Int) (l0 l1 l2 l4 : Option mx_V) (S h : mx_H) (n : Int), mx_ex d 214 82 [l0, l1, l2, some (0, x), l4] [] S h n = mx_ex d 214 85 [l0, l1, mx_nl l2, some (0, mx_w (x + 1)), l4] [] S h n) ∧
  (∀ (d : Nat) (l0 l1 l2 l3 l4 : Option mx_V) (S h : mx_H) (n : Int), mx_ex d 214 85 [l0, l1, l2, l3, l4] [] S h n = mx_ex d 214 4 [l0, l1, l2, l3, l4] [] S h n) ∧
  (∀ (d : Nat) (l0 l1 l2 l3 l4 : Option mx_V) (S h : mx_H) (n : Int), mx_ex d 214 88 [l0, l1, l2, l3, l4] [] S h n = mx_ex d 214 89 [l0, l1, l2, l3, l4] [(0, 1)] S h n) ∧
  (∀ (d : Nat) (x : Int) (l0 l1 l2 l3 l4 : Option mx_V) (S h : mx_H) (n : Int), mx_ex d 214 89 [l0, l1, l2, l3, l4] [(0, x)] S h n = mx_re (0 ≤ x ∧ x ≤ 1) (some (0, x)) S h n) :=
  ⟨by intros; exact rfl,
   by intros; exact eq_push rfl,
   by intros; exact eq_st rfl (by decide) (Nat.le_of_ble_eq_true rfl) rfl,
   by intros; exact eq_push rfl,
   by intros; exact eq_st rfl (by decide) (Nat.le_of_ble_eq_true rfl) rfl,
   by intros; exact eq_push rfl,
   by intros; exact eq_ic4 rfl,
   by intros; exact eq_ld rfl rfl,
   by intros; exact eq_ld rfl rfl,
   by intros; exact eq_i2 (o := mx_shr) rfl,
   by intros; exact eq_push rfl,
   by intros; exact eq_i2 (o := mx_and) rfl,
   by intros; exact eq_push rfl,
   by intros; exact eq_ic1 rfl,
   by intros; exact eq_ld rfl rfl,
   by intros; exact eq_if1 rfl,
   by intros; exact eq_ld rfl rfl,
   by intros; exact eq_go rfl,
   by intros; exact eq_ld rfl rfl,
   by intros; exact eq_st rfl (by decide) (Nat.le_of_ble_eq_true rfl) rfl,
   by intros; exact eq_ld rfl rfl,
   by intros; exact eq_ld rfl rfl,
   by intros; exact eq_cs rfl (Nat.le_of_ble_eq_true rfl) rfl rfl rfl (Nat.le_of_ble_eq_true rfl),
   by intros; exact eq_ld rfl rfl,
   by intros; exact eq_ld rfl rfl,
   by intros; exact eq_cs rfl (Nat.le_of_ble_eq_true rfl) rfl rfl rfl (Nat.le_of_ble_eq_true rfl),
   by intros; exact eq_ic0 rfl,
   by intros; exact eq_push rfl,
   by intros; exact eq_rr rfl,
   by intros; exact eq_push rfl,
   by intros; exact eq_st rfl (by decide) (Nat.le_of_ble_eq_true rfl) rfl,
   by intros; exact eq_ld rfl rfl,
   by intros; exact eq_ld rfl rfl,
   by intros; exact eq_cs rfl (Nat.le_of_ble_eq_true rfl) rfl rfl rfl (Nat.le_of_ble_eq_true rfl),
   by intros; exact eq_ic3 rfl,
   by intros; exact eq_ld rfl rfl,
   by intros; exact eq_ld rfl rfl,
   by intros; exact eq_ld rfl rfl,
   by intros; exact eq_cs rfl (Nat.le_of_ble_eq_true rfl) rfl rfl rfl (Nat.le_of_ble_eq_true rfl),
   by intros; exact eq_ld rfl rfl,
   by intros; exact eq_ld rfl rfl,
   by intros; exact eq_ld rfl rfl,
   by intros; exact eq_cs rfl (Nat.le_of_ble_eq_true rfl) rfl rfl rfl (Nat.le_of_ble_eq_true rfl),
   by intros; exact eq_ic0 rfl,
   by intros; exact eq_push rfl,
   by intros; exact eq_rr rfl,
   by intros; exact eq_inc rfl rfl rfl,
   by intros; exact eq_go rfl,
   by intros; exact eq_inc rfl rfl rfl,
   by intros; exact eq_go rfl,
   by intros; exact eq_push rfl,
   by intros; exact eq_rr rfl⟩
theorem rh_X12_alike_22 : ∀ (d : Nat) (x : Int) (l0 l1 l2 : Option mx_V) (S h : mx_H) (n : Int), mx_ex d 215 22 [l0, l1, l2, some (0, x)] [] S h n = mx_ex d 215 23 [l0, l1, l2, some (0, x)] [(0, x)] S h n := by intros; exact eq_ld rfl rfl
theorem rw_X12_alike :
  (∀ (d : Nat) (a0 a1 a2 : Int) (S h : mx_H) (n : Int), mx_M d 215 [(2, a0), (0, a1), (0, a2)] S h n = mx_ex d 215 0 [some (2, a0), some (0, a1), some (0, a2), none] [] S h n) ∧
  (∀ (d : Nat) (x : Int) (l0 l2 l3 : Option mx_V) (S h : mx_H) (n : Int), mx_ex d 215 0 [l0, some (0, x), l2, l3] [] S h n = mx_ex d 215 1 [l0, some (0, x), l2, l3] [(0, x)] S h n) ∧
  (∀ (d : Nat) (x0 : Int) (l0 l1 l2 l3 : Option mx_V) (S h : mx_H) (n : Int), mx_ex (d + 1) 215 1 [l0, l1, l2, l3] [(0, x0)] S h n = mx_rt (mx_M d 213 [(0, x0)] S h n) (d + 1) 215 4 [l0, l1, l2, l3] []) ∧
  (∀ (d : Nat) (a : Int) (l0 l1 l2 l3 : Option mx_V) (S h : mx_H) (n : Int), mx_ex d 215 4 [l0, l1, l2, l3] [(0, a)] S h n = mx_br (a = 0) d 215 18 7 [l0, l1, l2, l3] [] S h n) ∧
  (∀ (d : Nat) (x : Int) (l0 l1 l3 : Option mx_V) (S h : mx_H) (n : Int), mx_ex d 215 7 [l0, l1, some (0, x), l3] [] S h n = mx_ex d 215 8 [l0, l1, some (0, x), l3] [(0, x)] S h n) ∧
  (∀ (d : Nat) (l0 l1 l2 l3 : Option mx_V) (v0 : mx_V) (S h : mx_H) (n : Int), mx_ex d 215 8 [l0, l1, l2, l3] [v0] S h n = mx_ex d 215 9 [l0, l1, l2, l3] [(0, 0), v0] S h n) ∧
  (∀ (d : Nat) (l0 l1 l2 l3 : Option mx_V) (v0 v1 : mx_V) (S h : mx_H) (n : Int), mx_ex d 215 9 [l0, l1, l2, l3] [v0, v1] S h n = mx_ex d 215 12 [l0, l1, l2, l3] [(0, 9999), v0, v1] S h n) ∧
  (∀ (d : Nat) (x0 x1 x2 : Int) (l0 l1 l2 l3 : Option mx_V) (S h : mx_H) (n : Int), mx_ex (d + 1) 215 12 [l0, l1, l2, l3] [(0, x0), (0, x1), (0, x2)] S h n = mx_rt (mx_M d 159 [(0, x2), (0, x1), (0, x0)] S h n) (d + 1) 215 15 [l0, l1, l2, l3] []) ∧
  (∀ (d : Nat) (a : Int) (l0 l1 l2 l3 : Option mx_V) (S h : mx_H) (n : Int), mx_ex d 215 15 [l0, l1, l2, l3] [(0, a)] S h n = mx_br (a = 0) d 215 18 20 [l0, l1, l2, l3] [] S h n) ∧
  (∀ (d : Nat) (l0 l1 l2 l3 : Option mx_V) (S h : mx_H) (n : Int), mx_ex d 215 18 [l0, l1, l2, l3] [] S h n = mx_ex d 215 19 [l0, l1, l2, l3] [(0, (-1))] S h n) ∧
  (∀ (d : Nat) (x : Int) (l0 l1 l2 l3 : Option mx_V) (S h : mx_H) (n : Int), mx_ex d 215 19 [l0, l1, l2, l3] [(0, x)] S h n = some (some (0, x), S, h, n)) ∧
  (∀ (d : Nat) (x : Int) (l0 l1 l3 : Option mx_V) (S h : mx_H) (n : Int), mx_ex d 215 20 [l0, l1, some (0, x), l3] [] S h n = mx_ex d 215 21 [l0, l1, some (0, x), l3] [(0, x)] S h n) ∧
  (∀ (d : Nat) (x : Int) (l0 l1 l2 l3 : Option mx_V) (S h : mx_H) (n : Int), mx_ex d 215 21 [l0, l1, l2, l3] [(0, x)] S h n = mx_ex d 215 22 [l0, l1, mx_nl l2, some (0, x)] [] S h n) ∧
  (∀ (d : Nat) (l0 l1 l2 l3 : Option mx_V) (v0 : mx_V) (S h : mx_H) (n : Int), mx_ex d 215 23 [l0, l1, l2, l3] [v0] S h n = mx_ex d 215 26 [l0, l1, l2, l3] [(0, 9999), v0] S h n) ∧
  (∀ (d : Nat) (b a : Int) (l0 l1 l2 l3 : Option mx_V) (S h : mx_H) (n : Int), mx_ex d 215 26 [l0, l1, l2, l3] [(0, b), (0, a)] S h n = mx_br (b < a) d 215 45 29 [l0, l1, l2, l3] [] S h n) ∧
  (∀ (d : Nat) (x : Int) (l0 l1 l2 : Option mx_V) (S h : mx_H) (n : Int), mx_ex d 215 29 [l0, l1, l2, some (0, x)] [] S h n = mx_ex d 215 30 [l0, l1, l2, some (0, x)] [(0, x)] S h n) ∧
  (∀ (d : Nat) (x : Int) (l0 l2 l3 : Option mx_V) (v0 : mx_V) (S h : mx_H) (n : Int), mx_ex d 215 30 [l0, some (0, x), l2, l3] [v0] S h n = mx_ex d 215 31 [l0, some (0, x), l2, l3] [(0, x), v0] S h n) ∧
  (∀ (d : Nat) (x0 x1 : Int) (l0 l1 l2 l3 : Option mx_V) (S h : mx_H) (n : Int), mx_ex (d + 1) 215 31 [l0, l1, l2, l3] [(0, x0), (0, x1)] S h n = mx_rt (mx_M d 214 [(0, x1), (0, x0)] S h n) (d + 1) 215 34 [l0, l1, l2, l3] []) ∧
  (∀ (d : Nat) (a : Int) (l0 l1 l2 l3 : Option mx_V) (S h : mx_H) (n : Int), mx_ex d 215 34 [l0, l1, l2, l3] [(0, a)] S h n = mx_br (a = 0) d 215 39 37 [l0, l1, l2, l3] [] S h n) ∧
  (∀ (d : Nat) (x : Int) (l0 l1 l2 : Option mx_V) (S h : mx_H) (n : Int), mx_ex d 215 37 [l0, l1, l2, some (0, x)] [] S h n = mx_ex d 215 38 [l0, l1, l2, some (0, x)] [(0, x)] S h n) ∧
  (∀ (d : Nat) (x : Int) (l0 l1 l2 l3 : Option mx_V) (S h : mx_H) (n : Int), mx_ex d 215 38 [l0, l1, l2, l3] [(0, x)] S h n = some (some (0, x), S, h, n)) ∧
  (∀ (d : Nat) (x : Int) (l0 l1 l2 : Option mx_V) (S h : mx_H) (n : Int), mx_ex d 215 39 [l0, l1, l2, some (0, x)] [] S h n = mx_ex d 215 42 [l0, l1, mx_nl l2, some (0, mx_w (x + 1))] [] S h n) ∧
  (∀ (d : Nat) (l0 l1 l2 l3 : Option mx_V) (S h : mx_H) (n : Int), mx_ex d 215 42 [l0, l1, l2, l3] [] S h n = mx_ex d 215 22 [l0, l1, l2, l3] [] S h n) ∧
  (∀ (d : Nat) (l0 l1 l2 l3 : Option mx_V) (S h : mx_H) (n : Int), mx_ex d 215 45 [l0, l1, l2, l3] [] S h n = mx_ex d 215 47 [l0, l1, l2, l3] [(0, (-3))] S h n) ∧
  (∀ (d : Nat) (x : Int) (l0 l1 l2 l3 : Option mx_V) (S h : mx_H) (n : Int), mx_ex d 215 47 [l0, l1, l2, l3] [(0, x)] S h n = some (some (0, x), S, h, n)) :=
  ⟨by intros; exact rfl,
   by intros; exact eq_ld rfl rfl,
   by intros; exact eq_cs rfl (Nat.le_of_ble_eq_true rfl) rfl rfl rfl (Nat.le_of_ble_eq_true rfl),
   by intros; exact eq_if0 rfl,
   by intros; exact eq_ld rfl rfl,
   by intros; exact eq_push rfl,
   by intros; exact eq_push rfl,
   by intros; exact eq_cs rfl (Nat.le_of_ble_eq_true rfl) rfl rfl rfl (Nat.le_of_ble_eq_true rfl),
   by intros; exact eq_if1 rfl,
   by intros; exact eq_push rfl,
   by intros; exact eq_ret rfl,
   by intros; exact eq_ld rfl rfl,
   by intros; exact eq_st rfl (by decide) (Nat.le_of_ble_eq_true rfl) rfl,
   by intros; exact eq_push rfl,
   by intros; exact eq_ic4 rfl,
   by intros; exact eq_ld rfl rfl,
   by intros; exact eq_ld rfl rfl,
   by intros; exact eq_cs rfl (Nat.le_of_ble_eq_true rfl) rfl rfl rfl (Nat.le_of_ble_eq_true rfl),
   by intros; exact eq_if0 rfl,
   by intros; exact eq_ld rfl rfl,
   by intros; exact eq_ret rfl,
   by intros; exact eq_inc rfl rfl rfl,
   by intros; exact eq_go rfl,
   by intros; exact eq_push rfl,
   by intros; exact eq_ret rfl⟩
theorem rh_X12_shortest_25 : ∀ (d : Nat) (x : Int) (l0 l1 l2 l3 l5 : Option mx_V) (S h : mx_H) (n : Int), mx_ex d 216 25 [l0, l1, l2, l3, some (0, x), l5] [] S h n = mx_ex d 216 27 [l0, l1, l2, l3, some (0, x), l5] [(0, x)] S h n := by intros; exact eq_ld rfl rfl
theorem rw_X12_shortest :
  (∀ (d : Nat) (a0 a1 a2 : Int) (S h : mx_H) (n : Int), mx_M d 216 [(2, a0), (0, a1), (0, a2)] S h n = mx_ex d 216 0 [some (2, a0), some (0, a1), some (0, a2), none, none, none] [] S h n) ∧
  (∀ (d : Nat) (x : Int) (l0 l2 l3 l4 l5 : Option mx_V) (S h : mx_H) (n : Int), mx_ex d 216 0 [l0, some (0, x), l2, l3, l4, l5] [] S h n = mx_ex d 216 1 [l0, some (0, x), l2, l3, l4, l5] [(0, x)] S h n) ∧
  (∀ (d : Nat) (l0 l1 l2 l3 l4 l5 : Option mx_V) (v0 : mx_V) (S h : mx_H) (n : Int), mx_ex d 216 1 [l0, l1, l2, l3, l4, l5] [v0] S h n = mx_ex d 216 2 [l0, l1, l2, l3, l4, l5] [(0, 0), v0] S h n) ∧
  (∀ (d : Nat) (l0 l1 l2 l3 l4 l5 : Option mx_V) (v0 v1 : mx_V) (S h : mx_H) (n : Int), mx_ex d 216 2 [l0, l1, l2, l3, l4, l5] [v0, v1] S h n = mx_ex d 216 5 [l0, l1, l2, l3, l4, l5] [(0, 9999), v0, v1] S h n) ∧
  (∀ (d : Nat) (x0 x1 x2 : Int) (l0 l1 l2 l3 l4 l5 : Option mx_V) (S h : mx_H) (n : Int), mx_ex (d + 1) 216 5 [l0, l1, l2, l3, l4, l5] [(0, x0), (0, x1), (0, x2)] S h n = mx_rt (mx_M d 159 [(0, x2), (0, x1), (0, x0)] S h n) (d + 1) 216 8 [l0, l1, l2, l3, l4, l5] []) ∧
  (∀ (d : Nat) (a : Int) (l0 l1 l2 l3 l4 l5 : Option mx_V) (S h : mx_H) (n : Int), mx_ex d 216 8 [l0, l1, l2, l3, l4, l5] [(0, a)] S h n = mx_br (a = 0) d 216 18 11 [l0, l1, l2, l3, l4, l5] [] S h n) ∧
  (∀ (d : Nat) (x : Int) (l0 l1 l3 l4 l5 : Option mx_V) (S h : mx_H) (n : Int), mx_ex d 216 11 [l0, l1, some (0, x), l3, l4, l5] [] S h n = mx_ex d 216 12 [l0, l1, some (0, x), l3, l4, l5] [(0, x)] S h n) ∧
  (∀ (d : Nat) (x0 : Int) (l0 l1 l2 l3 l4 l5 : Option mx_V) (S h : mx_H) (n : Int), mx_ex (d + 1) 216 12 [l0, l1, l2, l3, l4, l5] [(0, x0)] S h n = mx_rt (mx_M d 213 [(0, x0)] S h n) (d + 1) 216 15 [l0, l1, l2, l3, l4, l5] []) ∧
  (∀ (d : Nat) (a : Int) (l0 l1 l2 l3 l4 l5 : Option mx_V) (S h : mx_H) (n : Int), mx_ex d 216 15 [l0, l1, l2, l3, l4, l5] [(0, a)] S h n = mx_br (a = 0) d 216 18 20 [l0, l1, l2, l3, l4, l5] [] S h n) ∧
  (∀ (d : Nat) (l0 l1 l2 l3 l4 l5 : Option mx_V) (S h : mx_H) (n : Int), mx_ex d 216 18 [l0, l1, l2, l3, l4, l5] [] S h n = mx_ex d 216 19 [l0, l1, l2, l3, l4, l5] [(0, (-1))] S h n) ∧
  (∀ (d : Nat) (x : Int) (l0 l1 l2 l3 l4 l5 : Option mx_V) (S h : mx_H) (n : Int), mx_ex d 216 19 [l0, l1, l2, l3, l4, l5] [(0, x)] S h n = some (some (0, x), S, h, n)) ∧
  (∀ (d : Nat) (l0 l1 l2 l3 l4 l5 : Option mx_V) (S h : mx_H) (n : Int), mx_ex d 216 20 [l0, l1, l2, l3, l4, l5] [] S h n = mx_ex d 216 21 [l0, l1, l2, l3, l4, l5] [(0, 0)] S h n) ∧
  (∀ (d : Nat) (x : Int) (l0 l1 l2 l3 l4 l5 : Option mx_V) (S h : mx_H) (n : Int), mx_ex d 216 21 [l0, l1, l2, l3, l4, l5] [(0, x)] S h n = mx_ex d 216 22 [l0, l1, mx_nl l2, some (0, x), l4, l5] [] S h n) ∧
  (∀ (d : Nat) (l0 l1 l2 l3 l4 l5 : Option mx_V) (S h : mx_H) (n : Int), mx_ex d 216 22 [l0, l1, l2, l3, l4, l5] [] S h n = mx_ex d 216 23 [l0, l1, l2, l3, l4, l5] [(0, 2)] S h n) ∧
  (∀ (d : Nat) (x : Int) (l0 l1 l2 l3 l4 l5 : Option mx_V) (S h : mx_H) (n : Int), mx_ex d 216 23 [l0, l1, l2, l3, l4, l5] [(0, x)] S h n = mx_ex d 216 25 [l0, l1, l2, mx_nl l3, some (0, x), l5] [] S h n) ∧
  (∀ (d : Nat) (l0 l1 l2 l3 l4 l5 : Option mx_V) (v0 : mx_V) (S h : mx_H) (n : Int), mx_ex d 216 27 [l0, l1, l2, l3, l4, l5] [v0] S h n = mx_ex d 216 29 [l0, l1, l2, l3, l4, l5] [(0, 16), v0] S h n) ∧
  (∀ (d : Nat) (b a : Int) (l0 l1 l2 l3 l4 l5 : Option mx_V) (S h : mx_H) (n : Int), mx_ex d 216 29 [l0, l1, l2, l3, l4, l5] [(0, b), (0, a)] S h n = mx_br (b < a) d 216 85 32 [l0, l1, l2, l3, l4, l5] [] S h n) ∧
  (∀ (d : Nat) (x : Int) (l0 l1 l3 l4 l5 : Option mx_V) (S h : mx_H) (n : Int), mx_ex d 216 32 [l0, l1, some (0, x), l3, l4, l5] [] S h n = mx_ex d 216 33 [l0, l1, some (0, x), l3, l4, l5] [(0, x)] S h n) ∧
  (∀ (d : Nat) (x : Int) (l0 l1 l2 l3 l5 : Option mx_V) (v0 : mx_V) (S h : mx_H) (n : Int), mx_ex d 216 33 [l0, l1, l2, l3, some (0, x), l5] [v0] S h n = mx_ex d 216 35 [l0, l1, l2, l3, some (0, x), l5] [(0, x), v0] S h n) ∧
  (∀ (d : Nat) (b a : Int) (l0 l1 l2 l3 l4 l5 : Option mx_V) (S h : mx_H) (n : Int), mx_ex d 216 35 [l0, l1, l2, l3, l4, l5] [(0, b), (0, a)] S h n = mx_ex d 216 36 [l0, l1, l2, l3, l4, l5] [(0, mx_shr a b)] S h n) ∧
  (∀ (d : Nat) (l0 l1 l2 l3 l4 l5 : Option mx_V) (v0 : mx_V) (S h : mx_H) (n : Int), mx_ex d 216 36 [l0, l1, l2, l3, l4, l5] [v0] S h n = mx_ex d 216 37 [l0, l1, l2, l3, l4, l5] [(0, 1), v0] S h n) ∧
  (∀ (d : Nat) (b a : Int) (l0 l1 l2 l3 l4 l5 : Option mx_V) (S h : mx_H) (n : Int), mx_ex d 216 37 [l0, l1, l2, l3, l4, l5] [(0, b), (0, a)] S h n = mx_ex d 216 38 [l0, l1, l2, l3, l4, l5] [(0, mx_and a b)] S h n) ∧
  (∀ (d : Nat) (l0 l1 l2 l3 l4 l5 : Option mx_V) (v0 : mx_V) (S h : mx_H) (n : Int), mx_ex d 216 38 [l0, l1, l2, l3, l4, l5] [v0] S h n = mx_ex d 216 39 [l0, l1, l2, l3, l4, l5] [(0, 1), v0] S h n) ∧
  (∀ (d : Nat) (b a : Int) (l0 l1 l2 l3 l4 l5 : Option mx_V) (S h : mx_H) (n : Int), mx_ex d 216 39 [l0, l1, l2, l3, l4, l5] [(0, b), (0, a)] S h n = mx_br (a = b) d 216 42 64 [l0, l1, l2, l3, l4, l5] [] S h n) ∧
  (∀ (d : Nat) (x : Int) (l0 l1 l2 l4 l5 : Option mx_V) (S h : mx_H) (n : Int), mx_ex d 216 42 [l0, l1, l2, some (0, x), l4, l5] [] S h n = mx_ex d 216 43 [l0, l1, l2, some (0, x), l4, l5] [(0, x)] S h n) ∧
  (∀ (d : Nat) (a : Int) (l0 l1 l2 l3 l4 l5 : Option mx_V) (S h : mx_H) (n : Int), mx_ex d 216 43 [l0, l1, l2, l3, l4, l5] [(0, a)] S h n = mx_br (a = 0) d 216 60 46 [l0, l1, l2, l3, l4, l5] [] S h n) ∧
  (∀ (d : Nat) (x : Int) (l0 l2 l3 l4 l5 : Option mx_V) (S h : mx_H) (n : Int), mx_ex d 216 46 [l0, some (0, x), l2, l3, l4, l5] [] S h n = mx_ex d 216 47 [l0, some (0, x), l2, l3, l4, l5] [(0, x)] S h n) ∧
  (∀ (d : Nat) (x : Int) (l0 l1 l2 l3 l5 : Option mx_V) (v0 : mx_V) (S h : mx_H) (n : Int), mx_ex d 216 47 [l0, l1, l2, l3, some (0, x), l5] [v0] S h n = mx_ex d 216 49 [l0, l1, l2, l3, some (0, x), l5] [(0, x), v0] S h n) ∧
  (∀ (d : Nat) (x0 x1 : Int) (l0 l1 l2 l3 l4 l5 : Option mx_V) (S h : mx_H) (n : Int), mx_ex (d + 1) 216 49 [l0, l1, l2, l3, l4, l5] [(0, x0), (0, x1)] S h n = mx_rt (mx_M d 210 [(0, x1), (0, x0)] S h n) (d + 1) 216 52 [l0, l1, l2, l3, l4, l5] []) ∧
  (∀ (d : Nat) (x : Int) (l0 l2 l3 l4 l5 : Option mx_V) (v0 : mx_V) (S h : mx_H) (n : Int), mx_ex d 216 52 [l0, some (0, x), l2, l3, l4, l5] [v0] S h n = mx_ex d 216 53 [l0, some (0, x), l2, l3, l4, l5] [(0, x), v0] S h n) ∧
  (∀ (d : Nat) (x : Int) (l0 l1 l2 l4 l5 : Option mx_V) (v0 v1 : mx_V) (S h : mx_H) (n : Int), mx_ex d 216 53 [l0, l1, l2, some (0, x), l4, l5] [v0, v1] S h n = mx_ex d 216 54 [l0, l1, l2, some (0, x), l4, l5] [(0, x), v0, v1] S h n) ∧
  (∀ (d : Nat) (x0 x1 : Int) (l0 l1 l2 l3 l4 l5 : Option mx_V) (v2 : mx_V) (S h : mx_H) (n : Int), mx_ex (d + 1) 216 54 [l0, l1, l2, l3, l4, l5] [(0, x0), (0, x1), v2] S h n = mx_rt (mx_M d 210 [(0, x1), (0, x0)] S h n) (d + 1) 216 57 [l0, l1, l2, l3, l4, l5] [v2]) ∧
  (∀ (d : Nat) (b a : Int) (l0 l1 l2 l3 l4 l5 : Option mx_V) (S h : mx_H) (n : Int), mx_ex d 216 57 [l0, l1, l2, l3, l4, l5] [(0, b), (0, a)] S h n = mx_br (a < b) d 216 60 64 [l0, l1, l2, l3, l4, l5] [] S h n) ∧
  (∀ (d : Nat) (l0 l1 l2 l3 l4 l5 : Option mx_V) (S h : mx_H) (n : Int), mx_ex d 216 60 [l0, l1, l2, l3, l4, l5] [] S h n = mx_ex d 216 61 [l0, l1, l2, l3, l4, l5] [(0, 1)] S h n) ∧
  (∀ (d : Nat) (l0 l1 l2 l3 l4 l5 : Option mx_V) (v0 : mx_V) (S h : mx_H) (n : Int), mx_ex d 216 61 [l0, l1, l2, l3, l4, l5] [v0] S h n = mx_ex d 216 65 [l0, l1, l2, l3, l4, l5] [v0] S h n) ∧
  (∀ (d : Nat) (l0 l1 l2 l3 l4 l5 : Option mx_V) (S h : mx_H) (n : Int), mx_ex d 216 64 [l0, l1, l2, l3, l4, l5] [] S h n = mx_ex d 216 65 [l0, l1, l2, l3, l4, l5] [(0, 0)] S h n) ∧
  (∀ (d : Nat) (x : Int) (l0 l1 l2 l3 l4 l5 : Option mx_V) (S h : mx_H) (n : Int), mx_ex d 216 65 [l0, l1, l2, l3, l4, l5] [(0, x)] S h n = mx_ex d 216 67 [l0, l1, l2, l3, mx_nl l4, some (0, x)] [] S h n) ∧
  (∀ (d : Nat) (x : Int) (l0 l1 l2 l3 l4 : Option mx_V) (S h : mx_H) (n : Int), mx_ex d 216 67 [l0, l1, l2, l3, l4, some (0, x)] [] S h n = mx_ex d 216 69 [l0, l1, l2, l3, l4, some (0, x)] [(0, x)] S h n) ∧
  (∀ (d : Nat) (a : Int) (l0 l1 l2 l3 l4 l5 : Option mx_V) (S h : mx_H) (n : Int), mx_ex d 216 69 [l0, l1, l2, l3, l4, l5] [(0, a)] S h n = mx_br (a = 0) d 216 77 72 [l0, l1, l2, l3, l4, l5] [] S h n) ∧
  (∀ (d : Nat) (x : Int) (l0 l1 l2 l3 l5 : Option mx_V) (S h : mx_H) (n : Int), mx_ex d 216 72 [l0, l1, l2, l3, some (0, x), l5] [] S h n = mx_ex d 216 74 [l0, l1, l2, l3, some (0, x), l5] [(0, x)] S h n) ∧
  (∀ (d : Nat) (l0 l1 l2 l3 l4 l5 : Option mx_V) (v0 : mx_V) (S h : mx_H) (n : Int), mx_ex d 216 74 [l0, l1, l2, l3, l4, l5] [v0] S h n = mx_ex d 216 78 [l0, l1, l2, l3, l4, l5] [v0] S h n) ∧
  (∀ (d : Nat) (x : Int) (l0 l1 l2 l4 l5 : Option mx_V) (S h : mx_H) (n : Int), mx_ex d 216 77 [l0, l1, l2, some (0, x), l4, l5] [] S h n = mx_ex d 216 78 [l0, l1, l2, some (0, x), l4, l5] [(0, x)] S h n) ∧
  (∀ (d : Nat) (x : Int) (l0 l1 l2 l3 l4 l5 : Option mx_V) (S h : mx_H) (n : Int), mx_ex d 216 78 [l0, l1, l2, l3, l4, l5] [(0, x)] S h n = mx_ex d 216 79 [l0, l1, mx_nl l2, some (0, x), l4, l5] [] S h n) ∧
  (∀ (d : Nat) (x : Int) (l0 l1 l2 l3 l5 : Option mx_V) (S h : mx_H) (n : Int), mx_ex d 216 79 [l0, l1, l2, l3, some (0, x), l5] [] S h n = mx_ex d 216 82 [l0, l1, l2, mx_nl l3, some (0, mx_w (x + 1)), l5] [] S h n) ∧
  (∀ (d : Nat) (l0 l1 l2 l3 l4 l5 : Option mx_V) (S h : mx_H) (n : Int), mx_ex d 216 82 [l0, l1, l2, l3, l4, l5] [] S h n = mx_ex d 216 25 [l0, l1, l2, l3, l4, l5] [] S h n) ∧
  (∀ (d : Nat) (x : Int) (l0 l1 l2 l4 l5 : Option mx_V) (S h : mx_H) (n : Int), mx_ex d 216 85 [l0, l1, l2, some (0, x), l4, l5] [] S h n = mx_ex d 216 86 [l0, l1, l2, some (0, x), l4, l5] [(0, x)] S h n) ∧
  (∀ (d : Nat) (x : Int) (l0 l1 l2 l3 l4 l5 : Option mx_V) (S h : mx_H) (n : Int), mx_ex d 216 86 [l0, l1, l2, l3, l4, l5] [(0, x)] S h n = some (some (0, x), S, h, n)) :=
  ⟨by intros; exact rfl,
   by intros; exact eq_ld rfl rfl,
   by intros; exact eq_push rfl,
   by intros; exact eq_push rfl,
   by intros; exact eq_cs rfl (Nat.le_of_ble_eq_true rfl) rfl rfl rfl (Nat.le_of_ble_eq_true rfl),
   by intros; exact eq_if0 rfl,
   by intros; exact eq_ld rfl rfl,
   by intros; exact eq_cs rfl (Nat.le_of_ble_eq_true rfl) rfl rfl rfl (Nat.le_of_ble_eq_true rfl),
   by intros; exact eq_if1 rfl,
   by intros; exact eq_push rfl,
   by intros; exact eq_ret rfl,
   by intros; exact eq_push rfl,
   by intros; exact eq_st rfl (by decide) (Nat.le_of_ble_eq_true rfl) rfl,
   by intros; exact eq_push rfl,
   by intros; exact eq_st rfl (by decide) (Nat.le_of_ble_eq_true rfl) rfl,
   by intros; exact eq_push rfl,
   by intros; exact eq_ic4 rfl,
   by intros; exact eq_ld rfl rfl,
   by intros; exact eq_ld rfl rfl,
   by intros; exact eq_i2 (o := mx_shr) rfl,
   by intros; exact eq_push rfl,
   by intros; exact eq_i2 (o := mx_and) rfl,
   by intros; exact eq_push rfl,
   by intros; exact eq_ic1 rfl,
   by intros; exact eq_ld rfl rfl,
   by intros; exact eq_if0 rfl,
   by intros; exact eq_ld rfl rfl,
   by intros; exact eq_ld rfl rfl,
   by intros; exact eq_cs rfl (Nat.le_of_ble_eq_true rfl) rfl rfl rfl (Nat.le_of_ble_eq_true rfl),
   by intros; exact eq_ld rfl rfl,
   by intros; exact eq_ld rfl rfl,
   by intros; exact eq_cs rfl (Nat.le_of_ble_eq_true rfl) rfl rfl rfl (Nat.le_of_ble_eq_true rfl),
   by intros; exact eq_ic3 rfl,
   by intros; exact eq_push rfl,
   by intros; exact eq_go rfl,
   by intros; exact eq_push rfl,
   by intros; exact eq_st rfl (by decide) (Nat.le_of_ble_eq_true rfl) rfl,
   by intros; exact eq_ld rfl rfl,
   by intros; exact eq_if0 rfl,
   by intros; exact eq_ld rfl rfl,
   by intros; exact eq_go rfl,
   by intros; exact eq_ld rfl rfl,
   by intros; exact eq_st rfl (by decide) (Nat.le_of_ble_eq_true rfl) rfl,
   by intros; exact eq_inc rfl rfl rfl,
   by intros; exact eq_go rfl,
   by intros; exact eq_ld rfl rfl,
   by intros; exact eq_ret rfl⟩
theorem rw_X12_fromEnd :
  (∀ (d : Nat) (a0 a1 a2 : Int) (S h : mx_H) (n : Int), mx_M d 217 [(2, a0), (0, a1), (0, a2)] S h n = mx_ex d 217 0 [some (2, a0), some (0, a1), some (0, a2), none] [] S h n) ∧
  (∀ (d : Nat) (x : Int) (l1 l2 l3 : Option mx_V) (S h : mx_H) (n : Int), mx_ex d 217 0 [some (2, x), l1, l2, l3] [] S h n = mx_ex d 217 1 [some (2, x), l1, l2, l3] [(2, x)] S h n) ∧
  (∀ (d : Nat) (x : Int) (l0 l2 l3 : Option mx_V) (v0 : mx_V) (S h : mx_H) (n : Int), mx_ex d 217 1 [l0, some (0, x), l2, l3] [v0] S h n = mx_ex d 217 2 [l0, some (0, x), l2, l3] [(0, x), v0] S h n) ∧
  (∀ (d : Nat) (l0 l1 l2 l3 : Option mx_V) (v0 v1 : mx_V) (S h : mx_H) (n : Int), mx_ex d 217 2 [l0, l1, l2, l3] [v0, v1] S h n = mx_ex d 217 3 [l0, l1, l2, l3] [(0, 3), v0, v1] S h n) ∧
  (∀ (d : Nat) (x0 x1 a : Int) (l0 l1 l2 l3 : Option mx_V) (S h : mx_H) (n : Int), mx_ex (d + 1) 217 3 [l0, l1, l2, l3] [(0, x0), (0, x1), (2, a)] S h n = mx_cl (S a (-2) = 13) d 163 [(2, a), (0, x1), (0, x0)] 217 6 [l0, l1, l2, l3] [] S h n) ∧
  (∀ (d : Nat) (l0 l1 l2 l3 : Option mx_V) (v0 : mx_V) (S h : mx_H) (n : Int), mx_ex d 217 6 [l0, l1, l2, l3] [v0] S h n = mx_ex d 217 7 [l0, l1, l2, l3] [(0, 1), v0] S h n) ∧
  (∀ (d : Nat) (b a : Int) (l0 l1 l2 l3 : Option mx_V) (S h : mx_H) (n : Int), mx_ex d 217 7 [l0, l1, l2, l3] [(0, b), (0, a)] S h n = mx_ex d 217 8 [l0, l1, l2, l3] [(0, mx_w (a - b))] S h n) ∧
  (∀ (d : Nat) (x : Int) (l0 l1 l3 : Option mx_V) (v0 : mx_V) (S h : mx_H) (n : Int), mx_ex d 217 8 [l0, l1, some (0, x), l3] [v0] S h n = mx_ex d 217 9 [l0, l1, some (0, x), l3] [(0, x), v0] S h n) ∧
  (∀ (d : Nat) (b a : Int) (l0 l1 l2 l3 : Option mx_V) (S h : mx_H) (n : Int), mx_ex d 217 9 [l0, l1, l2, l3] [(0, b), (0, a)] S h n = mx_ex d 217 10 [l0, l1, l2, l3] [(0, mx_w (a - b))] S h n) ∧
  (∀ (d : Nat) (x : Int) (l0 l1 l2 l3 : Option mx_V) (S h : mx_H) (n : Int), mx_ex d 217 10 [l0, l1, l2, l3] [(0, x)] S h n = mx_ex d 217 11 [l0, l1, mx_nl l2, some (0, x)] [] S h n) ∧
  (∀ (d : Nat) (x : Int) (l0 l1 l2 : Option mx_V) (S h : mx_H) (n : Int), mx_ex d 217 11 [l0, l1, l2, some (0, x)] [] S h n = mx_ex d 217 12 [l0, l1, l2, some (0, x)] [(0, x)] S h n) ∧
  (∀ (d : Nat) (a : Int) (l0 l1 l2 l3 : Option mx_V) (S h : mx_H) (n : Int), mx_ex d 217 12 [l0, l1, l2, l3] [(0, a)] S h n = mx_br (a < 0) d 217 15 19 [l0, l1, l2, l3] [] S h n) ∧
  (∀ (d : Nat) (l0 l1 l2 l3 : Option mx_V) (S h : mx_H) (n : Int), mx_ex d 217 15 [l0, l1, l2, l3] [] S h n = mx_ex d 217 16 [l0, l1, l2, l3] [(0, 0)] S h n) ∧
  (∀ (d : Nat) (l0 l1 l2 l3 : Option mx_V) (v0 : mx_V) (S h : mx_H) (n : Int), mx_ex d 217 16 [l0, l1, l2, l3] [v0] S h n = mx_ex d 217 27 [l0, l1, l2, l3] [v0] S h n) ∧
  (∀ (d : Nat) (x : Int) (l1 l2 l3 : Option mx_V) (S h : mx_H) (n : Int), mx_ex d 217 19 [some (2, x), l1, l2, l3] [] S h n = mx_ex d 217 20 [some (2, x), l1, l2, l3] [(2, x)] S h n) ∧
  (∀ (d : Nat) (x : Int) (l0 l2 l3 : Option mx_V) (v0 : mx_V) (S h : mx_H) (n : Int), mx_ex d 217 20 [l0, some (0, x), l2, l3] [v0] S h n = mx_ex d 217 21 [l0, some (0, x), l2, l3] [(0, x), v0] S h n) ∧
  (∀ (d : Nat) (l0 l1 l2 l3 : Option mx_V) (v0 v1 : mx_V) (S h : mx_H) (n : Int), mx_ex d 217 21 [l0, l1, l2, l3] [v0, v1] S h n = mx_ex d 217 22 [l0, l1, l2, l3] [(0, 4), v0, v1] S h n) ∧
  (∀ (d : Nat) (x : Int) (l0 l1 l2 : Option mx_V) (v0 v1 v2 : mx_V) (S h : mx_H) (n : Int), mx_ex d 217 22 [l0, l1, l2, some (0, x)] [v0, v1, v2] S h n = mx_ex d 217 23 [l0, l1, l2, some (0, x)] [(0, x), v0, v1, v2] S h n) ∧
  (∀ (d : Nat) (b a : Int) (l0 l1 l2 l3 : Option mx_V) (v2 v3 : mx_V) (S h : mx_H) (n : Int), mx_ex d 217 23 [l0, l1, l2, l3] [(0, b), (0, a), v2, v3] S h n = mx_ex d 217 24 [l0, l1, l2, l3] [(0, mx_w (a + b)), v2, v3] S h n) ∧
  (∀ (d : Nat) (x0 x1 a : Int) (l0 l1 l2 l3 : Option mx_V) (S h : mx_H) (n : Int), mx_ex (d + 1) 217 24 [l0, l1, l2, l3] [(0, x0), (0, x1), (2, a)] S h n = mx_cl (S a (-2) = 13) d 163 [(2, a), (0, x1), (0, x0)] 217 27 [l0, l1, l2, l3] [] S h n) ∧
  (∀ (d : Nat) (x : Int) (l0 l1 l2 l3 : Option mx_V) (S h : mx_H) (n : Int), mx_ex d 217 27 [l0, l1, l2, l3] [(0, x)] S h n = some (some (0, x), S, h, n)) :=
  ⟨by intros; exact rfl,
   by intros; exact eq_ld rfl rfl,
   by intros; exact eq_ld rfl rfl,
   by intros; exact eq_push rfl,
   by intros; exact eq_cv rfl (Nat.le_of_ble_eq_true rfl) rfl rfl rfl (Nat.le_of_ble_eq_true rfl),
   by intros; exact eq_push rfl,
   by intros; exact eq_i2 (o := mx_sub) rfl,
   by intros; exact eq_ld rfl rfl,
   by intros; exact eq_i2 (o := mx_sub) rfl,
   by intros; exact eq_st rfl (by decide) (Nat.le_of_ble_eq_true rfl) rfl,
   by intros; exact eq_ld rfl rfl,
   by intros; exact eq_if3 rfl,
   by intros; exact eq_push rfl,
   by intros; exact eq_go rfl,
   by intros; exact eq_ld rfl rfl,
   by intros; exact eq_ld rfl rfl,
   by intros; exact eq_push rfl,
   by intros; exact eq_ld rfl rfl,
   by intros; exact eq_i2 (o := mx_add) rfl,
   by intros; exact eq_cv rfl (Nat.le_of_ble_eq_true rfl) rfl rfl rfl (Nat.le_of_ble_eq_true rfl),
   by intros; exact eq_ret rfl⟩
theorem rh_X12_add_78 : ∀ (d : Nat) (x : Int) (l0 l1 l2 l3 l4 l6 : Option mx_V) (S h : mx_H) (n : Int), mx_ex d 218 78 [l0, l1, l2, l3, l4, some (0, x), l6] [] S h n = mx_ex d 218 80 [l0, l1, l2, l3, l4, some (0, x), l6] [(0, x)] S h n := by intros; exact eq_ld rfl rfl
theorem rw_X12_add :
  (∀ (d : Nat) (a0 a1 a2 : Int) (S h : mx_H) (n : Int), mx_M d 218 [(2, a0), (0, a1), (0, a2)] S h n = mx_ex d 218 0 [some (2, a0), some (0, a1), some (0, a2), none, none, none, none] [] S h n) ∧
  (∀ (d : Nat) (x : Int) (l1 l2 l3 l4 l5 l6 : Option mx_V) (S h : mx_H) (n : Int), mx_ex d 218 0 [some (2, x), l1, l2, l3, l4, l5, l6] [] S h n = mx_ex d 218 1 [some (2, x), l1, l2, l3, l4, l5, l6] [(2, x)] S h n) ∧
  (∀ (d : Nat) (x : Int) (l0 l2 l3 l4 l5 l6 : Option mx_V) (v0 : mx_V) (S h : mx_H) (n : Int), mx_ex d 218 1 [l0, some (0, x), l2, l3, l4, l5, l6] [v0] S h n = mx_ex d 218 2 [l0, some (0, x), l2, l3, l4, l5, l6] [(0, x), v0] S h n) ∧
  (∀ (d : Nat) (x0 a : Int) (l0 l1 l2 l3 l4 l5 l6 : Option mx_V) (S h : mx_H) (n : Int), mx_ex (d + 1) 218 2 [l0, l1, l2, l3, l4, l5, l6] [(0, x0), (2, a)] S h n = mx_cl (S a (-2) = 13) d 160 [(2, a), (0, x0)] 218 5 [l0, l1, l2, l3, l4, l5, l6] [] S h n) ∧
  (∀ (d : Nat) (a : Int) (l0 l1 l2 l3 l4 l5 l6 : Option mx_V) (S h : mx_H) (n : Int), mx_ex d 218 5 [l0, l1, l2, l3, l4, l5, l6] [(0, a)] S h n = mx_br (a = 0) d 218 16 8 [l0, l1, l2, l3, l4, l5, l6] [] S h n) ∧
  (∀ (d : Nat) (x : Int) (l1 l2 l3 l4 l5 l6 : Option mx_V) (S h : mx_H) (n : Int), mx_ex d 218 8 [some (2, x), l1, l2, l3, l4, l5, l6] [] S h n = mx_ex d 218 9 [some (2, x), l1, l2, l3, l4, l5, l6] [(2, x)] S h n) ∧
  (∀ (d : Nat) (x : Int) (l0 l1 l3 l4 l5 l6 : Option mx_V) (v0 : mx_V) (S h : mx_H) (n : Int), mx_ex d 218 9 [l0, l1, some (0, x), l3, l4, l5, l6] [v0] S h n = mx_ex d 218 10 [l0, l1, some (0, x), l3, l4, l5, l6] [(0, x), v0] S h n) ∧
  (∀ (d : Nat) (x0 a : Int) (l0 l1 l2 l3 l4 l5 l6 : Option mx_V) (S h : mx_H) (n : Int), mx_ex (d + 1) 218 10 [l0, l1, l2, l3, l4, l5, l6] [(0, x0), (2, a)] S h n = mx_cl (S a (-2) = 13) d 160 [(2, a), (0, x0)] 218 13 [l0, l1, l2, l3, l4, l5, l6] [] S h n) ∧
  (∀ (d : Nat) (a : Int) (l0 l1 l2 l3 l4 l5 l6 : Option mx_V) (S h : mx_H) (n : Int), mx_ex d 218 13 [l0, l1, l2, l3, l4, l5, l6] [(0, a)] S h n = mx_br (a = 0) d 218 16 18 [l0, l1, l2, l3, l4, l5, l6] [] S h n) ∧
  (∀ (d : Nat) (l0 l1 l2 l3 l4 l5 l6 : Option mx_V) (S h : mx_H) (n : Int), mx_ex d 218 16 [l0, l1, l2, l3, l4, l5, l6] [] S h n = mx_ex d 218 17 [l0, l1, l2, l3, l4, l5, l6] [(0, (-1))] S h n) ∧
  (∀ (d : Nat) (x : Int) (l0 l1 l2 l3 l4 l5 l6 : Option mx_V) (S h : mx_H) (n : Int), mx_ex d 218 17 [l0, l1, l2, l3, l4, l5, l6] [(0, x)] S h n = some (some (0, x), S, h, n)) ∧
  (∀ (d : Nat) (x : Int) (l1 l2 l3 l4 l5 l6 : Option mx_V) (S h : mx_H) (n : Int), mx_ex d 218 18 [some (2, x), l1, l2, l3, l4, l5, l6] [] S h n = mx_ex d 218 19 [some (2, x), l1, l2, l3, l4, l5, l6] [(2, x)] S h n) ∧
  (∀ (d : Nat) (x : Int) (l0 l2 l3 l4 l5 l6 : Option mx_V) (v0 : mx_V) (S h : mx_H) (n : Int), mx_ex d 218 19 [l0, some (0, x), l2, l3, l4, l5, l6] [v0] S h n = mx_ex d 218 20 [l0, some (0, x), l2, l3, l4, l5, l6] [(0, x), v0] S h n) ∧
  (∀ (d : Nat) (l0 l1 l2 l3 l4 l5 l6 : Option mx_V) (v0 v1 : mx_V) (S h : mx_H) (n : Int), mx_ex d 218 20 [l0, l1, l2, l3, l4, l5, l6] [v0, v1] S h n = mx_ex d 218 21 [l0, l1, l2, l3, l4, l5, l6] [(0, 0), v0, v1] S h n) ∧
  (∀ (d : Nat) (x0 x1 a : Int) (l0 l1 l2 l3 l4 l5 l6 : Option mx_V) (S h : mx_H) (n : Int), mx_ex (d + 1) 218 21 [l0, l1, l2, l3, l4, l5, l6] [(0, x0), (0, x1), (2, a)] S h n = mx_cl (S a (-2) = 13) d 163 [(2, a), (0, x1), (0, x0)] 218 24 [l0, l1, l2, l3, l4, l5, l6] [] S h n) ∧
  (∀ (d : Nat) (a : Int) (l0 l1 l2 l3 l4 l5 l6 : Option mx_V) (S h : mx_H) (n : Int), mx_ex d 218 24 [l0, l1, l2, l3, l4, l5, l6] [(0, a)] S h n = mx_br (a = 0) d 218 27 36 [l0, l1, l2, l3, l4, l5, l6] [] S h n) ∧
  (∀ (d : Nat) (x : Int) (l1 l2 l3 l4 l5 l6 : Option mx_V) (S h : mx_H) (n : Int), mx_ex d 218 27 [some (2, x), l1, l2, l3, l4, l5, l6] [] S h n = mx_ex d 218 28 [some (2, x), l1, l2, l3, l4, l5, l6] [(2, x)] S h n) ∧
  (∀ (d : Nat) (x : Int) (l0 l1 l3 l4 l5 l6 : Option mx_V) (v0 : mx_V) (S h : mx_H) (n : Int), mx_ex d 218 28 [l0, l1, some (0, x), l3, l4, l5, l6] [v0] S h n = mx_ex d 218 29 [l0, l1, some (0, x), l3, l4, l5, l6] [(0, x), v0] S h n) ∧
  (∀ (d : Nat) (l0 l1 l2 l3 l4 l5 l6 : Option mx_V) (v0 v1 : mx_V) (S h : mx_H) (n : Int), mx_ex d 218 29 [l0, l1, l2, l3, l4, l5, l6] [v0, v1] S h n = mx_ex d 218 30 [l0, l1, l2, l3, l4, l5, l6] [(0, 0), v0, v1] S h n) ∧
  (∀ (d : Nat) (x0 x1 a : Int) (l0 l1 l2 l3 l4 l5 l6 : Option mx_V) (S h : mx_H) (n : Int), mx_ex (d + 1) 218 30 [l0, l1, l2, l3, l4, l5, l6] [(0, x0), (0, x1), (2, a)] S h n = mx_cl (S a (-2) = 13) d 163 [(2, a), (0, x1), (0, x0)] 218 33 [l0, l1, l2, l3, l4, l5, l6] [] S h n) ∧
  (∀ (d : Nat) (a : Int) (l0 l1 l2 l3 l4 l5 l6 : Option mx_V) (S h : mx_H) (n : Int), mx_ex d 218 33 [l0, l1, l2, l3, l4, l5, l6] [(0, a)] S h n = mx_br (a = 0) d 218 39 36 [l0, l1, l2, l3, l4, l5, l6] [] S h n) ∧
  (∀ (d : Nat) (l0 l1 l2 l3 l4 l5 l6 : Option mx_V) (S h : mx_H) (n : Int), mx_ex d 218 36 [l0, l1, l2, l3, l4, l5, l6] [] S h n = mx_ex d 218 38 [l0, l1, l2, l3, l4, l5, l6] [(0, (-4))] S h n) ∧
  (∀ (d : Nat) (x : Int) (l0 l1 l2 l3 l4 l5 l6 : Option mx_V) (S h : mx_H) (n : Int), mx_ex d 218 38 [l0, l1, l2, l3, l4, l5, l6] [(0, x)] S h n = some (some (0, x), S, h, n)) ∧
  (∀ (d : Nat) (x : Int) (l1 l2 l3 l4 l5 l6 : Option mx_V) (S h : mx_H) (n : Int), mx_ex d 218 39 [some (2, x), l1, l2, l3, l4, l5, l6] [] S h n = mx_ex d 218 40 [some (2, x), l1, l2, l3, l4, l5, l6] [(2, x)] S h n) ∧
  (∀ (d : Nat) (x : Int) (l0 l2 l3 l4 l5 l6 : Option mx_V) (v0 : mx_V) (S h : mx_H) (n : Int), mx_ex d 218 40 [l0, some (0, x), l2, l3, l4, l5, l6] [v0] S h n = mx_ex d 218 41 [l0, some (0, x), l2, l3, l4, l5, l6] [(0, x), v0] S h n) ∧
  (∀ (d : Nat) (l0 l1 l2 l3 l4 l5 l6 : Option mx_V) (v0 v1 : mx_V) (S h : mx_H) (n : Int), mx_ex d 218 41 [l0, l1, l2, l3, l4, l5, l6] [v0, v1] S h n = mx_ex d 218 42 [l0, l1, l2, l3, l4, l5, l6] [(0, 3), v0, v1] S h n) ∧
  (∀ (d : Nat) (x0 x1 a : Int) (l0 l1 l2 l3 l4 l5 l6 : Option mx_V) (S h : mx_H) (n : Int), mx_ex (d + 1) 218 42 [l0, l1, l2, l3, l4, l5, l6] [(0, x0), (0, x1), (2, a)] S h n = mx_cl (S a (-2) = 13) d 163 [(2, a), (0, x1), (0, x0)] 218 45 [l0, l1, l2, l3, l4, l5, l6] [] S h n) ∧
  (∀ (d : Nat) (x : Int) (l1 l2 l3 l4 l5 l6 : Option mx_V) (v0 : mx_V) (S h : mx_H) (n : Int), mx_ex d 218 45 [some (2, x), l1, l2, l3, l4, l5, l6] [v0] S h n = mx_ex d 218 46 [some (2, x), l1, l2, l3, l4, l5, l6] [(2, x), v0] S h n) ∧
  (∀ (d : Nat) (x : Int) (l0 l1 l3 l4 l5 l6 : Option mx_V) (v0 v1 : mx_V) (S h : mx_H) (n : Int), mx_ex d 218 46 [l0, l1, some (0, x), l3, l4, l5, l6] [v0, v1] S h n = mx_ex d 218 47 [l0, l1, some (0, x), l3, l4, l5, l6] [(0, x), v0, v1] S h n) ∧
  (∀ (d : Nat) (l0 l1 l2 l3 l4 l5 l6 : Option mx_V) (v0 v1 v2 : mx_V) (S h : mx_H) (n : Int), mx_ex d 218 47 [l0, l1, l2, l3, l4, l5, l6] [v0, v1, v2] S h n = mx_ex d 218 48 [l0, l1, l2, l3, l4, l5, l6] [(0, 3), v0, v1, v2] S h n) ∧
  (∀ (d : Nat) (x0 x1 a : Int) (l0 l1 l2 l3 l4 l5 l6 : Option mx_V) (v3 : mx_V) (S h : mx_H) (n : Int), mx_ex (d + 1) 218 48 [l0, l1, l2, l3, l4, l5, l6] [(0, x0), (0, x1), (2, a), v3] S h n = mx_cl (S a (-2) = 13) d 163 [(2, a), (0, x1), (0, x0)] 218 51 [l0, l1, l2, l3, l4, l5, l6] [v3] S h n) ∧
  (∀ (d : Nat) (b a : Int) (l0 l1 l2 l3 l4 l5 l6 : Option mx_V) (S h : mx_H) (n : Int), mx_ex d 218 51 [l0, l1, l2, l3, l4, l5, l6] [(0, b), (0, a)] S h n = mx_br (b < a) d 218 54 63 [l0, l1, l2, l3, l4, l5, l6] [] S h n) ∧
  (∀ (d : Nat) (x : Int) (l1 l2 l3 l4 l5 l6 : Option mx_V) (S h : mx_H) (n : Int), mx_ex d 218 54 [some (2, x), l1, l2, l3, l4, l5, l6] [] S h n = mx_ex d 218 55 [some (2, x), l1, l2, l3, l4, l5, l6] [(2, x)] S h n) ∧
  (∀ (d : Nat) (x : Int) (l0 l2 l3 l4 l5 l6 : Option mx_V) (v0 : mx_V) (S h : mx_H) (n : Int), mx_ex d 218 55 [l0, some (0, x), l2, l3, l4, l5, l6] [v0] S h n = mx_ex d 218 56 [l0, some (0, x), l2, l3, l4, l5, l6] [(0, x), v0] S h n) ∧
  (∀ (d : Nat) (l0 l1 l2 l3 l4 l5 l6 : Option mx_V) (v0 v1 : mx_V) (S h : mx_H) (n : Int), mx_ex d 218 56 [l0, l1, l2, l3, l4, l5, l6] [v0, v1] S h n = mx_ex d 218 57 [l0, l1, l2, l3, l4, l5, l6] [(0, 3), v0, v1] S h n) ∧
  (∀ (d : Nat) (x0 x1 a : Int) (l0 l1 l2 l3 l4 l5 l6 : Option mx_V) (S h : mx_H) (n : Int), mx_ex (d + 1) 218 57 [l0, l1, l2, l3, l4, l5, l6] [(0, x0), (0, x1), (2, a)] S h n = mx_cl (S a (-2) = 13) d 163 [(2, a), (0, x1), (0, x0)] 218 60 [l0, l1, l2, l3, l4, l5, l6] [] S h n) ∧
  (∀ (d : Nat) (l0 l1 l2 l3 l4 l5 l6 : Option mx_V) (v0 : mx_V) (S h : mx_H) (n : Int), mx_ex d 218 60 [l0, l1, l2, l3, l4, l5, l6] [v0] S h n = mx_ex d 218 69 [l0, l1, l2, l3, l4, l5, l6] [v0] S h n) ∧
  (∀ (d : Nat) (x : Int) (l1 l2 l3 l4 l5 l6 : Option mx_V) (S h : mx_H) (n : Int), mx_ex d 218 63 [some (2, x), l1, l2, l3, l4, l5, l6] [] S h n = mx_ex d 218 64 [some (2, x), l1, l2, l3, l4, l5, l6] [(2, x)] S h n) ∧
  (∀ (d : Nat) (x : Int) (l0 l1 l3 l4 l5 l6 : Option mx_V) (v0 : mx_V) (S h : mx_H) (n : Int), mx_ex d 218 64 [l0, l1, some (0, x), l3, l4, l5, l6] [v0] S h n = mx_ex d 218 65 [l0, l1, some (0, x), l3, l4, l5, l6] [(0, x), v0] S h n) ∧
  (∀ (d : Nat) (l0 l1 l2 l3 l4 l5 l6 : Option mx_V) (v0 v1 : mx_V) (S h : mx_H) (n : Int), mx_ex d 218 65 [l0, l1, l2, l3, l4, l5, l6] [v0, v1] S h n = mx_ex d 218 66 [l0, l1, l2, l3, l4, l5, l6] [(0, 3), v0, v1] S h n) ∧
  (∀ (d : Nat) (x0 x1 a : Int) (l0 l1 l2 l3 l4 l5 l6 : Option mx_V) (S h : mx_H) (n : Int), mx_ex (d + 1) 218 66 [l0, l1, l2, l3, l4, l5, l6] [(0, x0), (0, x1), (2, a)] S h n = mx_cl (S a (-2) = 13) d 163 [(2, a), (0, x1), (0, x0)] 218 69 [l0, l1, l2, l3, l4, l5, l6] [] S h n) ∧
  (∀ (d : Nat) (x : Int) (l0 l1 l2 l3 l4 l5 l6 : Option mx_V) (S h : mx_H) (n : Int), mx_ex d 218 69 [l0, l1, l2, l3, l4, l5, l6] [(0, x)] S h n = mx_ex d 218 70 [l0, l1, mx_nl l2, some (0, x), l4, l5, l6] [] S h n) ∧
  (∀ (d : Nat) (l0 l1 l2 l3 l4 l5 l6 : Option mx_V) (S h : mx_H) (n : Int), mx_ex d 218 70 [l0, l1, l2, l3, l4, l5, l6] [] S h n = mx_ex d 218 71 [l0, l1, l2, l3, l4, l5, l6] [(0, 0)] S h n) ∧
  (∀ (d : Nat) (x : Int) (l0 l1 l2 l3 l4 l5 l6 : Option mx_V) (S h : mx_H) (n : Int), mx_ex d 218 71 [l0, l1, l2, l3, l4, l5, l6] [(0, x)] S h n = mx_ex d 218 73 [l0, l1, l2, mx_nl l3, some (0, x), l5, l6] [] S h n) ∧
  (∀ (d : Nat) (x : Int) (l0 l1 l2 l4 l5 l6 : Option mx_V) (S h : mx_H) (n : Int), mx_ex d 218 73 [l0, l1, l2, some (0, x), l4, l5, l6] [] S h n = mx_ex d 218 74 [l0, l1, l2, some (0, x), l4, l5, l6] [(0, x)] S h n) ∧
  (∀ (d : Nat) (l0 l1 l2 l3 l4 l5 l6 : Option mx_V) (v0 : mx_V) (S h : mx_H) (n : Int), mx_ex d 218 74 [l0, l1, l2, l3, l4, l5, l6] [v0] S h n = mx_ex d 218 75 [l0, l1, l2, l3, l4, l5, l6] [(0, 1), v0] S h n) ∧
  (∀ (d : Nat) (b a : Int) (l0 l1 l2 l3 l4 l5 l6 : Option mx_V) (S h : mx_H) (n : Int), mx_ex d 218 75 [l0, l1, l2, l3, l4, l5, l6] [(0, b), (0, a)] S h n = mx_ex d 218 76 [l0, l1, l2, l3, l4, l5, l6] [(0, mx_w (a - b))] S h n) ∧
  (∀ (d : Nat) (x : Int) (l0 l1 l2 l3 l4 l5 l6 : Option mx_V) (S h : mx_H) (n : Int), mx_ex d 218 76 [l0, l1, l2, l3, l4, l5, l6] [(0, x)] S h n = mx_ex d 218 78 [l0, l1, l2, l3, mx_nl l4, some (0, x), l6] [] S h n) ∧
  (∀ (d : Nat) (a : Int) (l0 l1 l2 l3 l4 l5 l6 : Option mx_V) (S h : mx_H) (n : Int), mx_ex d 218 80 [l0, l1, l2, l3, l4, l5, l6] [(0, a)] S h n = mx_br (a < 0) d 218 125 83 [l0, l1, l2, l3, l4, l5, l6] [] S h n) ∧
  (∀ (d : Nat) (x : Int) (l1 l2 l3 l4 l5 l6 : Option mx_V) (S h : mx_H) (n : Int), mx_ex d 218 83 [some (2, x), l1, l2, l3, l4, l5, l6] [] S h n = mx_ex d 218 84 [some (2, x), l1, l2, l3, l4, l5, l6] [(2, x)] S h n) ∧
  (∀ (d : Nat) (x : Int) (l0 l2 l3 l4 l5 l6 : Option mx_V) (v0 : mx_V) (S h : mx_H) (n : Int), mx_ex d 218 84 [l0, some (0, x), l2, l3, l4, l5, l6] [v0] S h n = mx_ex d 218 85 [l0, some (0, x), l2, l3, l4, l5, l6] [(0, x), v0] S h n) ∧
  (∀ (d : Nat) (x : Int) (l0 l1 l2 l3 l4 l6 : Option mx_V) (v0 v1 : mx_V) (S h : mx_H) (n : Int), mx_ex d 218 85 [l0, l1, l2, l3, l4, some (0, x), l6] [v0, v1] S h n = mx_ex d 218 87 [l0, l1, l2, l3, l4, some (0, x), l6] [(0, x), v0, v1] S h n) ∧
  (∀ (d : Nat) (x0 x1 a : Int) (l0 l1 l2 l3 l4 l5 l6 : Option mx_V) (S h : mx_H) (n : Int), mx_ex (d + 1) 218 87 [l0, l1, l2, l3, l4, l5, l6] [(0, x0), (0, x1), (2, a)] S h n = mx_cl (S a (-2) = 13) d 217 [(2, a), (0, x1), (0, x0)] 218 90 [l0, l1, l2, l3, l4, l5, l6] [] S h n) ∧
  (∀ (d : Nat) (x : Int) (l1 l2 l3 l4 l5 l6 : Option mx_V) (v0 : mx_V) (S h : mx_H) (n : Int), mx_ex d 218 90 [some (2, x), l1, l2, l3, l4, l5, l6] [v0] S h n = mx_ex d 218 91 [some (2, x), l1, l2, l3, l4, l5, l6] [(2, x), v0] S h n) ∧
  (∀ (d : Nat) (x : Int) (l0 l1 l3 l4 l5 l6 : Option mx_V) (v0 v1 : mx_V) (S h : mx_H) (n : Int), mx_ex d 218 91 [l0, l1, some (0, x), l3, l4, l5, l6] [v0, v1] S h n = mx_ex d 218 92 [l0, l1, some (0, x), l3, l4, l5, l6] [(0, x), v0, v1] S h n) ∧
  (∀ (d : Nat) (x : Int) (l0 l1 l2 l3 l4 l6 : Option mx_V) (v0 v1 v2 : mx_V) (S h : mx_H) (n : Int), mx_ex d 218 92 [l0, l1, l2, l3, l4, some (0, x), l6] [v0, v1, v2] S h n = mx_ex d 218 94 [l0, l1, l2, l3, l4, some (0, x), l6] [(0, x), v0, v1, v2] S h n) ∧
  (∀ (d : Nat) (x0 x1 a : Int) (l0 l1 l2 l3 l4 l5 l6 : Option mx_V) (v3 : mx_V) (S h : mx_H) (n : Int), mx_ex (d + 1) 218 94 [l0, l1, l2, l3, l4, l5, l6] [(0, x0), (0, x1), (2, a), v3] S h n = mx_cl (S a (-2) = 13) d 217 [(2, a), (0, x1), (0, x0)] 218 97 [l0, l1, l2, l3, l4, l5, l6] [v3] S h n) ∧
  (∀ (d : Nat) (b a : Int) (l0 l1 l2 l3 l4 l5 l6 : Option mx_V) (S h : mx_H) (n : Int), mx_ex d 218 97 [l0, l1, l2, l3, l4, l5, l6] [(0, b), (0, a)] S h n = mx_ex d 218 98 [l0, l1, l2, l3, l4, l5, l6] [(0, mx_w (a + b))] S h n) ∧
  (∀ (d : Nat) (x : Int) (l0 l1 l2 l3 l4 l5 l6 : Option mx_V) (S h : mx_H) (n : Int), mx_ex d 218 98 [l0, l1, l2, l3, l4, l5, l6] [(0, x)] S h n = mx_ex d 218 100 [l0, l1, l2, l3, l4, mx_nl l5, some (0, x)] [] S h n) ∧
  (∀ (d : Nat) (x : Int) (l0 l1 l2 l3 l4 l5 : Option mx_V) (S h : mx_H) (n : Int), mx_ex d 218 100 [l0, l1, l2, l3, l4, l5, some (0, x)] [] S h n = mx_ex d 218 102 [l0, l1, l2, l3, l4, l5, some (0, x)] [(0, x)] S h n) ∧
  (∀ (d : Nat) (l0 l1 l2 l3 l4 l5 l6 : Option mx_V) (v0 : mx_V) (S h : mx_H) (n : Int), mx_ex d 218 102 [l0, l1, l2, l3, l4, l5, l6] [v0] S h n = mx_ex d 218 104 [l0, l1, l2, l3, l4, l5, l6] [(0, 15), v0] S h n) ∧
  (∀ (d : Nat) (b a : Int) (l0 l1 l2 l3 l4 l5 l6 : Option mx_V) (S h : mx_H) (n : Int), mx_ex d 218 104 [l0, l1, l2, l3, l4, l5, l6] [(0, b), (0, a)] S h n = mx_br (b < a) d 218 107 110 [l0, l1, l2, l3, l4, l5, l6] [] S h n) ∧
  (∀ (d : Nat) (l0 l1 l2 l3 l4 l5 l6 : Option mx_V) (S h : mx_H) (n : Int), mx_ex d 218 107 [l0, l1, l2, l3, l4, l5, l6] [] S h n = mx_ex d 218 109 [l0, l1, l2, l3, l4, l5, l6] [(0, (-4))] S h n) ∧
  (∀ (d : Nat) (x : Int) (l0 l1 l2 l3 l4 l5 l6 : Option mx_V) (S h : mx_H) (n : Int), mx_ex d 218 109 [l0, l1, l2, l3, l4, l5, l6] [(0, x)] S h n = some (some (0, x), S, h, n)) ∧
  (∀ (d : Nat) (x : Int) (l0 l1 l2 l3 l5 l6 : Option mx_V) (S h : mx_H) (n : Int), mx_ex d 218 110 [l0, l1, l2, l3, some (0, x), l5, l6] [] S h n = mx_ex d 218 112 [l0, l1, l2, l3, some (0, x), l5, l6] [(0, x)] S h n) ∧
  (∀ (d : Nat) (l0 l1 l2 l3 l4 l5 l6 : Option mx_V) (v0 : mx_V) (S h : mx_H) (n : Int), mx_ex d 218 112 [l0, l1, l2, l3, l4, l5, l6] [v0] S h n = mx_ex d 218 113 [l0, l1, l2, l3, l4, l5, l6] [(0, 4), v0] S h n) ∧
  (∀ (d : Nat) (b a : Int) (l0 l1 l2 l3 l4 l5 l6 : Option mx_V) (S h : mx_H) (n : Int), mx_ex d 218 113 [l0, l1, l2, l3, l4, l5, l6] [(0, b), (0, a)] S h n = mx_ex d 218 114 [l0, l1, l2, l3, l4, l5, l6] [(0, mx_shl a b)] S h n) ∧
  (∀ (d : Nat) (x : Int) (l0 l1 l2 l3 l4 l5 : Option mx_V) (v0 : mx_V) (S h : mx_H) (n : Int), mx_ex d 218 114 [l0, l1, l2, l3, l4, l5, some (0, x)] [v0] S h n = mx_ex d 218 116 [l0, l1, l2, l3, l4, l5, some (0, x)] [(0, x), v0] S h n) ∧
  (∀ (d : Nat) (b a : Int) (l0 l1 l2 l3 l4 l5 l6 : Option mx_V) (S h : mx_H) (n : Int), mx_ex d 218 116 [l0, l1, l2, l3, l4, l5, l6] [(0, b), (0, a)] S h n = mx_ex d 218 117 [l0, l1, l2, l3, l4, l5, l6] [(0, mx_or a b)] S h n) ∧
  (∀ (d : Nat) (x : Int) (l0 l1 l2 l3 l4 l5 l6 : Option mx_V) (S h : mx_H) (n : Int), mx_ex d 218 117 [l0, l1, l2, l3, l4, l5, l6] [(0, x)] S h n = mx_ex d 218 119 [l0, l1, l2, mx_nl l3, some (0, x), l5, l6] [] S h n) :=
  ⟨by intros; exact rfl,
   by intros; exact eq_ld rfl rfl,
   by intros; exact eq_ld rfl rfl,
   by intros; exact eq_cv rfl (Nat.le_of_ble_eq_true rfl) rfl rfl rfl (Nat.le_of_ble_eq_true rfl),
   by intros; exact eq_if0 rfl,
   by intros; exact eq_ld rfl rfl,
   by intros; exact eq_ld rfl rfl,
   by intros; exact eq_cv rfl (Nat.le_of_ble_eq_true rfl) rfl rfl rfl (Nat.le_of_ble_eq_true rfl),
   by intros; exact eq_if1 rfl,
   by intros; exact eq_push rfl,
   by intros; exact eq_ret rfl,
   by intros; exact eq_ld rfl rfl,
   by intros; exact eq_ld rfl rfl,
   by intros; exact eq_push rfl,
   by intros; exact eq_cv rfl (Nat.le_of_ble_eq_true rfl) rfl rfl rfl (Nat.le_of_ble_eq_true rfl),
   by intros; exact eq_if1 rfl,
   by intros; exact eq_ld rfl rfl,
   by intros; exact eq_ld rfl rfl,
   by intros; exact eq_push rfl,
   by intros; exact eq_cv rfl (Nat.le_of_ble_eq_true rfl) rfl rfl rfl (Nat.le_of_ble_eq_true rfl),
   by intros; exact eq_if0 rfl,
   by intros; exact eq_push rfl,
   by intros; exact eq_ret rfl,
   by intros; exact eq_ld rfl rfl,
   by intros; exact eq_ld rfl rfl,
   by intros; exact eq_push rfl,
   by intros; exact eq_cv rfl (Nat.le_of_ble_eq_true rfl) rfl rfl rfl (Nat.le_of_ble_eq_true rfl),
   by intros; exact eq_ld rfl rfl,
   by intros; exact eq_ld rfl rfl,
   by intros; exact eq_push rfl,
   by intros; exact eq_cv rfl (Nat.le_of_ble_eq_true rfl) rfl rfl rfl (Nat.le_of_ble_eq_true rfl),
   by intros; exact eq_ic5 rfl,
   by intros; exact eq_ld rfl rfl,
   by intros; exact eq_ld rfl rfl,
   by intros; exact eq_push rfl,
   by intros; exact eq_cv rfl (Nat.le_of_ble_eq_true rfl) rfl rfl rfl (Nat.le_of_ble_eq_true rfl),
   by intros; exact eq_go rfl,
   by intros; exact eq_ld rfl rfl,
   by intros; exact eq_ld rfl rfl,
   by intros; exact eq_push rfl,
   by intros; exact eq_cv rfl (Nat.le_of_ble_eq_true rfl) rfl rfl rfl (Nat.le_of_ble_eq_true rfl),
   by intros; exact eq_st rfl (by decide) (Nat.le_of_ble_eq_true rfl) rfl,
   by intros; exact eq_push rfl,
   by intros; exact eq_st rfl (by decide) (Nat.le_of_ble_eq_true rfl) rfl,
   by intros; exact eq_ld rfl rfl,
   by intros; exact eq_push rfl,
   by intros; exact eq_i2 (o := mx_sub) rfl,
   by intros; exact eq_st rfl (by decide) (Nat.le_of_ble_eq_true rfl) rfl,
   by intros; exact eq_if2 rfl,
   by intros; exact eq_ld rfl rfl,
   by intros; exact eq_ld rfl rfl,
   by intros; exact eq_ld rfl rfl,
   by intros; exact eq_cv rfl (Nat.le_of_ble_eq_true rfl) rfl rfl rfl (Nat.le_of_ble_eq_true rfl),
   by intros; exact eq_ld rfl rfl,
   by intros; exact eq_ld rfl rfl,
   by intros; exact eq_ld rfl rfl,
   by intros; exact eq_cv rfl (Nat.le_of_ble_eq_true rfl) rfl rfl rfl (Nat.le_of_ble_eq_true rfl),
   by intros; exact eq_i2 (o := mx_add) rfl,
   by intros; exact eq_st rfl (by decide) (Nat.le_of_ble_eq_true rfl) rfl,
   by intros; exact eq_ld rfl rfl,
   by intros; exact eq_push rfl,
   by intros; exact eq_ic5 rfl,
   by intros; exact eq_push rfl,
   by intros; exact eq_ret rfl,
   by intros; exact eq_ld rfl rfl,
   by intros; exact eq_push rfl,
   by intros; exact eq_i2 (o := mx_shl) rfl,
   by intros; exact eq_ld rfl rfl,
   by intros; exact eq_i2 (o := mx_or) rfl,
   by intros; exact eq_st rfl (by decide) (Nat.le_of_ble_eq_true rfl) rfl⟩
theorem rw_X12_add_1 :
  (∀ (d : Nat) (x : Int) (l0 l1 l2 l3 l4 l6 : Option mx_V) (S h : mx_H) (n : Int), mx_ex d 218 119 [l0, l1, l2, l3, l4, some (0, x), l6] [] S h n = mx_ex d 218 122 [l0, l1, l2, l3, mx_nl l4, some (0, mx_w (x + (-1))), l6] [] S h n) ∧
  (∀ (d : Nat) (l0 l1 l2 l3 l4 l5 l6 : Option mx_V) (S h : mx_H) (n : Int), mx_ex d 218 122 [l0, l1, l2, l3, l4, l5, l6] [] S h n = mx_ex d 218 78 [l0, l1, l2, l3, l4, l5, l6] [] S h n) ∧
  (∀ (d : Nat) (x : Int) (l1 l2 l3 l4 l5 l6 : Option mx_V) (S h : mx_H) (n : Int), mx_ex d 218 125 [some (2, x), l1, l2, l3, l4, l5, l6] [] S h n = mx_ex d 218 126 [some (2, x), l1, l2, l3, l4, l5, l6] [(2, x)] S h n) ∧
  (∀ (d : Nat) (l0 l1 l2 l3 l4 l5 l6 : Option mx_V) (v0 : mx_V) (S h : mx_H) (n : Int), mx_ex d 218 126 [l0, l1, l2, l3, l4, l5, l6] [v0] S h n = mx_ex d 218 127 [l0, l1, l2, l3, l4, l5, l6] [(0, 0), v0] S h n) ∧
  (∀ (d : Nat) (x : Int) (l1 l2 l3 l4 l5 l6 : Option mx_V) (v0 v1 : mx_V) (S h : mx_H) (n : Int), mx_ex d 218 127 [some (2, x), l1, l2, l3, l4, l5, l6] [v0, v1] S h n = mx_ex d 218 128 [some (2, x), l1, l2, l3, l4, l5, l6] [(2, x), v0, v1] S h n) ∧
  (∀ (d : Nat) (x : Int) (l0 l2 l3 l4 l5 l6 : Option mx_V) (v0 v1 v2 : mx_V) (S h : mx_H) (n : Int), mx_ex d 218 128 [l0, some (0, x), l2, l3, l4, l5, l6] [v0, v1, v2] S h n = mx_ex d 218 129 [l0, some (0, x), l2, l3, l4, l5, l6] [(0, x), v0, v1, v2] S h n) ∧
  (∀ (d : Nat) (l0 l1 l2 l3 l4 l5 l6 : Option mx_V) (v0 v1 v2 v3 : mx_V) (S h : mx_H) (n : Int), mx_ex d 218 129 [l0, l1, l2, l3, l4, l5, l6] [v0, v1, v2, v3] S h n = mx_ex d 218 130 [l0, l1, l2, l3, l4, l5, l6] [(0, 1), v0, v1, v2, v3] S h n) ∧
  (∀ (d : Nat) (x0 x1 a : Int) (l0 l1 l2 l3 l4 l5 l6 : Option mx_V) (v3 v4 : mx_V) (S h : mx_H) (n : Int), mx_ex (d + 1) 218 130 [l0, l1, l2, l3, l4, l5, l6] [(0, x0), (0, x1), (2, a), v3, v4] S h n = mx_cl (S a (-2) = 13) d 163 [(2, a), (0, x1), (0, x0)] 218 133 [l0, l1, l2, l3, l4, l5, l6] [v3, v4] S h n) ∧
  (∀ (d : Nat) (l0 l1 l2 l3 l4 l5 l6 : Option mx_V) (v0 v1 v2 : mx_V) (S h : mx_H) (n : Int), mx_ex d 218 133 [l0, l1, l2, l3, l4, l5, l6] [v0, v1, v2] S h n = mx_ex d 218 134 [l0, l1, l2, l3, l4, l5, l6] [(0, 0), v0, v1, v2] S h n) ∧
  (∀ (d : Nat) (x : Int) (l0 l1 l2 l4 l5 l6 : Option mx_V) (v0 v1 v2 v3 : mx_V) (S h : mx_H) (n : Int), mx_ex d 218 134 [l0, l1, l2, some (0, x), l4, l5, l6] [v0, v1, v2, v3] S h n = mx_ex d 218 135 [l0, l1, l2, some (0, x), l4, l5, l6] [(0, x), v0, v1, v2, v3] S h n) ∧
  (∀ (d : Nat) (x : Int) (l0 l1 l2 l3 l5 l6 : Option mx_V) (v0 v1 v2 v3 v4 : mx_V) (S h : mx_H) (n : Int), mx_ex d 218 135 [l0, l1, l2, l3, some (0, x), l5, l6] [v0, v1, v2, v3, v4] S h n = mx_ex d 218 137 [l0, l1, l2, l3, some (0, x), l5, l6] [(0, x), v0, v1, v2, v3, v4] S h n) ∧
  (∀ (d : Nat) (x0 x1 x2 x3 x4 a : Int) (l0 l1 l2 l3 l4 l5 l6 : Option mx_V) (S h : mx_H) (n : Int), mx_ex (d + 1) 218 137 [l0, l1, l2, l3, l4, l5, l6] [(0, x0), (0, x1), (0, x2), (0, x3), (0, x4), (2, a)] S h n = mx_cl (S a (-2) = 13) d 179 [(2, a), (0, x4), (0, x3), (0, x2), (0, x1), (0, x0)] 218 140 [l0, l1, l2, l3, l4, l5, l6] [] S h n) ∧
  (∀ (d : Nat) (x : Int) (l0 l1 l2 l3 l4 l5 l6 : Option mx_V) (S h : mx_H) (n : Int), mx_ex d 218 140 [l0, l1, l2, l3, l4, l5, l6] [(0, x)] S h n = some (some (0, x), S, h, n)) :=
  ⟨by intros; exact eq_inc rfl rfl rfl,
   by intros; exact eq_go rfl,
   by intros; exact eq_ld rfl rfl,
   by intros; exact eq_push rfl,
   by intros; exact eq_ld rfl rfl,
   by intros; exact eq_ld rfl rfl,
   by intros; exact eq_push rfl,
   by intros; exact eq_cv rfl (Nat.le_of_ble_eq_true rfl) rfl rfl rfl (Nat.le_of_ble_eq_true rfl),
   by intros; exact eq_push rfl,
   by intros; exact eq_ld rfl rfl,
   by intros; exact eq_ld rfl rfl,
   by intros; exact eq_cv rfl (Nat.le_of_ble_eq_true rfl) rfl rfl rfl (Nat.le_of_ble_eq_true rfl),
   by intros; exact eq_ret rfl⟩
theorem rw_X12_seed :
  (∀ (d : Nat) (a0 a1 : Int) (S h : mx_H) (n : Int), mx_M d 219 [(2, a0), (0, a1)] S h n = mx_ex d 219 0 [some (2, a0), some (0, a1), none] [] S h n) ∧
  (∀ (d : Nat) (x : Int) (l1 l2 : Option mx_V) (S h : mx_H) (n : Int), mx_ex d 219 0 [some (2, x), l1, l2] [] S h n = mx_ex d 219 1 [some (2, x), l1, l2] [(2, x)] S h n) ∧
  (∀ (d : Nat) (a : Int) (l0 l1 l2 : Option mx_V) (S h : mx_H) (n : Int), mx_ex d 219 1 [l0, l1, l2] [(2, a)] S h n = mx_gd (13 ≤ S a (-2) ∧ S a (-2) ≤ 13) d 219 4 [l0, l1, l2] [(2, S a 0)] S h n) ∧
  (∀ (d : Nat) (l0 l1 l2 : Option mx_V) (v0 : mx_V) (S h : mx_H) (n : Int), mx_ex d 219 4 [l0, l1, l2] [v0] S h n = mx_ex d 219 5 [l0, l1, l2] [(0, 2), v0] S h n) ∧
  (∀ (d : Nat) (i a : Int) (l0 l1 l2 : Option mx_V) (S h : mx_H) (n : Int), mx_ex d 219 5 [l0, l1, l2] [(0, i), (2, a)] S h n = mx_gd ((S a (-2) = 20 ∨ S a (-2) = 24) ∧ 0 ≤ i ∧ i < S a (-1)) d 219 6 [l0, l1, l2] [(0, h a i)] S h n) ∧
  (∀ (d : Nat) (x : Int) (l0 l1 l2 : Option mx_V) (S h : mx_H) (n : Int), mx_ex d 219 6 [l0, l1, l2] [(0, x)] S h n = mx_ex d 219 7 [l0, mx_nl l1, some (0, x)] [] S h n) ∧
  (∀ (d : Nat) (x : Int) (l1 l2 : Option mx_V) (S h : mx_H) (n : Int), mx_ex d 219 7 [some (2, x), l1, l2] [] S h n = mx_ex d 219 8 [some (2, x), l1, l2] [(2, x)] S h n) ∧
  (∀ (d : Nat) (a : Int) (l0 l1 l2 : Option mx_V) (S h : mx_H) (n : Int), mx_ex d 219 8 [l0, l1, l2] [(2, a)] S h n = mx_gd (13 ≤ S a (-2) ∧ S a (-2) ≤ 13) d 219 11 [l0, l1, l2] [(2, S a 0)] S h n) ∧
  (∀ (d : Nat) (l0 l1 l2 : Option mx_V) (v0 : mx_V) (S h : mx_H) (n : Int), mx_ex d 219 11 [l0, l1, l2] [v0] S h n = mx_ex d 219 12 [l0, l1, l2] [(0, 2), v0] S h n) ∧
  (∀ (d : Nat) (x : Int) (l0 l2 : Option mx_V) (v0 v1 : mx_V) (S h : mx_H) (n : Int), mx_ex d 219 12 [l0, some (0, x), l2] [v0, v1] S h n = mx_ex d 219 13 [l0, some (0, x), l2] [(0, x), v0, v1] S h n) ∧
  (∀ (d : Nat) (v i a : Int) (l0 l1 l2 : Option mx_V) (S h : mx_H) (n : Int), mx_ex d 219 13 [l0, l1, l2] [(0, v), (0, i), (2, a)] S h n = mx_gd (S a (-2) = 20 ∧ 0 ≤ i ∧ i < S a (-1)) d 219 14 [l0, l1, l2] [] S (mx_u h a i v) n) ∧
  (∀ (d : Nat) (x : Int) (l0 l1 : Option mx_V) (S h : mx_H) (n : Int), mx_ex d 219 14 [l0, l1, some (0, x)] [] S h n = mx_ex d 219 15 [l0, l1, some (0, x)] [(0, x)] S h n) ∧
  (∀ (d : Nat) (x : Int) (l0 l1 l2 : Option mx_V) (S h : mx_H) (n : Int), mx_ex d 219 15 [l0, l1, l2] [(0, x)] S h n = some (some (0, x), S, h, n)) :=
  ⟨by intros; exact rfl,
   by intros; exact eq_ld rfl rfl,
   by intros; exact eq_gr rfl,
   by intros; exact eq_push rfl,
   by intros; exact eq_iald rfl,
   by intros; exact eq_st rfl (by decide) (Nat.le_of_ble_eq_true rfl) rfl,
   by intros; exact eq_ld rfl rfl,
   by intros; exact eq_gr rfl,
   by intros; exact eq_push rfl,
   by intros; exact eq_ld rfl rfl,
   by intros; exact eq_iast rfl,
   by intros; exact eq_ld rfl rfl,
   by intros; exact eq_ret rfl⟩
theorem rw_X12_guess :
  (∀ (d : Nat) (a0 : Int) (S h : mx_H) (n : Int), mx_M d 220 [(2, a0)] S h n = mx_ex d 220 0 [some (2, a0), none] [] S h n) ∧
  (∀ (d : Nat) (x : Int) (l1 : Option mx_V) (S h : mx_H) (n : Int), mx_ex d 220 0 [some (2, x), l1] [] S h n = mx_ex d 220 1 [some (2, x), l1] [(2, x)] S h n) ∧
  (∀ (d : Nat) (l0 l1 : Option mx_V) (v0 : mx_V) (S h : mx_H) (n : Int), mx_ex d 220 1 [l0, l1] [v0] S h n = mx_ex d 220 3 [l0, l1] [(0, 63), v0] S h n) ∧
  (∀ (d : Nat) (l0 l1 : Option mx_V) (v0 v1 : mx_V) (S h : mx_H) (n : Int), mx_ex d 220 3 [l0, l1] [v0, v1] S h n = mx_ex d 220 6 [l0, l1] [(0, 9999), v0, v1] S h n) ∧
  (∀ (d : Nat) (x0 x1 a : Int) (l0 l1 : Option mx_V) (S h : mx_H) (n : Int), mx_ex (d + 1) 220 6 [l0, l1] [(0, x0), (0, x1), (2, a)] S h n = mx_cl (S a (-2) = 13) d 197 [(2, a), (0, x1), (0, x0)] 220 9 [l0, l1] [] S h n) ∧
  (∀ (d : Nat) (x : Int) (l0 l1 : Option mx_V) (S h : mx_H) (n : Int), mx_ex d 220 9 [l0, l1] [(0, x)] S h n = mx_ex d 220 10 [mx_nl l0, some (0, x)] [] S h n) ∧
  (∀ (d : Nat) (x : Int) (l0 : Option mx_V) (S h : mx_H) (n : Int), mx_ex d 220 10 [l0, some (0, x)] [] S h n = mx_ex d 220 11 [l0, some (0, x)] [(0, x)] S h n) ∧
  (∀ (d : Nat) (a : Int) (l0 l1 : Option mx_V) (S h : mx_H) (n : Int), mx_ex d 220 11 [l0, l1] [(0, a)] S h n = mx_br (a = 0) d 220 14 17 [l0, l1] [] S h n) ∧
  (∀ (d : Nat) (l0 l1 : Option mx_V) (S h : mx_H) (n : Int), mx_ex d 220 14 [l0, l1] [] S h n = mx_ex d 220 16 [l0, l1] [(0, (-3))] S h n) ∧
  (∀ (d : Nat) (x : Int) (l0 l1 : Option mx_V) (S h : mx_H) (n : Int), mx_ex d 220 16 [l0, l1] [(0, x)] S h n = some (some (0, x), S, h, n)) ∧
  (∀ (d : Nat) (x : Int) (l1 : Option mx_V) (S h : mx_H) (n : Int), mx_ex d 220 17 [some (2, x), l1] [] S h n = mx_ex d 220 18 [some (2, x), l1] [(2, x)] S h n) ∧
  (∀ (d : Nat) (a : Int) (l0 l1 : Option mx_V) (S h : mx_H) (n : Int), mx_ex d 220 18 [l0, l1] [(2, a)] S h n = mx_gd (13 ≤ S a (-2) ∧ S a (-2) ≤ 13) d 220 21 [l0, l1] [(2, S a 0)] S h n) ∧
  (∀ (d : Nat) (l0 l1 : Option mx_V) (v0 : mx_V) (S h : mx_H) (n : Int), mx_ex d 220 21 [l0, l1] [v0] S h n = mx_ex d 220 22 [l0, l1] [(0, 2), v0] S h n) ∧
  (∀ (d : Nat) (x : Int) (l1 : Option mx_V) (v0 v1 : mx_V) (S h : mx_H) (n : Int), mx_ex d 220 22 [some (2, x), l1] [v0, v1] S h n = mx_ex d 220 23 [some (2, x), l1] [(2, x), v0, v1] S h n) ∧
  (∀ (d : Nat) (a : Int) (l0 l1 : Option mx_V) (v1 v2 : mx_V) (S h : mx_H) (n : Int), mx_ex d 220 23 [l0, l1] [(2, a), v1, v2] S h n = mx_gd (13 ≤ S a (-2) ∧ S a (-2) ≤ 13) d 220 26 [l0, l1] [(2, S a 0), v1, v2] S h n) ∧
  (∀ (d : Nat) (l0 l1 : Option mx_V) (v0 v1 v2 : mx_V) (S h : mx_H) (n : Int), mx_ex d 220 26 [l0, l1] [v0, v1, v2] S h n = mx_ex d 220 27 [l0, l1] [(0, 2), v0, v1, v2] S h n) ∧
  (∀ (d : Nat) (i a : Int) (l0 l1 : Option mx_V) (v2 v3 : mx_V) (S h : mx_H) (n : Int), mx_ex d 220 27 [l0, l1] [(0, i), (2, a), v2, v3] S h n = mx_gd ((S a (-2) = 20 ∨ S a (-2) = 24) ∧ 0 ≤ i ∧ i < S a (-1)) d 220 28 [l0, l1] [(0, h a i), v2, v3] S h n) ∧
  (∀ (d : Nat) (l0 l1 : Option mx_V) (v0 v1 v2 : mx_V) (S h : mx_H) (n : Int), mx_ex d 220 28 [l0, l1] [v0, v1, v2] S h n = mx_ex d 220 30 [l0, l1] [(0, 1103515245), v0, v1, v2] S h n) ∧
  (∀ (d : Nat) (b a : Int) (l0 l1 : Option mx_V) (v2 v3 : mx_V) (S h : mx_H) (n : Int), mx_ex d 220 30 [l0, l1] [(0, b), (0, a), v2, v3] S h n = mx_ex d 220 31 [l0, l1] [(0, mx_w (a * b)), v2, v3] S h n) ∧
  (∀ (d : Nat) (l0 l1 : Option mx_V) (v0 v1 v2 : mx_V) (S h : mx_H) (n : Int), mx_ex d 220 31 [l0, l1] [v0, v1, v2] S h n = mx_ex d 220 34 [l0, l1] [(0, 12345), v0, v1, v2] S h n) ∧
  (∀ (d : Nat) (b a : Int) (l0 l1 : Option mx_V) (v2 v3 : mx_V) (S h : mx_H) (n : Int), mx_ex d 220 34 [l0, l1] [(0, b), (0, a), v2, v3] S h n = mx_ex d 220 35 [l0, l1] [(0, mx_w (a + b)), v2, v3] S h n) ∧
  (∀ (d : Nat) (v i a : Int) (l0 l1 : Option mx_V) (S h : mx_H) (n : Int), mx_ex d 220 35 [l0, l1] [(0, v), (0, i), (2, a)] S h n = mx_gd (S a (-2) = 20 ∧ 0 ≤ i ∧ i < S a (-1)) d 220 36 [l0, l1] [] S (mx_u h a i v) n) ∧
  (∀ (d : Nat) (x : Int) (l1 : Option mx_V) (S h : mx_H) (n : Int), mx_ex d 220 36 [some (2, x), l1] [] S h n = mx_ex d 220 37 [some (2, x), l1] [(2, x)] S h n) ∧
  (∀ (d : Nat) (a : Int) (l0 l1 : Option mx_V) (S h : mx_H) (n : Int), mx_ex d 220 37 [l0, l1] [(2, a)] S h n = mx_gd (13 ≤ S a (-2) ∧ S a (-2) ≤ 13) d 220 40 [l0, l1] [(2, S a 0)] S h n) ∧
  (∀ (d : Nat) (l0 l1 : Option mx_V) (v0 : mx_V) (S h : mx_H) (n : Int), mx_ex d 220 40 [l0, l1] [v0] S h n = mx_ex d 220 41 [l0, l1] [(0, 2), v0] S h n) ∧
  (∀ (d : Nat) (i a : Int) (l0 l1 : Option mx_V) (S h : mx_H) (n : Int), mx_ex d 220 41 [l0, l1] [(0, i), (2, a)] S h n = mx_gd ((S a (-2) = 20 ∨ S a (-2) = 24) ∧ 0 ≤ i ∧ i < S a (-1)) d 220 42 [l0, l1] [(0, h a i)] S h n) ∧
  (∀ (d : Nat) (l0 l1 : Option mx_V) (v0 : mx_V) (S h : mx_H) (n : Int), mx_ex d 220 42 [l0, l1] [v0] S h n = mx_ex d 220 44 [l0, l1] [(0, 16), v0] S h n) ∧
  (∀ (d : Nat) (b a : Int) (l0 l1 : Option mx_V) (S h : mx_H) (n : Int), mx_ex d 220 44 [l0, l1] [(0, b), (0, a)] S h n = mx_ex d 220 45 [l0, l1] [(0, mx_ush a b)] S h n) ∧
  (∀ (d : Nat) (x : Int) (l0 : Option mx_V) (v0 : mx_V) (S h : mx_H) (n : Int), mx_ex d 220 45 [l0, some (0, x)] [v0] S h n = mx_ex d 220 46 [l0, some (0, x)] [(0, x), v0] S h n) ∧
  (∀ (d : Nat) (b a : Int) (l0 l1 : Option mx_V) (S h : mx_H) (n : Int), mx_ex d 220 46 [l0, l1] [(0, b), (0, a)] S h n = mx_gd (¬ b = 0) d 220 47 [l0, l1] [(0, Int.tmod a b)] S h n) ∧
  (∀ (d : Nat) (x : Int) (l0 l1 : Option mx_V) (S h : mx_H) (n : Int), mx_ex d 220 47 [l0, l1] [(0, x)] S h n = some (some (0, x), S, h, n)) :=
  ⟨by intros; exact rfl,
   by intros; exact eq_ld rfl rfl,
   by intros; exact eq_push rfl,
   by intros; exact eq_push rfl,
   by intros; exact eq_cv rfl (Nat.le_of_ble_eq_true rfl) rfl rfl rfl (Nat.le_of_ble_eq_true rfl),
   by intros; exact eq_st rfl (by decide) (Nat.le_of_ble_eq_true rfl) rfl,
   by intros; exact eq_ld rfl rfl,
   by intros; exact eq_if1 rfl,
   by intros; exact eq_push rfl,
   by intros; exact eq_ret rfl,
   by intros; exact eq_ld rfl rfl,
   by intros; exact eq_gr rfl,
   by intros; exact eq_push rfl,
   by intros; exact eq_ld rfl rfl,
   by intros; exact eq_gr rfl,
   by intros; exact eq_push rfl,
   by intros; exact eq_iald rfl,
   by intros; exact eq_push rfl,
   by intros; exact eq_i2 (o := mx_mul) rfl,
   by intros; exact eq_push rfl,
   by intros; exact eq_i2 (o := mx_add) rfl,
   by intros; exact eq_iast rfl,
   by intros; exact eq_ld rfl rfl,
   by intros; exact eq_gr rfl,
   by intros; exact eq_push rfl,
   by intros; exact eq_iald rfl,
   by intros; exact eq_push rfl,
   by intros; exact eq_i2 (o := mx_ush) rfl,
   by intros; exact eq_ld rfl rfl,
   by intros; exact eq_i2d (o := mx_rem) rfl,
   by intros; exact eq_ret rfl⟩
theorem rh_X12_prove_23 : ∀ (d : Nat) (x : Int) (l0 l1 : Option mx_V) (S h : mx_H) (n : Int), mx_ex d 221 23 [l0, l1, some (0, x)] [] S h n = mx_ex d 221 24 [l0, l1, some (0, x)] [(0, x)] S h n := by intros; exact eq_ld rfl rfl
theorem rw_X12_prove :
  (∀ (d : Nat) (a0 a1 : Int) (S h : mx_H) (n : Int), mx_M d 221 [(2, a0), (0, a1)] S h n = mx_ex d 221 0 [some (2, a0), some (0, a1), none] [] S h n) ∧
  (∀ (d : Nat) (x : Int) (l1 l2 : Option mx_V) (S h : mx_H) (n : Int), mx_ex d 221 0 [some (2, x), l1, l2] [] S h n = mx_ex d 221 1 [some (2, x), l1, l2] [(2, x)] S h n) ∧
  (∀ (d : Nat) (x : Int) (l0 l2 : Option mx_V) (v0 : mx_V) (S h : mx_H) (n : Int), mx_ex d 221 1 [l0, some (0, x), l2] [v0] S h n = mx_ex d 221 2 [l0, some (0, x), l2] [(0, x), v0] S h n) ∧
  (∀ (d : Nat) (x0 a : Int) (l0 l1 l2 : Option mx_V) (S h : mx_H) (n : Int), mx_ex (d + 1) 221 2 [l0, l1, l2] [(0, x0), (2, a)] S h n = mx_cl (S a (-2) = 13) d 200 [(2, a), (0, x0)] 221 5 [l0, l1, l2] [] S h n) ∧
  (∀ (d : Nat) (a : Int) (l0 l1 l2 : Option mx_V) (S h : mx_H) (n : Int), mx_ex d 221 5 [l0, l1, l2] [(0, a)] S h n = mx_br (a = 0) d 221 8 11 [l0, l1, l2] [] S h n) ∧
  (∀ (d : Nat) (l0 l1 l2 : Option mx_V) (S h : mx_H) (n : Int), mx_ex d 221 8 [l0, l1, l2] [] S h n = mx_ex d 221 10 [l0, l1, l2] [(0, (-3))] S h n) ∧
  (∀ (d : Nat) (x : Int) (l0 l1 l2 : Option mx_V) (S h : mx_H) (n : Int), mx_ex d 221 10 [l0, l1, l2] [(0, x)] S h n = some (some (0, x), S, h, n)) ∧
  (∀ (d : Nat) (x : Int) (l1 l2 : Option mx_V) (S h : mx_H) (n : Int), mx_ex d 221 11 [some (2, x), l1, l2] [] S h n = mx_ex d 221 12 [some (2, x), l1, l2] [(2, x)] S h n) ∧
  (∀ (d : Nat) (x : Int) (l1 l2 : Option mx_V) (v0 : mx_V) (S h : mx_H) (n : Int), mx_ex d 221 12 [some (2, x), l1, l2] [v0] S h n = mx_ex d 221 13 [some (2, x), l1, l2] [(2, x), v0] S h n) ∧
  (∀ (d : Nat) (a : Int) (l0 l1 l2 : Option mx_V) (v1 : mx_V) (S h : mx_H) (n : Int), mx_ex d 221 13 [l0, l1, l2] [(2, a), v1] S h n = mx_gd (13 ≤ S a (-2) ∧ S a (-2) ≤ 13) d 221 16 [l0, l1, l2] [(2, S a 0), v1] S h n) ∧
  (∀ (d : Nat) (l0 l1 l2 : Option mx_V) (v0 v1 : mx_V) (S h : mx_H) (n : Int), mx_ex d 221 16 [l0, l1, l2] [v0, v1] S h n = mx_ex d 221 17 [l0, l1, l2] [(0, 0), v0, v1] S h n) ∧
  (∀ (d : Nat) (i a : Int) (l0 l1 l2 : Option mx_V) (v2 : mx_V) (S h : mx_H) (n : Int), mx_ex d 221 17 [l0, l1, l2] [(0, i), (2, a), v2] S h n = mx_gd ((S a (-2) = 20 ∨ S a (-2) = 24) ∧ 0 ≤ i ∧ i < S a (-1)) d 221 18 [l0, l1, l2] [(0, h a i), v2] S h n) ∧
  (∀ (d : Nat) (v a : Int) (l0 l1 l2 : Option mx_V) (S h : mx_H) (n : Int), mx_ex d 221 18 [l0, l1, l2] [(0, v), (2, a)] S h n = mx_gd (13 ≤ S a (-2) ∧ S a (-2) ≤ 13) d 221 21 [l0, l1, l2] [] S (mx_u h a 15 v) n) ∧
  (∀ (d : Nat) (l0 l1 l2 : Option mx_V) (S h : mx_H) (n : Int), mx_ex d 221 21 [l0, l1, l2] [] S h n = mx_ex d 221 22 [l0, l1, l2] [(0, 0)] S h n) ∧
  (∀ (d : Nat) (x : Int) (l0 l1 l2 : Option mx_V) (S h : mx_H) (n : Int), mx_ex d 221 22 [l0, l1, l2] [(0, x)] S h n = mx_ex d 221 23 [l0, mx_nl l1, some (0, x)] [] S h n) ∧
  (∀ (d : Nat) (x : Int) (l1 l2 : Option mx_V) (v0 : mx_V) (S h : mx_H) (n : Int), mx_ex d 221 24 [some (2, x), l1, l2] [v0] S h n = mx_ex d 221 25 [some (2, x), l1, l2] [(2, x), v0] S h n) ∧
  (∀ (d : Nat) (a : Int) (l0 l1 l2 : Option mx_V) (v1 : mx_V) (S h : mx_H) (n : Int), mx_ex d 221 25 [l0, l1, l2] [(2, a), v1] S h n = mx_gd (13 ≤ S a (-2) ∧ S a (-2) ≤ 13) d 221 28 [l0, l1, l2] [(0, h a 15), v1] S h n) ∧
  (∀ (d : Nat) (b a : Int) (l0 l1 l2 : Option mx_V) (S h : mx_H) (n : Int), mx_ex d 221 28 [l0, l1, l2] [(0, b), (0, a)] S h n = mx_br (a < b) d 221 31 84 [l0, l1, l2] [] S h n) ∧
  (∀ (d : Nat) (x : Int) (l1 l2 : Option mx_V) (S h : mx_H) (n : Int), mx_ex d 221 31 [some (2, x), l1, l2] [] S h n = mx_ex d 221 32 [some (2, x), l1, l2] [(2, x)] S h n) ∧
  (∀ (d : Nat) (a : Int) (l0 l1 l2 : Option mx_V) (S h : mx_H) (n : Int), mx_ex d 221 32 [l0, l1, l2] [(2, a)] S h n = mx_gd (13 ≤ S a (-2) ∧ S a (-2) ≤ 13) d 221 35 [l0, l1, l2] [(2, S a 14)] S h n) ∧
  (∀ (d : Nat) (l0 l1 l2 : Option mx_V) (v0 : mx_V) (S h : mx_H) (n : Int), mx_ex d 221 35 [l0, l1, l2] [v0] S h n = mx_ex d 221 36 [l0, l1, l2] [(0, 3), v0] S h n) ∧
  (∀ (d : Nat) (x : Int) (l0 l1 : Option mx_V) (v0 v1 : mx_V) (S h : mx_H) (n : Int), mx_ex d 221 36 [l0, l1, some (0, x)] [v0, v1] S h n = mx_ex d 221 37 [l0, l1, some (0, x)] [(0, x), v0, v1] S h n) ∧
  (∀ (d : Nat) (b a : Int) (l0 l1 l2 : Option mx_V) (v2 : mx_V) (S h : mx_H) (n : Int), mx_ex d 221 37 [l0, l1, l2] [(0, b), (0, a), v2] S h n = mx_ex d 221 38 [l0, l1, l2] [(0, mx_w (a * b)), v2] S h n) ∧
  (∀ (d : Nat) (x : Int) (l0 l1 : Option mx_V) (v0 v1 : mx_V) (S h : mx_H) (n : Int), mx_ex d 221 38 [l0, l1, some (0, x)] [v0, v1] S h n = mx_ex d 221 39 [l0, l1, some (0, x)] [(0, x), v0, v1] S h n) ∧
  (∀ (d : Nat) (a : Int) (l0 l1 l2 : Option mx_V) (v1 v2 : mx_V) (S h : mx_H) (n : Int), mx_ex d 221 39 [l0, l1, l2] [(0, a), v1, v2] S h n = mx_ex d 221 40 [l0, l1, l2] [(1, a), v1, v2] S h n) ∧
  (∀ (d : Nat) (v i a : Int) (l0 l1 l2 : Option mx_V) (S h : mx_H) (n : Int), mx_ex d 221 40 [l0, l1, l2] [(1, v), (0, i), (2, a)] S h n = mx_gd (S a (-2) = 21 ∧ 0 ≤ i ∧ i < S a (-1)) d 221 41 [l0, l1, l2] [] S (mx_u h a i v) n) ∧
  (∀ (d : Nat) (x : Int) (l1 l2 : Option mx_V) (S h : mx_H) (n : Int), mx_ex d 221 41 [some (2, x), l1, l2] [] S h n = mx_ex d 221 42 [some (2, x), l1, l2] [(2, x)] S h n) ∧
  (∀ (d : Nat) (a : Int) (l0 l1 l2 : Option mx_V) (S h : mx_H) (n : Int), mx_ex d 221 42 [l0, l1, l2] [(2, a)] S h n = mx_gd (13 ≤ S a (-2) ∧ S a (-2) ≤ 13) d 221 45 [l0, l1, l2] [(2, S a 14)] S h n) ∧
  (∀ (d : Nat) (l0 l1 l2 : Option mx_V) (v0 : mx_V) (S h : mx_H) (n : Int), mx_ex d 221 45 [l0, l1, l2] [v0] S h n = mx_ex d 221 46 [l0, l1, l2] [(0, 3), v0] S h n) ∧
  (∀ (d : Nat) (x : Int) (l0 l1 : Option mx_V) (v0 v1 : mx_V) (S h : mx_H) (n : Int), mx_ex d 221 46 [l0, l1, some (0, x)] [v0, v1] S h n = mx_ex d 221 47 [l0, l1, some (0, x)] [(0, x), v0, v1] S h n) ∧
  (∀ (d : Nat) (b a : Int) (l0 l1 l2 : Option mx_V) (v2 : mx_V) (S h : mx_H) (n : Int), mx_ex d 221 47 [l0, l1, l2] [(0, b), (0, a), v2] S h n = mx_ex d 221 48 [l0, l1, l2] [(0, mx_w (a * b)), v2] S h n) ∧
  (∀ (d : Nat) (l0 l1 l2 : Option mx_V) (v0 v1 : mx_V) (S h : mx_H) (n : Int), mx_ex d 221 48 [l0, l1, l2] [v0, v1] S h n = mx_ex d 221 49 [l0, l1, l2] [(0, 1), v0, v1] S h n) ∧
  (∀ (d : Nat) (b a : Int) (l0 l1 l2 : Option mx_V) (v2 : mx_V) (S h : mx_H) (n : Int), mx_ex d 221 49 [l0, l1, l2] [(0, b), (0, a), v2] S h n = mx_ex d 221 50 [l0, l1, l2] [(0, mx_w (a + b)), v2] S h n) ∧
  (∀ (d : Nat) (x : Int) (l1 l2 : Option mx_V) (v0 v1 : mx_V) (S h : mx_H) (n : Int), mx_ex d 221 50 [some (2, x), l1, l2] [v0, v1] S h n = mx_ex d 221 51 [some (2, x), l1, l2] [(2, x), v0, v1] S h n) ∧
  (∀ (d : Nat) (a : Int) (l0 l1 l2 : Option mx_V) (v1 v2 : mx_V) (S h : mx_H) (n : Int), mx_ex d 221 51 [l0, l1, l2] [(2, a), v1, v2] S h n = mx_gd (13 ≤ S a (-2) ∧ S a (-2) ≤ 13) d 221 54 [l0, l1, l2] [(2, S a 11), v1, v2] S h n) ∧
  (∀ (d : Nat) (x : Int) (l1 l2 : Option mx_V) (v0 v1 v2 : mx_V) (S h : mx_H) (n : Int), mx_ex d 221 54 [some (2, x), l1, l2] [v0, v1, v2] S h n = mx_ex d 221 55 [some (2, x), l1, l2] [(2, x), v0, v1, v2] S h n) ∧
  (∀ (d : Nat) (x : Int) (l0 l1 : Option mx_V) (v0 v1 v2 v3 : mx_V) (S h : mx_H) (n : Int), mx_ex d 221 55 [l0, l1, some (0, x)] [v0, v1, v2, v3] S h n = mx_ex d 221 56 [l0, l1, some (0, x)] [(0, x), v0, v1, v2, v3] S h n) ∧
  (∀ (d : Nat) (l0 l1 l2 : Option mx_V) (v0 v1 v2 v3 v4 : mx_V) (S h : mx_H) (n : Int), mx_ex d 221 56 [l0, l1, l2] [v0, v1, v2, v3, v4] S h n = mx_ex d 221 57 [l0, l1, l2] [(0, 1), v0, v1, v2, v3, v4] S h n) ∧
  (∀ (d : Nat) (x0 x1 a : Int) (l0 l1 l2 : Option mx_V) (v3 v4 v5 : mx_V) (S h : mx_H) (n : Int), mx_ex (d + 1) 221 57 [l0, l1, l2] [(0, x0), (0, x1), (2, a), v3, v4, v5] S h n = mx_cl (S a (-2) = 13) d 163 [(2, a), (0, x1), (0, x0)] 221 60 [l0, l1, l2] [v3, v4, v5] S h n) ∧
  (∀ (d : Nat) (i a : Int) (l0 l1 l2 : Option mx_V) (v2 v3 : mx_V) (S h : mx_H) (n : Int), mx_ex d 221 60 [l0, l1, l2] [(0, i), (2, a), v2, v3] S h n = mx_gd ((S a (-2) = 20 ∨ S a (-2) = 24) ∧ 0 ≤ i ∧ i < S a (-1)) d 221 61 [l0, l1, l2] [(0, h a i), v2, v3] S h n) ∧
  (∀ (d : Nat) (a : Int) (l0 l1 l2 : Option mx_V) (v1 v2 : mx_V) (S h : mx_H) (n : Int), mx_ex d 221 61 [l0, l1, l2] [(0, a), v1, v2] S h n = mx_ex d 221 62 [l0, l1, l2] [(1, a), v1, v2] S h n) ∧
  (∀ (d : Nat) (v i a : Int) (l0 l1 l2 : Option mx_V) (S h : mx_H) (n : Int), mx_ex d 221 62 [l0, l1, l2] [(1, v), (0, i), (2, a)] S h n = mx_gd (S a (-2) = 21 ∧ 0 ≤ i ∧ i < S a (-1)) d 221 63 [l0, l1, l2] [] S (mx_u h a i v) n) ∧
  (∀ (d : Nat) (x : Int) (l1 l2 : Option mx_V) (S h : mx_H) (n : Int), mx_ex d 221 63 [some (2, x), l1, l2] [] S h n = mx_ex d 221 64 [some (2, x), l1, l2] [(2, x)] S h n) ∧
  (∀ (d : Nat) (a : Int) (l0 l1 l2 : Option mx_V) (S h : mx_H) (n : Int), mx_ex d 221 64 [l0, l1, l2] [(2, a)] S h n = mx_gd (13 ≤ S a (-2) ∧ S a (-2) ≤ 13) d 221 67 [l0, l1, l2] [(2, S a 14)] S h n) ∧
  (∀ (d : Nat) (l0 l1 l2 : Option mx_V) (v0 : mx_V) (S h : mx_H) (n : Int), mx_ex d 221 67 [l0, l1, l2] [v0] S h n = mx_ex d 221 68 [l0, l1, l2] [(0, 3), v0] S h n) ∧
  (∀ (d : Nat) (x : Int) (l0 l1 : Option mx_V) (v0 v1 : mx_V) (S h : mx_H) (n : Int), mx_ex d 221 68 [l0, l1, some (0, x)] [v0, v1] S h n = mx_ex d 221 69 [l0, l1, some (0, x)] [(0, x), v0, v1] S h n) ∧
  (∀ (d : Nat) (b a : Int) (l0 l1 l2 : Option mx_V) (v2 : mx_V) (S h : mx_H) (n : Int), mx_ex d 221 69 [l0, l1, l2] [(0, b), (0, a), v2] S h n = mx_ex d 221 70 [l0, l1, l2] [(0, mx_w (a * b)), v2] S h n) ∧
  (∀ (d : Nat) (l0 l1 l2 : Option mx_V) (v0 v1 : mx_V) (S h : mx_H) (n : Int), mx_ex d 221 70 [l0, l1, l2] [v0, v1] S h n = mx_ex d 221 71 [l0, l1, l2] [(0, 2), v0, v1] S h n) ∧
  (∀ (d : Nat) (b a : Int) (l0 l1 l2 : Option mx_V) (v2 : mx_V) (S h : mx_H) (n : Int), mx_ex d 221 71 [l0, l1, l2] [(0, b), (0, a), v2] S h n = mx_ex d 221 72 [l0, l1, l2] [(0, mx_w (a + b)), v2] S h n) ∧
  (∀ (d : Nat) (x : Int) (l1 l2 : Option mx_V) (v0 v1 : mx_V) (S h : mx_H) (n : Int), mx_ex d 221 72 [some (2, x), l1, l2] [v0, v1] S h n = mx_ex d 221 73 [some (2, x), l1, l2] [(2, x), v0, v1] S h n) ∧
  (∀ (d : Nat) (x : Int) (l0 l1 : Option mx_V) (v0 v1 v2 : mx_V) (S h : mx_H) (n : Int), mx_ex d 221 73 [l0, l1, some (0, x)] [v0, v1, v2] S h n = mx_ex d 221 74 [l0, l1, some (0, x)] [(0, x), v0, v1, v2] S h n) ∧
  (∀ (d : Nat) (x0 a : Int) (l0 l1 l2 : Option mx_V) (v2 v3 : mx_V) (S h : mx_H) (n : Int), mx_ex (d + 1) 221 74 [l0, l1, l2] [(0, x0), (2, a), v2, v3] S h n = mx_cl (S a (-2) = 13) d 193 [(2, a), (0, x0)] 221 77 [l0, l1, l2] [v2, v3] S h n) ∧
  (∀ (d : Nat) (v i a : Int) (l0 l1 l2 : Option mx_V) (S h : mx_H) (n : Int), mx_ex d 221 77 [l0, l1, l2] [(1, v), (0, i), (2, a)] S h n = mx_gd (S a (-2) = 21 ∧ 0 ≤ i ∧ i < S a (-1)) d 221 78 [l0, l1, l2] [] S (mx_u h a i v) n) ∧
  (∀ (d : Nat) (x : Int) (l0 l1 : Option mx_V) (S h : mx_H) (n : Int), mx_ex d 221 78 [l0, l1, some (0, x)] [] S h n = mx_ex d 221 81 [l0, mx_nl l1, some (0, mx_w (x + 1))] [] S h n) ∧
  (∀ (d : Nat) (l0 l1 l2 : Option mx_V) (S h : mx_H) (n : Int), mx_ex d 221 81 [l0, l1, l2] [] S h n = mx_ex d 221 23 [l0, l1, l2] [] S h n) ∧
  (∀ (d : Nat) (x : Int) (l1 l2 : Option mx_V) (S h : mx_H) (n : Int), mx_ex d 221 84 [some (2, x), l1, l2] [] S h n = mx_ex d 221 85 [some (2, x), l1, l2] [(2, x)] S h n) ∧
  (∀ (d : Nat) (a : Int) (l0 l1 l2 : Option mx_V) (S h : mx_H) (n : Int), mx_ex d 221 85 [l0, l1, l2] [(2, a)] S h n = mx_gd (13 ≤ S a (-2) ∧ S a (-2) ≤ 13) d 221 88 [l0, l1, l2] [(0, h a 15)] S h n) ∧
  (∀ (d : Nat) (x : Int) (l0 l1 l2 : Option mx_V) (S h : mx_H) (n : Int), mx_ex d 221 88 [l0, l1, l2] [(0, x)] S h n = some (some (0, x), S, h, n)) :=
  ⟨by intros; exact rfl,
   by intros; exact eq_ld rfl rfl,
   by intros; exact eq_ld rfl rfl,
   by intros; exact eq_cv rfl (Nat.le_of_ble_eq_true rfl) rfl rfl rfl (Nat.le_of_ble_eq_true rfl),
   by intros; exact eq_if1 rfl,
   by intros; exact eq_push rfl,
   by intros; exact eq_ret rfl,
   by intros; exact eq_ld rfl rfl,
   by intros; exact eq_ld rfl rfl,
   by intros; exact eq_gr rfl,
   by intros; exact eq_push rfl,
   by intros; exact eq_iald rfl,
   by intros; exact eq_pi rfl,
   by intros; exact eq_push rfl,
   by intros; exact eq_st rfl (by decide) (Nat.le_of_ble_eq_true rfl) rfl,
   by intros; exact eq_ld rfl rfl,
   by intros; exact eq_gi rfl,
   by intros; exact eq_ic3 rfl,
   by intros; exact eq_ld rfl rfl,
   by intros; exact eq_gr rfl,
   by intros; exact eq_push rfl,
   by intros; exact eq_ld rfl rfl,
   by intros; exact eq_i2 (o := mx_mul) rfl,
   by intros; exact eq_ld rfl rfl,
   by intros; exact eq_i2l rfl,
   by intros; exact eq_last rfl,
   by intros; exact eq_ld rfl rfl,
   by intros; exact eq_gr rfl,
   by intros; exact eq_push rfl,
   by intros; exact eq_ld rfl rfl,
   by intros; exact eq_i2 (o := mx_mul) rfl,
   by intros; exact eq_push rfl,
   by intros; exact eq_i2 (o := mx_add) rfl,
   by intros; exact eq_ld rfl rfl,
   by intros; exact eq_gr rfl,
   by intros; exact eq_ld rfl rfl,
   by intros; exact eq_ld rfl rfl,
   by intros; exact eq_push rfl,
   by intros; exact eq_cv rfl (Nat.le_of_ble_eq_true rfl) rfl rfl rfl (Nat.le_of_ble_eq_true rfl),
   by intros; exact eq_iald rfl,
   by intros; exact eq_i2l rfl,
   by intros; exact eq_last rfl,
   by intros; exact eq_ld rfl rfl,
   by intros; exact eq_gr rfl,
   by intros; exact eq_push rfl,
   by intros; exact eq_ld rfl rfl,
   by intros; exact eq_i2 (o := mx_mul) rfl,
   by intros; exact eq_push rfl,
   by intros; exact eq_i2 (o := mx_add) rfl,
   by intros; exact eq_ld rfl rfl,
   by intros; exact eq_ld rfl rfl,
   by intros; exact eq_cv rfl (Nat.le_of_ble_eq_true rfl) rfl rfl rfl (Nat.le_of_ble_eq_true rfl),
   by intros; exact eq_last rfl,
   by intros; exact eq_inc rfl rfl rfl,
   by intros; exact eq_go rfl,
   by intros; exact eq_ld rfl rfl,
   by intros; exact eq_gi rfl,
   by intros; exact eq_ret rfl⟩
theorem rw_X12_isRow :
  (∀ (d : Nat) (a0 a1 a2 : Int) (S h : mx_H) (n : Int), mx_M d 222 [(2, a0), (0, a1), (0, a2)] S h n = mx_ex d 222 0 [some (2, a0), some (0, a1), some (0, a2)] [] S h n) ∧
  (∀ (d : Nat) (x : Int) (l0 l2 : Option mx_V) (S h : mx_H) (n : Int), mx_ex d 222 0 [l0, some (0, x), l2] [] S h n = mx_ex d 222 1 [l0, some (0, x), l2] [(0, x)] S h n) ∧
  (∀ (d : Nat) (l0 l1 l2 : Option mx_V) (v0 : mx_V) (S h : mx_H) (n : Int), mx_ex d 222 1 [l0, l1, l2] [v0] S h n = mx_ex d 222 2 [l0, l1, l2] [(0, 0), v0] S h n) ∧
  (∀ (d : Nat) (x : Int) (l1 l2 : Option mx_V) (v0 v1 : mx_V) (S h : mx_H) (n : Int), mx_ex d 222 2 [some (2, x), l1, l2] [v0, v1] S h n = mx_ex d 222 3 [some (2, x), l1, l2] [(2, x), v0, v1] S h n) ∧
  (∀ (d : Nat) (a : Int) (l0 l1 l2 : Option mx_V) (v1 v2 : mx_V) (S h : mx_H) (n : Int), mx_ex d 222 3 [l0, l1, l2] [(2, a), v1, v2] S h n = mx_gd (13 ≤ S a (-2) ∧ S a (-2) ≤ 13) d 222 6 [l0, l1, l2] [(0, h a 15), v1, v2] S h n) ∧
  (∀ (d : Nat) (l0 l1 l2 : Option mx_V) (v0 v1 v2 : mx_V) (S h : mx_H) (n : Int), mx_ex d 222 6 [l0, l1, l2] [v0, v1, v2] S h n = mx_ex d 222 7 [l0, l1, l2] [(0, 1), v0, v1, v2] S h n) ∧
  (∀ (d : Nat) (b a : Int) (l0 l1 l2 : Option mx_V) (v2 v3 : mx_V) (S h : mx_H) (n : Int), mx_ex d 222 7 [l0, l1, l2] [(0, b), (0, a), v2, v3] S h n = mx_ex d 222 8 [l0, l1, l2] [(0, mx_w (a - b)), v2, v3] S h n) ∧
  (∀ (d : Nat) (x0 x1 x2 : Int) (l0 l1 l2 : Option mx_V) (S h : mx_H) (n : Int), mx_ex (d + 1) 222 8 [l0, l1, l2] [(0, x0), (0, x1), (0, x2)] S h n = mx_rt (mx_M d 159 [(0, x2), (0, x1), (0, x0)] S h n) (d + 1) 222 11 [l0, l1, l2] []) ∧
  (∀ (d : Nat) (a : Int) (l0 l1 l2 : Option mx_V) (S h : mx_H) (n : Int), mx_ex d 222 11 [l0, l1, l2] [(0, a)] S h n = mx_br (a = 0) d 222 27 14 [l0, l1, l2] [] S h n) ∧
  (∀ (d : Nat) (x : Int) (l0 l1 : Option mx_V) (S h : mx_H) (n : Int), mx_ex d 222 14 [l0, l1, some (0, x)] [] S h n = mx_ex d 222 15 [l0, l1, some (0, x)] [(0, x)] S h n) ∧
  (∀ (d : Nat) (l0 l1 l2 : Option mx_V) (v0 : mx_V) (S h : mx_H) (n : Int), mx_ex d 222 15 [l0, l1, l2] [v0] S h n = mx_ex d 222 16 [l0, l1, l2] [(0, 0), v0] S h n) ∧
  (∀ (d : Nat) (l0 l1 l2 : Option mx_V) (v0 v1 : mx_V) (S h : mx_H) (n : Int), mx_ex d 222 16 [l0, l1, l2] [v0, v1] S h n = mx_ex d 222 17 [l0, l1, l2] [(0, 2), v0, v1] S h n) ∧
  (∀ (d : Nat) (x0 x1 x2 : Int) (l0 l1 l2 : Option mx_V) (S h : mx_H) (n : Int), mx_ex (d + 1) 222 17 [l0, l1, l2] [(0, x0), (0, x1), (0, x2)] S h n = mx_rt (mx_M d 159 [(0, x2), (0, x1), (0, x0)] S h n) (d + 1) 222 20 [l0, l1, l2] []) ∧
  (∀ (d : Nat) (a : Int) (l0 l1 l2 : Option mx_V) (S h : mx_H) (n : Int), mx_ex d 222 20 [l0, l1, l2] [(0, a)] S h n = mx_br (a = 0) d 222 27 23 [l0, l1, l2] [] S h n) ∧
  (∀ (d : Nat) (l0 l1 l2 : Option mx_V) (S h : mx_H) (n : Int), mx_ex d 222 23 [l0, l1, l2] [] S h n = mx_ex d 222 24 [l0, l1, l2] [(0, 1)] S h n) ∧
  (∀ (d : Nat) (l0 l1 l2 : Option mx_V) (v0 : mx_V) (S h : mx_H) (n : Int), mx_ex d 222 24 [l0, l1, l2] [v0] S h n = mx_ex d 222 28 [l0, l1, l2] [v0] S h n) ∧
  (∀ (d : Nat) (l0 l1 l2 : Option mx_V) (S h : mx_H) (n : Int), mx_ex d 222 27 [l0, l1, l2] [] S h n = mx_ex d 222 28 [l0, l1, l2] [(0, 0)] S h n) ∧
  (∀ (d : Nat) (x : Int) (l0 l1 l2 : Option mx_V) (S h : mx_H) (n : Int), mx_ex d 222 28 [l0, l1, l2] [(0, x)] S h n = mx_re (0 ≤ x ∧ x ≤ 1) (some (0, x)) S h n) :=
  ⟨by intros; exact rfl,
   by intros; exact eq_ld rfl rfl,
   by intros; exact eq_push rfl,
   by intros; exact eq_ld rfl rfl,
   by intros; exact eq_gi rfl,
   by intros; exact eq_push rfl,
   by intros; exact eq_i2 (o := mx_sub) rfl,
   by intros; exact eq_cs rfl (Nat.le_of_ble_eq_true rfl) rfl rfl rfl (Nat.le_of_ble_eq_true rfl),
   by intros; exact eq_if0 rfl,
   by intros; exact eq_ld rfl rfl,
   by intros; exact eq_push rfl,
   by intros; exact eq_push rfl,
   by intros; exact eq_cs rfl (Nat.le_of_ble_eq_true rfl) rfl rfl rfl (Nat.le_of_ble_eq_true rfl),
   by intros; exact eq_if0 rfl,
   by intros; exact eq_push rfl,
   by intros; exact eq_go rfl,
   by intros; exact eq_push rfl,
   by intros; exact eq_rr rfl⟩
theorem rw_X12_row :
  (∀ (d : Nat) (a0 a1 a2 : Int) (S h : mx_H) (n : Int), mx_M d 223 [(2, a0), (0, a1), (0, a2)] S h n = mx_ex d 223 0 [some (2, a0), some (0, a1), some (0, a2)] [] S h n) ∧
  (∀ (d : Nat) (x : Int) (l1 l2 : Option mx_V) (S h : mx_H) (n : Int), mx_ex d 223 0 [some (2, x), l1, l2] [] S h n = mx_ex d 223 1 [some (2, x), l1, l2] [(2, x)] S h n) ∧
  (∀ (d : Nat) (x : Int) (l0 l2 : Option mx_V) (v0 : mx_V) (S h : mx_H) (n : Int), mx_ex d 223 1 [l0, some (0, x), l2] [v0] S h n = mx_ex d 223 2 [l0, some (0, x), l2] [(0, x), v0] S h n) ∧
  (∀ (d : Nat) (x : Int) (l0 l1 : Option mx_V) (v0 v1 : mx_V) (S h : mx_H) (n : Int), mx_ex d 223 2 [l0, l1, some (0, x)] [v0, v1] S h n = mx_ex d 223 3 [l0, l1, some (0, x)] [(0, x), v0, v1] S h n) ∧
  (∀ (d : Nat) (x0 x1 a : Int) (l0 l1 l2 : Option mx_V) (S h : mx_H) (n : Int), mx_ex (d + 1) 223 3 [l0, l1, l2] [(0, x0), (0, x1), (2, a)] S h n = mx_cl (S a (-2) = 13) d 222 [(2, a), (0, x1), (0, x0)] 223 6 [l0, l1, l2] [] S h n) ∧
  (∀ (d : Nat) (a : Int) (l0 l1 l2 : Option mx_V) (S h : mx_H) (n : Int), mx_ex d 223 6 [l0, l1, l2] [(0, a)] S h n = mx_br (a = 0) d 223 22 9 [l0, l1, l2] [] S h n) ∧
  (∀ (d : Nat) (x : Int) (l1 l2 : Option mx_V) (S h : mx_H) (n : Int), mx_ex d 223 9 [some (2, x), l1, l2] [] S h n = mx_ex d 223 10 [some (2, x), l1, l2] [(2, x)] S h n) ∧
  (∀ (d : Nat) (a : Int) (l0 l1 l2 : Option mx_V) (S h : mx_H) (n : Int), mx_ex d 223 10 [l0, l1, l2] [(2, a)] S h n = mx_gd (13 ≤ S a (-2) ∧ S a (-2) ≤ 13) d 223 13 [l0, l1, l2] [(2, S a 14)] S h n) ∧
  (∀ (d : Nat) (l0 l1 l2 : Option mx_V) (v0 : mx_V) (S h : mx_H) (n : Int), mx_ex d 223 13 [l0, l1, l2] [v0] S h n = mx_ex d 223 14 [l0, l1, l2] [(0, 3), v0] S h n) ∧
  (∀ (d : Nat) (x : Int) (l0 l2 : Option mx_V) (v0 v1 : mx_V) (S h : mx_H) (n : Int), mx_ex d 223 14 [l0, some (0, x), l2] [v0, v1] S h n = mx_ex d 223 15 [l0, some (0, x), l2] [(0, x), v0, v1] S h n) ∧
  (∀ (d : Nat) (b a : Int) (l0 l1 l2 : Option mx_V) (v2 : mx_V) (S h : mx_H) (n : Int), mx_ex d 223 15 [l0, l1, l2] [(0, b), (0, a), v2] S h n = mx_ex d 223 16 [l0, l1, l2] [(0, mx_w (a * b)), v2] S h n) ∧
  (∀ (d : Nat) (x : Int) (l0 l1 : Option mx_V) (v0 v1 : mx_V) (S h : mx_H) (n : Int), mx_ex d 223 16 [l0, l1, some (0, x)] [v0, v1] S h n = mx_ex d 223 17 [l0, l1, some (0, x)] [(0, x), v0, v1] S h n) ∧
  (∀ (d : Nat) (b a : Int) (l0 l1 l2 : Option mx_V) (v2 : mx_V) (S h : mx_H) (n : Int), mx_ex d 223 17 [l0, l1, l2] [(0, b), (0, a), v2] S h n = mx_ex d 223 18 [l0, l1, l2] [(0, mx_w (a + b)), v2] S h n) ∧
  (∀ (d : Nat) (i a : Int) (l0 l1 l2 : Option mx_V) (S h : mx_H) (n : Int), mx_ex d 223 18 [l0, l1, l2] [(0, i), (2, a)] S h n = mx_gd (S a (-2) = 21 ∧ 0 ≤ i ∧ i < S a (-1)) d 223 19 [l0, l1, l2] [(1, h a i)] S h n) ∧
  (∀ (d : Nat) (l0 l1 l2 : Option mx_V) (v0 : mx_V) (S h : mx_H) (n : Int), mx_ex d 223 19 [l0, l1, l2] [v0] S h n = mx_ex d 223 25 [l0, l1, l2] [v0] S h n) ∧
  (∀ (d : Nat) (l0 l1 l2 : Option mx_V) (S h : mx_H) (n : Int), mx_ex d 223 22 [l0, l1, l2] [] S h n = mx_ex d 223 25 [l0, l1, l2] [(1, (-1000000000000))] S h n) ∧
  (∀ (d : Nat) (x : Int) (l0 l1 l2 : Option mx_V) (S h : mx_H) (n : Int), mx_ex d 223 25 [l0, l1, l2] [(1, x)] S h n = some (some (1, x), S, h, n)) :=
  ⟨by intros; exact rfl,
   by intros; exact eq_ld rfl rfl,
   by intros; exact eq_ld rfl rfl,
   by intros; exact eq_ld rfl rfl,
   by intros; exact eq_cv rfl (Nat.le_of_ble_eq_true rfl) rfl rfl rfl (Nat.le_of_ble_eq_true rfl),
   by intros; exact eq_if0 rfl,
   by intros; exact eq_ld rfl rfl,
   by intros; exact eq_gr rfl,
   by intros; exact eq_push rfl,
   by intros; exact eq_ld rfl rfl,
   by intros; exact eq_i2 (o := mx_mul) rfl,
   by intros; exact eq_ld rfl rfl,
   by intros; exact eq_i2 (o := mx_add) rfl,
   by intros; exact eq_lald rfl,
   by intros; exact eq_go rfl,
   by intros; exact eq_push rfl,
   by intros; exact eq_ret rfl⟩
theorem rw_X12_alterRow :
  (∀ (d : Nat) (a0 a1 a2 a3 : Int) (S h : mx_H) (n : Int), mx_M d 224 [(2, a0), (0, a1), (0, a2), (1, a3)] S h n = mx_ex d 224 0 [some (2, a0), some (0, a1), some (0, a2), some (1, a3), none, none, none] [] S h n) ∧
  (∀ (d : Nat) (x : Int) (l1 l2 l3 l4 l5 l6 : Option mx_V) (S h : mx_H) (n : Int), mx_ex d 224 0 [some (2, x), l1, l2, l3, l4, l5, l6] [] S h n = mx_ex d 224 1 [some (2, x), l1, l2, l3, l4, l5, l6] [(2, x)] S h n) ∧
  (∀ (d : Nat) (x : Int) (l0 l2 l3 l4 l5 l6 : Option mx_V) (v0 : mx_V) (S h : mx_H) (n : Int), mx_ex d 224 1 [l0, some (0, x), l2, l3, l4, l5, l6] [v0] S h n = mx_ex d 224 2 [l0, some (0, x), l2, l3, l4, l5, l6] [(0, x), v0] S h n) ∧
  (∀ (d : Nat) (x : Int) (l0 l1 l3 l4 l5 l6 : Option mx_V) (v0 v1 : mx_V) (S h : mx_H) (n : Int), mx_ex d 224 2 [l0, l1, some (0, x), l3, l4, l5, l6] [v0, v1] S h n = mx_ex d 224 3 [l0, l1, some (0, x), l3, l4, l5, l6] [(0, x), v0, v1] S h n) ∧
  (∀ (d : Nat) (x0 x1 a : Int) (l0 l1 l2 l3 l4 l5 l6 : Option mx_V) (S h : mx_H) (n : Int), mx_ex (d + 1) 224 3 [l0, l1, l2, l3, l4, l5, l6] [(0, x0), (0, x1), (2, a)] S h n = mx_cl (S a (-2) = 13) d 222 [(2, a), (0, x1), (0, x0)] 224 6 [l0, l1, l2, l3, l4, l5, l6] [] S h n) ∧
  (∀ (d : Nat) (a : Int) (l0 l1 l2 l3 l4 l5 l6 : Option mx_V) (S h : mx_H) (n : Int), mx_ex d 224 6 [l0, l1, l2, l3, l4, l5, l6] [(0, a)] S h n = mx_br (a = 0) d 224 9 13 [l0, l1, l2, l3, l4, l5, l6] [] S h n) ∧
  (∀ (d : Nat) (l0 l1 l2 l3 l4 l5 l6 : Option mx_V) (S h : mx_H) (n : Int), mx_ex d 224 9 [l0, l1, l2, l3, l4, l5, l6] [] S h n = mx_ex d 224 12 [l0, l1, l2, l3, l4, l5, l6] [(1, (-1000000000000))] S h n) ∧
  (∀ (d : Nat) (x : Int) (l0 l1 l2 l3 l4 l5 l6 : Option mx_V) (S h : mx_H) (n : Int), mx_ex d 224 12 [l0, l1, l2, l3, l4, l5, l6] [(1, x)] S h n = some (some (1, x), S, h, n)) ∧
  (∀ (d : Nat) (x : Int) (l1 l2 l3 l4 l5 l6 : Option mx_V) (S h : mx_H) (n : Int), mx_ex d 224 13 [some (2, x), l1, l2, l3, l4, l5, l6] [] S h n = mx_ex d 224 14 [some (2, x), l1, l2, l3, l4, l5, l6] [(2, x)] S h n) ∧
  (∀ (d : Nat) (a : Int) (l0 l1 l2 l3 l4 l5 l6 : Option mx_V) (S h : mx_H) (n : Int), mx_ex d 224 14 [l0, l1, l2, l3, l4, l5, l6] [(2, a)] S h n = mx_gd (13 ≤ S a (-2) ∧ S a (-2) ≤ 13) d 224 17 [l0, l1, l2, l3, l4, l5, l6] [(2, S a 14)] S h n) ∧
  (∀ (d : Nat) (l0 l1 l2 l3 l4 l5 l6 : Option mx_V) (v0 : mx_V) (S h : mx_H) (n : Int), mx_ex d 224 17 [l0, l1, l2, l3, l4, l5, l6] [v0] S h n = mx_ex d 224 18 [l0, l1, l2, l3, l4, l5, l6] [(0, 3), v0] S h n) ∧
  (∀ (d : Nat) (x : Int) (l0 l2 l3 l4 l5 l6 : Option mx_V) (v0 v1 : mx_V) (S h : mx_H) (n : Int), mx_ex d 224 18 [l0, some (0, x), l2, l3, l4, l5, l6] [v0, v1] S h n = mx_ex d 224 19 [l0, some (0, x), l2, l3, l4, l5, l6] [(0, x), v0, v1] S h n) ∧
  (∀ (d : Nat) (b a : Int) (l0 l1 l2 l3 l4 l5 l6 : Option mx_V) (v2 : mx_V) (S h : mx_H) (n : Int), mx_ex d 224 19 [l0, l1, l2, l3, l4, l5, l6] [(0, b), (0, a), v2] S h n = mx_ex d 224 20 [l0, l1, l2, l3, l4, l5, l6] [(0, mx_w (a * b)), v2] S h n) ∧
  (∀ (d : Nat) (x : Int) (l0 l1 l3 l4 l5 l6 : Option mx_V) (v0 v1 : mx_V) (S h : mx_H) (n : Int), mx_ex d 224 20 [l0, l1, some (0, x), l3, l4, l5, l6] [v0, v1] S h n = mx_ex d 224 21 [l0, l1, some (0, x), l3, l4, l5, l6] [(0, x), v0, v1] S h n) ∧
  (∀ (d : Nat) (b a : Int) (l0 l1 l2 l3 l4 l5 l6 : Option mx_V) (v2 : mx_V) (S h : mx_H) (n : Int), mx_ex d 224 21 [l0, l1, l2, l3, l4, l5, l6] [(0, b), (0, a), v2] S h n = mx_ex d 224 22 [l0, l1, l2, l3, l4, l5, l6] [(0, mx_w (a + b)), v2] S h n) ∧
  (∀ (d : Nat) (i a : Int) (l0 l1 l2 l3 l4 l5 l6 : Option mx_V) (S h : mx_H) (n : Int), mx_ex d 224 22 [l0, l1, l2, l3, l4, l5, l6] [(0, i), (2, a)] S h n = mx_gd (S a (-2) = 21 ∧ 0 ≤ i ∧ i < S a (-1)) d 224 23 [l0, l1, l2, l3, l4, l5, l6] [(1, h a i)] S h n) ∧
  (∀ (d : Nat) (x : Int) (l0 l1 l2 l3 l4 l5 l6 : Option mx_V) (S h : mx_H) (n : Int), mx_ex d 224 23 [l0, l1, l2, l3, l4, l5, l6] [(1, x)] S h n = mx_ex d 224 25 [l0, l1, l2, l3, mx_nl l4, some (1, x), none] [] S h n) ∧
  (∀ (d : Nat) (x : Int) (l1 l2 l3 l4 l5 l6 : Option mx_V) (S h : mx_H) (n : Int), mx_ex d 224 25 [some (2, x), l1, l2, l3, l4, l5, l6] [] S h n = mx_ex d 224 26 [some (2, x), l1, l2, l3, l4, l5, l6] [(2, x)] S h n) ∧
  (∀ (d : Nat) (a : Int) (l0 l1 l2 l3 l4 l5 l6 : Option mx_V) (S h : mx_H) (n : Int), mx_ex d 224 26 [l0, l1, l2, l3, l4, l5, l6] [(2, a)] S h n = mx_gd (13 ≤ S a (-2) ∧ S a (-2) ≤ 13) d 224 29 [l0, l1, l2, l3, l4, l5, l6] [(2, S a 14)] S h n) ∧
  (∀ (d : Nat) (l0 l1 l2 l3 l4 l5 l6 : Option mx_V) (v0 : mx_V) (S h : mx_H) (n : Int), mx_ex d 224 29 [l0, l1, l2, l3, l4, l5, l6] [v0] S h n = mx_ex d 224 30 [l0, l1, l2, l3, l4, l5, l6] [(0, 3), v0] S h n) ∧
  (∀ (d : Nat) (x : Int) (l0 l2 l3 l4 l5 l6 : Option mx_V) (v0 v1 : mx_V) (S h : mx_H) (n : Int), mx_ex d 224 30 [l0, some (0, x), l2, l3, l4, l5, l6] [v0, v1] S h n = mx_ex d 224 31 [l0, some (0, x), l2, l3, l4, l5, l6] [(0, x), v0, v1] S h n) ∧
  (∀ (d : Nat) (b a : Int) (l0 l1 l2 l3 l4 l5 l6 : Option mx_V) (v2 : mx_V) (S h : mx_H) (n : Int), mx_ex d 224 31 [l0, l1, l2, l3, l4, l5, l6] [(0, b), (0, a), v2] S h n = mx_ex d 224 32 [l0, l1, l2, l3, l4, l5, l6] [(0, mx_w (a * b)), v2] S h n) ∧
  (∀ (d : Nat) (x : Int) (l0 l1 l3 l4 l5 l6 : Option mx_V) (v0 v1 : mx_V) (S h : mx_H) (n : Int), mx_ex d 224 32 [l0, l1, some (0, x), l3, l4, l5, l6] [v0, v1] S h n = mx_ex d 224 33 [l0, l1, some (0, x), l3, l4, l5, l6] [(0, x), v0, v1] S h n) ∧
  (∀ (d : Nat) (b a : Int) (l0 l1 l2 l3 l4 l5 l6 : Option mx_V) (v2 : mx_V) (S h : mx_H) (n : Int), mx_ex d 224 33 [l0, l1, l2, l3, l4, l5, l6] [(0, b), (0, a), v2] S h n = mx_ex d 224 34 [l0, l1, l2, l3, l4, l5, l6] [(0, mx_w (a + b)), v2] S h n) ∧
  (∀ (d : Nat) (x : Int) (l0 l1 l2 l4 l5 l6 : Option mx_V) (v0 v1 : mx_V) (S h : mx_H) (n : Int), mx_ex d 224 34 [l0, l1, l2, some (1, x), l4, l5, l6] [v0, v1] S h n = mx_ex d 224 35 [l0, l1, l2, some (1, x), l4, l5, l6] [(1, x), v0, v1] S h n) ∧
  (∀ (d : Nat) (v i a : Int) (l0 l1 l2 l3 l4 l5 l6 : Option mx_V) (S h : mx_H) (n : Int), mx_ex d 224 35 [l0, l1, l2, l3, l4, l5, l6] [(1, v), (0, i), (2, a)] S h n = mx_gd (S a (-2) = 21 ∧ 0 ≤ i ∧ i < S a (-1)) d 224 36 [l0, l1, l2, l3, l4, l5, l6] [] S (mx_u h a i v) n) ∧
  (∀ (d : Nat) (x : Int) (l0 l1 l2 l3 l4 l6 : Option mx_V) (S h : mx_H) (n : Int), mx_ex d 224 36 [l0, l1, l2, l3, l4, some (1, x), l6] [] S h n = mx_ex d 224 38 [l0, l1, l2, l3, l4, some (1, x), l6] [(1, x)] S h n) ∧
  (∀ (d : Nat) (x : Int) (l0 l1 l2 l3 l4 l5 l6 : Option mx_V) (S h : mx_H) (n : Int), mx_ex d 224 38 [l0, l1, l2, l3, l4, l5, l6] [(1, x)] S h n = some (some (1, x), S, h, n)) :=
  ⟨by intros; exact rfl,
   by intros; exact eq_ld rfl rfl,
   by intros; exact eq_ld rfl rfl,
   by intros; exact eq_ld rfl rfl,
   by intros; exact eq_cv rfl (Nat.le_of_ble_eq_true rfl) rfl rfl rfl (Nat.le_of_ble_eq_true rfl),
   by intros; exact eq_if1 rfl,
   by intros; exact eq_push rfl,
   by intros; exact eq_ret rfl,
   by intros; exact eq_ld rfl rfl,
   by intros; exact eq_gr rfl,
   by intros; exact eq_push rfl,
   by intros; exact eq_ld rfl rfl,
   by intros; exact eq_i2 (o := mx_mul) rfl,
   by intros; exact eq_ld rfl rfl,
   by intros; exact eq_i2 (o := mx_add) rfl,
   by intros; exact eq_lald rfl,
   by intros; exact eq_st2 rfl (Nat.le_of_ble_eq_true rfl) rfl,
   by intros; exact eq_ld rfl rfl,
   by intros; exact eq_gr rfl,
   by intros; exact eq_push rfl,
   by intros; exact eq_ld rfl rfl,
   by intros; exact eq_i2 (o := mx_mul) rfl,
   by intros; exact eq_ld rfl rfl,
   by intros; exact eq_i2 (o := mx_add) rfl,
   by intros; exact eq_ld rfl rfl,
   by intros; exact eq_last rfl,
   by intros; exact eq_ld rfl rfl,
   by intros; exact eq_ret rfl⟩
theorem rw_X12_isRight :
  (∀ (d : Nat) (a0 a1 : Int) (S h : mx_H) (n : Int), mx_M d 225 [(2, a0), (0, a1)] S h n = mx_ex d 225 0 [some (2, a0), some (0, a1), none, none, none] [] S h n) ∧
  (∀ (d : Nat) (x : Int) (l1 l2 l3 l4 : Option mx_V) (S h : mx_H) (n : Int), mx_ex d 225 0 [some (2, x), l1, l2, l3, l4] [] S h n = mx_ex d 225 1 [some (2, x), l1, l2, l3, l4] [(2, x)] S h n) ∧
  (∀ (d : Nat) (x : Int) (l0 l2 l3 l4 : Option mx_V) (v0 : mx_V) (S h : mx_H) (n : Int), mx_ex d 225 1 [l0, some (0, x), l2, l3, l4] [v0] S h n = mx_ex d 225 2 [l0, some (0, x), l2, l3, l4] [(0, x), v0] S h n) ∧
  (∀ (d : Nat) (x0 a : Int) (l0 l1 l2 l3 l4 : Option mx_V) (S h : mx_H) (n : Int), mx_ex (d + 1) 225 2 [l0, l1, l2, l3, l4] [(0, x0), (2, a)] S h n = mx_cl (S a (-2) = 13) d 160 [(2, a), (0, x0)] 225 5 [l0, l1, l2, l3, l4] [] S h n) ∧
  (∀ (d : Nat) (a : Int) (l0 l1 l2 l3 l4 : Option mx_V) (S h : mx_H) (n : Int), mx_ex d 225 5 [l0, l1, l2, l3, l4] [(0, a)] S h n = mx_br (a = 0) d 225 56 8 [l0, l1, l2, l3, l4] [] S h n) ∧
  (∀ (d : Nat) (x : Int) (l1 l2 l3 l4 : Option mx_V) (S h : mx_H) (n : Int), mx_ex d 225 8 [some (2, x), l1, l2, l3, l4] [] S h n = mx_ex d 225 9 [some (2, x), l1, l2, l3, l4] [(2, x)] S h n) ∧
  (∀ (d : Nat) (a : Int) (l0 l1 l2 l3 l4 : Option mx_V) (S h : mx_H) (n : Int), mx_ex d 225 9 [l0, l1, l2, l3, l4] [(2, a)] S h n = mx_gd (13 ≤ S a (-2) ∧ S a (-2) ≤ 13) d 225 12 [l0, l1, l2, l3, l4] [(2, S a 14)] S h n) ∧
  (∀ (d : Nat) (l0 l1 l2 l3 l4 : Option mx_V) (v0 : mx_V) (S h : mx_H) (n : Int), mx_ex d 225 12 [l0, l1, l2, l3, l4] [v0] S h n = mx_ex d 225 13 [l0, l1, l2, l3, l4] [(0, 3), v0] S h n) ∧
  (∀ (d : Nat) (x : Int) (l0 l2 l3 l4 : Option mx_V) (v0 v1 : mx_V) (S h : mx_H) (n : Int), mx_ex d 225 13 [l0, some (0, x), l2, l3, l4] [v0, v1] S h n = mx_ex d 225 14 [l0, some (0, x), l2, l3, l4] [(0, x), v0, v1] S h n) ∧
  (∀ (d : Nat) (b a : Int) (l0 l1 l2 l3 l4 : Option mx_V) (v2 : mx_V) (S h : mx_H) (n : Int), mx_ex d 225 14 [l0, l1, l2, l3, l4] [(0, b), (0, a), v2] S h n = mx_ex d 225 15 [l0, l1, l2, l3, l4] [(0, mx_w (a * b)), v2] S h n) ∧
  (∀ (d : Nat) (i a : Int) (l0 l1 l2 l3 l4 : Option mx_V) (S h : mx_H) (n : Int), mx_ex d 225 15 [l0, l1, l2, l3, l4] [(0, i), (2, a)] S h n = mx_gd (S a (-2) = 21 ∧ 0 ≤ i ∧ i < S a (-1)) d 225 16 [l0, l1, l2, l3, l4] [(1, h a i)] S h n) ∧
  (∀ (d : Nat) (x : Int) (l0 l2 l3 l4 : Option mx_V) (v0 : mx_V) (S h : mx_H) (n : Int), mx_ex d 225 16 [l0, some (0, x), l2, l3, l4] [v0] S h n = mx_ex d 225 17 [l0, some (0, x), l2, l3, l4] [(0, x), v0] S h n) ∧
  (∀ (d : Nat) (a : Int) (l0 l1 l2 l3 l4 : Option mx_V) (v1 : mx_V) (S h : mx_H) (n : Int), mx_ex d 225 17 [l0, l1, l2, l3, l4] [(0, a), v1] S h n = mx_ex d 225 18 [l0, l1, l2, l3, l4] [(1, a), v1] S h n) ∧
  (∀ (d : Nat) (b a : Int) (l0 l1 l2 l3 l4 : Option mx_V) (S h : mx_H) (n : Int), mx_ex d 225 18 [l0, l1, l2, l3, l4] [(1, b), (1, a)] S h n = mx_ex d 225 19 [l0, l1, l2, l3, l4] [(0, mx_cmp a b)] S h n) ∧
  (∀ (d : Nat) (a : Int) (l0 l1 l2 l3 l4 : Option mx_V) (S h : mx_H) (n : Int), mx_ex d 225 19 [l0, l1, l2, l3, l4] [(0, a)] S h n = mx_br (a = 0) d 225 22 56 [l0, l1, l2, l3, l4] [] S h n) ∧
  (∀ (d : Nat) (x : Int) (l1 l2 l3 l4 : Option mx_V) (S h : mx_H) (n : Int), mx_ex d 225 22 [some (2, x), l1, l2, l3, l4] [] S h n = mx_ex d 225 23 [some (2, x), l1, l2, l3, l4] [(2, x)] S h n) ∧
  (∀ (d : Nat) (a : Int) (l0 l1 l2 l3 l4 : Option mx_V) (S h : mx_H) (n : Int), mx_ex d 225 23 [l0, l1, l2, l3, l4] [(2, a)] S h n = mx_gd (13 ≤ S a (-2) ∧ S a (-2) ≤ 13) d 225 26 [l0, l1, l2, l3, l4] [(2, S a 14)] S h n) ∧
  (∀ (d : Nat) (l0 l1 l2 l3 l4 : Option mx_V) (v0 : mx_V) (S h : mx_H) (n : Int), mx_ex d 225 26 [l0, l1, l2, l3, l4] [v0] S h n = mx_ex d 225 27 [l0, l1, l2, l3, l4] [(0, 3), v0] S h n) ∧
  (∀ (d : Nat) (x : Int) (l0 l2 l3 l4 : Option mx_V) (v0 v1 : mx_V) (S h : mx_H) (n : Int), mx_ex d 225 27 [l0, some (0, x), l2, l3, l4] [v0, v1] S h n = mx_ex d 225 28 [l0, some (0, x), l2, l3, l4] [(0, x), v0, v1] S h n) ∧
  (∀ (d : Nat) (b a : Int) (l0 l1 l2 l3 l4 : Option mx_V) (v2 : mx_V) (S h : mx_H) (n : Int), mx_ex d 225 28 [l0, l1, l2, l3, l4] [(0, b), (0, a), v2] S h n = mx_ex d 225 29 [l0, l1, l2, l3, l4] [(0, mx_w (a * b)), v2] S h n) ∧
  (∀ (d : Nat) (l0 l1 l2 l3 l4 : Option mx_V) (v0 v1 : mx_V) (S h : mx_H) (n : Int), mx_ex d 225 29 [l0, l1, l2, l3, l4] [v0, v1] S h n = mx_ex d 225 30 [l0, l1, l2, l3, l4] [(0, 1), v0, v1] S h n) ∧
  (∀ (d : Nat) (b a : Int) (l0 l1 l2 l3 l4 : Option mx_V) (v2 : mx_V) (S h : mx_H) (n : Int), mx_ex d 225 30 [l0, l1, l2, l3, l4] [(0, b), (0, a), v2] S h n = mx_ex d 225 31 [l0, l1, l2, l3, l4] [(0, mx_w (a + b)), v2] S h n) ∧
  (∀ (d : Nat) (i a : Int) (l0 l1 l2 l3 l4 : Option mx_V) (S h : mx_H) (n : Int), mx_ex d 225 31 [l0, l1, l2, l3, l4] [(0, i), (2, a)] S h n = mx_gd (S a (-2) = 21 ∧ 0 ≤ i ∧ i < S a (-1)) d 225 32 [l0, l1, l2, l3, l4] [(1, h a i)] S h n) ∧
  (∀ (d : Nat) (l0 l1 l2 l3 l4 : Option mx_V) (v0 : mx_V) (S h : mx_H) (n : Int), mx_ex d 225 32 [l0, l1, l2, l3, l4] [v0] S h n = mx_ex d 225 35 [l0, l1, l2, l3, l4] [(1, 2), v0] S h n) ∧
  (∀ (d : Nat) (b a : Int) (l0 l1 l2 l3 l4 : Option mx_V) (S h : mx_H) (n : Int), mx_ex d 225 35 [l0, l1, l2, l3, l4] [(1, b), (1, a)] S h n = mx_ex d 225 36 [l0, l1, l2, l3, l4] [(0, mx_cmp a b)] S h n) ∧
  (∀ (d : Nat) (a : Int) (l0 l1 l2 l3 l4 : Option mx_V) (S h : mx_H) (n : Int), mx_ex d 225 36 [l0, l1, l2, l3, l4] [(0, a)] S h n = mx_br (a < 0) d 225 56 39 [l0, l1, l2, l3, l4] [] S h n) ∧
  (∀ (d : Nat) (x : Int) (l1 l2 l3 l4 : Option mx_V) (S h : mx_H) (n : Int), mx_ex d 225 39 [some (2, x), l1, l2, l3, l4] [] S h n = mx_ex d 225 40 [some (2, x), l1, l2, l3, l4] [(2, x)] S h n) ∧
  (∀ (d : Nat) (a : Int) (l0 l1 l2 l3 l4 : Option mx_V) (S h : mx_H) (n : Int), mx_ex d 225 40 [l0, l1, l2, l3, l4] [(2, a)] S h n = mx_gd (13 ≤ S a (-2) ∧ S a (-2) ≤ 13) d 225 43 [l0, l1, l2, l3, l4] [(2, S a 14)] S h n) ∧
  (∀ (d : Nat) (l0 l1 l2 l3 l4 : Option mx_V) (v0 : mx_V) (S h : mx_H) (n : Int), mx_ex d 225 43 [l0, l1, l2, l3, l4] [v0] S h n = mx_ex d 225 44 [l0, l1, l2, l3, l4] [(0, 3), v0] S h n) ∧
  (∀ (d : Nat) (x : Int) (l0 l2 l3 l4 : Option mx_V) (v0 v1 : mx_V) (S h : mx_H) (n : Int), mx_ex d 225 44 [l0, some (0, x), l2, l3, l4] [v0, v1] S h n = mx_ex d 225 45 [l0, some (0, x), l2, l3, l4] [(0, x), v0, v1] S h n) ∧
  (∀ (d : Nat) (b a : Int) (l0 l1 l2 l3 l4 : Option mx_V) (v2 : mx_V) (S h : mx_H) (n : Int), mx_ex d 225 45 [l0, l1, l2, l3, l4] [(0, b), (0, a), v2] S h n = mx_ex d 225 46 [l0, l1, l2, l3, l4] [(0, mx_w (a * b)), v2] S h n) ∧
  (∀ (d : Nat) (l0 l1 l2 l3 l4 : Option mx_V) (v0 v1 : mx_V) (S h : mx_H) (n : Int), mx_ex d 225 46 [l0, l1, l2, l3, l4] [v0, v1] S h n = mx_ex d 225 47 [l0, l1, l2, l3, l4] [(0, 1), v0, v1] S h n) ∧
  (∀ (d : Nat) (b a : Int) (l0 l1 l2 l3 l4 : Option mx_V) (v2 : mx_V) (S h : mx_H) (n : Int), mx_ex d 225 47 [l0, l1, l2, l3, l4] [(0, b), (0, a), v2] S h n = mx_ex d 225 48 [l0, l1, l2, l3, l4] [(0, mx_w (a + b)), v2] S h n) ∧
  (∀ (d : Nat) (i a : Int) (l0 l1 l2 l3 l4 : Option mx_V) (S h : mx_H) (n : Int), mx_ex d 225 48 [l0, l1, l2, l3, l4] [(0, i), (2, a)] S h n = mx_gd (S a (-2) = 21 ∧ 0 ≤ i ∧ i < S a (-1)) d 225 49 [l0, l1, l2, l3, l4] [(1, h a i)] S h n) ∧
  (∀ (d : Nat) (l0 l1 l2 l3 l4 : Option mx_V) (v0 : mx_V) (S h : mx_H) (n : Int), mx_ex d 225 49 [l0, l1, l2, l3, l4] [v0] S h n = mx_ex d 225 52 [l0, l1, l2, l3, l4] [(1, 16), v0] S h n) ∧
  (∀ (d : Nat) (b a : Int) (l0 l1 l2 l3 l4 : Option mx_V) (S h : mx_H) (n : Int), mx_ex d 225 52 [l0, l1, l2, l3, l4] [(1, b), (1, a)] S h n = mx_ex d 225 53 [l0, l1, l2, l3, l4] [(0, mx_cmp a b)] S h n) ∧
  (∀ (d : Nat) (a : Int) (l0 l1 l2 l3 l4 : Option mx_V) (S h : mx_H) (n : Int), mx_ex d 225 53 [l0, l1, l2, l3, l4] [(0, a)] S h n = mx_br (0 < a) d 225 56 58 [l0, l1, l2, l3, l4] [] S h n) ∧
  (∀ (d : Nat) (l0 l1 l2 l3 l4 : Option mx_V) (S h : mx_H) (n : Int), mx_ex d 225 56 [l0, l1, l2, l3, l4] [] S h n = mx_ex d 225 57 [l0, l1, l2, l3, l4] [(0, 0)] S h n) ∧
  (∀ (d : Nat) (x : Int) (l0 l1 l2 l3 l4 : Option mx_V) (S h : mx_H) (n : Int), mx_ex d 225 57 [l0, l1, l2, l3, l4] [(0, x)] S h n = mx_re (0 ≤ x ∧ x ≤ 1) (some (0, x)) S h n) ∧
  (∀ (d : Nat) (x : Int) (l1 l2 l3 l4 : Option mx_V) (S h : mx_H) (n : Int), mx_ex d 225 58 [some (2, x), l1, l2, l3, l4] [] S h n = mx_ex d 225 59 [some (2, x), l1, l2, l3, l4] [(2, x)] S h n) ∧
  (∀ (d : Nat) (x : Int) (l0 l2 l3 l4 : Option mx_V) (v0 : mx_V) (S h : mx_H) (n : Int), mx_ex d 225 59 [l0, some (0, x), l2, l3, l4] [v0] S h n = mx_ex d 225 60 [l0, some (0, x), l2, l3, l4] [(0, x), v0] S h n) ∧
  (∀ (d : Nat) (l0 l1 l2 l3 l4 : Option mx_V) (v0 v1 : mx_V) (S h : mx_H) (n : Int), mx_ex d 225 60 [l0, l1, l2, l3, l4] [v0, v1] S h n = mx_ex d 225 61 [l0, l1, l2, l3, l4] [(0, 1), v0, v1] S h n) ∧
  (∀ (d : Nat) (x0 x1 a : Int) (l0 l1 l2 l3 l4 : Option mx_V) (S h : mx_H) (n : Int), mx_ex (d + 1) 225 61 [l0, l1, l2, l3, l4] [(0, x0), (0, x1), (2, a)] S h n = mx_cl (S a (-2) = 13) d 163 [(2, a), (0, x1), (0, x0)] 225 64 [l0, l1, l2, l3, l4] [] S h n) ∧
  (∀ (d : Nat) (x : Int) (l0 l1 l2 l3 l4 : Option mx_V) (S h : mx_H) (n : Int), mx_ex d 225 64 [l0, l1, l2, l3, l4] [(0, x)] S h n = mx_ex d 225 65 [l0, mx_nl l1, some (0, x), l3, l4] [] S h n) ∧
  (∀ (d : Nat) (x : Int) (l1 l2 l3 l4 : Option mx_V) (S h : mx_H) (n : Int), mx_ex d 225 65 [some (2, x), l1, l2, l3, l4] [] S h n = mx_ex d 225 66 [some (2, x), l1, l2, l3, l4] [(2, x)] S h n) ∧
  (∀ (d : Nat) (a : Int) (l0 l1 l2 l3 l4 : Option mx_V) (S h : mx_H) (n : Int), mx_ex d 225 66 [l0, l1, l2, l3, l4] [(2, a)] S h n = mx_gd (13 ≤ S a (-2) ∧ S a (-2) ≤ 13) d 225 69 [l0, l1, l2, l3, l4] [(2, S a 14)] S h n) ∧
  (∀ (d : Nat) (l0 l1 l2 l3 l4 : Option mx_V) (v0 : mx_V) (S h : mx_H) (n : Int), mx_ex d 225 69 [l0, l1, l2, l3, l4] [v0] S h n = mx_ex d 225 70 [l0, l1, l2, l3, l4] [(0, 3), v0] S h n) ∧
  (∀ (d : Nat) (x : Int) (l0 l2 l3 l4 : Option mx_V) (v0 v1 : mx_V) (S h : mx_H) (n : Int), mx_ex d 225 70 [l0, some (0, x), l2, l3, l4] [v0, v1] S h n = mx_ex d 225 71 [l0, some (0, x), l2, l3, l4] [(0, x), v0, v1] S h n) ∧
  (∀ (d : Nat) (b a : Int) (l0 l1 l2 l3 l4 : Option mx_V) (v2 : mx_V) (S h : mx_H) (n : Int), mx_ex d 225 71 [l0, l1, l2, l3, l4] [(0, b), (0, a), v2] S h n = mx_ex d 225 72 [l0, l1, l2, l3, l4] [(0, mx_w (a * b)), v2] S h n) ∧
  (∀ (d : Nat) (l0 l1 l2 l3 l4 : Option mx_V) (v0 v1 : mx_V) (S h : mx_H) (n : Int), mx_ex d 225 72 [l0, l1, l2, l3, l4] [v0, v1] S h n = mx_ex d 225 73 [l0, l1, l2, l3, l4] [(0, 1), v0, v1] S h n) ∧
  (∀ (d : Nat) (b a : Int) (l0 l1 l2 l3 l4 : Option mx_V) (v2 : mx_V) (S h : mx_H) (n : Int), mx_ex d 225 73 [l0, l1, l2, l3, l4] [(0, b), (0, a), v2] S h n = mx_ex d 225 74 [l0, l1, l2, l3, l4] [(0, mx_w (a + b)), v2] S h n) ∧
  (∀ (d : Nat) (i a : Int) (l0 l1 l2 l3 l4 : Option mx_V) (S h : mx_H) (n : Int), mx_ex d 225 74 [l0, l1, l2, l3, l4] [(0, i), (2, a)] S h n = mx_gd (S a (-2) = 21 ∧ 0 ≤ i ∧ i < S a (-1)) d 225 75 [l0, l1, l2, l3, l4] [(1, h a i)] S h n) ∧
  (∀ (d : Nat) (a : Int) (l0 l1 l2 l3 l4 : Option mx_V) (S h : mx_H) (n : Int), mx_ex d 225 75 [l0, l1, l2, l3, l4] [(1, a)] S h n = mx_ex d 225 76 [l0, l1, l2, l3, l4] [(0, mx_w a)] S h n) ∧
  (∀ (d : Nat) (x : Int) (l0 l1 l2 l3 l4 : Option mx_V) (S h : mx_H) (n : Int), mx_ex d 225 76 [l0, l1, l2, l3, l4] [(0, x)] S h n = mx_ex d 225 77 [l0, l1, mx_nl l2, some (0, x), l4] [] S h n) ∧
  (∀ (d : Nat) (x : Int) (l0 l1 l2 l4 : Option mx_V) (S h : mx_H) (n : Int), mx_ex d 225 77 [l0, l1, l2, some (0, x), l4] [] S h n = mx_ex d 225 78 [l0, l1, l2, some (0, x), l4] [(0, x)] S h n) ∧
  (∀ (d : Nat) (x : Int) (l1 l2 l3 l4 : Option mx_V) (v0 : mx_V) (S h : mx_H) (n : Int), mx_ex d 225 78 [some (2, x), l1, l2, l3, l4] [v0] S h n = mx_ex d 225 79 [some (2, x), l1, l2, l3, l4] [(2, x), v0] S h n) ∧
  (∀ (d : Nat) (a : Int) (l0 l1 l2 l3 l4 : Option mx_V) (v1 : mx_V) (S h : mx_H) (n : Int), mx_ex d 225 79 [l0, l1, l2, l3, l4] [(2, a), v1] S h n = mx_gd (13 ≤ S a (-2) ∧ S a (-2) ≤ 13) d 225 82 [l0, l1, l2, l3, l4] [(2, S a 0), v1] S h n) ∧
  (∀ (d : Nat) (l0 l1 l2 l3 l4 : Option mx_V) (v0 v1 : mx_V) (S h : mx_H) (n : Int), mx_ex d 225 82 [l0, l1, l2, l3, l4] [v0, v1] S h n = mx_ex d 225 83 [l0, l1, l2, l3, l4] [(0, 3), v0, v1] S h n) ∧
  (∀ (d : Nat) (l0 l1 l2 l3 l4 : Option mx_V) (v0 v1 v2 : mx_V) (S h : mx_H) (n : Int), mx_ex d 225 83 [l0, l1, l2, l3, l4] [v0, v1, v2] S h n = mx_ex d 225 84 [l0, l1, l2, l3, l4] [(0, 2), v0, v1, v2] S h n) ∧
  (∀ (d : Nat) (x : Int) (l0 l1 l3 l4 : Option mx_V) (v0 v1 v2 v3 : mx_V) (S h : mx_H) (n : Int), mx_ex d 225 84 [l0, l1, some (0, x), l3, l4] [v0, v1, v2, v3] S h n = mx_ex d 225 85 [l0, l1, some (0, x), l3, l4] [(0, x), v0, v1, v2, v3] S h n) ∧
  (∀ (d : Nat) (b a : Int) (l0 l1 l2 l3 l4 : Option mx_V) (v2 v3 v4 : mx_V) (S h : mx_H) (n : Int), mx_ex d 225 85 [l0, l1, l2, l3, l4] [(0, b), (0, a), v2, v3, v4] S h n = mx_ex d 225 86 [l0, l1, l2, l3, l4] [(0, mx_w (a * b)), v2, v3, v4] S h n) ∧
  (∀ (d : Nat) (b a : Int) (l0 l1 l2 l3 l4 : Option mx_V) (v2 v3 : mx_V) (S h : mx_H) (n : Int), mx_ex d 225 86 [l0, l1, l2, l3, l4] [(0, b), (0, a), v2, v3] S h n = mx_ex d 225 87 [l0, l1, l2, l3, l4] [(0, mx_w (a + b)), v2, v3] S h n) ∧
  (∀ (d : Nat) (i a : Int) (l0 l1 l2 l3 l4 : Option mx_V) (v2 : mx_V) (S h : mx_H) (n : Int), mx_ex d 225 87 [l0, l1, l2, l3, l4] [(0, i), (2, a), v2] S h n = mx_gd ((S a (-2) = 20 ∨ S a (-2) = 24) ∧ 0 ≤ i ∧ i < S a (-1)) d 225 88 [l0, l1, l2, l3, l4] [(0, h a i), v2] S h n) ∧
  (∀ (d : Nat) (x : Int) (l1 l2 l3 l4 : Option mx_V) (v0 v1 : mx_V) (S h : mx_H) (n : Int), mx_ex d 225 88 [some (2, x), l1, l2, l3, l4] [v0, v1] S h n = mx_ex d 225 89 [some (2, x), l1, l2, l3, l4] [(2, x), v0, v1] S h n) ∧
  (∀ (d : Nat) (a : Int) (l0 l1 l2 l3 l4 : Option mx_V) (v1 v2 : mx_V) (S h : mx_H) (n : Int), mx_ex d 225 89 [l0, l1, l2, l3, l4] [(2, a), v1, v2] S h n = mx_gd (13 ≤ S a (-2) ∧ S a (-2) ≤ 13) d 225 92 [l0, l1, l2, l3, l4] [(2, S a 0), v1, v2] S h n) ∧
  (∀ (d : Nat) (l0 l1 l2 l3 l4 : Option mx_V) (v0 v1 v2 : mx_V) (S h : mx_H) (n : Int), mx_ex d 225 92 [l0, l1, l2, l3, l4] [v0, v1, v2] S h n = mx_ex d 225 93 [l0, l1, l2, l3, l4] [(0, 3), v0, v1, v2] S h n) ∧
  (∀ (d : Nat) (l0 l1 l2 l3 l4 : Option mx_V) (v0 v1 v2 v3 : mx_V) (S h : mx_H) (n : Int), mx_ex d 225 93 [l0, l1, l2, l3, l4] [v0, v1, v2, v3] S h n = mx_ex d 225 94 [l0, l1, l2, l3, l4] [(0, 2), v0, v1, v2, v3] S h n) ∧
  (∀ (d : Nat) (x : Int) (l0 l1 l3 l4 : Option mx_V) (v0 v1 v2 v3 v4 : mx_V) (S h : mx_H) (n : Int), mx_ex d 225 94 [l0, l1, some (0, x), l3, l4] [v0, v1, v2, v3, v4] S h n = mx_ex d 225 95 [l0, l1, some (0, x), l3, l4] [(0, x), v0, v1, v2, v3, v4] S h n) ∧
  (∀ (d : Nat) (b a : Int) (l0 l1 l2 l3 l4 : Option mx_V) (v2 v3 v4 v5 : mx_V) (S h : mx_H) (n : Int), mx_ex d 225 95 [l0, l1, l2, l3, l4] [(0, b), (0, a), v2, v3, v4, v5] S h n = mx_ex d 225 96 [l0, l1, l2, l3, l4] [(0, mx_w (a * b)), v2, v3, v4, v5] S h n) ∧
  (∀ (d : Nat) (b a : Int) (l0 l1 l2 l3 l4 : Option mx_V) (v2 v3 v4 : mx_V) (S h : mx_H) (n : Int), mx_ex d 225 96 [l0, l1, l2, l3, l4] [(0, b), (0, a), v2, v3, v4] S h n = mx_ex d 225 97 [l0, l1, l2, l3, l4] [(0, mx_w (a + b)), v2, v3, v4] S h n) :=
  ⟨by intros; exact rfl,
   by intros; exact eq_ld rfl rfl,
   by intros; exact eq_ld rfl rfl,
   by intros; exact eq_cv rfl (Nat.le_of_ble_eq_true rfl) rfl rfl rfl (Nat.le_of_ble_eq_true rfl),
   by intros; exact eq_if0 rfl,
   by intros; exact eq_ld rfl rfl,
   by intros; exact eq_gr rfl,
   by intros; exact eq_push rfl,
   by intros; exact eq_ld rfl rfl,
   by intros; exact eq_i2 (o := mx_mul) rfl,
   by intros; exact eq_lald rfl,
   by intros; exact eq_ld rfl rfl,
   by intros; exact eq_i2l rfl,
   by intros; exact eq_lcmp rfl,
   by intros; exact eq_if1 rfl,
   by intros; exact eq_ld rfl rfl,
   by intros; exact eq_gr rfl,
   by intros; exact eq_push rfl,
   by intros; exact eq_ld rfl rfl,
   by intros; exact eq_i2 (o := mx_mul) rfl,
   by intros; exact eq_push rfl,
   by intros; exact eq_i2 (o := mx_add) rfl,
   by intros; exact eq_lald rfl,
   by intros; exact eq_push rfl,
   by intros; exact eq_lcmp rfl,
   by intros; exact eq_if2 rfl,
   by intros; exact eq_ld rfl rfl,
   by intros; exact eq_gr rfl,
   by intros; exact eq_push rfl,
   by intros; exact eq_ld rfl rfl,
   by intros; exact eq_i2 (o := mx_mul) rfl,
   by intros; exact eq_push rfl,
   by intros; exact eq_i2 (o := mx_add) rfl,
   by intros; exact eq_lald rfl,
   by intros; exact eq_push rfl,
   by intros; exact eq_lcmp rfl,
   by intros; exact eq_if5 rfl,
   by intros; exact eq_push rfl,
   by intros; exact eq_rr rfl,
   by intros; exact eq_ld rfl rfl,
   by intros; exact eq_ld rfl rfl,
   by intros; exact eq_push rfl,
   by intros; exact eq_cv rfl (Nat.le_of_ble_eq_true rfl) rfl rfl rfl (Nat.le_of_ble_eq_true rfl),
   by intros; exact eq_st rfl (by decide) (Nat.le_of_ble_eq_true rfl) rfl,
   by intros; exact eq_ld rfl rfl,
   by intros; exact eq_gr rfl,
   by intros; exact eq_push rfl,
   by intros; exact eq_ld rfl rfl,
   by intros; exact eq_i2 (o := mx_mul) rfl,
   by intros; exact eq_push rfl,
   by intros; exact eq_i2 (o := mx_add) rfl,
   by intros; exact eq_lald rfl,
   by intros; exact eq_l2i rfl,
   by intros; exact eq_st rfl (by decide) (Nat.le_of_ble_eq_true rfl) rfl,
   by intros; exact eq_ld rfl rfl,
   by intros; exact eq_ld rfl rfl,
   by intros; exact eq_gr rfl,
   by intros; exact eq_push rfl,
   by intros; exact eq_push rfl,
   by intros; exact eq_ld rfl rfl,
   by intros; exact eq_i2 (o := mx_mul) rfl,
   by intros; exact eq_i2 (o := mx_add) rfl,
   by intros; exact eq_iald rfl,
   by intros; exact eq_ld rfl rfl,
   by intros; exact eq_gr rfl,
   by intros; exact eq_push rfl,
   by intros; exact eq_push rfl,
   by intros; exact eq_ld rfl rfl,
   by intros; exact eq_i2 (o := mx_mul) rfl,
   by intros; exact eq_i2 (o := mx_add) rfl⟩
theorem rw_X12_isRight_1 :
  (∀ (d : Nat) (l0 l1 l2 l3 l4 : Option mx_V) (v0 v1 v2 v3 : mx_V) (S h : mx_H) (n : Int), mx_ex d 225 97 [l0, l1, l2, l3, l4] [v0, v1, v2, v3] S h n = mx_ex d 225 98 [l0, l1, l2, l3, l4] [(0, 1), v0, v1, v2, v3] S h n) ∧
  (∀ (d : Nat) (b a : Int) (l0 l1 l2 l3 l4 : Option mx_V) (v2 v3 v4 : mx_V) (S h : mx_H) (n : Int), mx_ex d 225 98 [l0, l1, l2, l3, l4] [(0, b), (0, a), v2, v3, v4] S h n = mx_ex d 225 99 [l0, l1, l2, l3, l4] [(0, mx_w (a + b)), v2, v3, v4] S h n) ∧
  (∀ (d : Nat) (i a : Int) (l0 l1 l2 l3 l4 : Option mx_V) (v2 v3 : mx_V) (S h : mx_H) (n : Int), mx_ex d 225 99 [l0, l1, l2, l3, l4] [(0, i), (2, a), v2, v3] S h n = mx_gd ((S a (-2) = 20 ∨ S a (-2) = 24) ∧ 0 ≤ i ∧ i < S a (-1)) d 225 100 [l0, l1, l2, l3, l4] [(0, h a i), v2, v3] S h n) ∧
  (∀ (d : Nat) (x0 x1 x2 : Int) (l0 l1 l2 l3 l4 : Option mx_V) (S h : mx_H) (n : Int), mx_ex (d + 1) 225 100 [l0, l1, l2, l3, l4] [(0, x0), (0, x1), (0, x2)] S h n = mx_rt (mx_M d 159 [(0, x2), (0, x1), (0, x0)] S h n) (d + 1) 225 103 [l0, l1, l2, l3, l4] []) ∧
  (∀ (d : Nat) (a : Int) (l0 l1 l2 l3 l4 : Option mx_V) (S h : mx_H) (n : Int), mx_ex d 225 103 [l0, l1, l2, l3, l4] [(0, a)] S h n = mx_br (a = 0) d 225 138 106 [l0, l1, l2, l3, l4] [] S h n) ∧
  (∀ (d : Nat) (x : Int) (l1 l2 l3 l4 : Option mx_V) (S h : mx_H) (n : Int), mx_ex d 225 106 [some (2, x), l1, l2, l3, l4] [] S h n = mx_ex d 225 107 [some (2, x), l1, l2, l3, l4] [(2, x)] S h n) ∧
  (∀ (d : Nat) (a : Int) (l0 l1 l2 l3 l4 : Option mx_V) (S h : mx_H) (n : Int), mx_ex d 225 107 [l0, l1, l2, l3, l4] [(2, a)] S h n = mx_gd (13 ≤ S a (-2) ∧ S a (-2) ≤ 13) d 225 110 [l0, l1, l2, l3, l4] [(2, S a 11)] S h n) ∧
  (∀ (d : Nat) (x : Int) (l0 l1 l3 l4 : Option mx_V) (v0 : mx_V) (S h : mx_H) (n : Int), mx_ex d 225 110 [l0, l1, some (0, x), l3, l4] [v0] S h n = mx_ex d 225 111 [l0, l1, some (0, x), l3, l4] [(0, x), v0] S h n) ∧
  (∀ (d : Nat) (i a : Int) (l0 l1 l2 l3 l4 : Option mx_V) (S h : mx_H) (n : Int), mx_ex d 225 111 [l0, l1, l2, l3, l4] [(0, i), (2, a)] S h n = mx_gd ((S a (-2) = 20 ∨ S a (-2) = 24) ∧ 0 ≤ i ∧ i < S a (-1)) d 225 112 [l0, l1, l2, l3, l4] [(0, h a i)] S h n) ∧
  (∀ (d : Nat) (a : Int) (l0 l1 l2 l3 l4 : Option mx_V) (S h : mx_H) (n : Int), mx_ex d 225 112 [l0, l1, l2, l3, l4] [(0, a)] S h n = mx_br (a = 0) d 225 125 115 [l0, l1, l2, l3, l4] [] S h n) ∧
  (∀ (d : Nat) (x : Int) (l1 l2 l3 l4 : Option mx_V) (S h : mx_H) (n : Int), mx_ex d 225 115 [some (2, x), l1, l2, l3, l4] [] S h n = mx_ex d 225 116 [some (2, x), l1, l2, l3, l4] [(2, x)] S h n) ∧
  (∀ (d : Nat) (a : Int) (l0 l1 l2 l3 l4 : Option mx_V) (S h : mx_H) (n : Int), mx_ex d 225 116 [l0, l1, l2, l3, l4] [(2, a)] S h n = mx_gd (13 ≤ S a (-2) ∧ S a (-2) ≤ 13) d 225 119 [l0, l1, l2, l3, l4] [(2, S a 11)] S h n) ∧
  (∀ (d : Nat) (x : Int) (l0 l1 l3 l4 : Option mx_V) (v0 : mx_V) (S h : mx_H) (n : Int), mx_ex d 225 119 [l0, l1, some (0, x), l3, l4] [v0] S h n = mx_ex d 225 120 [l0, l1, some (0, x), l3, l4] [(0, x), v0] S h n) ∧
  (∀ (d : Nat) (i a : Int) (l0 l1 l2 l3 l4 : Option mx_V) (S h : mx_H) (n : Int), mx_ex d 225 120 [l0, l1, l2, l3, l4] [(0, i), (2, a)] S h n = mx_gd ((S a (-2) = 20 ∨ S a (-2) = 24) ∧ 0 ≤ i ∧ i < S a (-1)) d 225 121 [l0, l1, l2, l3, l4] [(0, h a i)] S h n) ∧
  (∀ (d : Nat) (x : Int) (l0 l1 l2 l4 : Option mx_V) (v0 : mx_V) (S h : mx_H) (n : Int), mx_ex d 225 121 [l0, l1, l2, some (0, x), l4] [v0] S h n = mx_ex d 225 122 [l0, l1, l2, some (0, x), l4] [(0, x), v0] S h n) ∧
  (∀ (d : Nat) (b a : Int) (l0 l1 l2 l3 l4 : Option mx_V) (S h : mx_H) (n : Int), mx_ex d 225 122 [l0, l1, l2, l3, l4] [(0, b), (0, a)] S h n = mx_br (a = b) d 225 125 138 [l0, l1, l2, l3, l4] [] S h n) ∧
  (∀ (d : Nat) (x : Int) (l1 l2 l3 l4 : Option mx_V) (S h : mx_H) (n : Int), mx_ex d 225 125 [some (2, x), l1, l2, l3, l4] [] S h n = mx_ex d 225 126 [some (2, x), l1, l2, l3, l4] [(2, x)] S h n) ∧
  (∀ (d : Nat) (x : Int) (l0 l2 l3 l4 : Option mx_V) (v0 : mx_V) (S h : mx_H) (n : Int), mx_ex d 225 126 [l0, some (0, x), l2, l3, l4] [v0] S h n = mx_ex d 225 127 [l0, some (0, x), l2, l3, l4] [(0, x), v0] S h n) ∧
  (∀ (d : Nat) (x : Int) (l0 l1 l2 l4 : Option mx_V) (v0 v1 : mx_V) (S h : mx_H) (n : Int), mx_ex d 225 127 [l0, l1, l2, some (0, x), l4] [v0, v1] S h n = mx_ex d 225 128 [l0, l1, l2, some (0, x), l4] [(0, x), v0, v1] S h n) ∧
  (∀ (d : Nat) (x0 x1 a : Int) (l0 l1 l2 l3 l4 : Option mx_V) (S h : mx_H) (n : Int), mx_ex (d + 1) 225 128 [l0, l1, l2, l3, l4] [(0, x0), (0, x1), (2, a)] S h n = mx_cl (S a (-2) = 13) d 186 [(2, a), (0, x1), (0, x0)] 225 131 [l0, l1, l2, l3, l4] [] S h n) ∧
  (∀ (d : Nat) (a : Int) (l0 l1 l2 l3 l4 : Option mx_V) (S h : mx_H) (n : Int), mx_ex d 225 131 [l0, l1, l2, l3, l4] [(0, a)] S h n = mx_br (a = 0) d 225 138 134 [l0, l1, l2, l3, l4] [] S h n) ∧
  (∀ (d : Nat) (l0 l1 l2 l3 l4 : Option mx_V) (S h : mx_H) (n : Int), mx_ex d 225 134 [l0, l1, l2, l3, l4] [] S h n = mx_ex d 225 135 [l0, l1, l2, l3, l4] [(0, 1)] S h n) ∧
  (∀ (d : Nat) (l0 l1 l2 l3 l4 : Option mx_V) (v0 : mx_V) (S h : mx_H) (n : Int), mx_ex d 225 135 [l0, l1, l2, l3, l4] [v0] S h n = mx_ex d 225 139 [l0, l1, l2, l3, l4] [v0] S h n) ∧
  (∀ (d : Nat) (l0 l1 l2 l3 l4 : Option mx_V) (S h : mx_H) (n : Int), mx_ex d 225 138 [l0, l1, l2, l3, l4] [] S h n = mx_ex d 225 139 [l0, l1, l2, l3, l4] [(0, 0)] S h n) ∧
  (∀ (d : Nat) (x : Int) (l0 l1 l2 l3 l4 : Option mx_V) (S h : mx_H) (n : Int), mx_ex d 225 139 [l0, l1, l2, l3, l4] [(0, x)] S h n = mx_ex d 225 141 [l0, l1, l2, mx_nl l3, some (0, x)] [] S h n) ∧
  (∀ (d : Nat) (x : Int) (l1 l2 l3 l4 : Option mx_V) (S h : mx_H) (n : Int), mx_ex d 225 141 [some (2, x), l1, l2, l3, l4] [] S h n = mx_ex d 225 142 [some (2, x), l1, l2, l3, l4] [(2, x)] S h n) ∧
  (∀ (d : Nat) (a : Int) (l0 l1 l2 l3 l4 : Option mx_V) (S h : mx_H) (n : Int), mx_ex d 225 142 [l0, l1, l2, l3, l4] [(2, a)] S h n = mx_gd (13 ≤ S a (-2) ∧ S a (-2) ≤ 13) d 225 145 [l0, l1, l2, l3, l4] [(2, S a 11)] S h n) ∧
  (∀ (d : Nat) (x : Int) (l0 l1 l3 l4 : Option mx_V) (v0 : mx_V) (S h : mx_H) (n : Int), mx_ex d 225 145 [l0, l1, some (0, x), l3, l4] [v0] S h n = mx_ex d 225 146 [l0, l1, some (0, x), l3, l4] [(0, x), v0] S h n) ∧
  (∀ (d : Nat) (x : Int) (l0 l1 l2 l4 : Option mx_V) (v0 v1 : mx_V) (S h : mx_H) (n : Int), mx_ex d 225 146 [l0, l1, l2, some (0, x), l4] [v0, v1] S h n = mx_ex d 225 147 [l0, l1, l2, some (0, x), l4] [(0, x), v0, v1] S h n) ∧
  (∀ (d : Nat) (v i a : Int) (l0 l1 l2 l3 l4 : Option mx_V) (S h : mx_H) (n : Int), mx_ex d 225 147 [l0, l1, l2, l3, l4] [(0, v), (0, i), (2, a)] S h n = mx_gd (S a (-2) = 20 ∧ 0 ≤ i ∧ i < S a (-1)) d 225 148 [l0, l1, l2, l3, l4] [] S (mx_u h a i v) n) ∧
  (∀ (d : Nat) (x : Int) (l0 l1 l2 l3 : Option mx_V) (S h : mx_H) (n : Int), mx_ex d 225 148 [l0, l1, l2, l3, some (0, x)] [] S h n = mx_ex d 225 150 [l0, l1, l2, l3, some (0, x)] [(0, x)] S h n) ∧
  (∀ (d : Nat) (a : Int) (l0 l1 l2 l3 l4 : Option mx_V) (S h : mx_H) (n : Int), mx_ex d 225 150 [l0, l1, l2, l3, l4] [(0, a)] S h n = mx_br (a = 0) d 225 177 153 [l0, l1, l2, l3, l4] [] S h n) ∧
  (∀ (d : Nat) (x : Int) (l1 l2 l3 l4 : Option mx_V) (S h : mx_H) (n : Int), mx_ex d 225 153 [some (2, x), l1, l2, l3, l4] [] S h n = mx_ex d 225 154 [some (2, x), l1, l2, l3, l4] [(2, x)] S h n) ∧
  (∀ (d : Nat) (a : Int) (l0 l1 l2 l3 l4 : Option mx_V) (S h : mx_H) (n : Int), mx_ex d 225 154 [l0, l1, l2, l3, l4] [(2, a)] S h n = mx_gd (13 ≤ S a (-2) ∧ S a (-2) ≤ 13) d 225 157 [l0, l1, l2, l3, l4] [(2, S a 14)] S h n) ∧
  (∀ (d : Nat) (l0 l1 l2 l3 l4 : Option mx_V) (v0 : mx_V) (S h : mx_H) (n : Int), mx_ex d 225 157 [l0, l1, l2, l3, l4] [v0] S h n = mx_ex d 225 158 [l0, l1, l2, l3, l4] [(0, 3), v0] S h n) ∧
  (∀ (d : Nat) (x : Int) (l0 l2 l3 l4 : Option mx_V) (v0 v1 : mx_V) (S h : mx_H) (n : Int), mx_ex d 225 158 [l0, some (0, x), l2, l3, l4] [v0, v1] S h n = mx_ex d 225 159 [l0, some (0, x), l2, l3, l4] [(0, x), v0, v1] S h n) ∧
  (∀ (d : Nat) (b a : Int) (l0 l1 l2 l3 l4 : Option mx_V) (v2 : mx_V) (S h : mx_H) (n : Int), mx_ex d 225 159 [l0, l1, l2, l3, l4] [(0, b), (0, a), v2] S h n = mx_ex d 225 160 [l0, l1, l2, l3, l4] [(0, mx_w (a * b)), v2] S h n) ∧
  (∀ (d : Nat) (l0 l1 l2 l3 l4 : Option mx_V) (v0 v1 : mx_V) (S h : mx_H) (n : Int), mx_ex d 225 160 [l0, l1, l2, l3, l4] [v0, v1] S h n = mx_ex d 225 161 [l0, l1, l2, l3, l4] [(0, 2), v0, v1] S h n) ∧
  (∀ (d : Nat) (b a : Int) (l0 l1 l2 l3 l4 : Option mx_V) (v2 : mx_V) (S h : mx_H) (n : Int), mx_ex d 225 161 [l0, l1, l2, l3, l4] [(0, b), (0, a), v2] S h n = mx_ex d 225 162 [l0, l1, l2, l3, l4] [(0, mx_w (a + b)), v2] S h n) ∧
  (∀ (d : Nat) (i a : Int) (l0 l1 l2 l3 l4 : Option mx_V) (S h : mx_H) (n : Int), mx_ex d 225 162 [l0, l1, l2, l3, l4] [(0, i), (2, a)] S h n = mx_gd (S a (-2) = 21 ∧ 0 ≤ i ∧ i < S a (-1)) d 225 163 [l0, l1, l2, l3, l4] [(1, h a i)] S h n) ∧
  (∀ (d : Nat) (x : Int) (l1 l2 l3 l4 : Option mx_V) (v0 : mx_V) (S h : mx_H) (n : Int), mx_ex d 225 163 [some (2, x), l1, l2, l3, l4] [v0] S h n = mx_ex d 225 164 [some (2, x), l1, l2, l3, l4] [(2, x), v0] S h n) ∧
  (∀ (d : Nat) (x : Int) (l0 l2 l3 l4 : Option mx_V) (v0 v1 : mx_V) (S h : mx_H) (n : Int), mx_ex d 225 164 [l0, some (0, x), l2, l3, l4] [v0, v1] S h n = mx_ex d 225 165 [l0, some (0, x), l2, l3, l4] [(0, x), v0, v1] S h n) ∧
  (∀ (d : Nat) (x : Int) (l0 l1 l2 l4 : Option mx_V) (v0 v1 v2 : mx_V) (S h : mx_H) (n : Int), mx_ex d 225 165 [l0, l1, l2, some (0, x), l4] [v0, v1, v2] S h n = mx_ex d 225 166 [l0, l1, l2, some (0, x), l4] [(0, x), v0, v1, v2] S h n) ∧
  (∀ (d : Nat) (x0 x1 a : Int) (l0 l1 l2 l3 l4 : Option mx_V) (v3 : mx_V) (S h : mx_H) (n : Int), mx_ex (d + 1) 225 166 [l0, l1, l2, l3, l4] [(0, x0), (0, x1), (2, a), v3] S h n = mx_cl (S a (-2) = 13) d 185 [(2, a), (0, x1), (0, x0)] 225 169 [l0, l1, l2, l3, l4] [v3] S h n) ∧
  (∀ (d : Nat) (b a : Int) (l0 l1 l2 l3 l4 : Option mx_V) (S h : mx_H) (n : Int), mx_ex d 225 169 [l0, l1, l2, l3, l4] [(1, b), (1, a)] S h n = mx_ex d 225 170 [l0, l1, l2, l3, l4] [(0, mx_cmp a b)] S h n) ∧
  (∀ (d : Nat) (a : Int) (l0 l1 l2 l3 l4 : Option mx_V) (S h : mx_H) (n : Int), mx_ex d 225 170 [l0, l1, l2, l3, l4] [(0, a)] S h n = mx_br (a = 0) d 225 173 177 [l0, l1, l2, l3, l4] [] S h n) ∧
  (∀ (d : Nat) (l0 l1 l2 l3 l4 : Option mx_V) (S h : mx_H) (n : Int), mx_ex d 225 173 [l0, l1, l2, l3, l4] [] S h n = mx_ex d 225 174 [l0, l1, l2, l3, l4] [(0, 1)] S h n) ∧
  (∀ (d : Nat) (l0 l1 l2 l3 l4 : Option mx_V) (v0 : mx_V) (S h : mx_H) (n : Int), mx_ex d 225 174 [l0, l1, l2, l3, l4] [v0] S h n = mx_ex d 225 178 [l0, l1, l2, l3, l4] [v0] S h n) ∧
  (∀ (d : Nat) (l0 l1 l2 l3 l4 : Option mx_V) (S h : mx_H) (n : Int), mx_ex d 225 177 [l0, l1, l2, l3, l4] [] S h n = mx_ex d 225 178 [l0, l1, l2, l3, l4] [(0, 0)] S h n) ∧
  (∀ (d : Nat) (x : Int) (l0 l1 l2 l3 l4 : Option mx_V) (S h : mx_H) (n : Int), mx_ex d 225 178 [l0, l1, l2, l3, l4] [(0, x)] S h n = mx_re (0 ≤ x ∧ x ≤ 1) (some (0, x)) S h n) :=
  ⟨by intros; exact eq_push rfl,
   by intros; exact eq_i2 (o := mx_add) rfl,
   by intros; exact eq_iald rfl,
   by intros; exact eq_cs rfl (Nat.le_of_ble_eq_true rfl) rfl rfl rfl (Nat.le_of_ble_eq_true rfl),
   by intros; exact eq_if0 rfl,
   by intros; exact eq_ld rfl rfl,
   by intros; exact eq_gr rfl,
   by intros; exact eq_ld rfl rfl,
   by intros; exact eq_iald rfl,
   by intros; exact eq_if0 rfl,
   by intros; exact eq_ld rfl rfl,
   by intros; exact eq_gr rfl,
   by intros; exact eq_ld rfl rfl,
   by intros; exact eq_iald rfl,
   by intros; exact eq_ld rfl rfl,
   by intros; exact eq_ic1 rfl,
   by intros; exact eq_ld rfl rfl,
   by intros; exact eq_ld rfl rfl,
   by intros; exact eq_ld rfl rfl,
   by intros; exact eq_cv rfl (Nat.le_of_ble_eq_true rfl) rfl rfl rfl (Nat.le_of_ble_eq_true rfl),
   by intros; exact eq_if0 rfl,
   by intros; exact eq_push rfl,
   by intros; exact eq_go rfl,
   by intros; exact eq_push rfl,
   by intros; exact eq_st rfl (by decide) (Nat.le_of_ble_eq_true rfl) rfl,
   by intros; exact eq_ld rfl rfl,
   by intros; exact eq_gr rfl,
   by intros; exact eq_ld rfl rfl,
   by intros; exact eq_ld rfl rfl,
   by intros; exact eq_iast rfl,
   by intros; exact eq_ld rfl rfl,
   by intros; exact eq_if0 rfl,
   by intros; exact eq_ld rfl rfl,
   by intros; exact eq_gr rfl,
   by intros; exact eq_push rfl,
   by intros; exact eq_ld rfl rfl,
   by intros; exact eq_i2 (o := mx_mul) rfl,
   by intros; exact eq_push rfl,
   by intros; exact eq_i2 (o := mx_add) rfl,
   by intros; exact eq_lald rfl,
   by intros; exact eq_ld rfl rfl,
   by intros; exact eq_ld rfl rfl,
   by intros; exact eq_ld rfl rfl,
   by intros; exact eq_cv rfl (Nat.le_of_ble_eq_true rfl) rfl rfl rfl (Nat.le_of_ble_eq_true rfl),
   by intros; exact eq_lcmp rfl,
   by intros; exact eq_if1 rfl,
   by intros; exact eq_push rfl,
   by intros; exact eq_go rfl,
   by intros; exact eq_push rfl,
   by intros; exact eq_rr rfl⟩
theorem rh_X12_judge_2 : ∀ (d : Nat) (x : Int) (l0 : Option mx_V) (S h : mx_H) (n : Int), mx_ex d 226 2 [l0, some (0, x)] [] S h n = mx_ex d 226 3 [l0, some (0, x)] [(0, x)] S h n := by intros; exact eq_ld rfl rfl
theorem rh_X12_judge_22 : ∀ (d : Nat) (x : Int) (l0 : Option mx_V) (S h : mx_H) (n : Int), mx_ex d 226 22 [l0, some (0, x)] [] S h n = mx_ex d 226 23 [l0, some (0, x)] [(0, x)] S h n := by intros; exact eq_ld rfl rfl
theorem rh_X12_judge_67 : ∀ (d : Nat) (x : Int) (l0 : Option mx_V) (S h : mx_H) (n : Int), mx_ex d 226 67 [l0, some (0, x)] [] S h n = mx_ex d 226 68 [l0, some (0, x)] [(0, x)] S h n := by intros; exact eq_ld rfl rfl
theorem rw_X12_judge :
  (∀ (d : Nat) (a0 : Int) (S h : mx_H) (n : Int), mx_M d 226 [(2, a0)] S h n = mx_ex d 226 0 [some (2, a0), none] [] S h n) ∧
  (∀ (d : Nat) (l0 l1 : Option mx_V) (S h : mx_H) (n : Int), mx_ex d 226 0 [l0, l1] [] S h n = mx_ex d 226 1 [l0, l1] [(0, 0)] S h n) ∧
  (∀ (d : Nat) (x : Int) (l0 l1 : Option mx_V) (S h : mx_H) (n : Int), mx_ex d 226 1 [l0, l1] [(0, x)] S h n = mx_ex d 226 2 [mx_nl l0, some (0, x)] [] S h n) ∧
  (∀ (d : Nat) (l0 l1 : Option mx_V) (v0 : mx_V) (S h : mx_H) (n : Int), mx_ex d 226 3 [l0, l1] [v0] S h n = mx_ex d 226 4 [l0, l1] [(0, 3), v0] S h n) ∧
  (∀ (d : Nat) (b a : Int) (l0 l1 : Option mx_V) (S h : mx_H) (n : Int), mx_ex d 226 4 [l0, l1] [(0, b), (0, a)] S h n = mx_br (a < b) d 226 7 20 [l0, l1] [] S h n) ∧
  (∀ (d : Nat) (x : Int) (l1 : Option mx_V) (S h : mx_H) (n : Int), mx_ex d 226 7 [some (2, x), l1] [] S h n = mx_ex d 226 8 [some (2, x), l1] [(2, x)] S h n) ∧
  (∀ (d : Nat) (a : Int) (l0 l1 : Option mx_V) (S h : mx_H) (n : Int), mx_ex d 226 8 [l0, l1] [(2, a)] S h n = mx_gd (13 ≤ S a (-2) ∧ S a (-2) ≤ 13) d 226 11 [l0, l1] [(2, S a 11)] S h n) ∧
  (∀ (d : Nat) (x : Int) (l0 : Option mx_V) (v0 : mx_V) (S h : mx_H) (n : Int), mx_ex d 226 11 [l0, some (0, x)] [v0] S h n = mx_ex d 226 12 [l0, some (0, x)] [(0, x), v0] S h n) ∧
  (∀ (d : Nat) (l0 l1 : Option mx_V) (v0 v1 : mx_V) (S h : mx_H) (n : Int), mx_ex d 226 12 [l0, l1] [v0, v1] S h n = mx_ex d 226 13 [l0, l1] [(0, 0), v0, v1] S h n) ∧
  (∀ (d : Nat) (v i a : Int) (l0 l1 : Option mx_V) (S h : mx_H) (n : Int), mx_ex d 226 13 [l0, l1] [(0, v), (0, i), (2, a)] S h n = mx_gd (S a (-2) = 20 ∧ 0 ≤ i ∧ i < S a (-1)) d 226 14 [l0, l1] [] S (mx_u h a i v) n) ∧
  (∀ (d : Nat) (x : Int) (l0 : Option mx_V) (S h : mx_H) (n : Int), mx_ex d 226 14 [l0, some (0, x)] [] S h n = mx_ex d 226 17 [mx_nl l0, some (0, mx_w (x + 1))] [] S h n) ∧
  (∀ (d : Nat) (l0 l1 : Option mx_V) (S h : mx_H) (n : Int), mx_ex d 226 17 [l0, l1] [] S h n = mx_ex d 226 2 [l0, l1] [] S h n) ∧
  (∀ (d : Nat) (l0 l1 : Option mx_V) (S h : mx_H) (n : Int), mx_ex d 226 20 [l0, l1] [] S h n = mx_ex d 226 21 [l0, l1] [(0, 0)] S h n) ∧
  (∀ (d : Nat) (x : Int) (l0 l1 : Option mx_V) (S h : mx_H) (n : Int), mx_ex d 226 21 [l0, l1] [(0, x)] S h n = mx_ex d 226 22 [mx_nl l0, some (0, x)] [] S h n) ∧
  (∀ (d : Nat) (x : Int) (l1 : Option mx_V) (v0 : mx_V) (S h : mx_H) (n : Int), mx_ex d 226 23 [some (2, x), l1] [v0] S h n = mx_ex d 226 24 [some (2, x), l1] [(2, x), v0] S h n) ∧
  (∀ (d : Nat) (a : Int) (l0 l1 : Option mx_V) (v1 : mx_V) (S h : mx_H) (n : Int), mx_ex d 226 24 [l0, l1] [(2, a), v1] S h n = mx_gd (13 ≤ S a (-2) ∧ S a (-2) ≤ 13) d 226 27 [l0, l1] [(0, h a 15), v1] S h n) ∧
  (∀ (d : Nat) (b a : Int) (l0 l1 : Option mx_V) (S h : mx_H) (n : Int), mx_ex d 226 27 [l0, l1] [(0, b), (0, a)] S h n = mx_br (a < b) d 226 30 48 [l0, l1] [] S h n) ∧
  (∀ (d : Nat) (x : Int) (l1 : Option mx_V) (S h : mx_H) (n : Int), mx_ex d 226 30 [some (2, x), l1] [] S h n = mx_ex d 226 31 [some (2, x), l1] [(2, x)] S h n) ∧
  (∀ (d : Nat) (x : Int) (l0 : Option mx_V) (v0 : mx_V) (S h : mx_H) (n : Int), mx_ex d 226 31 [l0, some (0, x)] [v0] S h n = mx_ex d 226 32 [l0, some (0, x)] [(0, x), v0] S h n) ∧
  (∀ (d : Nat) (x0 a : Int) (l0 l1 : Option mx_V) (S h : mx_H) (n : Int), mx_ex (d + 1) 226 32 [l0, l1] [(0, x0), (2, a)] S h n = mx_cl (S a (-2) = 13) d 225 [(2, a), (0, x0)] 226 35 [l0, l1] [] S h n) ∧
  (∀ (d : Nat) (a : Int) (l0 l1 : Option mx_V) (S h : mx_H) (n : Int), mx_ex d 226 35 [l0, l1] [(0, a)] S h n = mx_br (a = 0) d 226 38 42 [l0, l1] [] S h n) ∧
  (∀ (d : Nat) (l0 l1 : Option mx_V) (S h : mx_H) (n : Int), mx_ex d 226 38 [l0, l1] [] S h n = mx_ex d 226 39 [l0, l1] [(0, 1)] S h n) ∧
  (∀ (d : Nat) (x : Int) (l0 : Option mx_V) (v0 : mx_V) (S h : mx_H) (n : Int), mx_ex d 226 39 [l0, some (0, x)] [v0] S h n = mx_ex d 226 40 [l0, some (0, x)] [(0, x), v0] S h n) ∧
  (∀ (d : Nat) (b a : Int) (l0 l1 : Option mx_V) (S h : mx_H) (n : Int), mx_ex d 226 40 [l0, l1] [(0, b), (0, a)] S h n = mx_ex d 226 41 [l0, l1] [(0, mx_w (a + b))] S h n) ∧
  (∀ (d : Nat) (x : Int) (l0 l1 : Option mx_V) (S h : mx_H) (n : Int), mx_ex d 226 41 [l0, l1] [(0, x)] S h n = some (some (0, x), S, h, n)) ∧
  (∀ (d : Nat) (x : Int) (l0 : Option mx_V) (S h : mx_H) (n : Int), mx_ex d 226 42 [l0, some (0, x)] [] S h n = mx_ex d 226 45 [mx_nl l0, some (0, mx_w (x + 1))] [] S h n) ∧
  (∀ (d : Nat) (l0 l1 : Option mx_V) (S h : mx_H) (n : Int), mx_ex d 226 45 [l0, l1] [] S h n = mx_ex d 226 22 [l0, l1] [] S h n) ∧
  (∀ (d : Nat) (x : Int) (l1 : Option mx_V) (S h : mx_H) (n : Int), mx_ex d 226 48 [some (2, x), l1] [] S h n = mx_ex d 226 49 [some (2, x), l1] [(2, x)] S h n) ∧
  (∀ (d : Nat) (a : Int) (l0 l1 : Option mx_V) (S h : mx_H) (n : Int), mx_ex d 226 49 [l0, l1] [(2, a)] S h n = mx_gd (13 ≤ S a (-2) ∧ S a (-2) ≤ 13) d 226 52 [l0, l1] [(0, h a 15)] S h n) ∧
  (∀ (d : Nat) (x : Int) (l1 : Option mx_V) (v0 : mx_V) (S h : mx_H) (n : Int), mx_ex d 226 52 [some (2, x), l1] [v0] S h n = mx_ex d 226 53 [some (2, x), l1] [(2, x), v0] S h n) ∧
  (∀ (d : Nat) (a : Int) (l0 l1 : Option mx_V) (v1 : mx_V) (S h : mx_H) (n : Int), mx_ex d 226 53 [l0, l1] [(2, a), v1] S h n = mx_gd (13 ≤ S a (-2) ∧ S a (-2) ≤ 13) d 226 56 [l0, l1] [(2, S a 0), v1] S h n) ∧
  (∀ (d : Nat) (l0 l1 : Option mx_V) (v0 v1 : mx_V) (S h : mx_H) (n : Int), mx_ex d 226 56 [l0, l1] [v0, v1] S h n = mx_ex d 226 57 [l0, l1] [(0, 0), v0, v1] S h n) ∧
  (∀ (d : Nat) (i a : Int) (l0 l1 : Option mx_V) (v2 : mx_V) (S h : mx_H) (n : Int), mx_ex d 226 57 [l0, l1] [(0, i), (2, a), v2] S h n = mx_gd ((S a (-2) = 20 ∨ S a (-2) = 24) ∧ 0 ≤ i ∧ i < S a (-1)) d 226 58 [l0, l1] [(0, h a i), v2] S h n) ∧
  (∀ (d : Nat) (b a : Int) (l0 l1 : Option mx_V) (S h : mx_H) (n : Int), mx_ex d 226 58 [l0, l1] [(0, b), (0, a)] S h n = mx_br (a < b) d 226 61 65 [l0, l1] [] S h n) ∧
  (∀ (d : Nat) (l0 l1 : Option mx_V) (S h : mx_H) (n : Int), mx_ex d 226 61 [l0, l1] [] S h n = mx_ex d 226 64 [l0, l1] [(0, 222)] S h n) ∧
  (∀ (d : Nat) (x : Int) (l0 l1 : Option mx_V) (S h : mx_H) (n : Int), mx_ex d 226 64 [l0, l1] [(0, x)] S h n = some (some (0, x), S, h, n)) ∧
  (∀ (d : Nat) (l0 l1 : Option mx_V) (S h : mx_H) (n : Int), mx_ex d 226 65 [l0, l1] [] S h n = mx_ex d 226 66 [l0, l1] [(0, 0)] S h n) ∧
  (∀ (d : Nat) (x : Int) (l0 l1 : Option mx_V) (S h : mx_H) (n : Int), mx_ex d 226 66 [l0, l1] [(0, x)] S h n = mx_ex d 226 67 [mx_nl l0, some (0, x)] [] S h n) ∧
  (∀ (d : Nat) (x : Int) (l1 : Option mx_V) (v0 : mx_V) (S h : mx_H) (n : Int), mx_ex d 226 68 [some (2, x), l1] [v0] S h n = mx_ex d 226 69 [some (2, x), l1] [(2, x), v0] S h n) ∧
  (∀ (d : Nat) (a : Int) (l0 l1 : Option mx_V) (v1 : mx_V) (S h : mx_H) (n : Int), mx_ex d 226 69 [l0, l1] [(2, a), v1] S h n = mx_gd (13 ≤ S a (-2) ∧ S a (-2) ≤ 13) d 226 72 [l0, l1] [(2, S a 0), v1] S h n) ∧
  (∀ (d : Nat) (l0 l1 : Option mx_V) (v0 v1 : mx_V) (S h : mx_H) (n : Int), mx_ex d 226 72 [l0, l1] [v0, v1] S h n = mx_ex d 226 73 [l0, l1] [(0, 1), v0, v1] S h n) ∧
  (∀ (d : Nat) (i a : Int) (l0 l1 : Option mx_V) (v2 : mx_V) (S h : mx_H) (n : Int), mx_ex d 226 73 [l0, l1] [(0, i), (2, a), v2] S h n = mx_gd ((S a (-2) = 20 ∨ S a (-2) = 24) ∧ 0 ≤ i ∧ i < S a (-1)) d 226 74 [l0, l1] [(0, h a i), v2] S h n) ∧
  (∀ (d : Nat) (b a : Int) (l0 l1 : Option mx_V) (S h : mx_H) (n : Int), mx_ex d 226 74 [l0, l1] [(0, b), (0, a)] S h n = mx_br (a < b) d 226 77 97 [l0, l1] [] S h n) ∧
  (∀ (d : Nat) (x : Int) (l1 : Option mx_V) (S h : mx_H) (n : Int), mx_ex d 226 77 [some (2, x), l1] [] S h n = mx_ex d 226 78 [some (2, x), l1] [(2, x)] S h n) ∧
  (∀ (d : Nat) (x : Int) (l0 : Option mx_V) (v0 : mx_V) (S h : mx_H) (n : Int), mx_ex d 226 78 [l0, some (0, x)] [v0] S h n = mx_ex d 226 79 [l0, some (0, x)] [(0, x), v0] S h n) ∧
  (∀ (d : Nat) (x0 a : Int) (l0 l1 : Option mx_V) (S h : mx_H) (n : Int), mx_ex (d + 1) 226 79 [l0, l1] [(0, x0), (2, a)] S h n = mx_cl (S a (-2) = 13) d 194 [(2, a), (0, x0)] 226 82 [l0, l1] [] S h n) ∧
  (∀ (d : Nat) (a : Int) (l0 l1 : Option mx_V) (S h : mx_H) (n : Int), mx_ex d 226 82 [l0, l1] [(0, a)] S h n = mx_br (a = 0) d 226 85 91 [l0, l1] [] S h n) ∧
  (∀ (d : Nat) (l0 l1 : Option mx_V) (S h : mx_H) (n : Int), mx_ex d 226 85 [l0, l1] [] S h n = mx_ex d 226 88 [l0, l1] [(0, 300)] S h n) ∧
  (∀ (d : Nat) (x : Int) (l0 : Option mx_V) (v0 : mx_V) (S h : mx_H) (n : Int), mx_ex d 226 88 [l0, some (0, x)] [v0] S h n = mx_ex d 226 89 [l0, some (0, x)] [(0, x), v0] S h n) ∧
  (∀ (d : Nat) (b a : Int) (l0 l1 : Option mx_V) (S h : mx_H) (n : Int), mx_ex d 226 89 [l0, l1] [(0, b), (0, a)] S h n = mx_ex d 226 90 [l0, l1] [(0, mx_w (a + b))] S h n) ∧
  (∀ (d : Nat) (x : Int) (l0 l1 : Option mx_V) (S h : mx_H) (n : Int), mx_ex d 226 90 [l0, l1] [(0, x)] S h n = some (some (0, x), S, h, n)) ∧
  (∀ (d : Nat) (x : Int) (l0 : Option mx_V) (S h : mx_H) (n : Int), mx_ex d 226 91 [l0, some (0, x)] [] S h n = mx_ex d 226 94 [mx_nl l0, some (0, mx_w (x + 1))] [] S h n) ∧
  (∀ (d : Nat) (l0 l1 : Option mx_V) (S h : mx_H) (n : Int), mx_ex d 226 94 [l0, l1] [] S h n = mx_ex d 226 67 [l0, l1] [] S h n) ∧
  (∀ (d : Nat) (l0 l1 : Option mx_V) (S h : mx_H) (n : Int), mx_ex d 226 97 [l0, l1] [] S h n = mx_ex d 226 98 [l0, l1] [(0, 0)] S h n) ∧
  (∀ (d : Nat) (x : Int) (l0 l1 : Option mx_V) (S h : mx_H) (n : Int), mx_ex d 226 98 [l0, l1] [(0, x)] S h n = some (some (0, x), S, h, n)) :=
  ⟨by intros; exact rfl,
   by intros; exact eq_push rfl,
   by intros; exact eq_st rfl (by decide) (Nat.le_of_ble_eq_true rfl) rfl,
   by intros; exact eq_push rfl,
   by intros; exact eq_ic3 rfl,
   by intros; exact eq_ld rfl rfl,
   by intros; exact eq_gr rfl,
   by intros; exact eq_ld rfl rfl,
   by intros; exact eq_push rfl,
   by intros; exact eq_iast rfl,
   by intros; exact eq_inc rfl rfl rfl,
   by intros; exact eq_go rfl,
   by intros; exact eq_push rfl,
   by intros; exact eq_st rfl (by decide) (Nat.le_of_ble_eq_true rfl) rfl,
   by intros; exact eq_ld rfl rfl,
   by intros; exact eq_gi rfl,
   by intros; exact eq_ic3 rfl,
   by intros; exact eq_ld rfl rfl,
   by intros; exact eq_ld rfl rfl,
   by intros; exact eq_cv rfl (Nat.le_of_ble_eq_true rfl) rfl rfl rfl (Nat.le_of_ble_eq_true rfl),
   by intros; exact eq_if1 rfl,
   by intros; exact eq_push rfl,
   by intros; exact eq_ld rfl rfl,
   by intros; exact eq_i2 (o := mx_add) rfl,
   by intros; exact eq_ret rfl,
   by intros; exact eq_inc rfl rfl rfl,
   by intros; exact eq_go rfl,
   by intros; exact eq_ld rfl rfl,
   by intros; exact eq_gi rfl,
   by intros; exact eq_ld rfl rfl,
   by intros; exact eq_gr rfl,
   by intros; exact eq_push rfl,
   by intros; exact eq_iald rfl,
   by intros; exact eq_ic3 rfl,
   by intros; exact eq_push rfl,
   by intros; exact eq_ret rfl,
   by intros; exact eq_push rfl,
   by intros; exact eq_st rfl (by decide) (Nat.le_of_ble_eq_true rfl) rfl,
   by intros; exact eq_ld rfl rfl,
   by intros; exact eq_gr rfl,
   by intros; exact eq_push rfl,
   by intros; exact eq_iald rfl,
   by intros; exact eq_ic3 rfl,
   by intros; exact eq_ld rfl rfl,
   by intros; exact eq_ld rfl rfl,
   by intros; exact eq_cv rfl (Nat.le_of_ble_eq_true rfl) rfl rfl rfl (Nat.le_of_ble_eq_true rfl),
   by intros; exact eq_if1 rfl,
   by intros; exact eq_push rfl,
   by intros; exact eq_ld rfl rfl,
   by intros; exact eq_i2 (o := mx_add) rfl,
   by intros; exact eq_ret rfl,
   by intros; exact eq_inc rfl rfl rfl,
   by intros; exact eq_go rfl,
   by intros; exact eq_push rfl,
   by intros; exact eq_ret rfl⟩
theorem rw_X12_isSheet :
  (∀ (d : Nat) (a0 : Int) (S h : mx_H) (n : Int), mx_M d 227 [(0, a0)] S h n = mx_ex d 227 0 [some (0, a0)] [] S h n) ∧
  (∀ (d : Nat) (x : Int) (S h : mx_H) (n : Int), mx_ex d 227 0 [some (0, x)] [] S h n = mx_ex d 227 1 [some (0, x)] [(0, x)] S h n) ∧
  (∀ (d : Nat) (l0 : Option mx_V) (v0 : mx_V) (S h : mx_H) (n : Int), mx_ex d 227 1 [l0] [v0] S h n = mx_ex d 227 2 [l0] [(0, 0), v0] S h n) ∧
  (∀ (d : Nat) (l0 : Option mx_V) (v0 v1 : mx_V) (S h : mx_H) (n : Int), mx_ex d 227 2 [l0] [v0, v1] S h n = mx_ex d 227 3 [l0] [(0, 3), v0, v1] S h n) ∧
  (∀ (d : Nat) (x0 x1 x2 : Int) (l0 : Option mx_V) (S h : mx_H) (n : Int), mx_ex (d + 1) 227 3 [l0] [(0, x0), (0, x1), (0, x2)] S h n = mx_rt (mx_M d 159 [(0, x2), (0, x1), (0, x0)] S h n) (d + 1) 227 6 [l0] []) ∧
  (∀ (d : Nat) (x : Int) (l0 : Option mx_V) (S h : mx_H) (n : Int), mx_ex d 227 6 [l0] [(0, x)] S h n = mx_re (0 ≤ x ∧ x ≤ 1) (some (0, x)) S h n) :=
  ⟨by intros; exact rfl,
   by intros; exact eq_ld rfl rfl,
   by intros; exact eq_push rfl,
   by intros; exact eq_push rfl,
   by intros; exact eq_cs rfl (Nat.le_of_ble_eq_true rfl) rfl rfl rfl (Nat.le_of_ble_eq_true rfl),
   by intros; exact eq_rr rfl⟩
theorem rh_X12_signs_86 : ∀ (d : Nat) (x : Int) (l0 l1 l2 l3 l4 l6 l7 : Option mx_V) (S h : mx_H) (n : Int), mx_ex d 228 86 [l0, l1, l2, l3, l4, some (0, x), l6, l7] [] S h n = mx_ex d 228 88 [l0, l1, l2, l3, l4, some (0, x), l6, l7] [(0, x)] S h n := by intros; exact eq_ld rfl rfl
theorem rw_X12_signs :
  (∀ (d : Nat) (a0 a1 a2 a3 a4 : Int) (S h : mx_H) (n : Int), mx_M d 228 [(2, a0), (0, a1), (0, a2), (0, a3), (0, a4)] S h n = mx_ex d 228 0 [some (2, a0), some (0, a1), some (0, a2), some (0, a3), some (0, a4), none, none, none] [] S h n) ∧
  (∀ (d : Nat) (x : Int) (l1 l2 l3 l4 l5 l6 l7 : Option mx_V) (S h : mx_H) (n : Int), mx_ex d 228 0 [some (2, x), l1, l2, l3, l4, l5, l6, l7] [] S h n = mx_ex d 228 1 [some (2, x), l1, l2, l3, l4, l5, l6, l7] [(2, x)] S h n) ∧
  (∀ (d : Nat) (x : Int) (l0 l2 l3 l4 l5 l6 l7 : Option mx_V) (v0 : mx_V) (S h : mx_H) (n : Int), mx_ex d 228 1 [l0, some (0, x), l2, l3, l4, l5, l6, l7] [v0] S h n = mx_ex d 228 2 [l0, some (0, x), l2, l3, l4, l5, l6, l7] [(0, x), v0] S h n) ∧
  (∀ (d : Nat) (x0 a : Int) (l0 l1 l2 l3 l4 l5 l6 l7 : Option mx_V) (S h : mx_H) (n : Int), mx_ex (d + 1) 228 2 [l0, l1, l2, l3, l4, l5, l6, l7] [(0, x0), (2, a)] S h n = mx_cl (S a (-2) = 13) d 160 [(2, a), (0, x0)] 228 5 [l0, l1, l2, l3, l4, l5, l6, l7] [] S h n) ∧
  (∀ (d : Nat) (a : Int) (l0 l1 l2 l3 l4 l5 l6 l7 : Option mx_V) (S h : mx_H) (n : Int), mx_ex d 228 5 [l0, l1, l2, l3, l4, l5, l6, l7] [(0, a)] S h n = mx_br (a = 0) d 228 37 8 [l0, l1, l2, l3, l4, l5, l6, l7] [] S h n) ∧
  (∀ (d : Nat) (x : Int) (l0 l1 l3 l4 l5 l6 l7 : Option mx_V) (S h : mx_H) (n : Int), mx_ex d 228 8 [l0, l1, some (0, x), l3, l4, l5, l6, l7] [] S h n = mx_ex d 228 9 [l0, l1, some (0, x), l3, l4, l5, l6, l7] [(0, x)] S h n) ∧
  (∀ (d : Nat) (x0 : Int) (l0 l1 l2 l3 l4 l5 l6 l7 : Option mx_V) (S h : mx_H) (n : Int), mx_ex (d + 1) 228 9 [l0, l1, l2, l3, l4, l5, l6, l7] [(0, x0)] S h n = mx_rt (mx_M d 227 [(0, x0)] S h n) (d + 1) 228 12 [l0, l1, l2, l3, l4, l5, l6, l7] []) ∧
  (∀ (d : Nat) (a : Int) (l0 l1 l2 l3 l4 l5 l6 l7 : Option mx_V) (S h : mx_H) (n : Int), mx_ex d 228 12 [l0, l1, l2, l3, l4, l5, l6, l7] [(0, a)] S h n = mx_br (a = 0) d 228 37 15 [l0, l1, l2, l3, l4, l5, l6, l7] [] S h n) ∧
  (∀ (d : Nat) (x : Int) (l0 l1 l2 l3 l5 l6 l7 : Option mx_V) (S h : mx_H) (n : Int), mx_ex d 228 15 [l0, l1, l2, l3, some (0, x), l5, l6, l7] [] S h n = mx_ex d 228 17 [l0, l1, l2, l3, some (0, x), l5, l6, l7] [(0, x)] S h n) ∧
  (∀ (d : Nat) (l0 l1 l2 l3 l4 l5 l6 l7 : Option mx_V) (v0 : mx_V) (S h : mx_H) (n : Int), mx_ex d 228 17 [l0, l1, l2, l3, l4, l5, l6, l7] [v0] S h n = mx_ex d 228 18 [l0, l1, l2, l3, l4, l5, l6, l7] [(0, 0), v0] S h n) ∧
  (∀ (d : Nat) (l0 l1 l2 l3 l4 l5 l6 l7 : Option mx_V) (v0 v1 : mx_V) (S h : mx_H) (n : Int), mx_ex d 228 18 [l0, l1, l2, l3, l4, l5, l6, l7] [v0, v1] S h n = mx_ex d 228 20 [l0, l1, l2, l3, l4, l5, l6, l7] [(0, 6), v0, v1] S h n) ∧
  (∀ (d : Nat) (x0 x1 x2 : Int) (l0 l1 l2 l3 l4 l5 l6 l7 : Option mx_V) (S h : mx_H) (n : Int), mx_ex (d + 1) 228 20 [l0, l1, l2, l3, l4, l5, l6, l7] [(0, x0), (0, x1), (0, x2)] S h n = mx_rt (mx_M d 159 [(0, x2), (0, x1), (0, x0)] S h n) (d + 1) 228 23 [l0, l1, l2, l3, l4, l5, l6, l7] []) ∧
  (∀ (d : Nat) (a : Int) (l0 l1 l2 l3 l4 l5 l6 l7 : Option mx_V) (S h : mx_H) (n : Int), mx_ex d 228 23 [l0, l1, l2, l3, l4, l5, l6, l7] [(0, a)] S h n = mx_br (a = 0) d 228 37 26 [l0, l1, l2, l3, l4, l5, l6, l7] [] S h n) ∧
  (∀ (d : Nat) (x : Int) (l0 l1 l2 l3 l5 l6 l7 : Option mx_V) (S h : mx_H) (n : Int), mx_ex d 228 26 [l0, l1, l2, l3, some (0, x), l5, l6, l7] [] S h n = mx_ex d 228 28 [l0, l1, l2, l3, some (0, x), l5, l6, l7] [(0, x)] S h n) ∧
  (∀ (d : Nat) (x : Int) (l1 l2 l3 l4 l5 l6 l7 : Option mx_V) (v0 : mx_V) (S h : mx_H) (n : Int), mx_ex d 228 28 [some (2, x), l1, l2, l3, l4, l5, l6, l7] [v0] S h n = mx_ex d 228 29 [some (2, x), l1, l2, l3, l4, l5, l6, l7] [(2, x), v0] S h n) ∧
  (∀ (d : Nat) (x : Int) (l0 l2 l3 l4 l5 l6 l7 : Option mx_V) (v0 v1 : mx_V) (S h : mx_H) (n : Int), mx_ex d 228 29 [l0, some (0, x), l2, l3, l4, l5, l6, l7] [v0, v1] S h n = mx_ex d 228 30 [l0, some (0, x), l2, l3, l4, l5, l6, l7] [(0, x), v0, v1] S h n) ∧
  (∀ (d : Nat) (l0 l1 l2 l3 l4 l5 l6 l7 : Option mx_V) (v0 v1 v2 : mx_V) (S h : mx_H) (n : Int), mx_ex d 228 30 [l0, l1, l2, l3, l4, l5, l6, l7] [v0, v1, v2] S h n = mx_ex d 228 31 [l0, l1, l2, l3, l4, l5, l6, l7] [(0, 3), v0, v1, v2] S h n) ∧
  (∀ (d : Nat) (x0 x1 a : Int) (l0 l1 l2 l3 l4 l5 l6 l7 : Option mx_V) (v3 : mx_V) (S h : mx_H) (n : Int), mx_ex (d + 1) 228 31 [l0, l1, l2, l3, l4, l5, l6, l7] [(0, x0), (0, x1), (2, a), v3] S h n = mx_cl (S a (-2) = 13) d 163 [(2, a), (0, x1), (0, x0)] 228 34 [l0, l1, l2, l3, l4, l5, l6, l7] [v3] S h n) ∧
  (∀ (d : Nat) (b a : Int) (l0 l1 l2 l3 l4 l5 l6 l7 : Option mx_V) (S h : mx_H) (n : Int), mx_ex d 228 34 [l0, l1, l2, l3, l4, l5, l6, l7] [(0, b), (0, a)] S h n = mx_br (b < a) d 228 37 39 [l0, l1, l2, l3, l4, l5, l6, l7] [] S h n) ∧
  (∀ (d : Nat) (l0 l1 l2 l3 l4 l5 l6 l7 : Option mx_V) (S h : mx_H) (n : Int), mx_ex d 228 37 [l0, l1, l2, l3, l4, l5, l6, l7] [] S h n = mx_ex d 228 38 [l0, l1, l2, l3, l4, l5, l6, l7] [(0, (-1))] S h n) ∧
  (∀ (d : Nat) (x : Int) (l0 l1 l2 l3 l4 l5 l6 l7 : Option mx_V) (S h : mx_H) (n : Int), mx_ex d 228 38 [l0, l1, l2, l3, l4, l5, l6, l7] [(0, x)] S h n = some (some (0, x), S, h, n)) ∧
  (∀ (d : Nat) (x : Int) (l1 l2 l3 l4 l5 l6 l7 : Option mx_V) (S h : mx_H) (n : Int), mx_ex d 228 39 [some (2, x), l1, l2, l3, l4, l5, l6, l7] [] S h n = mx_ex d 228 40 [some (2, x), l1, l2, l3, l4, l5, l6, l7] [(2, x)] S h n) ∧
  (∀ (d : Nat) (a : Int) (l0 l1 l2 l3 l4 l5 l6 l7 : Option mx_V) (S h : mx_H) (n : Int), mx_ex d 228 40 [l0, l1, l2, l3, l4, l5, l6, l7] [(2, a)] S h n = mx_gd (13 ≤ S a (-2) ∧ S a (-2) ≤ 13) d 228 43 [l0, l1, l2, l3, l4, l5, l6, l7] [(2, S a 16)] S h n) ∧
  (∀ (d : Nat) (x : Int) (l0 l1 l3 l4 l5 l6 l7 : Option mx_V) (v0 : mx_V) (S h : mx_H) (n : Int), mx_ex d 228 43 [l0, l1, some (0, x), l3, l4, l5, l6, l7] [v0] S h n = mx_ex d 228 44 [l0, l1, some (0, x), l3, l4, l5, l6, l7] [(0, x), v0] S h n) ∧
  (∀ (d : Nat) (i a : Int) (l0 l1 l2 l3 l4 l5 l6 l7 : Option mx_V) (S h : mx_H) (n : Int), mx_ex d 228 44 [l0, l1, l2, l3, l4, l5, l6, l7] [(0, i), (2, a)] S h n = mx_gd ((S a (-2) = 20 ∨ S a (-2) = 24) ∧ 0 ≤ i ∧ i < S a (-1)) d 228 45 [l0, l1, l2, l3, l4, l5, l6, l7] [(0, h a i)] S h n) ∧
  (∀ (d : Nat) (a : Int) (l0 l1 l2 l3 l4 l5 l6 l7 : Option mx_V) (S h : mx_H) (n : Int), mx_ex d 228 45 [l0, l1, l2, l3, l4, l5, l6, l7] [(0, a)] S h n = mx_br (a < 0) d 228 48 51 [l0, l1, l2, l3, l4, l5, l6, l7] [] S h n) ∧
  (∀ (d : Nat) (l0 l1 l2 l3 l4 l5 l6 l7 : Option mx_V) (S h : mx_H) (n : Int), mx_ex d 228 48 [l0, l1, l2, l3, l4, l5, l6, l7] [] S h n = mx_ex d 228 50 [l0, l1, l2, l3, l4, l5, l6, l7] [(0, (-11))] S h n) ∧
  (∀ (d : Nat) (x : Int) (l0 l1 l2 l3 l4 l5 l6 l7 : Option mx_V) (S h : mx_H) (n : Int), mx_ex d 228 50 [l0, l1, l2, l3, l4, l5, l6, l7] [(0, x)] S h n = some (some (0, x), S, h, n)) ∧
  (∀ (d : Nat) (x : Int) (l1 l2 l3 l4 l5 l6 l7 : Option mx_V) (S h : mx_H) (n : Int), mx_ex d 228 51 [some (2, x), l1, l2, l3, l4, l5, l6, l7] [] S h n = mx_ex d 228 52 [some (2, x), l1, l2, l3, l4, l5, l6, l7] [(2, x)] S h n) ∧
  (∀ (d : Nat) (a : Int) (l0 l1 l2 l3 l4 l5 l6 l7 : Option mx_V) (S h : mx_H) (n : Int), mx_ex d 228 52 [l0, l1, l2, l3, l4, l5, l6, l7] [(2, a)] S h n = mx_gd (13 ≤ S a (-2) ∧ S a (-2) ≤ 13) d 228 55 [l0, l1, l2, l3, l4, l5, l6, l7] [(2, S a 16)] S h n) ∧
  (∀ (d : Nat) (x : Int) (l0 l1 l3 l4 l5 l6 l7 : Option mx_V) (v0 : mx_V) (S h : mx_H) (n : Int), mx_ex d 228 55 [l0, l1, some (0, x), l3, l4, l5, l6, l7] [v0] S h n = mx_ex d 228 56 [l0, l1, some (0, x), l3, l4, l5, l6, l7] [(0, x), v0] S h n) ∧
  (∀ (d : Nat) (i a : Int) (l0 l1 l2 l3 l4 l5 l6 l7 : Option mx_V) (S h : mx_H) (n : Int), mx_ex d 228 56 [l0, l1, l2, l3, l4, l5, l6, l7] [(0, i), (2, a)] S h n = mx_gd ((S a (-2) = 20 ∨ S a (-2) = 24) ∧ 0 ≤ i ∧ i < S a (-1)) d 228 57 [l0, l1, l2, l3, l4, l5, l6, l7] [(0, h a i)] S h n) ∧
  (∀ (d : Nat) (a : Int) (l0 l1 l2 l3 l4 l5 l6 l7 : Option mx_V) (S h : mx_H) (n : Int), mx_ex d 228 57 [l0, l1, l2, l3, l4, l5, l6, l7] [(0, a)] S h n = mx_br (a = 0) d 228 63 60 [l0, l1, l2, l3, l4, l5, l6, l7] [] S h n) ∧
  (∀ (d : Nat) (l0 l1 l2 l3 l4 l5 l6 l7 : Option mx_V) (S h : mx_H) (n : Int), mx_ex d 228 60 [l0, l1, l2, l3, l4, l5, l6, l7] [] S h n = mx_ex d 228 62 [l0, l1, l2, l3, l4, l5, l6, l7] [(0, (-13))] S h n) ∧
  (∀ (d : Nat) (x : Int) (l0 l1 l2 l3 l4 l5 l6 l7 : Option mx_V) (S h : mx_H) (n : Int), mx_ex d 228 62 [l0, l1, l2, l3, l4, l5, l6, l7] [(0, x)] S h n = some (some (0, x), S, h, n)) ∧
  (∀ (d : Nat) (x : Int) (l0 l1 l2 l4 l5 l6 l7 : Option mx_V) (S h : mx_H) (n : Int), mx_ex d 228 63 [l0, l1, l2, some (0, x), l4, l5, l6, l7] [] S h n = mx_ex d 228 64 [l0, l1, l2, some (0, x), l4, l5, l6, l7] [(0, x)] S h n) ∧
  (∀ (d : Nat) (a : Int) (l0 l1 l2 l3 l4 l5 l6 l7 : Option mx_V) (S h : mx_H) (n : Int), mx_ex d 228 64 [l0, l1, l2, l3, l4, l5, l6, l7] [(0, a)] S h n = mx_br (a < 0) d 228 80 67 [l0, l1, l2, l3, l4, l5, l6, l7] [] S h n) ∧
  (∀ (d : Nat) (x : Int) (l0 l1 l2 l4 l5 l6 l7 : Option mx_V) (S h : mx_H) (n : Int), mx_ex d 228 67 [l0, l1, l2, some (0, x), l4, l5, l6, l7] [] S h n = mx_ex d 228 68 [l0, l1, l2, some (0, x), l4, l5, l6, l7] [(0, x)] S h n) ∧
  (∀ (d : Nat) (x : Int) (l1 l2 l3 l4 l5 l6 l7 : Option mx_V) (v0 : mx_V) (S h : mx_H) (n : Int), mx_ex d 228 68 [some (2, x), l1, l2, l3, l4, l5, l6, l7] [v0] S h n = mx_ex d 228 69 [some (2, x), l1, l2, l3, l4, l5, l6, l7] [(2, x), v0] S h n) ∧
  (∀ (d : Nat) (a : Int) (l0 l1 l2 l3 l4 l5 l6 l7 : Option mx_V) (v1 : mx_V) (S h : mx_H) (n : Int), mx_ex d 228 69 [l0, l1, l2, l3, l4, l5, l6, l7] [(2, a), v1] S h n = mx_gd (13 ≤ S a (-2) ∧ S a (-2) ≤ 13) d 228 72 [l0, l1, l2, l3, l4, l5, l6, l7] [(2, S a 17), v1] S h n) ∧
  (∀ (d : Nat) (x : Int) (l0 l1 l3 l4 l5 l6 l7 : Option mx_V) (v0 v1 : mx_V) (S h : mx_H) (n : Int), mx_ex d 228 72 [l0, l1, some (0, x), l3, l4, l5, l6, l7] [v0, v1] S h n = mx_ex d 228 73 [l0, l1, some (0, x), l3, l4, l5, l6, l7] [(0, x), v0, v1] S h n) ∧
  (∀ (d : Nat) (i a : Int) (l0 l1 l2 l3 l4 l5 l6 l7 : Option mx_V) (v2 : mx_V) (S h : mx_H) (n : Int), mx_ex d 228 73 [l0, l1, l2, l3, l4, l5, l6, l7] [(0, i), (2, a), v2] S h n = mx_gd ((S a (-2) = 20 ∨ S a (-2) = 24) ∧ 0 ≤ i ∧ i < S a (-1)) d 228 74 [l0, l1, l2, l3, l4, l5, l6, l7] [(0, h a i), v2] S h n) ∧
  (∀ (d : Nat) (x : Int) (l0 l1 l2 l3 l5 l6 l7 : Option mx_V) (v0 v1 : mx_V) (S h : mx_H) (n : Int), mx_ex d 228 74 [l0, l1, l2, l3, some (0, x), l5, l6, l7] [v0, v1] S h n = mx_ex d 228 76 [l0, l1, l2, l3, some (0, x), l5, l6, l7] [(0, x), v0, v1] S h n) ∧
  (∀ (d : Nat) (b a : Int) (l0 l1 l2 l3 l4 l5 l6 l7 : Option mx_V) (v2 : mx_V) (S h : mx_H) (n : Int), mx_ex d 228 76 [l0, l1, l2, l3, l4, l5, l6, l7] [(0, b), (0, a), v2] S h n = mx_ex d 228 77 [l0, l1, l2, l3, l4, l5, l6, l7] [(0, mx_w (a - b)), v2] S h n) ∧
  (∀ (d : Nat) (b a : Int) (l0 l1 l2 l3 l4 l5 l6 l7 : Option mx_V) (S h : mx_H) (n : Int), mx_ex d 228 77 [l0, l1, l2, l3, l4, l5, l6, l7] [(0, b), (0, a)] S h n = mx_br (b < a) d 228 80 83 [l0, l1, l2, l3, l4, l5, l6, l7] [] S h n) ∧
  (∀ (d : Nat) (l0 l1 l2 l3 l4 l5 l6 l7 : Option mx_V) (S h : mx_H) (n : Int), mx_ex d 228 80 [l0, l1, l2, l3, l4, l5, l6, l7] [] S h n = mx_ex d 228 82 [l0, l1, l2, l3, l4, l5, l6, l7] [(0, (-12))] S h n) ∧
  (∀ (d : Nat) (x : Int) (l0 l1 l2 l3 l4 l5 l6 l7 : Option mx_V) (S h : mx_H) (n : Int), mx_ex d 228 82 [l0, l1, l2, l3, l4, l5, l6, l7] [(0, x)] S h n = some (some (0, x), S, h, n)) ∧
  (∀ (d : Nat) (l0 l1 l2 l3 l4 l5 l6 l7 : Option mx_V) (S h : mx_H) (n : Int), mx_ex d 228 83 [l0, l1, l2, l3, l4, l5, l6, l7] [] S h n = mx_ex d 228 84 [l0, l1, l2, l3, l4, l5, l6, l7] [(0, 0)] S h n) ∧
  (∀ (d : Nat) (x : Int) (l0 l1 l2 l3 l4 l5 l6 l7 : Option mx_V) (S h : mx_H) (n : Int), mx_ex d 228 84 [l0, l1, l2, l3, l4, l5, l6, l7] [(0, x)] S h n = mx_ex d 228 86 [l0, l1, l2, l3, mx_nl l4, some (0, x), l6, l7] [] S h n) ∧
  (∀ (d : Nat) (x : Int) (l0 l1 l2 l3 l5 l6 l7 : Option mx_V) (v0 : mx_V) (S h : mx_H) (n : Int), mx_ex d 228 88 [l0, l1, l2, l3, some (0, x), l5, l6, l7] [v0] S h n = mx_ex d 228 90 [l0, l1, l2, l3, some (0, x), l5, l6, l7] [(0, x), v0] S h n) ∧
  (∀ (d : Nat) (b a : Int) (l0 l1 l2 l3 l4 l5 l6 l7 : Option mx_V) (S h : mx_H) (n : Int), mx_ex d 228 90 [l0, l1, l2, l3, l4, l5, l6, l7] [(0, b), (0, a)] S h n = mx_br (a < b) d 228 93 160 [l0, l1, l2, l3, l4, l5, l6, l7] [] S h n) ∧
  (∀ (d : Nat) (x : Int) (l1 l2 l3 l4 l5 l6 l7 : Option mx_V) (S h : mx_H) (n : Int), mx_ex d 228 93 [some (2, x), l1, l2, l3, l4, l5, l6, l7] [] S h n = mx_ex d 228 94 [some (2, x), l1, l2, l3, l4, l5, l6, l7] [(2, x)] S h n) ∧
  (∀ (d : Nat) (a : Int) (l0 l1 l2 l3 l4 l5 l6 l7 : Option mx_V) (S h : mx_H) (n : Int), mx_ex d 228 94 [l0, l1, l2, l3, l4, l5, l6, l7] [(2, a)] S h n = mx_gd (13 ≤ S a (-2) ∧ S a (-2) ≤ 13) d 228 97 [l0, l1, l2, l3, l4, l5, l6, l7] [(2, S a 18)] S h n) ∧
  (∀ (d : Nat) (l0 l1 l2 l3 l4 l5 l6 l7 : Option mx_V) (v0 : mx_V) (S h : mx_H) (n : Int), mx_ex d 228 97 [l0, l1, l2, l3, l4, l5, l6, l7] [v0] S h n = mx_ex d 228 99 [l0, l1, l2, l3, l4, l5, l6, l7] [(0, 40), v0] S h n) ∧
  (∀ (d : Nat) (x : Int) (l0 l1 l3 l4 l5 l6 l7 : Option mx_V) (v0 v1 : mx_V) (S h : mx_H) (n : Int), mx_ex d 228 99 [l0, l1, some (0, x), l3, l4, l5, l6, l7] [v0, v1] S h n = mx_ex d 228 100 [l0, l1, some (0, x), l3, l4, l5, l6, l7] [(0, x), v0, v1] S h n) ∧
  (∀ (d : Nat) (b a : Int) (l0 l1 l2 l3 l4 l5 l6 l7 : Option mx_V) (v2 : mx_V) (S h : mx_H) (n : Int), mx_ex d 228 100 [l0, l1, l2, l3, l4, l5, l6, l7] [(0, b), (0, a), v2] S h n = mx_ex d 228 101 [l0, l1, l2, l3, l4, l5, l6, l7] [(0, mx_w (a * b)), v2] S h n) ∧
  (∀ (d : Nat) (x : Int) (l0 l1 l2 l4 l5 l6 l7 : Option mx_V) (v0 v1 : mx_V) (S h : mx_H) (n : Int), mx_ex d 228 101 [l0, l1, l2, some (0, x), l4, l5, l6, l7] [v0, v1] S h n = mx_ex d 228 102 [l0, l1, l2, some (0, x), l4, l5, l6, l7] [(0, x), v0, v1] S h n) ∧
  (∀ (d : Nat) (b a : Int) (l0 l1 l2 l3 l4 l5 l6 l7 : Option mx_V) (v2 : mx_V) (S h : mx_H) (n : Int), mx_ex d 228 102 [l0, l1, l2, l3, l4, l5, l6, l7] [(0, b), (0, a), v2] S h n = mx_ex d 228 103 [l0, l1, l2, l3, l4, l5, l6, l7] [(0, mx_w (a + b)), v2] S h n) ∧
  (∀ (d : Nat) (x : Int) (l0 l1 l2 l3 l4 l6 l7 : Option mx_V) (v0 v1 : mx_V) (S h : mx_H) (n : Int), mx_ex d 228 103 [l0, l1, l2, l3, l4, some (0, x), l6, l7] [v0, v1] S h n = mx_ex d 228 105 [l0, l1, l2, l3, l4, some (0, x), l6, l7] [(0, x), v0, v1] S h n) ∧
  (∀ (d : Nat) (b a : Int) (l0 l1 l2 l3 l4 l5 l6 l7 : Option mx_V) (v2 : mx_V) (S h : mx_H) (n : Int), mx_ex d 228 105 [l0, l1, l2, l3, l4, l5, l6, l7] [(0, b), (0, a), v2] S h n = mx_ex d 228 106 [l0, l1, l2, l3, l4, l5, l6, l7] [(0, mx_w (a + b)), v2] S h n) ∧
  (∀ (d : Nat) (i a : Int) (l0 l1 l2 l3 l4 l5 l6 l7 : Option mx_V) (S h : mx_H) (n : Int), mx_ex d 228 106 [l0, l1, l2, l3, l4, l5, l6, l7] [(0, i), (2, a)] S h n = mx_gd (S a (-2) = 21 ∧ 0 ≤ i ∧ i < S a (-1)) d 228 107 [l0, l1, l2, l3, l4, l5, l6, l7] [(1, h a i)] S h n) ∧
  (∀ (d : Nat) (x : Int) (l0 l1 l2 l3 l4 l5 l6 l7 : Option mx_V) (S h : mx_H) (n : Int), mx_ex d 228 107 [l0, l1, l2, l3, l4, l5, l6, l7] [(1, x)] S h n = mx_ex d 228 109 [l0, l1, l2, l3, l4, mx_nl l5, some (1, x), none] [] S h n) ∧
  (∀ (d : Nat) (x : Int) (l1 l2 l3 l4 l5 l6 l7 : Option mx_V) (S h : mx_H) (n : Int), mx_ex d 228 109 [some (2, x), l1, l2, l3, l4, l5, l6, l7] [] S h n = mx_ex d 228 110 [some (2, x), l1, l2, l3, l4, l5, l6, l7] [(2, x)] S h n) ∧
  (∀ (d : Nat) (a : Int) (l0 l1 l2 l3 l4 l5 l6 l7 : Option mx_V) (S h : mx_H) (n : Int), mx_ex d 228 110 [l0, l1, l2, l3, l4, l5, l6, l7] [(2, a)] S h n = mx_gd (13 ≤ S a (-2) ∧ S a (-2) ≤ 13) d 228 113 [l0, l1, l2, l3, l4, l5, l6, l7] [(2, S a 0)] S h n) ∧
  (∀ (d : Nat) (l0 l1 l2 l3 l4 l5 l6 l7 : Option mx_V) (v0 : mx_V) (S h : mx_H) (n : Int), mx_ex d 228 113 [l0, l1, l2, l3, l4, l5, l6, l7] [v0] S h n = mx_ex d 228 115 [l0, l1, l2, l3, l4, l5, l6, l7] [(0, 9), v0] S h n) ∧
  (∀ (d : Nat) (l0 l1 l2 l3 l4 l5 l6 l7 : Option mx_V) (v0 v1 : mx_V) (S h : mx_H) (n : Int), mx_ex d 228 115 [l0, l1, l2, l3, l4, l5, l6, l7] [v0, v1] S h n = mx_ex d 228 117 [l0, l1, l2, l3, l4, l5, l6, l7] [(0, 10), v0, v1] S h n) ∧
  (∀ (d : Nat) (x : Int) (l0 l2 l3 l4 l5 l6 l7 : Option mx_V) (v0 v1 v2 : mx_V) (S h : mx_H) (n : Int), mx_ex d 228 117 [l0, some (0, x), l2, l3, l4, l5, l6, l7] [v0, v1, v2] S h n = mx_ex d 228 118 [l0, some (0, x), l2, l3, l4, l5, l6, l7] [(0, x), v0, v1, v2] S h n) ∧
  (∀ (d : Nat) (b a : Int) (l0 l1 l2 l3 l4 l5 l6 l7 : Option mx_V) (v2 v3 : mx_V) (S h : mx_H) (n : Int), mx_ex d 228 118 [l0, l1, l2, l3, l4, l5, l6, l7] [(0, b), (0, a), v2, v3] S h n = mx_ex d 228 119 [l0, l1, l2, l3, l4, l5, l6, l7] [(0, mx_w (a * b)), v2, v3] S h n) ∧
  (∀ (d : Nat) (b a : Int) (l0 l1 l2 l3 l4 l5 l6 l7 : Option mx_V) (v2 : mx_V) (S h : mx_H) (n : Int), mx_ex d 228 119 [l0, l1, l2, l3, l4, l5, l6, l7] [(0, b), (0, a), v2] S h n = mx_ex d 228 120 [l0, l1, l2, l3, l4, l5, l6, l7] [(0, mx_w (a + b)), v2] S h n) ∧
  (∀ (d : Nat) (l0 l1 l2 l3 l4 l5 l6 l7 : Option mx_V) (v0 v1 : mx_V) (S h : mx_H) (n : Int), mx_ex d 228 120 [l0, l1, l2, l3, l4, l5, l6, l7] [v0, v1] S h n = mx_ex d 228 121 [l0, l1, l2, l3, l4, l5, l6, l7] [(0, 4), v0, v1] S h n) :=
  ⟨by intros; exact rfl,
   by intros; exact eq_ld rfl rfl,
   by intros; exact eq_ld rfl rfl,
   by intros; exact eq_cv rfl (Nat.le_of_ble_eq_true rfl) rfl rfl rfl (Nat.le_of_ble_eq_true rfl),
   by intros; exact eq_if0 rfl,
   by intros; exact eq_ld rfl rfl,
   by intros; exact eq_cs rfl (Nat.le_of_ble_eq_true rfl) rfl rfl rfl (Nat.le_of_ble_eq_true rfl),
   by intros; exact eq_if0 rfl,
   by intros; exact eq_ld rfl rfl,
   by intros; exact eq_push rfl,
   by intros; exact eq_push rfl,
   by intros; exact eq_cs rfl (Nat.le_of_ble_eq_true rfl) rfl rfl rfl (Nat.le_of_ble_eq_true rfl),
   by intros; exact eq_if0 rfl,
   by intros; exact eq_ld rfl rfl,
   by intros; exact eq_ld rfl rfl,
   by intros; exact eq_ld rfl rfl,
   by intros; exact eq_push rfl,
   by intros; exact eq_cv rfl (Nat.le_of_ble_eq_true rfl) rfl rfl rfl (Nat.le_of_ble_eq_true rfl),
   by intros; exact eq_ic5 rfl,
   by intros; exact eq_push rfl,
   by intros; exact eq_ret rfl,
   by intros; exact eq_ld rfl rfl,
   by intros; exact eq_gr rfl,
   by intros; exact eq_ld rfl rfl,
   by intros; exact eq_iald rfl,
   by intros; exact eq_if3 rfl,
   by intros; exact eq_push rfl,
   by intros; exact eq_ret rfl,
   by intros; exact eq_ld rfl rfl,
   by intros; exact eq_gr rfl,
   by intros; exact eq_ld rfl rfl,
   by intros; exact eq_iald rfl,
   by intros; exact eq_if0 rfl,
   by intros; exact eq_push rfl,
   by intros; exact eq_ret rfl,
   by intros; exact eq_ld rfl rfl,
   by intros; exact eq_if2 rfl,
   by intros; exact eq_ld rfl rfl,
   by intros; exact eq_ld rfl rfl,
   by intros; exact eq_gr rfl,
   by intros; exact eq_ld rfl rfl,
   by intros; exact eq_iald rfl,
   by intros; exact eq_ld rfl rfl,
   by intros; exact eq_i2 (o := mx_sub) rfl,
   by intros; exact eq_ic5 rfl,
   by intros; exact eq_push rfl,
   by intros; exact eq_ret rfl,
   by intros; exact eq_push rfl,
   by intros; exact eq_st rfl (by decide) (Nat.le_of_ble_eq_true rfl) rfl,
   by intros; exact eq_ld rfl rfl,
   by intros; exact eq_ic3 rfl,
   by intros; exact eq_ld rfl rfl,
   by intros; exact eq_gr rfl,
   by intros; exact eq_push rfl,
   by intros; exact eq_ld rfl rfl,
   by intros; exact eq_i2 (o := mx_mul) rfl,
   by intros; exact eq_ld rfl rfl,
   by intros; exact eq_i2 (o := mx_add) rfl,
   by intros; exact eq_ld rfl rfl,
   by intros; exact eq_i2 (o := mx_add) rfl,
   by intros; exact eq_lald rfl,
   by intros; exact eq_st2 rfl (Nat.le_of_ble_eq_true rfl) rfl,
   by intros; exact eq_ld rfl rfl,
   by intros; exact eq_gr rfl,
   by intros; exact eq_push rfl,
   by intros; exact eq_push rfl,
   by intros; exact eq_ld rfl rfl,
   by intros; exact eq_i2 (o := mx_mul) rfl,
   by intros; exact eq_i2 (o := mx_add) rfl,
   by intros; exact eq_push rfl⟩
theorem rw_X12_signs_1 :
  (∀ (d : Nat) (b a : Int) (l0 l1 l2 l3 l4 l5 l6 l7 : Option mx_V) (v2 : mx_V) (S h : mx_H) (n : Int), mx_ex d 228 121 [l0, l1, l2, l3, l4, l5, l6, l7] [(0, b), (0, a), v2] S h n = mx_ex d 228 122 [l0, l1, l2, l3, l4, l5, l6, l7] [(0, mx_w (a + b)), v2] S h n) ∧
  (∀ (d : Nat) (x : Int) (l0 l1 l2 l3 l4 l6 l7 : Option mx_V) (v0 v1 : mx_V) (S h : mx_H) (n : Int), mx_ex d 228 122 [l0, l1, l2, l3, l4, some (0, x), l6, l7] [v0, v1] S h n = mx_ex d 228 124 [l0, l1, l2, l3, l4, some (0, x), l6, l7] [(0, x), v0, v1] S h n) ∧
  (∀ (d : Nat) (b a : Int) (l0 l1 l2 l3 l4 l5 l6 l7 : Option mx_V) (v2 : mx_V) (S h : mx_H) (n : Int), mx_ex d 228 124 [l0, l1, l2, l3, l4, l5, l6, l7] [(0, b), (0, a), v2] S h n = mx_ex d 228 125 [l0, l1, l2, l3, l4, l5, l6, l7] [(0, mx_w (a + b)), v2] S h n) ∧
  (∀ (d : Nat) (x : Int) (l0 l1 l2 l3 l4 l5 l7 : Option mx_V) (v0 v1 : mx_V) (S h : mx_H) (n : Int), mx_ex d 228 125 [l0, l1, l2, l3, l4, l5, some (1, x), l7] [v0, v1] S h n = mx_ex d 228 127 [l0, l1, l2, l3, l4, l5, some (1, x), l7] [(1, x), v0, v1] S h n) ∧
  (∀ (d : Nat) (l0 l1 l2 l3 l4 l5 l6 l7 : Option mx_V) (v0 v1 v2 : mx_V) (S h : mx_H) (n : Int), mx_ex d 228 127 [l0, l1, l2, l3, l4, l5, l6, l7] [v0, v1, v2] S h n = mx_ex d 228 128 [l0, l1, l2, l3, l4, l5, l6, l7] [(1, 0), v0, v1, v2] S h n) ∧
  (∀ (d : Nat) (b a : Int) (l0 l1 l2 l3 l4 l5 l6 l7 : Option mx_V) (v2 v3 : mx_V) (S h : mx_H) (n : Int), mx_ex d 228 128 [l0, l1, l2, l3, l4, l5, l6, l7] [(1, b), (1, a), v2, v3] S h n = mx_ex d 228 129 [l0, l1, l2, l3, l4, l5, l6, l7] [(0, mx_cmp a b), v2, v3] S h n) ∧
  (∀ (d : Nat) (a : Int) (l0 l1 l2 l3 l4 l5 l6 l7 : Option mx_V) (v1 v2 : mx_V) (S h : mx_H) (n : Int), mx_ex d 228 129 [l0, l1, l2, l3, l4, l5, l6, l7] [(0, a), v1, v2] S h n = mx_br (a < 0) d 228 132 136 [l0, l1, l2, l3, l4, l5, l6, l7] [v1, v2] S h n) ∧
  (∀ (d : Nat) (l0 l1 l2 l3 l4 l5 l6 l7 : Option mx_V) (v0 v1 : mx_V) (S h : mx_H) (n : Int), mx_ex d 228 132 [l0, l1, l2, l3, l4, l5, l6, l7] [v0, v1] S h n = mx_ex d 228 133 [l0, l1, l2, l3, l4, l5, l6, l7] [(0, 0), v0, v1] S h n) ∧
  (∀ (d : Nat) (l0 l1 l2 l3 l4 l5 l6 l7 : Option mx_V) (v0 v1 v2 : mx_V) (S h : mx_H) (n : Int), mx_ex d 228 133 [l0, l1, l2, l3, l4, l5, l6, l7] [v0, v1, v2] S h n = mx_ex d 228 153 [l0, l1, l2, l3, l4, l5, l6, l7] [v0, v1, v2] S h n) ∧
  (∀ (d : Nat) (x : Int) (l0 l1 l2 l3 l4 l5 l7 : Option mx_V) (v0 v1 : mx_V) (S h : mx_H) (n : Int), mx_ex d 228 136 [l0, l1, l2, l3, l4, l5, some (1, x), l7] [v0, v1] S h n = mx_ex d 228 138 [l0, l1, l2, l3, l4, l5, some (1, x), l7] [(1, x), v0, v1] S h n) ∧
  (∀ (d : Nat) (l0 l1 l2 l3 l4 l5 l6 l7 : Option mx_V) (v0 v1 v2 : mx_V) (S h : mx_H) (n : Int), mx_ex d 228 138 [l0, l1, l2, l3, l4, l5, l6, l7] [v0, v1, v2] S h n = mx_ex d 228 141 [l0, l1, l2, l3, l4, l5, l6, l7] [(1, 15), v0, v1, v2] S h n) ∧
  (∀ (d : Nat) (b a : Int) (l0 l1 l2 l3 l4 l5 l6 l7 : Option mx_V) (v2 v3 : mx_V) (S h : mx_H) (n : Int), mx_ex d 228 141 [l0, l1, l2, l3, l4, l5, l6, l7] [(1, b), (1, a), v2, v3] S h n = mx_ex d 228 142 [l0, l1, l2, l3, l4, l5, l6, l7] [(0, mx_cmp a b), v2, v3] S h n) ∧
  (∀ (d : Nat) (a : Int) (l0 l1 l2 l3 l4 l5 l6 l7 : Option mx_V) (v1 v2 : mx_V) (S h : mx_H) (n : Int), mx_ex d 228 142 [l0, l1, l2, l3, l4, l5, l6, l7] [(0, a), v1, v2] S h n = mx_br (0 < a) d 228 145 150 [l0, l1, l2, l3, l4, l5, l6, l7] [v1, v2] S h n) ∧
  (∀ (d : Nat) (l0 l1 l2 l3 l4 l5 l6 l7 : Option mx_V) (v0 v1 : mx_V) (S h : mx_H) (n : Int), mx_ex d 228 145 [l0, l1, l2, l3, l4, l5, l6, l7] [v0, v1] S h n = mx_ex d 228 147 [l0, l1, l2, l3, l4, l5, l6, l7] [(0, 15), v0, v1] S h n) ∧
  (∀ (d : Nat) (l0 l1 l2 l3 l4 l5 l6 l7 : Option mx_V) (v0 v1 v2 : mx_V) (S h : mx_H) (n : Int), mx_ex d 228 147 [l0, l1, l2, l3, l4, l5, l6, l7] [v0, v1, v2] S h n = mx_ex d 228 153 [l0, l1, l2, l3, l4, l5, l6, l7] [v0, v1, v2] S h n) ∧
  (∀ (d : Nat) (x : Int) (l0 l1 l2 l3 l4 l5 l7 : Option mx_V) (v0 v1 : mx_V) (S h : mx_H) (n : Int), mx_ex d 228 150 [l0, l1, l2, l3, l4, l5, some (1, x), l7] [v0, v1] S h n = mx_ex d 228 152 [l0, l1, l2, l3, l4, l5, some (1, x), l7] [(1, x), v0, v1] S h n) ∧
  (∀ (d : Nat) (a : Int) (l0 l1 l2 l3 l4 l5 l6 l7 : Option mx_V) (v1 v2 : mx_V) (S h : mx_H) (n : Int), mx_ex d 228 152 [l0, l1, l2, l3, l4, l5, l6, l7] [(1, a), v1, v2] S h n = mx_ex d 228 153 [l0, l1, l2, l3, l4, l5, l6, l7] [(0, mx_w a), v1, v2] S h n) ∧
  (∀ (d : Nat) (v i a : Int) (l0 l1 l2 l3 l4 l5 l6 l7 : Option mx_V) (S h : mx_H) (n : Int), mx_ex d 228 153 [l0, l1, l2, l3, l4, l5, l6, l7] [(0, v), (0, i), (2, a)] S h n = mx_gd (S a (-2) = 20 ∧ 0 ≤ i ∧ i < S a (-1)) d 228 154 [l0, l1, l2, l3, l4, l5, l6, l7] [] S (mx_u h a i v) n) ∧
  (∀ (d : Nat) (x : Int) (l0 l1 l2 l3 l4 l6 l7 : Option mx_V) (S h : mx_H) (n : Int), mx_ex d 228 154 [l0, l1, l2, l3, l4, some (0, x), l6, l7] [] S h n = mx_ex d 228 157 [l0, l1, l2, l3, mx_nl l4, some (0, mx_w (x + 1)), l6, l7] [] S h n) ∧
  (∀ (d : Nat) (l0 l1 l2 l3 l4 l5 l6 l7 : Option mx_V) (S h : mx_H) (n : Int), mx_ex d 228 157 [l0, l1, l2, l3, l4, l5, l6, l7] [] S h n = mx_ex d 228 86 [l0, l1, l2, l3, l4, l5, l6, l7] [] S h n) ∧
  (∀ (d : Nat) (x : Int) (l0 l1 l2 l3 l5 l6 l7 : Option mx_V) (S h : mx_H) (n : Int), mx_ex d 228 160 [l0, l1, l2, l3, some (0, x), l5, l6, l7] [] S h n = mx_ex d 228 162 [l0, l1, l2, l3, some (0, x), l5, l6, l7] [(0, x)] S h n) ∧
  (∀ (d : Nat) (x : Int) (l0 l1 l2 l3 l4 l5 l6 l7 : Option mx_V) (S h : mx_H) (n : Int), mx_ex d 228 162 [l0, l1, l2, l3, l4, l5, l6, l7] [(0, x)] S h n = some (some (0, x), S, h, n)) :=
  ⟨by intros; exact eq_i2 (o := mx_add) rfl,
   by intros; exact eq_ld rfl rfl,
   by intros; exact eq_i2 (o := mx_add) rfl,
   by intros; exact eq_ld rfl rfl,
   by intros; exact eq_push rfl,
   by intros; exact eq_lcmp rfl,
   by intros; exact eq_if3 rfl,
   by intros; exact eq_push rfl,
   by intros; exact eq_go rfl,
   by intros; exact eq_ld rfl rfl,
   by intros; exact eq_push rfl,
   by intros; exact eq_lcmp rfl,
   by intros; exact eq_if5 rfl,
   by intros; exact eq_push rfl,
   by intros; exact eq_go rfl,
   by intros; exact eq_ld rfl rfl,
   by intros; exact eq_l2i rfl,
   by intros; exact eq_iast rfl,
   by intros; exact eq_inc rfl rfl rfl,
   by intros; exact eq_go rfl,
   by intros; exact eq_ld rfl rfl,
   by intros; exact eq_ret rfl⟩
theorem rh_X12_sheet_64 : ∀ (d : Nat) (x : Int) (l0 l1 l2 l3 : Option mx_V) (S h : mx_H) (n : Int), mx_ex d 229 64 [l0, l1, l2, l3, some (0, x)] [] S h n = mx_ex d 229 66 [l0, l1, l2, l3, some (0, x)] [(0, x)] S h n := by intros; exact eq_ld rfl rfl
theorem rw_X12_sheet :
  (∀ (d : Nat) (a0 a1 a2 a3 : Int) (S h : mx_H) (n : Int), mx_M d 229 [(2, a0), (0, a1), (0, a2), (0, a3)] S h n = mx_ex d 229 0 [some (2, a0), some (0, a1), some (0, a2), some (0, a3), none] [] S h n) ∧
  (∀ (d : Nat) (x : Int) (l0 l2 l3 l4 : Option mx_V) (S h : mx_H) (n : Int), mx_ex d 229 0 [l0, some (0, x), l2, l3, l4] [] S h n = mx_ex d 229 1 [l0, some (0, x), l2, l3, l4] [(0, x)] S h n) ∧
  (∀ (d : Nat) (x0 : Int) (l0 l1 l2 l3 l4 : Option mx_V) (S h : mx_H) (n : Int), mx_ex (d + 1) 229 1 [l0, l1, l2, l3, l4] [(0, x0)] S h n = mx_rt (mx_M d 227 [(0, x0)] S h n) (d + 1) 229 4 [l0, l1, l2, l3, l4] []) ∧
  (∀ (d : Nat) (a : Int) (l0 l1 l2 l3 l4 : Option mx_V) (S h : mx_H) (n : Int), mx_ex d 229 4 [l0, l1, l2, l3, l4] [(0, a)] S h n = mx_br (a = 0) d 229 26 7 [l0, l1, l2, l3, l4] [] S h n) ∧
  (∀ (d : Nat) (x : Int) (l0 l1 l3 l4 : Option mx_V) (S h : mx_H) (n : Int), mx_ex d 229 7 [l0, l1, some (0, x), l3, l4] [] S h n = mx_ex d 229 8 [l0, l1, some (0, x), l3, l4] [(0, x)] S h n) ∧
  (∀ (d : Nat) (l0 l1 l2 l3 l4 : Option mx_V) (v0 : mx_V) (S h : mx_H) (n : Int), mx_ex d 229 8 [l0, l1, l2, l3, l4] [v0] S h n = mx_ex d 229 9 [l0, l1, l2, l3, l4] [(0, (-1)), v0] S h n) ∧
  (∀ (d : Nat) (l0 l1 l2 l3 l4 : Option mx_V) (v0 v1 : mx_V) (S h : mx_H) (n : Int), mx_ex d 229 9 [l0, l1, l2, l3, l4] [v0, v1] S h n = mx_ex d 229 10 [l0, l1, l2, l3, l4] [(0, 3), v0, v1] S h n) ∧
  (∀ (d : Nat) (x0 x1 x2 : Int) (l0 l1 l2 l3 l4 : Option mx_V) (S h : mx_H) (n : Int), mx_ex (d + 1) 229 10 [l0, l1, l2, l3, l4] [(0, x0), (0, x1), (0, x2)] S h n = mx_rt (mx_M d 159 [(0, x2), (0, x1), (0, x0)] S h n) (d + 1) 229 13 [l0, l1, l2, l3, l4] []) ∧
  (∀ (d : Nat) (a : Int) (l0 l1 l2 l3 l4 : Option mx_V) (S h : mx_H) (n : Int), mx_ex d 229 13 [l0, l1, l2, l3, l4] [(0, a)] S h n = mx_br (a = 0) d 229 26 16 [l0, l1, l2, l3, l4] [] S h n) ∧
  (∀ (d : Nat) (x : Int) (l0 l1 l3 l4 : Option mx_V) (S h : mx_H) (n : Int), mx_ex d 229 16 [l0, l1, some (0, x), l3, l4] [] S h n = mx_ex d 229 17 [l0, l1, some (0, x), l3, l4] [(0, x)] S h n) ∧
  (∀ (d : Nat) (a : Int) (l0 l1 l2 l3 l4 : Option mx_V) (S h : mx_H) (n : Int), mx_ex d 229 17 [l0, l1, l2, l3, l4] [(0, a)] S h n = mx_br (a < 0) d 229 28 20 [l0, l1, l2, l3, l4] [] S h n) ∧
  (∀ (d : Nat) (x : Int) (l0 l1 l2 l4 : Option mx_V) (S h : mx_H) (n : Int), mx_ex d 229 20 [l0, l1, l2, some (0, x), l4] [] S h n = mx_ex d 229 21 [l0, l1, l2, some (0, x), l4] [(0, x)] S h n) ∧
  (∀ (d : Nat) (l0 l1 l2 l3 l4 : Option mx_V) (v0 : mx_V) (S h : mx_H) (n : Int), mx_ex d 229 21 [l0, l1, l2, l3, l4] [v0] S h n = mx_ex d 229 23 [l0, l1, l2, l3, l4] [(0, 40), v0] S h n) ∧
  (∀ (d : Nat) (b a : Int) (l0 l1 l2 l3 l4 : Option mx_V) (S h : mx_H) (n : Int), mx_ex d 229 23 [l0, l1, l2, l3, l4] [(0, b), (0, a)] S h n = mx_br (b < a) d 229 26 28 [l0, l1, l2, l3, l4] [] S h n) ∧
  (∀ (d : Nat) (l0 l1 l2 l3 l4 : Option mx_V) (S h : mx_H) (n : Int), mx_ex d 229 26 [l0, l1, l2, l3, l4] [] S h n = mx_ex d 229 27 [l0, l1, l2, l3, l4] [(0, (-1))] S h n) ∧
  (∀ (d : Nat) (x : Int) (l0 l1 l2 l3 l4 : Option mx_V) (S h : mx_H) (n : Int), mx_ex d 229 27 [l0, l1, l2, l3, l4] [(0, x)] S h n = some (some (0, x), S, h, n)) ∧
  (∀ (d : Nat) (x : Int) (l0 l1 l3 l4 : Option mx_V) (S h : mx_H) (n : Int), mx_ex d 229 28 [l0, l1, some (0, x), l3, l4] [] S h n = mx_ex d 229 29 [l0, l1, some (0, x), l3, l4] [(0, x)] S h n) ∧
  (∀ (d : Nat) (a : Int) (l0 l1 l2 l3 l4 : Option mx_V) (S h : mx_H) (n : Int), mx_ex d 229 29 [l0, l1, l2, l3, l4] [(0, a)] S h n = mx_br (a < 0) d 229 39 32 [l0, l1, l2, l3, l4] [] S h n) ∧
  (∀ (d : Nat) (x : Int) (l0 l1 l2 l4 : Option mx_V) (S h : mx_H) (n : Int), mx_ex d 229 32 [l0, l1, l2, some (0, x), l4] [] S h n = mx_ex d 229 33 [l0, l1, l2, some (0, x), l4] [(0, x)] S h n) ∧
  (∀ (d : Nat) (a : Int) (l0 l1 l2 l3 l4 : Option mx_V) (S h : mx_H) (n : Int), mx_ex d 229 33 [l0, l1, l2, l3, l4] [(0, a)] S h n = mx_br (a < 0) d 229 36 39 [l0, l1, l2, l3, l4] [] S h n) ∧
  (∀ (d : Nat) (l0 l1 l2 l3 l4 : Option mx_V) (S h : mx_H) (n : Int), mx_ex d 229 36 [l0, l1, l2, l3, l4] [] S h n = mx_ex d 229 38 [l0, l1, l2, l3, l4] [(0, (-14))] S h n) ∧
  (∀ (d : Nat) (x : Int) (l0 l1 l2 l3 l4 : Option mx_V) (S h : mx_H) (n : Int), mx_ex d 229 38 [l0, l1, l2, l3, l4] [(0, x)] S h n = some (some (0, x), S, h, n)) ∧
  (∀ (d : Nat) (x : Int) (l1 l2 l3 l4 : Option mx_V) (S h : mx_H) (n : Int), mx_ex d 229 39 [some (2, x), l1, l2, l3, l4] [] S h n = mx_ex d 229 40 [some (2, x), l1, l2, l3, l4] [(2, x)] S h n) ∧
  (∀ (d : Nat) (a : Int) (l0 l1 l2 l3 l4 : Option mx_V) (S h : mx_H) (n : Int), mx_ex d 229 40 [l0, l1, l2, l3, l4] [(2, a)] S h n = mx_gd (13 ≤ S a (-2) ∧ S a (-2) ≤ 13) d 229 43 [l0, l1, l2, l3, l4] [(2, S a 16)] S h n) ∧
  (∀ (d : Nat) (x : Int) (l0 l2 l3 l4 : Option mx_V) (v0 : mx_V) (S h : mx_H) (n : Int), mx_ex d 229 43 [l0, some (0, x), l2, l3, l4] [v0] S h n = mx_ex d 229 44 [l0, some (0, x), l2, l3, l4] [(0, x), v0] S h n) ∧
  (∀ (d : Nat) (x : Int) (l0 l1 l3 l4 : Option mx_V) (v0 v1 : mx_V) (S h : mx_H) (n : Int), mx_ex d 229 44 [l0, l1, some (0, x), l3, l4] [v0, v1] S h n = mx_ex d 229 45 [l0, l1, some (0, x), l3, l4] [(0, x), v0, v1] S h n) ∧
  (∀ (d : Nat) (v i a : Int) (l0 l1 l2 l3 l4 : Option mx_V) (S h : mx_H) (n : Int), mx_ex d 229 45 [l0, l1, l2, l3, l4] [(0, v), (0, i), (2, a)] S h n = mx_gd (S a (-2) = 20 ∧ 0 ≤ i ∧ i < S a (-1)) d 229 46 [l0, l1, l2, l3, l4] [] S (mx_u h a i v) n) ∧
  (∀ (d : Nat) (x : Int) (l1 l2 l3 l4 : Option mx_V) (S h : mx_H) (n : Int), mx_ex d 229 46 [some (2, x), l1, l2, l3, l4] [] S h n = mx_ex d 229 47 [some (2, x), l1, l2, l3, l4] [(2, x)] S h n) ∧
  (∀ (d : Nat) (a : Int) (l0 l1 l2 l3 l4 : Option mx_V) (S h : mx_H) (n : Int), mx_ex d 229 47 [l0, l1, l2, l3, l4] [(2, a)] S h n = mx_gd (13 ≤ S a (-2) ∧ S a (-2) ≤ 13) d 229 50 [l0, l1, l2, l3, l4] [(2, S a 17)] S h n) ∧
  (∀ (d : Nat) (x : Int) (l0 l2 l3 l4 : Option mx_V) (v0 : mx_V) (S h : mx_H) (n : Int), mx_ex d 229 50 [l0, some (0, x), l2, l3, l4] [v0] S h n = mx_ex d 229 51 [l0, some (0, x), l2, l3, l4] [(0, x), v0] S h n) ∧
  (∀ (d : Nat) (x : Int) (l0 l1 l3 l4 : Option mx_V) (v0 v1 : mx_V) (S h : mx_H) (n : Int), mx_ex d 229 51 [l0, l1, some (0, x), l3, l4] [v0, v1] S h n = mx_ex d 229 52 [l0, l1, some (0, x), l3, l4] [(0, x), v0, v1] S h n) ∧
  (∀ (d : Nat) (a : Int) (l0 l1 l2 l3 l4 : Option mx_V) (v1 v2 : mx_V) (S h : mx_H) (n : Int), mx_ex d 229 52 [l0, l1, l2, l3, l4] [(0, a), v1, v2] S h n = mx_br (a < 0) d 229 55 59 [l0, l1, l2, l3, l4] [v1, v2] S h n) ∧
  (∀ (d : Nat) (l0 l1 l2 l3 l4 : Option mx_V) (v0 v1 : mx_V) (S h : mx_H) (n : Int), mx_ex d 229 55 [l0, l1, l2, l3, l4] [v0, v1] S h n = mx_ex d 229 56 [l0, l1, l2, l3, l4] [(0, 0), v0, v1] S h n) ∧
  (∀ (d : Nat) (l0 l1 l2 l3 l4 : Option mx_V) (v0 v1 v2 : mx_V) (S h : mx_H) (n : Int), mx_ex d 229 56 [l0, l1, l2, l3, l4] [v0, v1, v2] S h n = mx_ex d 229 60 [l0, l1, l2, l3, l4] [v0, v1, v2] S h n) ∧
  (∀ (d : Nat) (x : Int) (l0 l1 l2 l4 : Option mx_V) (v0 v1 : mx_V) (S h : mx_H) (n : Int), mx_ex d 229 59 [l0, l1, l2, some (0, x), l4] [v0, v1] S h n = mx_ex d 229 60 [l0, l1, l2, some (0, x), l4] [(0, x), v0, v1] S h n) ∧
  (∀ (d : Nat) (v i a : Int) (l0 l1 l2 l3 l4 : Option mx_V) (S h : mx_H) (n : Int), mx_ex d 229 60 [l0, l1, l2, l3, l4] [(0, v), (0, i), (2, a)] S h n = mx_gd (S a (-2) = 20 ∧ 0 ≤ i ∧ i < S a (-1)) d 229 61 [l0, l1, l2, l3, l4] [] S (mx_u h a i v) n) ∧
  (∀ (d : Nat) (l0 l1 l2 l3 l4 : Option mx_V) (S h : mx_H) (n : Int), mx_ex d 229 61 [l0, l1, l2, l3, l4] [] S h n = mx_ex d 229 62 [l0, l1, l2, l3, l4] [(0, 0)] S h n) ∧
  (∀ (d : Nat) (x : Int) (l0 l1 l2 l3 l4 : Option mx_V) (S h : mx_H) (n : Int), mx_ex d 229 62 [l0, l1, l2, l3, l4] [(0, x)] S h n = mx_ex d 229 64 [l0, l1, l2, mx_nl l3, some (0, x)] [] S h n) ∧
  (∀ (d : Nat) (l0 l1 l2 l3 l4 : Option mx_V) (v0 : mx_V) (S h : mx_H) (n : Int), mx_ex d 229 66 [l0, l1, l2, l3, l4] [v0] S h n = mx_ex d 229 68 [l0, l1, l2, l3, l4] [(0, 40), v0] S h n) ∧
  (∀ (d : Nat) (b a : Int) (l0 l1 l2 l3 l4 : Option mx_V) (S h : mx_H) (n : Int), mx_ex d 229 68 [l0, l1, l2, l3, l4] [(0, b), (0, a)] S h n = mx_br (a < b) d 229 71 90 [l0, l1, l2, l3, l4] [] S h n) ∧
  (∀ (d : Nat) (x : Int) (l1 l2 l3 l4 : Option mx_V) (S h : mx_H) (n : Int), mx_ex d 229 71 [some (2, x), l1, l2, l3, l4] [] S h n = mx_ex d 229 72 [some (2, x), l1, l2, l3, l4] [(2, x)] S h n) ∧
  (∀ (d : Nat) (a : Int) (l0 l1 l2 l3 l4 : Option mx_V) (S h : mx_H) (n : Int), mx_ex d 229 72 [l0, l1, l2, l3, l4] [(2, a)] S h n = mx_gd (13 ≤ S a (-2) ∧ S a (-2) ≤ 13) d 229 75 [l0, l1, l2, l3, l4] [(2, S a 18)] S h n) ∧
  (∀ (d : Nat) (l0 l1 l2 l3 l4 : Option mx_V) (v0 : mx_V) (S h : mx_H) (n : Int), mx_ex d 229 75 [l0, l1, l2, l3, l4] [v0] S h n = mx_ex d 229 77 [l0, l1, l2, l3, l4] [(0, 40), v0] S h n) ∧
  (∀ (d : Nat) (x : Int) (l0 l2 l3 l4 : Option mx_V) (v0 v1 : mx_V) (S h : mx_H) (n : Int), mx_ex d 229 77 [l0, some (0, x), l2, l3, l4] [v0, v1] S h n = mx_ex d 229 78 [l0, some (0, x), l2, l3, l4] [(0, x), v0, v1] S h n) ∧
  (∀ (d : Nat) (b a : Int) (l0 l1 l2 l3 l4 : Option mx_V) (v2 : mx_V) (S h : mx_H) (n : Int), mx_ex d 229 78 [l0, l1, l2, l3, l4] [(0, b), (0, a), v2] S h n = mx_ex d 229 79 [l0, l1, l2, l3, l4] [(0, mx_w (a * b)), v2] S h n) ∧
  (∀ (d : Nat) (x : Int) (l0 l1 l2 l3 : Option mx_V) (v0 v1 : mx_V) (S h : mx_H) (n : Int), mx_ex d 229 79 [l0, l1, l2, l3, some (0, x)] [v0, v1] S h n = mx_ex d 229 81 [l0, l1, l2, l3, some (0, x)] [(0, x), v0, v1] S h n) ∧
  (∀ (d : Nat) (b a : Int) (l0 l1 l2 l3 l4 : Option mx_V) (v2 : mx_V) (S h : mx_H) (n : Int), mx_ex d 229 81 [l0, l1, l2, l3, l4] [(0, b), (0, a), v2] S h n = mx_ex d 229 82 [l0, l1, l2, l3, l4] [(0, mx_w (a + b)), v2] S h n) ∧
  (∀ (d : Nat) (l0 l1 l2 l3 l4 : Option mx_V) (v0 v1 : mx_V) (S h : mx_H) (n : Int), mx_ex d 229 82 [l0, l1, l2, l3, l4] [v0, v1] S h n = mx_ex d 229 83 [l0, l1, l2, l3, l4] [(1, 0), v0, v1] S h n) ∧
  (∀ (d : Nat) (v i a : Int) (l0 l1 l2 l3 l4 : Option mx_V) (S h : mx_H) (n : Int), mx_ex d 229 83 [l0, l1, l2, l3, l4] [(1, v), (0, i), (2, a)] S h n = mx_gd (S a (-2) = 21 ∧ 0 ≤ i ∧ i < S a (-1)) d 229 84 [l0, l1, l2, l3, l4] [] S (mx_u h a i v) n) ∧
  (∀ (d : Nat) (x : Int) (l0 l1 l2 l3 : Option mx_V) (S h : mx_H) (n : Int), mx_ex d 229 84 [l0, l1, l2, l3, some (0, x)] [] S h n = mx_ex d 229 87 [l0, l1, l2, mx_nl l3, some (0, mx_w (x + 1))] [] S h n) ∧
  (∀ (d : Nat) (l0 l1 l2 l3 l4 : Option mx_V) (S h : mx_H) (n : Int), mx_ex d 229 87 [l0, l1, l2, l3, l4] [] S h n = mx_ex d 229 64 [l0, l1, l2, l3, l4] [] S h n) ∧
  (∀ (d : Nat) (l0 l1 l2 l3 l4 : Option mx_V) (S h : mx_H) (n : Int), mx_ex d 229 90 [l0, l1, l2, l3, l4] [] S h n = mx_ex d 229 91 [l0, l1, l2, l3, l4] [(0, 1)] S h n) ∧
  (∀ (d : Nat) (x : Int) (l0 l1 l2 l3 l4 : Option mx_V) (S h : mx_H) (n : Int), mx_ex d 229 91 [l0, l1, l2, l3, l4] [(0, x)] S h n = some (some (0, x), S, h, n)) :=
  ⟨by intros; exact rfl,
   by intros; exact eq_ld rfl rfl,
   by intros; exact eq_cs rfl (Nat.le_of_ble_eq_true rfl) rfl rfl rfl (Nat.le_of_ble_eq_true rfl),
   by intros; exact eq_if0 rfl,
   by intros; exact eq_ld rfl rfl,
   by intros; exact eq_push rfl,
   by intros; exact eq_push rfl,
   by intros; exact eq_cs rfl (Nat.le_of_ble_eq_true rfl) rfl rfl rfl (Nat.le_of_ble_eq_true rfl),
   by intros; exact eq_if0 rfl,
   by intros; exact eq_ld rfl rfl,
   by intros; exact eq_if2 rfl,
   by intros; exact eq_ld rfl rfl,
   by intros; exact eq_push rfl,
   by intros; exact eq_ic5 rfl,
   by intros; exact eq_push rfl,
   by intros; exact eq_ret rfl,
   by intros; exact eq_ld rfl rfl,
   by intros; exact eq_if2 rfl,
   by intros; exact eq_ld rfl rfl,
   by intros; exact eq_if3 rfl,
   by intros; exact eq_push rfl,
   by intros; exact eq_ret rfl,
   by intros; exact eq_ld rfl rfl,
   by intros; exact eq_gr rfl,
   by intros; exact eq_ld rfl rfl,
   by intros; exact eq_ld rfl rfl,
   by intros; exact eq_iast rfl,
   by intros; exact eq_ld rfl rfl,
   by intros; exact eq_gr rfl,
   by intros; exact eq_ld rfl rfl,
   by intros; exact eq_ld rfl rfl,
   by intros; exact eq_if3 rfl,
   by intros; exact eq_push rfl,
   by intros; exact eq_go rfl,
   by intros; exact eq_ld rfl rfl,
   by intros; exact eq_iast rfl,
   by intros; exact eq_push rfl,
   by intros; exact eq_st rfl (by decide) (Nat.le_of_ble_eq_true rfl) rfl,
   by intros; exact eq_push rfl,
   by intros; exact eq_ic3 rfl,
   by intros; exact eq_ld rfl rfl,
   by intros; exact eq_gr rfl,
   by intros; exact eq_push rfl,
   by intros; exact eq_ld rfl rfl,
   by intros; exact eq_i2 (o := mx_mul) rfl,
   by intros; exact eq_ld rfl rfl,
   by intros; exact eq_i2 (o := mx_add) rfl,
   by intros; exact eq_push rfl,
   by intros; exact eq_last rfl,
   by intros; exact eq_inc rfl rfl rfl,
   by intros; exact eq_go rfl,
   by intros; exact eq_push rfl,
   by intros; exact eq_ret rfl⟩
theorem rw_X12_narrowed :
  (∀ (d : Nat) (a0 a1 : Int) (S h : mx_H) (n : Int), mx_M d 230 [(0, a0), (0, a1)] S h n = mx_ex d 230 0 [some (0, a0), some (0, a1), none] [] S h n) ∧
  (∀ (d : Nat) (x : Int) (l1 l2 : Option mx_V) (S h : mx_H) (n : Int), mx_ex d 230 0 [some (0, x), l1, l2] [] S h n = mx_ex d 230 1 [some (0, x), l1, l2] [(0, x)] S h n) ∧
  (∀ (d : Nat) (a : Int) (l0 l1 l2 : Option mx_V) (S h : mx_H) (n : Int), mx_ex d 230 1 [l0, l1, l2] [(0, a)] S h n = mx_br (a = 0) d 230 4 9 [l0, l1, l2] [] S h n) ∧
  (∀ (d : Nat) (l0 l1 l2 : Option mx_V) (S h : mx_H) (n : Int), mx_ex d 230 4 [l0, l1, l2] [] S h n = mx_ex d 230 6 [l0, l1, l2] [(0, 24)] S h n) ∧
  (∀ (d : Nat) (l0 l1 l2 : Option mx_V) (v0 : mx_V) (S h : mx_H) (n : Int), mx_ex d 230 6 [l0, l1, l2] [v0] S h n = mx_ex d 230 20 [l0, l1, l2] [v0] S h n) ∧
  (∀ (d : Nat) (x : Int) (l1 l2 : Option mx_V) (S h : mx_H) (n : Int), mx_ex d 230 9 [some (0, x), l1, l2] [] S h n = mx_ex d 230 10 [some (0, x), l1, l2] [(0, x)] S h n) ∧
  (∀ (d : Nat) (l0 l1 l2 : Option mx_V) (v0 : mx_V) (S h : mx_H) (n : Int), mx_ex d 230 10 [l0, l1, l2] [v0] S h n = mx_ex d 230 11 [l0, l1, l2] [(0, 1), v0] S h n) ∧
  (∀ (d : Nat) (b a : Int) (l0 l1 l2 : Option mx_V) (S h : mx_H) (n : Int), mx_ex d 230 11 [l0, l1, l2] [(0, b), (0, a)] S h n = mx_br (a = b) d 230 14 19 [l0, l1, l2] [] S h n) ∧
  (∀ (d : Nat) (l0 l1 l2 : Option mx_V) (S h : mx_H) (n : Int), mx_ex d 230 14 [l0, l1, l2] [] S h n = mx_ex d 230 16 [l0, l1, l2] [(0, 16)] S h n) ∧
  (∀ (d : Nat) (l0 l1 l2 : Option mx_V) (v0 : mx_V) (S h : mx_H) (n : Int), mx_ex d 230 16 [l0, l1, l2] [v0] S h n = mx_ex d 230 20 [l0, l1, l2] [v0] S h n) ∧
  (∀ (d : Nat) (l0 l1 l2 : Option mx_V) (S h : mx_H) (n : Int), mx_ex d 230 19 [l0, l1, l2] [] S h n = mx_ex d 230 20 [l0, l1, l2] [(0, 0)] S h n) ∧
  (∀ (d : Nat) (x : Int) (l0 l1 l2 : Option mx_V) (S h : mx_H) (n : Int), mx_ex d 230 20 [l0, l1, l2] [(0, x)] S h n = mx_ex d 230 21 [l0, mx_nl l1, some (0, x)] [] S h n) ∧
  (∀ (d : Nat) (x : Int) (l0 l2 : Option mx_V) (S h : mx_H) (n : Int), mx_ex d 230 21 [l0, some (0, x), l2] [] S h n = mx_ex d 230 22 [l0, some (0, x), l2] [(0, x)] S h n) ∧
  (∀ (d : Nat) (x : Int) (l0 l1 : Option mx_V) (v0 : mx_V) (S h : mx_H) (n : Int), mx_ex d 230 22 [l0, l1, some (0, x)] [v0] S h n = mx_ex d 230 23 [l0, l1, some (0, x)] [(0, x), v0] S h n) ∧
  (∀ (d : Nat) (b a : Int) (l0 l1 l2 : Option mx_V) (S h : mx_H) (n : Int), mx_ex d 230 23 [l0, l1, l2] [(0, b), (0, a)] S h n = mx_ex d 230 24 [l0, l1, l2] [(0, mx_shl a b)] S h n) ∧
  (∀ (d : Nat) (x : Int) (l0 l1 : Option mx_V) (v0 : mx_V) (S h : mx_H) (n : Int), mx_ex d 230 24 [l0, l1, some (0, x)] [v0] S h n = mx_ex d 230 25 [l0, l1, some (0, x)] [(0, x), v0] S h n) ∧
  (∀ (d : Nat) (b a : Int) (l0 l1 l2 : Option mx_V) (S h : mx_H) (n : Int), mx_ex d 230 25 [l0, l1, l2] [(0, b), (0, a)] S h n = mx_ex d 230 26 [l0, l1, l2] [(0, mx_shr a b)] S h n) ∧
  (∀ (d : Nat) (a : Int) (l0 l1 l2 : Option mx_V) (S h : mx_H) (n : Int), mx_ex d 230 26 [l0, l1, l2] [(0, a)] S h n = mx_ex d 230 27 [l0, l1, l2] [(1, a)] S h n) ∧
  (∀ (d : Nat) (x : Int) (l0 l1 l2 : Option mx_V) (S h : mx_H) (n : Int), mx_ex d 230 27 [l0, l1, l2] [(1, x)] S h n = some (some (1, x), S, h, n)) :=
  ⟨by intros; exact rfl,
   by intros; exact eq_ld rfl rfl,
   by intros; exact eq_if1 rfl,
   by intros; exact eq_push rfl,
   by intros; exact eq_go rfl,
   by intros; exact eq_ld rfl rfl,
   by intros; exact eq_push rfl,
   by intros; exact eq_ic1 rfl,
   by intros; exact eq_push rfl,
   by intros; exact eq_go rfl,
   by intros; exact eq_push rfl,
   by intros; exact eq_st rfl (by decide) (Nat.le_of_ble_eq_true rfl) rfl,
   by intros; exact eq_ld rfl rfl,
   by intros; exact eq_ld rfl rfl,
   by intros; exact eq_i2 (o := mx_shl) rfl,
   by intros; exact eq_ld rfl rfl,
   by intros; exact eq_i2 (o := mx_shr) rfl,
   by intros; exact eq_i2l rfl,
   by intros; exact eq_ret rfl⟩
theorem rw_X12_put :
  (∀ (d : Nat) (a0 a1 a2 a3 : Int) (S h : mx_H) (n : Int), mx_M d 231 [(2, a0), (0, a1), (0, a2), (0, a3)] S h n = mx_ex d 231 0 [some (2, a0), some (0, a1), some (0, a2), some (0, a3)] [] S h n) ∧
  (∀ (d : Nat) (x : Int) (l0 l2 l3 : Option mx_V) (S h : mx_H) (n : Int), mx_ex d 231 0 [l0, some (0, x), l2, l3] [] S h n = mx_ex d 231 1 [l0, some (0, x), l2, l3] [(0, x)] S h n) ∧
  (∀ (d : Nat) (x0 : Int) (l0 l1 l2 l3 : Option mx_V) (S h : mx_H) (n : Int), mx_ex (d + 1) 231 1 [l0, l1, l2, l3] [(0, x0)] S h n = mx_rt (mx_M d 227 [(0, x0)] S h n) (d + 1) 231 4 [l0, l1, l2, l3] []) ∧
  (∀ (d : Nat) (a : Int) (l0 l1 l2 l3 : Option mx_V) (S h : mx_H) (n : Int), mx_ex d 231 4 [l0, l1, l2, l3] [(0, a)] S h n = mx_br (a = 0) d 231 7 9 [l0, l1, l2, l3] [] S h n) ∧
  (∀ (d : Nat) (l0 l1 l2 l3 : Option mx_V) (S h : mx_H) (n : Int), mx_ex d 231 7 [l0, l1, l2, l3] [] S h n = mx_ex d 231 8 [l0, l1, l2, l3] [(0, (-1))] S h n) ∧
  (∀ (d : Nat) (x : Int) (l0 l1 l2 l3 : Option mx_V) (S h : mx_H) (n : Int), mx_ex d 231 8 [l0, l1, l2, l3] [(0, x)] S h n = some (some (0, x), S, h, n)) ∧
  (∀ (d : Nat) (x : Int) (l1 l2 l3 : Option mx_V) (S h : mx_H) (n : Int), mx_ex d 231 9 [some (2, x), l1, l2, l3] [] S h n = mx_ex d 231 10 [some (2, x), l1, l2, l3] [(2, x)] S h n) ∧
  (∀ (d : Nat) (a : Int) (l0 l1 l2 l3 : Option mx_V) (S h : mx_H) (n : Int), mx_ex d 231 10 [l0, l1, l2, l3] [(2, a)] S h n = mx_gd (13 ≤ S a (-2) ∧ S a (-2) ≤ 13) d 231 13 [l0, l1, l2, l3] [(2, S a 16)] S h n) ∧
  (∀ (d : Nat) (x : Int) (l0 l2 l3 : Option mx_V) (v0 : mx_V) (S h : mx_H) (n : Int), mx_ex d 231 13 [l0, some (0, x), l2, l3] [v0] S h n = mx_ex d 231 14 [l0, some (0, x), l2, l3] [(0, x), v0] S h n) ∧
  (∀ (d : Nat) (i a : Int) (l0 l1 l2 l3 : Option mx_V) (S h : mx_H) (n : Int), mx_ex d 231 14 [l0, l1, l2, l3] [(0, i), (2, a)] S h n = mx_gd ((S a (-2) = 20 ∨ S a (-2) = 24) ∧ 0 ≤ i ∧ i < S a (-1)) d 231 15 [l0, l1, l2, l3] [(0, h a i)] S h n) ∧
  (∀ (d : Nat) (a : Int) (l0 l1 l2 l3 : Option mx_V) (S h : mx_H) (n : Int), mx_ex d 231 15 [l0, l1, l2, l3] [(0, a)] S h n = mx_br (a < 0) d 231 18 21 [l0, l1, l2, l3] [] S h n) ∧
  (∀ (d : Nat) (l0 l1 l2 l3 : Option mx_V) (S h : mx_H) (n : Int), mx_ex d 231 18 [l0, l1, l2, l3] [] S h n = mx_ex d 231 20 [l0, l1, l2, l3] [(0, (-11))] S h n) ∧
  (∀ (d : Nat) (x : Int) (l0 l1 l2 l3 : Option mx_V) (S h : mx_H) (n : Int), mx_ex d 231 20 [l0, l1, l2, l3] [(0, x)] S h n = some (some (0, x), S, h, n)) ∧
  (∀ (d : Nat) (x : Int) (l0 l1 l3 : Option mx_V) (S h : mx_H) (n : Int), mx_ex d 231 21 [l0, l1, some (0, x), l3] [] S h n = mx_ex d 231 22 [l0, l1, some (0, x), l3] [(0, x)] S h n) ∧
  (∀ (d : Nat) (l0 l1 l2 l3 : Option mx_V) (v0 : mx_V) (S h : mx_H) (n : Int), mx_ex d 231 22 [l0, l1, l2, l3] [v0] S h n = mx_ex d 231 23 [l0, l1, l2, l3] [(0, 0), v0] S h n) ∧
  (∀ (d : Nat) (x : Int) (l1 l2 l3 : Option mx_V) (v0 v1 : mx_V) (S h : mx_H) (n : Int), mx_ex d 231 23 [some (2, x), l1, l2, l3] [v0, v1] S h n = mx_ex d 231 24 [some (2, x), l1, l2, l3] [(2, x), v0, v1] S h n) ∧
  (∀ (d : Nat) (a : Int) (l0 l1 l2 l3 : Option mx_V) (v1 v2 : mx_V) (S h : mx_H) (n : Int), mx_ex d 231 24 [l0, l1, l2, l3] [(2, a), v1, v2] S h n = mx_gd (13 ≤ S a (-2) ∧ S a (-2) ≤ 13) d 231 27 [l0, l1, l2, l3] [(2, S a 17), v1, v2] S h n) ∧
  (∀ (d : Nat) (x : Int) (l0 l2 l3 : Option mx_V) (v0 v1 v2 : mx_V) (S h : mx_H) (n : Int), mx_ex d 231 27 [l0, some (0, x), l2, l3] [v0, v1, v2] S h n = mx_ex d 231 28 [l0, some (0, x), l2, l3] [(0, x), v0, v1, v2] S h n) ∧
  (∀ (d : Nat) (i a : Int) (l0 l1 l2 l3 : Option mx_V) (v2 v3 : mx_V) (S h : mx_H) (n : Int), mx_ex d 231 28 [l0, l1, l2, l3] [(0, i), (2, a), v2, v3] S h n = mx_gd ((S a (-2) = 20 ∨ S a (-2) = 24) ∧ 0 ≤ i ∧ i < S a (-1)) d 231 29 [l0, l1, l2, l3] [(0, h a i), v2, v3] S h n) ∧
  (∀ (d : Nat) (l0 l1 l2 l3 : Option mx_V) (v0 v1 v2 : mx_V) (S h : mx_H) (n : Int), mx_ex d 231 29 [l0, l1, l2, l3] [v0, v1, v2] S h n = mx_ex d 231 30 [l0, l1, l2, l3] [(0, 1), v0, v1, v2] S h n) ∧
  (∀ (d : Nat) (b a : Int) (l0 l1 l2 l3 : Option mx_V) (v2 v3 : mx_V) (S h : mx_H) (n : Int), mx_ex d 231 30 [l0, l1, l2, l3] [(0, b), (0, a), v2, v3] S h n = mx_ex d 231 31 [l0, l1, l2, l3] [(0, mx_w (a - b)), v2, v3] S h n) ∧
  (∀ (d : Nat) (x0 x1 x2 : Int) (l0 l1 l2 l3 : Option mx_V) (S h : mx_H) (n : Int), mx_ex (d + 1) 231 31 [l0, l1, l2, l3] [(0, x0), (0, x1), (0, x2)] S h n = mx_rt (mx_M d 159 [(0, x2), (0, x1), (0, x0)] S h n) (d + 1) 231 34 [l0, l1, l2, l3] []) ∧
  (∀ (d : Nat) (a : Int) (l0 l1 l2 l3 : Option mx_V) (S h : mx_H) (n : Int), mx_ex d 231 34 [l0, l1, l2, l3] [(0, a)] S h n = mx_br (a = 0) d 231 37 40 [l0, l1, l2, l3] [] S h n) ∧
  (∀ (d : Nat) (l0 l1 l2 l3 : Option mx_V) (S h : mx_H) (n : Int), mx_ex d 231 37 [l0, l1, l2, l3] [] S h n = mx_ex d 231 39 [l0, l1, l2, l3] [(0, (-12))] S h n) ∧
  (∀ (d : Nat) (x : Int) (l0 l1 l2 l3 : Option mx_V) (S h : mx_H) (n : Int), mx_ex d 231 39 [l0, l1, l2, l3] [(0, x)] S h n = some (some (0, x), S, h, n)) ∧
  (∀ (d : Nat) (x : Int) (l1 l2 l3 : Option mx_V) (S h : mx_H) (n : Int), mx_ex d 231 40 [some (2, x), l1, l2, l3] [] S h n = mx_ex d 231 41 [some (2, x), l1, l2, l3] [(2, x)] S h n) ∧
  (∀ (d : Nat) (a : Int) (l0 l1 l2 l3 : Option mx_V) (S h : mx_H) (n : Int), mx_ex d 231 41 [l0, l1, l2, l3] [(2, a)] S h n = mx_gd (13 ≤ S a (-2) ∧ S a (-2) ≤ 13) d 231 44 [l0, l1, l2, l3] [(2, S a 18)] S h n) ∧
  (∀ (d : Nat) (l0 l1 l2 l3 : Option mx_V) (v0 : mx_V) (S h : mx_H) (n : Int), mx_ex d 231 44 [l0, l1, l2, l3] [v0] S h n = mx_ex d 231 46 [l0, l1, l2, l3] [(0, 40), v0] S h n) ∧
  (∀ (d : Nat) (x : Int) (l0 l2 l3 : Option mx_V) (v0 v1 : mx_V) (S h : mx_H) (n : Int), mx_ex d 231 46 [l0, some (0, x), l2, l3] [v0, v1] S h n = mx_ex d 231 47 [l0, some (0, x), l2, l3] [(0, x), v0, v1] S h n) ∧
  (∀ (d : Nat) (b a : Int) (l0 l1 l2 l3 : Option mx_V) (v2 : mx_V) (S h : mx_H) (n : Int), mx_ex d 231 47 [l0, l1, l2, l3] [(0, b), (0, a), v2] S h n = mx_ex d 231 48 [l0, l1, l2, l3] [(0, mx_w (a * b)), v2] S h n) ∧
  (∀ (d : Nat) (x : Int) (l0 l1 l3 : Option mx_V) (v0 v1 : mx_V) (S h : mx_H) (n : Int), mx_ex d 231 48 [l0, l1, some (0, x), l3] [v0, v1] S h n = mx_ex d 231 49 [l0, l1, some (0, x), l3] [(0, x), v0, v1] S h n) ∧
  (∀ (d : Nat) (b a : Int) (l0 l1 l2 l3 : Option mx_V) (v2 : mx_V) (S h : mx_H) (n : Int), mx_ex d 231 49 [l0, l1, l2, l3] [(0, b), (0, a), v2] S h n = mx_ex d 231 50 [l0, l1, l2, l3] [(0, mx_w (a + b)), v2] S h n) ∧
  (∀ (d : Nat) (x : Int) (l1 l2 l3 : Option mx_V) (v0 v1 : mx_V) (S h : mx_H) (n : Int), mx_ex d 231 50 [some (2, x), l1, l2, l3] [v0, v1] S h n = mx_ex d 231 51 [some (2, x), l1, l2, l3] [(2, x), v0, v1] S h n) ∧
  (∀ (d : Nat) (a : Int) (l0 l1 l2 l3 : Option mx_V) (v1 v2 : mx_V) (S h : mx_H) (n : Int), mx_ex d 231 51 [l0, l1, l2, l3] [(2, a), v1, v2] S h n = mx_gd (13 ≤ S a (-2) ∧ S a (-2) ≤ 13) d 231 54 [l0, l1, l2, l3] [(2, S a 16), v1, v2] S h n) ∧
  (∀ (d : Nat) (x : Int) (l0 l2 l3 : Option mx_V) (v0 v1 v2 : mx_V) (S h : mx_H) (n : Int), mx_ex d 231 54 [l0, some (0, x), l2, l3] [v0, v1, v2] S h n = mx_ex d 231 55 [l0, some (0, x), l2, l3] [(0, x), v0, v1, v2] S h n) ∧
  (∀ (d : Nat) (i a : Int) (l0 l1 l2 l3 : Option mx_V) (v2 v3 : mx_V) (S h : mx_H) (n : Int), mx_ex d 231 55 [l0, l1, l2, l3] [(0, i), (2, a), v2, v3] S h n = mx_gd ((S a (-2) = 20 ∨ S a (-2) = 24) ∧ 0 ≤ i ∧ i < S a (-1)) d 231 56 [l0, l1, l2, l3] [(0, h a i), v2, v3] S h n) ∧
  (∀ (d : Nat) (x : Int) (l0 l1 l2 : Option mx_V) (v0 v1 v2 : mx_V) (S h : mx_H) (n : Int), mx_ex d 231 56 [l0, l1, l2, some (0, x)] [v0, v1, v2] S h n = mx_ex d 231 57 [l0, l1, l2, some (0, x)] [(0, x), v0, v1, v2] S h n) ∧
  (∀ (d : Nat) (x0 x1 : Int) (l0 l1 l2 l3 : Option mx_V) (v2 v3 : mx_V) (S h : mx_H) (n : Int), mx_ex (d + 1) 231 57 [l0, l1, l2, l3] [(0, x0), (0, x1), v2, v3] S h n = mx_rt (mx_M d 230 [(0, x1), (0, x0)] S h n) (d + 1) 231 60 [l0, l1, l2, l3] [v2, v3]) ∧
  (∀ (d : Nat) (v i a : Int) (l0 l1 l2 l3 : Option mx_V) (S h : mx_H) (n : Int), mx_ex d 231 60 [l0, l1, l2, l3] [(1, v), (0, i), (2, a)] S h n = mx_gd (S a (-2) = 21 ∧ 0 ≤ i ∧ i < S a (-1)) d 231 61 [l0, l1, l2, l3] [] S (mx_u h a i v) n) ∧
  (∀ (d : Nat) (l0 l1 l2 l3 : Option mx_V) (S h : mx_H) (n : Int), mx_ex d 231 61 [l0, l1, l2, l3] [] S h n = mx_ex d 231 62 [l0, l1, l2, l3] [(0, 1)] S h n) ∧
  (∀ (d : Nat) (x : Int) (l0 l1 l2 l3 : Option mx_V) (S h : mx_H) (n : Int), mx_ex d 231 62 [l0, l1, l2, l3] [(0, x)] S h n = some (some (0, x), S, h, n)) :=
  ⟨by intros; exact rfl,
   by intros; exact eq_ld rfl rfl,
   by intros; exact eq_cs rfl (Nat.le_of_ble_eq_true rfl) rfl rfl rfl (Nat.le_of_ble_eq_true rfl),
   by intros; exact eq_if1 rfl,
   by intros; exact eq_push rfl,
   by intros; exact eq_ret rfl,
   by intros; exact eq_ld rfl rfl,
   by intros; exact eq_gr rfl,
   by intros; exact eq_ld rfl rfl,
   by intros; exact eq_iald rfl,
   by intros; exact eq_if3 rfl,
   by intros; exact eq_push rfl,
   by intros; exact eq_ret rfl,
   by intros; exact eq_ld rfl rfl,
   by intros; exact eq_push rfl,
   by intros; exact eq_ld rfl rfl,
   by intros; exact eq_gr rfl,
   by intros; exact eq_ld rfl rfl,
   by intros; exact eq_iald rfl,
   by intros; exact eq_push rfl,
   by intros; exact eq_i2 (o := mx_sub) rfl,
   by intros; exact eq_cs rfl (Nat.le_of_ble_eq_true rfl) rfl rfl rfl (Nat.le_of_ble_eq_true rfl),
   by intros; exact eq_if1 rfl,
   by intros; exact eq_push rfl,
   by intros; exact eq_ret rfl,
   by intros; exact eq_ld rfl rfl,
   by intros; exact eq_gr rfl,
   by intros; exact eq_push rfl,
   by intros; exact eq_ld rfl rfl,
   by intros; exact eq_i2 (o := mx_mul) rfl,
   by intros; exact eq_ld rfl rfl,
   by intros; exact eq_i2 (o := mx_add) rfl,
   by intros; exact eq_ld rfl rfl,
   by intros; exact eq_gr rfl,
   by intros; exact eq_ld rfl rfl,
   by intros; exact eq_iald rfl,
   by intros; exact eq_ld rfl rfl,
   by intros; exact eq_cs rfl (Nat.le_of_ble_eq_true rfl) rfl rfl rfl (Nat.le_of_ble_eq_true rfl),
   by intros; exact eq_last rfl,
   by intros; exact eq_push rfl,
   by intros; exact eq_ret rfl⟩
theorem rw_X12_item :
  (∀ (d : Nat) (a0 a1 a2 a3 : Int) (S h : mx_H) (n : Int), mx_M d 232 [(2, a0), (0, a1), (0, a2), (0, a3)] S h n = mx_ex d 232 0 [some (2, a0), some (0, a1), some (0, a2), some (0, a3)] [] S h n) ∧
  (∀ (d : Nat) (x : Int) (l0 l2 l3 : Option mx_V) (S h : mx_H) (n : Int), mx_ex d 232 0 [l0, some (0, x), l2, l3] [] S h n = mx_ex d 232 1 [l0, some (0, x), l2, l3] [(0, x)] S h n) ∧
  (∀ (d : Nat) (x0 : Int) (l0 l1 l2 l3 : Option mx_V) (S h : mx_H) (n : Int), mx_ex (d + 1) 232 1 [l0, l1, l2, l3] [(0, x0)] S h n = mx_rt (mx_M d 227 [(0, x0)] S h n) (d + 1) 232 4 [l0, l1, l2, l3] []) ∧
  (∀ (d : Nat) (a : Int) (l0 l1 l2 l3 : Option mx_V) (S h : mx_H) (n : Int), mx_ex d 232 4 [l0, l1, l2, l3] [(0, a)] S h n = mx_br (a = 0) d 232 16 7 [l0, l1, l2, l3] [] S h n) ∧
  (∀ (d : Nat) (x : Int) (l0 l1 l3 : Option mx_V) (S h : mx_H) (n : Int), mx_ex d 232 7 [l0, l1, some (0, x), l3] [] S h n = mx_ex d 232 8 [l0, l1, some (0, x), l3] [(0, x)] S h n) ∧
  (∀ (d : Nat) (l0 l1 l2 l3 : Option mx_V) (v0 : mx_V) (S h : mx_H) (n : Int), mx_ex d 232 8 [l0, l1, l2, l3] [v0] S h n = mx_ex d 232 9 [l0, l1, l2, l3] [(0, 0), v0] S h n) ∧
  (∀ (d : Nat) (l0 l1 l2 l3 : Option mx_V) (v0 v1 : mx_V) (S h : mx_H) (n : Int), mx_ex d 232 9 [l0, l1, l2, l3] [v0, v1] S h n = mx_ex d 232 10 [l0, l1, l2, l3] [(0, 3), v0, v1] S h n) ∧
  (∀ (d : Nat) (x0 x1 x2 : Int) (l0 l1 l2 l3 : Option mx_V) (S h : mx_H) (n : Int), mx_ex (d + 1) 232 10 [l0, l1, l2, l3] [(0, x0), (0, x1), (0, x2)] S h n = mx_rt (mx_M d 159 [(0, x2), (0, x1), (0, x0)] S h n) (d + 1) 232 13 [l0, l1, l2, l3] []) ∧
  (∀ (d : Nat) (a : Int) (l0 l1 l2 l3 : Option mx_V) (S h : mx_H) (n : Int), mx_ex d 232 13 [l0, l1, l2, l3] [(0, a)] S h n = mx_br (a = 0) d 232 16 18 [l0, l1, l2, l3] [] S h n) ∧
  (∀ (d : Nat) (l0 l1 l2 l3 : Option mx_V) (S h : mx_H) (n : Int), mx_ex d 232 16 [l0, l1, l2, l3] [] S h n = mx_ex d 232 17 [l0, l1, l2, l3] [(0, (-1))] S h n) ∧
  (∀ (d : Nat) (x : Int) (l0 l1 l2 l3 : Option mx_V) (S h : mx_H) (n : Int), mx_ex d 232 17 [l0, l1, l2, l3] [(0, x)] S h n = some (some (0, x), S, h, n)) ∧
  (∀ (d : Nat) (x : Int) (l1 l2 l3 : Option mx_V) (S h : mx_H) (n : Int), mx_ex d 232 18 [some (2, x), l1, l2, l3] [] S h n = mx_ex d 232 19 [some (2, x), l1, l2, l3] [(2, x)] S h n) ∧
  (∀ (d : Nat) (a : Int) (l0 l1 l2 l3 : Option mx_V) (S h : mx_H) (n : Int), mx_ex d 232 19 [l0, l1, l2, l3] [(2, a)] S h n = mx_gd (13 ≤ S a (-2) ∧ S a (-2) ≤ 13) d 232 22 [l0, l1, l2, l3] [(2, S a 16)] S h n) ∧
  (∀ (d : Nat) (x : Int) (l0 l2 l3 : Option mx_V) (v0 : mx_V) (S h : mx_H) (n : Int), mx_ex d 232 22 [l0, some (0, x), l2, l3] [v0] S h n = mx_ex d 232 23 [l0, some (0, x), l2, l3] [(0, x), v0] S h n) ∧
  (∀ (d : Nat) (i a : Int) (l0 l1 l2 l3 : Option mx_V) (S h : mx_H) (n : Int), mx_ex d 232 23 [l0, l1, l2, l3] [(0, i), (2, a)] S h n = mx_gd ((S a (-2) = 20 ∨ S a (-2) = 24) ∧ 0 ≤ i ∧ i < S a (-1)) d 232 24 [l0, l1, l2, l3] [(0, h a i)] S h n) ∧
  (∀ (d : Nat) (a : Int) (l0 l1 l2 l3 : Option mx_V) (S h : mx_H) (n : Int), mx_ex d 232 24 [l0, l1, l2, l3] [(0, a)] S h n = mx_br (a < 0) d 232 27 30 [l0, l1, l2, l3] [] S h n) ∧
  (∀ (d : Nat) (l0 l1 l2 l3 : Option mx_V) (S h : mx_H) (n : Int), mx_ex d 232 27 [l0, l1, l2, l3] [] S h n = mx_ex d 232 29 [l0, l1, l2, l3] [(0, (-11))] S h n) ∧
  (∀ (d : Nat) (x : Int) (l0 l1 l2 l3 : Option mx_V) (S h : mx_H) (n : Int), mx_ex d 232 29 [l0, l1, l2, l3] [(0, x)] S h n = some (some (0, x), S, h, n)) ∧
  (∀ (d : Nat) (x : Int) (l1 l2 l3 : Option mx_V) (S h : mx_H) (n : Int), mx_ex d 232 30 [some (2, x), l1, l2, l3] [] S h n = mx_ex d 232 31 [some (2, x), l1, l2, l3] [(2, x)] S h n) ∧
  (∀ (d : Nat) (a : Int) (l0 l1 l2 l3 : Option mx_V) (S h : mx_H) (n : Int), mx_ex d 232 31 [l0, l1, l2, l3] [(2, a)] S h n = mx_gd (13 ≤ S a (-2) ∧ S a (-2) ≤ 13) d 232 34 [l0, l1, l2, l3] [(2, S a 16)] S h n) ∧
  (∀ (d : Nat) (x : Int) (l0 l2 l3 : Option mx_V) (v0 : mx_V) (S h : mx_H) (n : Int), mx_ex d 232 34 [l0, some (0, x), l2, l3] [v0] S h n = mx_ex d 232 35 [l0, some (0, x), l2, l3] [(0, x), v0] S h n) ∧
  (∀ (d : Nat) (i a : Int) (l0 l1 l2 l3 : Option mx_V) (S h : mx_H) (n : Int), mx_ex d 232 35 [l0, l1, l2, l3] [(0, i), (2, a)] S h n = mx_gd ((S a (-2) = 20 ∨ S a (-2) = 24) ∧ 0 ≤ i ∧ i < S a (-1)) d 232 36 [l0, l1, l2, l3] [(0, h a i)] S h n) ∧
  (∀ (d : Nat) (x : Int) (l0 l1 l3 : Option mx_V) (v0 : mx_V) (S h : mx_H) (n : Int), mx_ex d 232 36 [l0, l1, some (0, x), l3] [v0] S h n = mx_ex d 232 37 [l0, l1, some (0, x), l3] [(0, x), v0] S h n) ∧
  (∀ (d : Nat) (b a : Int) (l0 l1 l2 l3 : Option mx_V) (S h : mx_H) (n : Int), mx_ex d 232 37 [l0, l1, l2, l3] [(0, b), (0, a)] S h n = mx_br (a = b) d 232 43 40 [l0, l1, l2, l3] [] S h n) ∧
  (∀ (d : Nat) (l0 l1 l2 l3 : Option mx_V) (S h : mx_H) (n : Int), mx_ex d 232 40 [l0, l1, l2, l3] [] S h n = mx_ex d 232 42 [l0, l1, l2, l3] [(0, (-13))] S h n) ∧
  (∀ (d : Nat) (x : Int) (l0 l1 l2 l3 : Option mx_V) (S h : mx_H) (n : Int), mx_ex d 232 42 [l0, l1, l2, l3] [(0, x)] S h n = some (some (0, x), S, h, n)) ∧
  (∀ (d : Nat) (x : Int) (l0 l1 l2 : Option mx_V) (S h : mx_H) (n : Int), mx_ex d 232 43 [l0, l1, l2, some (0, x)] [] S h n = mx_ex d 232 44 [l0, l1, l2, some (0, x)] [(0, x)] S h n) ∧
  (∀ (d : Nat) (l0 l1 l2 l3 : Option mx_V) (v0 : mx_V) (S h : mx_H) (n : Int), mx_ex d 232 44 [l0, l1, l2, l3] [v0] S h n = mx_ex d 232 45 [l0, l1, l2, l3] [(0, 0), v0] S h n) ∧
  (∀ (d : Nat) (x : Int) (l1 l2 l3 : Option mx_V) (v0 v1 : mx_V) (S h : mx_H) (n : Int), mx_ex d 232 45 [some (2, x), l1, l2, l3] [v0, v1] S h n = mx_ex d 232 46 [some (2, x), l1, l2, l3] [(2, x), v0, v1] S h n) ∧
  (∀ (d : Nat) (a : Int) (l0 l1 l2 l3 : Option mx_V) (v1 v2 : mx_V) (S h : mx_H) (n : Int), mx_ex d 232 46 [l0, l1, l2, l3] [(2, a), v1, v2] S h n = mx_gd (13 ≤ S a (-2) ∧ S a (-2) ≤ 13) d 232 49 [l0, l1, l2, l3] [(2, S a 17), v1, v2] S h n) ∧
  (∀ (d : Nat) (x : Int) (l0 l2 l3 : Option mx_V) (v0 v1 v2 : mx_V) (S h : mx_H) (n : Int), mx_ex d 232 49 [l0, some (0, x), l2, l3] [v0, v1, v2] S h n = mx_ex d 232 50 [l0, some (0, x), l2, l3] [(0, x), v0, v1, v2] S h n) ∧
  (∀ (d : Nat) (i a : Int) (l0 l1 l2 l3 : Option mx_V) (v2 v3 : mx_V) (S h : mx_H) (n : Int), mx_ex d 232 50 [l0, l1, l2, l3] [(0, i), (2, a), v2, v3] S h n = mx_gd ((S a (-2) = 20 ∨ S a (-2) = 24) ∧ 0 ≤ i ∧ i < S a (-1)) d 232 51 [l0, l1, l2, l3] [(0, h a i), v2, v3] S h n) ∧
  (∀ (d : Nat) (l0 l1 l2 l3 : Option mx_V) (v0 v1 v2 : mx_V) (S h : mx_H) (n : Int), mx_ex d 232 51 [l0, l1, l2, l3] [v0, v1, v2] S h n = mx_ex d 232 52 [l0, l1, l2, l3] [(0, 1), v0, v1, v2] S h n) ∧
  (∀ (d : Nat) (b a : Int) (l0 l1 l2 l3 : Option mx_V) (v2 v3 : mx_V) (S h : mx_H) (n : Int), mx_ex d 232 52 [l0, l1, l2, l3] [(0, b), (0, a), v2, v3] S h n = mx_ex d 232 53 [l0, l1, l2, l3] [(0, mx_w (a - b)), v2, v3] S h n) ∧
  (∀ (d : Nat) (x0 x1 x2 : Int) (l0 l1 l2 l3 : Option mx_V) (S h : mx_H) (n : Int), mx_ex (d + 1) 232 53 [l0, l1, l2, l3] [(0, x0), (0, x1), (0, x2)] S h n = mx_rt (mx_M d 159 [(0, x2), (0, x1), (0, x0)] S h n) (d + 1) 232 56 [l0, l1, l2, l3] []) ∧
  (∀ (d : Nat) (a : Int) (l0 l1 l2 l3 : Option mx_V) (S h : mx_H) (n : Int), mx_ex d 232 56 [l0, l1, l2, l3] [(0, a)] S h n = mx_br (a = 0) d 232 74 59 [l0, l1, l2, l3] [] S h n) ∧
  (∀ (d : Nat) (x : Int) (l1 l2 l3 : Option mx_V) (S h : mx_H) (n : Int), mx_ex d 232 59 [some (2, x), l1, l2, l3] [] S h n = mx_ex d 232 60 [some (2, x), l1, l2, l3] [(2, x)] S h n) ∧
  (∀ (d : Nat) (a : Int) (l0 l1 l2 l3 : Option mx_V) (S h : mx_H) (n : Int), mx_ex d 232 60 [l0, l1, l2, l3] [(2, a)] S h n = mx_gd (13 ≤ S a (-2) ∧ S a (-2) ≤ 13) d 232 63 [l0, l1, l2, l3] [(2, S a 18)] S h n) ∧
  (∀ (d : Nat) (l0 l1 l2 l3 : Option mx_V) (v0 : mx_V) (S h : mx_H) (n : Int), mx_ex d 232 63 [l0, l1, l2, l3] [v0] S h n = mx_ex d 232 65 [l0, l1, l2, l3] [(0, 40), v0] S h n) ∧
  (∀ (d : Nat) (x : Int) (l0 l2 l3 : Option mx_V) (v0 v1 : mx_V) (S h : mx_H) (n : Int), mx_ex d 232 65 [l0, some (0, x), l2, l3] [v0, v1] S h n = mx_ex d 232 66 [l0, some (0, x), l2, l3] [(0, x), v0, v1] S h n) ∧
  (∀ (d : Nat) (b a : Int) (l0 l1 l2 l3 : Option mx_V) (v2 : mx_V) (S h : mx_H) (n : Int), mx_ex d 232 66 [l0, l1, l2, l3] [(0, b), (0, a), v2] S h n = mx_ex d 232 67 [l0, l1, l2, l3] [(0, mx_w (a * b)), v2] S h n) ∧
  (∀ (d : Nat) (x : Int) (l0 l1 l2 : Option mx_V) (v0 v1 : mx_V) (S h : mx_H) (n : Int), mx_ex d 232 67 [l0, l1, l2, some (0, x)] [v0, v1] S h n = mx_ex d 232 68 [l0, l1, l2, some (0, x)] [(0, x), v0, v1] S h n) ∧
  (∀ (d : Nat) (b a : Int) (l0 l1 l2 l3 : Option mx_V) (v2 : mx_V) (S h : mx_H) (n : Int), mx_ex d 232 68 [l0, l1, l2, l3] [(0, b), (0, a), v2] S h n = mx_ex d 232 69 [l0, l1, l2, l3] [(0, mx_w (a + b)), v2] S h n) ∧
  (∀ (d : Nat) (i a : Int) (l0 l1 l2 l3 : Option mx_V) (S h : mx_H) (n : Int), mx_ex d 232 69 [l0, l1, l2, l3] [(0, i), (2, a)] S h n = mx_gd (S a (-2) = 21 ∧ 0 ≤ i ∧ i < S a (-1)) d 232 70 [l0, l1, l2, l3] [(1, h a i)] S h n) ∧
  (∀ (d : Nat) (a : Int) (l0 l1 l2 l3 : Option mx_V) (S h : mx_H) (n : Int), mx_ex d 232 70 [l0, l1, l2, l3] [(1, a)] S h n = mx_ex d 232 71 [l0, l1, l2, l3] [(0, mx_w a)] S h n) ∧
  (∀ (d : Nat) (l0 l1 l2 l3 : Option mx_V) (v0 : mx_V) (S h : mx_H) (n : Int), mx_ex d 232 71 [l0, l1, l2, l3] [v0] S h n = mx_ex d 232 76 [l0, l1, l2, l3] [v0] S h n) ∧
  (∀ (d : Nat) (l0 l1 l2 l3 : Option mx_V) (S h : mx_H) (n : Int), mx_ex d 232 74 [l0, l1, l2, l3] [] S h n = mx_ex d 232 76 [l0, l1, l2, l3] [(0, (-12))] S h n) ∧
  (∀ (d : Nat) (x : Int) (l0 l1 l2 l3 : Option mx_V) (S h : mx_H) (n : Int), mx_ex d 232 76 [l0, l1, l2, l3] [(0, x)] S h n = some (some (0, x), S, h, n)) :=
  ⟨by intros; exact rfl,
   by intros; exact eq_ld rfl rfl,
   by intros; exact eq_cs rfl (Nat.le_of_ble_eq_true rfl) rfl rfl rfl (Nat.le_of_ble_eq_true rfl),
   by intros; exact eq_if0 rfl,
   by intros; exact eq_ld rfl rfl,
   by intros; exact eq_push rfl,
   by intros; exact eq_push rfl,
   by intros; exact eq_cs rfl (Nat.le_of_ble_eq_true rfl) rfl rfl rfl (Nat.le_of_ble_eq_true rfl),
   by intros; exact eq_if1 rfl,
   by intros; exact eq_push rfl,
   by intros; exact eq_ret rfl,
   by intros; exact eq_ld rfl rfl,
   by intros; exact eq_gr rfl,
   by intros; exact eq_ld rfl rfl,
   by intros; exact eq_iald rfl,
   by intros; exact eq_if3 rfl,
   by intros; exact eq_push rfl,
   by intros; exact eq_ret rfl,
   by intros; exact eq_ld rfl rfl,
   by intros; exact eq_gr rfl,
   by intros; exact eq_ld rfl rfl,
   by intros; exact eq_iald rfl,
   by intros; exact eq_ld rfl rfl,
   by intros; exact eq_ic0 rfl,
   by intros; exact eq_push rfl,
   by intros; exact eq_ret rfl,
   by intros; exact eq_ld rfl rfl,
   by intros; exact eq_push rfl,
   by intros; exact eq_ld rfl rfl,
   by intros; exact eq_gr rfl,
   by intros; exact eq_ld rfl rfl,
   by intros; exact eq_iald rfl,
   by intros; exact eq_push rfl,
   by intros; exact eq_i2 (o := mx_sub) rfl,
   by intros; exact eq_cs rfl (Nat.le_of_ble_eq_true rfl) rfl rfl rfl (Nat.le_of_ble_eq_true rfl),
   by intros; exact eq_if0 rfl,
   by intros; exact eq_ld rfl rfl,
   by intros; exact eq_gr rfl,
   by intros; exact eq_push rfl,
   by intros; exact eq_ld rfl rfl,
   by intros; exact eq_i2 (o := mx_mul) rfl,
   by intros; exact eq_ld rfl rfl,
   by intros; exact eq_i2 (o := mx_add) rfl,
   by intros; exact eq_lald rfl,
   by intros; exact eq_l2i rfl,
   by intros; exact eq_go rfl,
   by intros; exact eq_push rfl,
   by intros; exact eq_ret rfl⟩
theorem rw_X12_isShelf :
  (∀ (d : Nat) (a0 : Int) (S h : mx_H) (n : Int), mx_M d 233 [(0, a0)] S h n = mx_ex d 233 0 [some (0, a0)] [] S h n) ∧
  (∀ (d : Nat) (x : Int) (S h : mx_H) (n : Int), mx_ex d 233 0 [some (0, x)] [] S h n = mx_ex d 233 1 [some (0, x)] [(0, x)] S h n) ∧
  (∀ (d : Nat) (l0 : Option mx_V) (v0 : mx_V) (S h : mx_H) (n : Int), mx_ex d 233 1 [l0] [v0] S h n = mx_ex d 233 2 [l0] [(0, 0), v0] S h n) ∧
  (∀ (d : Nat) (l0 : Option mx_V) (v0 v1 : mx_V) (S h : mx_H) (n : Int), mx_ex d 233 2 [l0] [v0, v1] S h n = mx_ex d 233 3 [l0] [(0, 3), v0, v1] S h n) ∧
  (∀ (d : Nat) (x0 x1 x2 : Int) (l0 : Option mx_V) (S h : mx_H) (n : Int), mx_ex (d + 1) 233 3 [l0] [(0, x0), (0, x1), (0, x2)] S h n = mx_rt (mx_M d 159 [(0, x2), (0, x1), (0, x0)] S h n) (d + 1) 233 6 [l0] []) ∧
  (∀ (d : Nat) (x : Int) (l0 : Option mx_V) (S h : mx_H) (n : Int), mx_ex d 233 6 [l0] [(0, x)] S h n = mx_re (0 ≤ x ∧ x ≤ 1) (some (0, x)) S h n) :=
  ⟨by intros; exact rfl,
   by intros; exact eq_ld rfl rfl,
   by intros; exact eq_push rfl,
   by intros; exact eq_push rfl,
   by intros; exact eq_cs rfl (Nat.le_of_ble_eq_true rfl) rfl rfl rfl (Nat.le_of_ble_eq_true rfl),
   by intros; exact eq_rr rfl⟩
theorem rw_X12_shelf :
  (∀ (d : Nat) (a0 a1 a2 a3 : Int) (S h : mx_H) (n : Int), mx_M d 234 [(2, a0), (0, a1), (0, a2), (0, a3)] S h n = mx_ex d 234 0 [some (2, a0), some (0, a1), some (0, a2), some (0, a3), none] [] S h n) ∧
  (∀ (d : Nat) (x : Int) (l0 l2 l3 l4 : Option mx_V) (S h : mx_H) (n : Int), mx_ex d 234 0 [l0, some (0, x), l2, l3, l4] [] S h n = mx_ex d 234 1 [l0, some (0, x), l2, l3, l4] [(0, x)] S h n) ∧
  (∀ (d : Nat) (x0 : Int) (l0 l1 l2 l3 l4 : Option mx_V) (S h : mx_H) (n : Int), mx_ex (d + 1) 234 1 [l0, l1, l2, l3, l4] [(0, x0)] S h n = mx_rt (mx_M d 233 [(0, x0)] S h n) (d + 1) 234 4 [l0, l1, l2, l3, l4] []) ∧
  (∀ (d : Nat) (a : Int) (l0 l1 l2 l3 l4 : Option mx_V) (S h : mx_H) (n : Int), mx_ex d 234 4 [l0, l1, l2, l3, l4] [(0, a)] S h n = mx_br (a = 0) d 234 40 7 [l0, l1, l2, l3, l4] [] S h n) ∧
  (∀ (d : Nat) (x : Int) (l0 l1 l3 l4 : Option mx_V) (S h : mx_H) (n : Int), mx_ex d 234 7 [l0, l1, some (0, x), l3, l4] [] S h n = mx_ex d 234 8 [l0, l1, some (0, x), l3, l4] [(0, x)] S h n) ∧
  (∀ (d : Nat) (l0 l1 l2 l3 l4 : Option mx_V) (v0 : mx_V) (S h : mx_H) (n : Int), mx_ex d 234 8 [l0, l1, l2, l3, l4] [v0] S h n = mx_ex d 234 9 [l0, l1, l2, l3, l4] [(0, 0), v0] S h n) ∧
  (∀ (d : Nat) (l0 l1 l2 l3 l4 : Option mx_V) (v0 v1 : mx_V) (S h : mx_H) (n : Int), mx_ex d 234 9 [l0, l1, l2, l3, l4] [v0, v1] S h n = mx_ex d 234 10 [l0, l1, l2, l3, l4] [(0, 2), v0, v1] S h n) ∧
  (∀ (d : Nat) (x0 x1 x2 : Int) (l0 l1 l2 l3 l4 : Option mx_V) (S h : mx_H) (n : Int), mx_ex (d + 1) 234 10 [l0, l1, l2, l3, l4] [(0, x0), (0, x1), (0, x2)] S h n = mx_rt (mx_M d 159 [(0, x2), (0, x1), (0, x0)] S h n) (d + 1) 234 13 [l0, l1, l2, l3, l4] []) ∧
  (∀ (d : Nat) (a : Int) (l0 l1 l2 l3 l4 : Option mx_V) (S h : mx_H) (n : Int), mx_ex d 234 13 [l0, l1, l2, l3, l4] [(0, a)] S h n = mx_br (a = 0) d 234 40 16 [l0, l1, l2, l3, l4] [] S h n) ∧
  (∀ (d : Nat) (x : Int) (l0 l1 l3 l4 : Option mx_V) (S h : mx_H) (n : Int), mx_ex d 234 16 [l0, l1, some (0, x), l3, l4] [] S h n = mx_ex d 234 17 [l0, l1, some (0, x), l3, l4] [(0, x)] S h n) ∧
  (∀ (d : Nat) (a : Int) (l0 l1 l2 l3 l4 : Option mx_V) (S h : mx_H) (n : Int), mx_ex d 234 17 [l0, l1, l2, l3, l4] [(0, a)] S h n = mx_br (a = 0) d 234 20 28 [l0, l1, l2, l3, l4] [] S h n) ∧
  (∀ (d : Nat) (x : Int) (l1 l2 l3 l4 : Option mx_V) (S h : mx_H) (n : Int), mx_ex d 234 20 [some (2, x), l1, l2, l3, l4] [] S h n = mx_ex d 234 21 [some (2, x), l1, l2, l3, l4] [(2, x)] S h n) ∧
  (∀ (d : Nat) (x : Int) (l0 l1 l2 l4 : Option mx_V) (v0 : mx_V) (S h : mx_H) (n : Int), mx_ex d 234 21 [l0, l1, l2, some (0, x), l4] [v0] S h n = mx_ex d 234 22 [l0, l1, l2, some (0, x), l4] [(0, x), v0] S h n) ∧
  (∀ (d : Nat) (x0 a : Int) (l0 l1 l2 l3 l4 : Option mx_V) (S h : mx_H) (n : Int), mx_ex (d + 1) 234 22 [l0, l1, l2, l3, l4] [(0, x0), (2, a)] S h n = mx_cl (S a (-2) = 13) d 160 [(2, a), (0, x0)] 234 25 [l0, l1, l2, l3, l4] [] S h n) ∧
  (∀ (d : Nat) (a : Int) (l0 l1 l2 l3 l4 : Option mx_V) (S h : mx_H) (n : Int), mx_ex d 234 25 [l0, l1, l2, l3, l4] [(0, a)] S h n = mx_br (a = 0) d 234 40 28 [l0, l1, l2, l3, l4] [] S h n) ∧
  (∀ (d : Nat) (x : Int) (l0 l1 l3 l4 : Option mx_V) (S h : mx_H) (n : Int), mx_ex d 234 28 [l0, l1, some (0, x), l3, l4] [] S h n = mx_ex d 234 29 [l0, l1, some (0, x), l3, l4] [(0, x)] S h n) ∧
  (∀ (d : Nat) (l0 l1 l2 l3 l4 : Option mx_V) (v0 : mx_V) (S h : mx_H) (n : Int), mx_ex d 234 29 [l0, l1, l2, l3, l4] [v0] S h n = mx_ex d 234 30 [l0, l1, l2, l3, l4] [(0, 1), v0] S h n) ∧
  (∀ (d : Nat) (b a : Int) (l0 l1 l2 l3 l4 : Option mx_V) (S h : mx_H) (n : Int), mx_ex d 234 30 [l0, l1, l2, l3, l4] [(0, b), (0, a)] S h n = mx_br (a = b) d 234 33 42 [l0, l1, l2, l3, l4] [] S h n) ∧
  (∀ (d : Nat) (x : Int) (l0 l1 l2 l4 : Option mx_V) (S h : mx_H) (n : Int), mx_ex d 234 33 [l0, l1, l2, some (0, x), l4] [] S h n = mx_ex d 234 34 [l0, l1, l2, some (0, x), l4] [(0, x)] S h n) ∧
  (∀ (d : Nat) (x0 : Int) (l0 l1 l2 l3 l4 : Option mx_V) (S h : mx_H) (n : Int), mx_ex (d + 1) 234 34 [l0, l1, l2, l3, l4] [(0, x0)] S h n = mx_rt (mx_M d 227 [(0, x0)] S h n) (d + 1) 234 37 [l0, l1, l2, l3, l4] []) ∧
  (∀ (d : Nat) (a : Int) (l0 l1 l2 l3 l4 : Option mx_V) (S h : mx_H) (n : Int), mx_ex d 234 37 [l0, l1, l2, l3, l4] [(0, a)] S h n = mx_br (a = 0) d 234 40 42 [l0, l1, l2, l3, l4] [] S h n) ∧
  (∀ (d : Nat) (l0 l1 l2 l3 l4 : Option mx_V) (S h : mx_H) (n : Int), mx_ex d 234 40 [l0, l1, l2, l3, l4] [] S h n = mx_ex d 234 41 [l0, l1, l2, l3, l4] [(0, (-1))] S h n) ∧
  (∀ (d : Nat) (x : Int) (l0 l1 l2 l3 l4 : Option mx_V) (S h : mx_H) (n : Int), mx_ex d 234 41 [l0, l1, l2, l3, l4] [(0, x)] S h n = some (some (0, x), S, h, n)) ∧
  (∀ (d : Nat) (x : Int) (l0 l1 l3 l4 : Option mx_V) (S h : mx_H) (n : Int), mx_ex d 234 42 [l0, l1, some (0, x), l3, l4] [] S h n = mx_ex d 234 43 [l0, l1, some (0, x), l3, l4] [(0, x)] S h n) ∧
  (∀ (d : Nat) (l0 l1 l2 l3 l4 : Option mx_V) (v0 : mx_V) (S h : mx_H) (n : Int), mx_ex d 234 43 [l0, l1, l2, l3, l4] [v0] S h n = mx_ex d 234 44 [l0, l1, l2, l3, l4] [(0, 1), v0] S h n) ∧
  (∀ (d : Nat) (b a : Int) (l0 l1 l2 l3 l4 : Option mx_V) (S h : mx_H) (n : Int), mx_ex d 234 44 [l0, l1, l2, l3, l4] [(0, b), (0, a)] S h n = mx_br (a = b) d 234 47 60 [l0, l1, l2, l3, l4] [] S h n) ∧
  (∀ (d : Nat) (x : Int) (l1 l2 l3 l4 : Option mx_V) (S h : mx_H) (n : Int), mx_ex d 234 47 [some (2, x), l1, l2, l3, l4] [] S h n = mx_ex d 234 48 [some (2, x), l1, l2, l3, l4] [(2, x)] S h n) ∧
  (∀ (d : Nat) (a : Int) (l0 l1 l2 l3 l4 : Option mx_V) (S h : mx_H) (n : Int), mx_ex d 234 48 [l0, l1, l2, l3, l4] [(2, a)] S h n = mx_gd (13 ≤ S a (-2) ∧ S a (-2) ≤ 13) d 234 51 [l0, l1, l2, l3, l4] [(2, S a 16)] S h n) ∧
  (∀ (d : Nat) (x : Int) (l0 l1 l2 l4 : Option mx_V) (v0 : mx_V) (S h : mx_H) (n : Int), mx_ex d 234 51 [l0, l1, l2, some (0, x), l4] [v0] S h n = mx_ex d 234 52 [l0, l1, l2, some (0, x), l4] [(0, x), v0] S h n) ∧
  (∀ (d : Nat) (i a : Int) (l0 l1 l2 l3 l4 : Option mx_V) (S h : mx_H) (n : Int), mx_ex d 234 52 [l0, l1, l2, l3, l4] [(0, i), (2, a)] S h n = mx_gd ((S a (-2) = 20 ∨ S a (-2) = 24) ∧ 0 ≤ i ∧ i < S a (-1)) d 234 53 [l0, l1, l2, l3, l4] [(0, h a i)] S h n) ∧
  (∀ (d : Nat) (a : Int) (l0 l1 l2 l3 l4 : Option mx_V) (S h : mx_H) (n : Int), mx_ex d 234 53 [l0, l1, l2, l3, l4] [(0, a)] S h n = mx_br (a < 0) d 234 60 56 [l0, l1, l2, l3, l4] [] S h n) ∧
  (∀ (d : Nat) (l0 l1 l2 l3 l4 : Option mx_V) (S h : mx_H) (n : Int), mx_ex d 234 56 [l0, l1, l2, l3, l4] [] S h n = mx_ex d 234 57 [l0, l1, l2, l3, l4] [(0, 1)] S h n) ∧
  (∀ (d : Nat) (l0 l1 l2 l3 l4 : Option mx_V) (v0 : mx_V) (S h : mx_H) (n : Int), mx_ex d 234 57 [l0, l1, l2, l3, l4] [v0] S h n = mx_ex d 234 61 [l0, l1, l2, l3, l4] [v0] S h n) ∧
  (∀ (d : Nat) (l0 l1 l2 l3 l4 : Option mx_V) (S h : mx_H) (n : Int), mx_ex d 234 60 [l0, l1, l2, l3, l4] [] S h n = mx_ex d 234 61 [l0, l1, l2, l3, l4] [(0, 0)] S h n) ∧
  (∀ (d : Nat) (x : Int) (l0 l1 l2 l3 l4 : Option mx_V) (S h : mx_H) (n : Int), mx_ex d 234 61 [l0, l1, l2, l3, l4] [(0, x)] S h n = mx_ex d 234 63 [l0, l1, l2, mx_nl l3, some (0, x)] [] S h n) ∧
  (∀ (d : Nat) (x : Int) (l1 l2 l3 l4 : Option mx_V) (S h : mx_H) (n : Int), mx_ex d 234 63 [some (2, x), l1, l2, l3, l4] [] S h n = mx_ex d 234 64 [some (2, x), l1, l2, l3, l4] [(2, x)] S h n) ∧
  (∀ (d : Nat) (a : Int) (l0 l1 l2 l3 l4 : Option mx_V) (S h : mx_H) (n : Int), mx_ex d 234 64 [l0, l1, l2, l3, l4] [(2, a)] S h n = mx_gd (13 ≤ S a (-2) ∧ S a (-2) ≤ 13) d 234 67 [l0, l1, l2, l3, l4] [(2, S a 19)] S h n) ∧
  (∀ (d : Nat) (x : Int) (l0 l2 l3 l4 : Option mx_V) (v0 : mx_V) (S h : mx_H) (n : Int), mx_ex d 234 67 [l0, some (0, x), l2, l3, l4] [v0] S h n = mx_ex d 234 68 [l0, some (0, x), l2, l3, l4] [(0, x), v0] S h n) ∧
  (∀ (d : Nat) (x : Int) (l0 l1 l3 l4 : Option mx_V) (v0 v1 : mx_V) (S h : mx_H) (n : Int), mx_ex d 234 68 [l0, l1, some (0, x), l3, l4] [v0, v1] S h n = mx_ex d 234 69 [l0, l1, some (0, x), l3, l4] [(0, x), v0, v1] S h n) ∧
  (∀ (d : Nat) (a : Int) (l0 l1 l2 l3 l4 : Option mx_V) (v1 v2 : mx_V) (S h : mx_H) (n : Int), mx_ex d 234 69 [l0, l1, l2, l3, l4] [(0, a), v1, v2] S h n = mx_br (a = 0) d 234 72 76 [l0, l1, l2, l3, l4] [v1, v2] S h n) ∧
  (∀ (d : Nat) (l0 l1 l2 l3 l4 : Option mx_V) (v0 v1 : mx_V) (S h : mx_H) (n : Int), mx_ex d 234 72 [l0, l1, l2, l3, l4] [v0, v1] S h n = mx_ex d 234 73 [l0, l1, l2, l3, l4] [(0, 1), v0, v1] S h n) ∧
  (∀ (d : Nat) (l0 l1 l2 l3 l4 : Option mx_V) (v0 v1 v2 : mx_V) (S h : mx_H) (n : Int), mx_ex d 234 73 [l0, l1, l2, l3, l4] [v0, v1, v2] S h n = mx_ex d 234 94 [l0, l1, l2, l3, l4] [v0, v1, v2] S h n) ∧
  (∀ (d : Nat) (x : Int) (l0 l1 l2 l3 : Option mx_V) (v0 v1 : mx_V) (S h : mx_H) (n : Int), mx_ex d 234 76 [l0, l1, l2, l3, some (0, x)] [v0, v1] S h n = mx_ex d 234 78 [l0, l1, l2, l3, some (0, x)] [(0, x), v0, v1] S h n) ∧
  (∀ (d : Nat) (a : Int) (l0 l1 l2 l3 l4 : Option mx_V) (v1 v2 : mx_V) (S h : mx_H) (n : Int), mx_ex d 234 78 [l0, l1, l2, l3, l4] [(0, a), v1, v2] S h n = mx_br (a = 0) d 234 93 81 [l0, l1, l2, l3, l4] [v1, v2] S h n) ∧
  (∀ (d : Nat) (l0 l1 l2 l3 l4 : Option mx_V) (v0 v1 : mx_V) (S h : mx_H) (n : Int), mx_ex d 234 81 [l0, l1, l2, l3, l4] [v0, v1] S h n = mx_ex d 234 83 [l0, l1, l2, l3, l4] [(0, 10), v0, v1] S h n) ∧
  (∀ (d : Nat) (x : Int) (l1 l2 l3 l4 : Option mx_V) (v0 v1 v2 : mx_V) (S h : mx_H) (n : Int), mx_ex d 234 83 [some (2, x), l1, l2, l3, l4] [v0, v1, v2] S h n = mx_ex d 234 84 [some (2, x), l1, l2, l3, l4] [(2, x), v0, v1, v2] S h n) ∧
  (∀ (d : Nat) (a : Int) (l0 l1 l2 l3 l4 : Option mx_V) (v1 v2 v3 : mx_V) (S h : mx_H) (n : Int), mx_ex d 234 84 [l0, l1, l2, l3, l4] [(2, a), v1, v2, v3] S h n = mx_gd (13 ≤ S a (-2) ∧ S a (-2) ≤ 13) d 234 87 [l0, l1, l2, l3, l4] [(2, S a 16), v1, v2, v3] S h n) ∧
  (∀ (d : Nat) (x : Int) (l0 l1 l2 l4 : Option mx_V) (v0 v1 v2 v3 : mx_V) (S h : mx_H) (n : Int), mx_ex d 234 87 [l0, l1, l2, some (0, x), l4] [v0, v1, v2, v3] S h n = mx_ex d 234 88 [l0, l1, l2, some (0, x), l4] [(0, x), v0, v1, v2, v3] S h n) ∧
  (∀ (d : Nat) (i a : Int) (l0 l1 l2 l3 l4 : Option mx_V) (v2 v3 v4 : mx_V) (S h : mx_H) (n : Int), mx_ex d 234 88 [l0, l1, l2, l3, l4] [(0, i), (2, a), v2, v3, v4] S h n = mx_gd ((S a (-2) = 20 ∨ S a (-2) = 24) ∧ 0 ≤ i ∧ i < S a (-1)) d 234 89 [l0, l1, l2, l3, l4] [(0, h a i), v2, v3, v4] S h n) ∧
  (∀ (d : Nat) (b a : Int) (l0 l1 l2 l3 l4 : Option mx_V) (v2 v3 : mx_V) (S h : mx_H) (n : Int), mx_ex d 234 89 [l0, l1, l2, l3, l4] [(0, b), (0, a), v2, v3] S h n = mx_ex d 234 90 [l0, l1, l2, l3, l4] [(0, mx_w (a + b)), v2, v3] S h n) ∧
  (∀ (d : Nat) (l0 l1 l2 l3 l4 : Option mx_V) (v0 v1 v2 : mx_V) (S h : mx_H) (n : Int), mx_ex d 234 90 [l0, l1, l2, l3, l4] [v0, v1, v2] S h n = mx_ex d 234 94 [l0, l1, l2, l3, l4] [v0, v1, v2] S h n) ∧
  (∀ (d : Nat) (l0 l1 l2 l3 l4 : Option mx_V) (v0 v1 : mx_V) (S h : mx_H) (n : Int), mx_ex d 234 93 [l0, l1, l2, l3, l4] [v0, v1] S h n = mx_ex d 234 94 [l0, l1, l2, l3, l4] [(0, 0), v0, v1] S h n) ∧
  (∀ (d : Nat) (v i a : Int) (l0 l1 l2 l3 l4 : Option mx_V) (S h : mx_H) (n : Int), mx_ex d 234 94 [l0, l1, l2, l3, l4] [(0, v), (0, i), (2, a)] S h n = mx_gd (S a (-2) = 20 ∧ 0 ≤ i ∧ i < S a (-1)) d 234 95 [l0, l1, l2, l3, l4] [] S (mx_u h a i v) n) ∧
  (∀ (d : Nat) (x : Int) (l1 l2 l3 l4 : Option mx_V) (S h : mx_H) (n : Int), mx_ex d 234 95 [some (2, x), l1, l2, l3, l4] [] S h n = mx_ex d 234 96 [some (2, x), l1, l2, l3, l4] [(2, x)] S h n) ∧
  (∀ (d : Nat) (a : Int) (l0 l1 l2 l3 l4 : Option mx_V) (S h : mx_H) (n : Int), mx_ex d 234 96 [l0, l1, l2, l3, l4] [(2, a)] S h n = mx_gd (13 ≤ S a (-2) ∧ S a (-2) ≤ 13) d 234 99 [l0, l1, l2, l3, l4] [(2, S a 20)] S h n) ∧
  (∀ (d : Nat) (x : Int) (l0 l2 l3 l4 : Option mx_V) (v0 : mx_V) (S h : mx_H) (n : Int), mx_ex d 234 99 [l0, some (0, x), l2, l3, l4] [v0] S h n = mx_ex d 234 100 [l0, some (0, x), l2, l3, l4] [(0, x), v0] S h n) ∧
  (∀ (d : Nat) (x : Int) (l0 l1 l3 l4 : Option mx_V) (v0 v1 : mx_V) (S h : mx_H) (n : Int), mx_ex d 234 100 [l0, l1, some (0, x), l3, l4] [v0, v1] S h n = mx_ex d 234 101 [l0, l1, some (0, x), l3, l4] [(0, x), v0, v1] S h n) ∧
  (∀ (d : Nat) (a : Int) (l0 l1 l2 l3 l4 : Option mx_V) (v1 v2 : mx_V) (S h : mx_H) (n : Int), mx_ex d 234 101 [l0, l1, l2, l3, l4] [(0, a), v1, v2] S h n = mx_br (a = 0) d 234 104 108 [l0, l1, l2, l3, l4] [v1, v2] S h n) ∧
  (∀ (d : Nat) (x : Int) (l0 l1 l2 l4 : Option mx_V) (v0 v1 : mx_V) (S h : mx_H) (n : Int), mx_ex d 234 104 [l0, l1, l2, some (0, x), l4] [v0, v1] S h n = mx_ex d 234 105 [l0, l1, l2, some (0, x), l4] [(0, x), v0, v1] S h n) ∧
  (∀ (d : Nat) (l0 l1 l2 l3 l4 : Option mx_V) (v0 v1 v2 : mx_V) (S h : mx_H) (n : Int), mx_ex d 234 105 [l0, l1, l2, l3, l4] [v0, v1, v2] S h n = mx_ex d 234 123 [l0, l1, l2, l3, l4] [v0, v1, v2] S h n) ∧
  (∀ (d : Nat) (x : Int) (l0 l1 l2 l3 : Option mx_V) (v0 v1 : mx_V) (S h : mx_H) (n : Int), mx_ex d 234 108 [l0, l1, l2, l3, some (0, x)] [v0, v1] S h n = mx_ex d 234 110 [l0, l1, l2, l3, some (0, x)] [(0, x), v0, v1] S h n) ∧
  (∀ (d : Nat) (a : Int) (l0 l1 l2 l3 l4 : Option mx_V) (v1 v2 : mx_V) (S h : mx_H) (n : Int), mx_ex d 234 110 [l0, l1, l2, l3, l4] [(0, a), v1, v2] S h n = mx_br (a = 0) d 234 122 113 [l0, l1, l2, l3, l4] [v1, v2] S h n) ∧
  (∀ (d : Nat) (x : Int) (l1 l2 l3 l4 : Option mx_V) (v0 v1 : mx_V) (S h : mx_H) (n : Int), mx_ex d 234 113 [some (2, x), l1, l2, l3, l4] [v0, v1] S h n = mx_ex d 234 114 [some (2, x), l1, l2, l3, l4] [(2, x), v0, v1] S h n) ∧
  (∀ (d : Nat) (a : Int) (l0 l1 l2 l3 l4 : Option mx_V) (v1 v2 : mx_V) (S h : mx_H) (n : Int), mx_ex d 234 114 [l0, l1, l2, l3, l4] [(2, a), v1, v2] S h n = mx_gd (13 ≤ S a (-2) ∧ S a (-2) ≤ 13) d 234 117 [l0, l1, l2, l3, l4] [(2, S a 17), v1, v2] S h n) ∧
  (∀ (d : Nat) (x : Int) (l0 l1 l2 l4 : Option mx_V) (v0 v1 v2 : mx_V) (S h : mx_H) (n : Int), mx_ex d 234 117 [l0, l1, l2, some (0, x), l4] [v0, v1, v2] S h n = mx_ex d 234 118 [l0, l1, l2, some (0, x), l4] [(0, x), v0, v1, v2] S h n) ∧
  (∀ (d : Nat) (i a : Int) (l0 l1 l2 l3 l4 : Option mx_V) (v2 v3 : mx_V) (S h : mx_H) (n : Int), mx_ex d 234 118 [l0, l1, l2, l3, l4] [(0, i), (2, a), v2, v3] S h n = mx_gd ((S a (-2) = 20 ∨ S a (-2) = 24) ∧ 0 ≤ i ∧ i < S a (-1)) d 234 119 [l0, l1, l2, l3, l4] [(0, h a i), v2, v3] S h n) ∧
  (∀ (d : Nat) (l0 l1 l2 l3 l4 : Option mx_V) (v0 v1 v2 : mx_V) (S h : mx_H) (n : Int), mx_ex d 234 119 [l0, l1, l2, l3, l4] [v0, v1, v2] S h n = mx_ex d 234 123 [l0, l1, l2, l3, l4] [v0, v1, v2] S h n) ∧
  (∀ (d : Nat) (l0 l1 l2 l3 l4 : Option mx_V) (v0 v1 : mx_V) (S h : mx_H) (n : Int), mx_ex d 234 122 [l0, l1, l2, l3, l4] [v0, v1] S h n = mx_ex d 234 123 [l0, l1, l2, l3, l4] [(0, 0), v0, v1] S h n) ∧
  (∀ (d : Nat) (v i a : Int) (l0 l1 l2 l3 l4 : Option mx_V) (S h : mx_H) (n : Int), mx_ex d 234 123 [l0, l1, l2, l3, l4] [(0, v), (0, i), (2, a)] S h n = mx_gd (S a (-2) = 20 ∧ 0 ≤ i ∧ i < S a (-1)) d 234 124 [l0, l1, l2, l3, l4] [] S (mx_u h a i v) n) ∧
  (∀ (d : Nat) (l0 l1 l2 l3 l4 : Option mx_V) (S h : mx_H) (n : Int), mx_ex d 234 124 [l0, l1, l2, l3, l4] [] S h n = mx_ex d 234 125 [l0, l1, l2, l3, l4] [(0, 1)] S h n) :=
  ⟨by intros; exact rfl,
   by intros; exact eq_ld rfl rfl,
   by intros; exact eq_cs rfl (Nat.le_of_ble_eq_true rfl) rfl rfl rfl (Nat.le_of_ble_eq_true rfl),
   by intros; exact eq_if0 rfl,
   by intros; exact eq_ld rfl rfl,
   by intros; exact eq_push rfl,
   by intros; exact eq_push rfl,
   by intros; exact eq_cs rfl (Nat.le_of_ble_eq_true rfl) rfl rfl rfl (Nat.le_of_ble_eq_true rfl),
   by intros; exact eq_if0 rfl,
   by intros; exact eq_ld rfl rfl,
   by intros; exact eq_if1 rfl,
   by intros; exact eq_ld rfl rfl,
   by intros; exact eq_ld rfl rfl,
   by intros; exact eq_cv rfl (Nat.le_of_ble_eq_true rfl) rfl rfl rfl (Nat.le_of_ble_eq_true rfl),
   by intros; exact eq_if0 rfl,
   by intros; exact eq_ld rfl rfl,
   by intros; exact eq_push rfl,
   by intros; exact eq_ic1 rfl,
   by intros; exact eq_ld rfl rfl,
   by intros; exact eq_cs rfl (Nat.le_of_ble_eq_true rfl) rfl rfl rfl (Nat.le_of_ble_eq_true rfl),
   by intros; exact eq_if1 rfl,
   by intros; exact eq_push rfl,
   by intros; exact eq_ret rfl,
   by intros; exact eq_ld rfl rfl,
   by intros; exact eq_push rfl,
   by intros; exact eq_ic1 rfl,
   by intros; exact eq_ld rfl rfl,
   by intros; exact eq_gr rfl,
   by intros; exact eq_ld rfl rfl,
   by intros; exact eq_iald rfl,
   by intros; exact eq_if2 rfl,
   by intros; exact eq_push rfl,
   by intros; exact eq_go rfl,
   by intros; exact eq_push rfl,
   by intros; exact eq_st rfl (by decide) (Nat.le_of_ble_eq_true rfl) rfl,
   by intros; exact eq_ld rfl rfl,
   by intros; exact eq_gr rfl,
   by intros; exact eq_ld rfl rfl,
   by intros; exact eq_ld rfl rfl,
   by intros; exact eq_if1 rfl,
   by intros; exact eq_push rfl,
   by intros; exact eq_go rfl,
   by intros; exact eq_ld rfl rfl,
   by intros; exact eq_if0 rfl,
   by intros; exact eq_push rfl,
   by intros; exact eq_ld rfl rfl,
   by intros; exact eq_gr rfl,
   by intros; exact eq_ld rfl rfl,
   by intros; exact eq_iald rfl,
   by intros; exact eq_i2 (o := mx_add) rfl,
   by intros; exact eq_go rfl,
   by intros; exact eq_push rfl,
   by intros; exact eq_iast rfl,
   by intros; exact eq_ld rfl rfl,
   by intros; exact eq_gr rfl,
   by intros; exact eq_ld rfl rfl,
   by intros; exact eq_ld rfl rfl,
   by intros; exact eq_if1 rfl,
   by intros; exact eq_ld rfl rfl,
   by intros; exact eq_go rfl,
   by intros; exact eq_ld rfl rfl,
   by intros; exact eq_if0 rfl,
   by intros; exact eq_ld rfl rfl,
   by intros; exact eq_gr rfl,
   by intros; exact eq_ld rfl rfl,
   by intros; exact eq_iald rfl,
   by intros; exact eq_go rfl,
   by intros; exact eq_push rfl,
   by intros; exact eq_iast rfl,
   by intros; exact eq_push rfl⟩
theorem rw_X12_shelf_1 :
  (∀ (d : Nat) (x : Int) (l0 l1 l2 l3 l4 : Option mx_V) (S h : mx_H) (n : Int), mx_ex d 234 125 [l0, l1, l2, l3, l4] [(0, x)] S h n = some (some (0, x), S, h, n)) :=
  by intros; exact eq_ret rfl
theorem rw_X12_isEmpty :
  (∀ (d : Nat) (a0 a1 : Int) (S h : mx_H) (n : Int), mx_M d 235 [(2, a0), (0, a1)] S h n = mx_ex d 235 0 [some (2, a0), some (0, a1)] [] S h n) ∧
  (∀ (d : Nat) (x : Int) (l1 : Option mx_V) (S h : mx_H) (n : Int), mx_ex d 235 0 [some (2, x), l1] [] S h n = mx_ex d 235 1 [some (2, x), l1] [(2, x)] S h n) ∧
  (∀ (d : Nat) (a : Int) (l0 l1 : Option mx_V) (S h : mx_H) (n : Int), mx_ex d 235 1 [l0, l1] [(2, a)] S h n = mx_gd (13 ≤ S a (-2) ∧ S a (-2) ≤ 13) d 235 4 [l0, l1] [(2, S a 19)] S h n) ∧
  (∀ (d : Nat) (x : Int) (l0 : Option mx_V) (v0 : mx_V) (S h : mx_H) (n : Int), mx_ex d 235 4 [l0, some (0, x)] [v0] S h n = mx_ex d 235 5 [l0, some (0, x)] [(0, x), v0] S h n) ∧
  (∀ (d : Nat) (i a : Int) (l0 l1 : Option mx_V) (S h : mx_H) (n : Int), mx_ex d 235 5 [l0, l1] [(0, i), (2, a)] S h n = mx_gd ((S a (-2) = 20 ∨ S a (-2) = 24) ∧ 0 ≤ i ∧ i < S a (-1)) d 235 6 [l0, l1] [(0, h a i)] S h n) ∧
  (∀ (d : Nat) (a : Int) (l0 l1 : Option mx_V) (S h : mx_H) (n : Int), mx_ex d 235 6 [l0, l1] [(0, a)] S h n = mx_br (a = 0) d 235 32 9 [l0, l1] [] S h n) ∧
  (∀ (d : Nat) (x : Int) (l1 : Option mx_V) (S h : mx_H) (n : Int), mx_ex d 235 9 [some (2, x), l1] [] S h n = mx_ex d 235 10 [some (2, x), l1] [(2, x)] S h n) ∧
  (∀ (d : Nat) (a : Int) (l0 l1 : Option mx_V) (S h : mx_H) (n : Int), mx_ex d 235 10 [l0, l1] [(2, a)] S h n = mx_gd (13 ≤ S a (-2) ∧ S a (-2) ≤ 13) d 235 13 [l0, l1] [(2, S a 19)] S h n) ∧
  (∀ (d : Nat) (x : Int) (l0 : Option mx_V) (v0 : mx_V) (S h : mx_H) (n : Int), mx_ex d 235 13 [l0, some (0, x)] [v0] S h n = mx_ex d 235 14 [l0, some (0, x)] [(0, x), v0] S h n) ∧
  (∀ (d : Nat) (i a : Int) (l0 l1 : Option mx_V) (S h : mx_H) (n : Int), mx_ex d 235 14 [l0, l1] [(0, i), (2, a)] S h n = mx_gd ((S a (-2) = 20 ∨ S a (-2) = 24) ∧ 0 ≤ i ∧ i < S a (-1)) d 235 15 [l0, l1] [(0, h a i)] S h n) ∧
  (∀ (d : Nat) (l0 l1 : Option mx_V) (v0 : mx_V) (S h : mx_H) (n : Int), mx_ex d 235 15 [l0, l1] [v0] S h n = mx_ex d 235 16 [l0, l1] [(0, 1), v0] S h n) ∧
  (∀ (d : Nat) (b a : Int) (l0 l1 : Option mx_V) (S h : mx_H) (n : Int), mx_ex d 235 16 [l0, l1] [(0, b), (0, a)] S h n = mx_br (a = b) d 235 19 36 [l0, l1] [] S h n) ∧
  (∀ (d : Nat) (x : Int) (l1 : Option mx_V) (S h : mx_H) (n : Int), mx_ex d 235 19 [some (2, x), l1] [] S h n = mx_ex d 235 20 [some (2, x), l1] [(2, x)] S h n) ∧
  (∀ (d : Nat) (x : Int) (l1 : Option mx_V) (v0 : mx_V) (S h : mx_H) (n : Int), mx_ex d 235 20 [some (2, x), l1] [v0] S h n = mx_ex d 235 21 [some (2, x), l1] [(2, x), v0] S h n) ∧
  (∀ (d : Nat) (a : Int) (l0 l1 : Option mx_V) (v1 : mx_V) (S h : mx_H) (n : Int), mx_ex d 235 21 [l0, l1] [(2, a), v1] S h n = mx_gd (13 ≤ S a (-2) ∧ S a (-2) ≤ 13) d 235 24 [l0, l1] [(2, S a 20), v1] S h n) ∧
  (∀ (d : Nat) (x : Int) (l0 : Option mx_V) (v0 v1 : mx_V) (S h : mx_H) (n : Int), mx_ex d 235 24 [l0, some (0, x)] [v0, v1] S h n = mx_ex d 235 25 [l0, some (0, x)] [(0, x), v0, v1] S h n) ∧
  (∀ (d : Nat) (i a : Int) (l0 l1 : Option mx_V) (v2 : mx_V) (S h : mx_H) (n : Int), mx_ex d 235 25 [l0, l1] [(0, i), (2, a), v2] S h n = mx_gd ((S a (-2) = 20 ∨ S a (-2) = 24) ∧ 0 ≤ i ∧ i < S a (-1)) d 235 26 [l0, l1] [(0, h a i), v2] S h n) ∧
  (∀ (d : Nat) (x0 a : Int) (l0 l1 : Option mx_V) (S h : mx_H) (n : Int), mx_ex (d + 1) 235 26 [l0, l1] [(0, x0), (2, a)] S h n = mx_cl (S a (-2) = 13) d 160 [(2, a), (0, x0)] 235 29 [l0, l1] [] S h n) ∧
  (∀ (d : Nat) (a : Int) (l0 l1 : Option mx_V) (S h : mx_H) (n : Int), mx_ex d 235 29 [l0, l1] [(0, a)] S h n = mx_br (a = 0) d 235 32 36 [l0, l1] [] S h n) ∧
  (∀ (d : Nat) (l0 l1 : Option mx_V) (S h : mx_H) (n : Int), mx_ex d 235 32 [l0, l1] [] S h n = mx_ex d 235 33 [l0, l1] [(0, 1)] S h n) ∧
  (∀ (d : Nat) (l0 l1 : Option mx_V) (v0 : mx_V) (S h : mx_H) (n : Int), mx_ex d 235 33 [l0, l1] [v0] S h n = mx_ex d 235 37 [l0, l1] [v0] S h n) ∧
  (∀ (d : Nat) (l0 l1 : Option mx_V) (S h : mx_H) (n : Int), mx_ex d 235 36 [l0, l1] [] S h n = mx_ex d 235 37 [l0, l1] [(0, 0)] S h n) ∧
  (∀ (d : Nat) (x : Int) (l0 l1 : Option mx_V) (S h : mx_H) (n : Int), mx_ex d 235 37 [l0, l1] [(0, x)] S h n = mx_re (0 ≤ x ∧ x ≤ 1) (some (0, x)) S h n) :=
  ⟨by intros; exact rfl,
   by intros; exact eq_ld rfl rfl,
   by intros; exact eq_gr rfl,
   by intros; exact eq_ld rfl rfl,
   by intros; exact eq_iald rfl,
   by intros; exact eq_if0 rfl,
   by intros; exact eq_ld rfl rfl,
   by intros; exact eq_gr rfl,
   by intros; exact eq_ld rfl rfl,
   by intros; exact eq_iald rfl,
   by intros; exact eq_push rfl,
   by intros; exact eq_ic1 rfl,
   by intros; exact eq_ld rfl rfl,
   by intros; exact eq_ld rfl rfl,
   by intros; exact eq_gr rfl,
   by intros; exact eq_ld rfl rfl,
   by intros; exact eq_iald rfl,
   by intros; exact eq_cv rfl (Nat.le_of_ble_eq_true rfl) rfl rfl rfl (Nat.le_of_ble_eq_true rfl),
   by intros; exact eq_if1 rfl,
   by intros; exact eq_push rfl,
   by intros; exact eq_go rfl,
   by intros; exact eq_push rfl,
   by intros; exact eq_rr rfl⟩
theorem rw_X12_isUnder :
  (∀ (d : Nat) (a0 a1 : Int) (S h : mx_H) (n : Int), mx_M d 236 [(0, a0), (0, a1)] S h n = mx_ex d 236 0 [some (0, a0), some (0, a1)] [] S h n) ∧
  (∀ (d : Nat) (x : Int) (l0 : Option mx_V) (S h : mx_H) (n : Int), mx_ex d 236 0 [l0, some (0, x)] [] S h n = mx_ex d 236 1 [l0, some (0, x)] [(0, x)] S h n) ∧
  (∀ (d : Nat) (a : Int) (l0 l1 : Option mx_V) (S h : mx_H) (n : Int), mx_ex d 236 1 [l0, l1] [(0, a)] S h n = mx_br (a = 0) d 236 29 4 [l0, l1] [] S h n) ∧
  (∀ (d : Nat) (x : Int) (l1 : Option mx_V) (S h : mx_H) (n : Int), mx_ex d 236 4 [some (0, x), l1] [] S h n = mx_ex d 236 5 [some (0, x), l1] [(0, x)] S h n) ∧
  (∀ (d : Nat) (x : Int) (l0 : Option mx_V) (v0 : mx_V) (S h : mx_H) (n : Int), mx_ex d 236 5 [l0, some (0, x)] [v0] S h n = mx_ex d 236 6 [l0, some (0, x)] [(0, x), v0] S h n) ∧
  (∀ (d : Nat) (b a : Int) (l0 l1 : Option mx_V) (S h : mx_H) (n : Int), mx_ex d 236 6 [l0, l1] [(0, b), (0, a)] S h n = mx_br (a = b) d 236 29 9 [l0, l1] [] S h n) ∧
  (∀ (d : Nat) (x : Int) (l0 : Option mx_V) (S h : mx_H) (n : Int), mx_ex d 236 9 [l0, some (0, x)] [] S h n = mx_ex d 236 10 [l0, some (0, x)] [(0, x)] S h n) ∧
  (∀ (d : Nat) (l0 l1 : Option mx_V) (v0 : mx_V) (S h : mx_H) (n : Int), mx_ex d 236 10 [l0, l1] [v0] S h n = mx_ex d 236 11 [l0, l1] [(0, 2), v0] S h n) ∧
  (∀ (d : Nat) (b a : Int) (l0 l1 : Option mx_V) (S h : mx_H) (n : Int), mx_ex d 236 11 [l0, l1] [(0, b), (0, a)] S h n = mx_br (a = b) d 236 14 19 [l0, l1] [] S h n) ∧
  (∀ (d : Nat) (x : Int) (l1 : Option mx_V) (S h : mx_H) (n : Int), mx_ex d 236 14 [some (0, x), l1] [] S h n = mx_ex d 236 15 [some (0, x), l1] [(0, x)] S h n) ∧
  (∀ (d : Nat) (l0 l1 : Option mx_V) (v0 : mx_V) (S h : mx_H) (n : Int), mx_ex d 236 15 [l0, l1] [v0] S h n = mx_ex d 236 16 [l0, l1] [(0, 3), v0] S h n) ∧
  (∀ (d : Nat) (b a : Int) (l0 l1 : Option mx_V) (S h : mx_H) (n : Int), mx_ex d 236 16 [l0, l1] [(0, b), (0, a)] S h n = mx_br (a = b) d 236 29 19 [l0, l1] [] S h n) ∧
  (∀ (d : Nat) (x : Int) (l0 : Option mx_V) (S h : mx_H) (n : Int), mx_ex d 236 19 [l0, some (0, x)] [] S h n = mx_ex d 236 20 [l0, some (0, x)] [(0, x)] S h n) ∧
  (∀ (d : Nat) (l0 l1 : Option mx_V) (v0 : mx_V) (S h : mx_H) (n : Int), mx_ex d 236 20 [l0, l1] [v0] S h n = mx_ex d 236 21 [l0, l1] [(0, 1), v0] S h n) ∧
  (∀ (d : Nat) (b a : Int) (l0 l1 : Option mx_V) (S h : mx_H) (n : Int), mx_ex d 236 21 [l0, l1] [(0, b), (0, a)] S h n = mx_br (a = b) d 236 24 33 [l0, l1] [] S h n) ∧
  (∀ (d : Nat) (x : Int) (l1 : Option mx_V) (S h : mx_H) (n : Int), mx_ex d 236 24 [some (0, x), l1] [] S h n = mx_ex d 236 25 [some (0, x), l1] [(0, x)] S h n) ∧
  (∀ (d : Nat) (l0 l1 : Option mx_V) (v0 : mx_V) (S h : mx_H) (n : Int), mx_ex d 236 25 [l0, l1] [v0] S h n = mx_ex d 236 26 [l0, l1] [(0, 5), v0] S h n) ∧
  (∀ (d : Nat) (b a : Int) (l0 l1 : Option mx_V) (S h : mx_H) (n : Int), mx_ex d 236 26 [l0, l1] [(0, b), (0, a)] S h n = mx_br (a = b) d 236 29 33 [l0, l1] [] S h n) ∧
  (∀ (d : Nat) (l0 l1 : Option mx_V) (S h : mx_H) (n : Int), mx_ex d 236 29 [l0, l1] [] S h n = mx_ex d 236 30 [l0, l1] [(0, 1)] S h n) ∧
  (∀ (d : Nat) (l0 l1 : Option mx_V) (v0 : mx_V) (S h : mx_H) (n : Int), mx_ex d 236 30 [l0, l1] [v0] S h n = mx_ex d 236 34 [l0, l1] [v0] S h n) ∧
  (∀ (d : Nat) (l0 l1 : Option mx_V) (S h : mx_H) (n : Int), mx_ex d 236 33 [l0, l1] [] S h n = mx_ex d 236 34 [l0, l1] [(0, 0)] S h n) ∧
  (∀ (d : Nat) (x : Int) (l0 l1 : Option mx_V) (S h : mx_H) (n : Int), mx_ex d 236 34 [l0, l1] [(0, x)] S h n = mx_re (0 ≤ x ∧ x ≤ 1) (some (0, x)) S h n) :=
  ⟨by intros; exact rfl,
   by intros; exact eq_ld rfl rfl,
   by intros; exact eq_if0 rfl,
   by intros; exact eq_ld rfl rfl,
   by intros; exact eq_ld rfl rfl,
   by intros; exact eq_ic0 rfl,
   by intros; exact eq_ld rfl rfl,
   by intros; exact eq_push rfl,
   by intros; exact eq_ic1 rfl,
   by intros; exact eq_ld rfl rfl,
   by intros; exact eq_push rfl,
   by intros; exact eq_ic0 rfl,
   by intros; exact eq_ld rfl rfl,
   by intros; exact eq_push rfl,
   by intros; exact eq_ic1 rfl,
   by intros; exact eq_ld rfl rfl,
   by intros; exact eq_push rfl,
   by intros; exact eq_ic1 rfl,
   by intros; exact eq_push rfl,
   by intros; exact eq_go rfl,
   by intros; exact eq_push rfl,
   by intros; exact eq_rr rfl⟩
theorem rw_X12_taken :
  (∀ (d : Nat) (a0 a1 a2 : Int) (S h : mx_H) (n : Int), mx_M d 237 [(2, a0), (0, a1), (0, a2)] S h n = mx_ex d 237 0 [some (2, a0), some (0, a1), some (0, a2)] [] S h n) ∧
  (∀ (d : Nat) (x : Int) (l0 l2 : Option mx_V) (S h : mx_H) (n : Int), mx_ex d 237 0 [l0, some (0, x), l2] [] S h n = mx_ex d 237 1 [l0, some (0, x), l2] [(0, x)] S h n) ∧
  (∀ (d : Nat) (x0 : Int) (l0 l1 l2 : Option mx_V) (S h : mx_H) (n : Int), mx_ex (d + 1) 237 1 [l0, l1, l2] [(0, x0)] S h n = mx_rt (mx_M d 233 [(0, x0)] S h n) (d + 1) 237 4 [l0, l1, l2] []) ∧
  (∀ (d : Nat) (a : Int) (l0 l1 l2 : Option mx_V) (S h : mx_H) (n : Int), mx_ex d 237 4 [l0, l1, l2] [(0, a)] S h n = mx_br (a = 0) d 237 27 7 [l0, l1, l2] [] S h n) ∧
  (∀ (d : Nat) (x : Int) (l0 l1 : Option mx_V) (S h : mx_H) (n : Int), mx_ex d 237 7 [l0, l1, some (0, x)] [] S h n = mx_ex d 237 8 [l0, l1, some (0, x)] [(0, x)] S h n) ∧
  (∀ (d : Nat) (l0 l1 l2 : Option mx_V) (v0 : mx_V) (S h : mx_H) (n : Int), mx_ex d 237 8 [l0, l1, l2] [v0] S h n = mx_ex d 237 9 [l0, l1, l2] [(0, 0), v0] S h n) ∧
  (∀ (d : Nat) (l0 l1 l2 : Option mx_V) (v0 v1 : mx_V) (S h : mx_H) (n : Int), mx_ex d 237 9 [l0, l1, l2] [v0, v1] S h n = mx_ex d 237 10 [l0, l1, l2] [(0, 5), v0, v1] S h n) ∧
  (∀ (d : Nat) (x0 x1 x2 : Int) (l0 l1 l2 : Option mx_V) (S h : mx_H) (n : Int), mx_ex (d + 1) 237 10 [l0, l1, l2] [(0, x0), (0, x1), (0, x2)] S h n = mx_rt (mx_M d 159 [(0, x2), (0, x1), (0, x0)] S h n) (d + 1) 237 13 [l0, l1, l2] []) ∧
  (∀ (d : Nat) (a : Int) (l0 l1 l2 : Option mx_V) (S h : mx_H) (n : Int), mx_ex d 237 13 [l0, l1, l2] [(0, a)] S h n = mx_br (a = 0) d 237 16 29 [l0, l1, l2] [] S h n) ∧
  (∀ (d : Nat) (x : Int) (l0 l1 : Option mx_V) (S h : mx_H) (n : Int), mx_ex d 237 16 [l0, l1, some (0, x)] [] S h n = mx_ex d 237 17 [l0, l1, some (0, x)] [(0, x)] S h n) ∧
  (∀ (d : Nat) (l0 l1 l2 : Option mx_V) (v0 : mx_V) (S h : mx_H) (n : Int), mx_ex d 237 17 [l0, l1, l2] [v0] S h n = mx_ex d 237 19 [l0, l1, l2] [(0, 10), v0] S h n) ∧
  (∀ (d : Nat) (l0 l1 l2 : Option mx_V) (v0 v1 : mx_V) (S h : mx_H) (n : Int), mx_ex d 237 19 [l0, l1, l2] [v0, v1] S h n = mx_ex d 237 21 [l0, l1, l2] [(0, 13), v0, v1] S h n) ∧
  (∀ (d : Nat) (x0 x1 x2 : Int) (l0 l1 l2 : Option mx_V) (S h : mx_H) (n : Int), mx_ex (d + 1) 237 21 [l0, l1, l2] [(0, x0), (0, x1), (0, x2)] S h n = mx_rt (mx_M d 159 [(0, x2), (0, x1), (0, x0)] S h n) (d + 1) 237 24 [l0, l1, l2] []) ∧
  (∀ (d : Nat) (a : Int) (l0 l1 l2 : Option mx_V) (S h : mx_H) (n : Int), mx_ex d 237 24 [l0, l1, l2] [(0, a)] S h n = mx_br (a = 0) d 237 27 29 [l0, l1, l2] [] S h n) ∧
  (∀ (d : Nat) (l0 l1 l2 : Option mx_V) (S h : mx_H) (n : Int), mx_ex d 237 27 [l0, l1, l2] [] S h n = mx_ex d 237 28 [l0, l1, l2] [(0, (-1))] S h n) ∧
  (∀ (d : Nat) (x : Int) (l0 l1 l2 : Option mx_V) (S h : mx_H) (n : Int), mx_ex d 237 28 [l0, l1, l2] [(0, x)] S h n = some (some (0, x), S, h, n)) ∧
  (∀ (d : Nat) (x : Int) (l1 l2 : Option mx_V) (S h : mx_H) (n : Int), mx_ex d 237 29 [some (2, x), l1, l2] [] S h n = mx_ex d 237 30 [some (2, x), l1, l2] [(2, x)] S h n) ∧
  (∀ (d : Nat) (x : Int) (l0 l2 : Option mx_V) (v0 : mx_V) (S h : mx_H) (n : Int), mx_ex d 237 30 [l0, some (0, x), l2] [v0] S h n = mx_ex d 237 31 [l0, some (0, x), l2] [(0, x), v0] S h n) ∧
  (∀ (d : Nat) (x0 a : Int) (l0 l1 l2 : Option mx_V) (S h : mx_H) (n : Int), mx_ex (d + 1) 237 31 [l0, l1, l2] [(0, x0), (2, a)] S h n = mx_cl (S a (-2) = 13) d 235 [(2, a), (0, x0)] 237 34 [l0, l1, l2] [] S h n) ∧
  (∀ (d : Nat) (a : Int) (l0 l1 l2 : Option mx_V) (S h : mx_H) (n : Int), mx_ex d 237 34 [l0, l1, l2] [(0, a)] S h n = mx_br (a = 0) d 237 40 37 [l0, l1, l2] [] S h n) ∧
  (∀ (d : Nat) (l0 l1 l2 : Option mx_V) (S h : mx_H) (n : Int), mx_ex d 237 37 [l0, l1, l2] [] S h n = mx_ex d 237 39 [l0, l1, l2] [(0, (-11))] S h n) ∧
  (∀ (d : Nat) (x : Int) (l0 l1 l2 : Option mx_V) (S h : mx_H) (n : Int), mx_ex d 237 39 [l0, l1, l2] [(0, x)] S h n = some (some (0, x), S, h, n)) ∧
  (∀ (d : Nat) (x : Int) (l1 l2 : Option mx_V) (S h : mx_H) (n : Int), mx_ex d 237 40 [some (2, x), l1, l2] [] S h n = mx_ex d 237 41 [some (2, x), l1, l2] [(2, x)] S h n) ∧
  (∀ (d : Nat) (a : Int) (l0 l1 l2 : Option mx_V) (S h : mx_H) (n : Int), mx_ex d 237 41 [l0, l1, l2] [(2, a)] S h n = mx_gd (13 ≤ S a (-2) ∧ S a (-2) ≤ 13) d 237 44 [l0, l1, l2] [(2, S a 19)] S h n) ∧
  (∀ (d : Nat) (x : Int) (l0 l2 : Option mx_V) (v0 : mx_V) (S h : mx_H) (n : Int), mx_ex d 237 44 [l0, some (0, x), l2] [v0] S h n = mx_ex d 237 45 [l0, some (0, x), l2] [(0, x), v0] S h n) ∧
  (∀ (d : Nat) (i a : Int) (l0 l1 l2 : Option mx_V) (S h : mx_H) (n : Int), mx_ex d 237 45 [l0, l1, l2] [(0, i), (2, a)] S h n = mx_gd ((S a (-2) = 20 ∨ S a (-2) = 24) ∧ 0 ≤ i ∧ i < S a (-1)) d 237 46 [l0, l1, l2] [(0, h a i)] S h n) ∧
  (∀ (d : Nat) (l0 l1 l2 : Option mx_V) (v0 : mx_V) (S h : mx_H) (n : Int), mx_ex d 237 46 [l0, l1, l2] [v0] S h n = mx_ex d 237 47 [l0, l1, l2] [(0, 1), v0] S h n) ∧
  (∀ (d : Nat) (b a : Int) (l0 l1 l2 : Option mx_V) (S h : mx_H) (n : Int), mx_ex d 237 47 [l0, l1, l2] [(0, b), (0, a)] S h n = mx_br (a = b) d 237 50 86 [l0, l1, l2] [] S h n) ∧
  (∀ (d : Nat) (x : Int) (l0 l1 : Option mx_V) (S h : mx_H) (n : Int), mx_ex d 237 50 [l0, l1, some (0, x)] [] S h n = mx_ex d 237 51 [l0, l1, some (0, x)] [(0, x)] S h n) ∧
  (∀ (d : Nat) (l0 l1 l2 : Option mx_V) (v0 : mx_V) (S h : mx_H) (n : Int), mx_ex d 237 51 [l0, l1, l2] [v0] S h n = mx_ex d 237 53 [l0, l1, l2] [(0, 6), v0] S h n) ∧
  (∀ (d : Nat) (b a : Int) (l0 l1 l2 : Option mx_V) (S h : mx_H) (n : Int), mx_ex d 237 53 [l0, l1, l2] [(0, b), (0, a)] S h n = mx_br (a < b) d 237 56 83 [l0, l1, l2] [] S h n) ∧
  (∀ (d : Nat) (x : Int) (l1 l2 : Option mx_V) (S h : mx_H) (n : Int), mx_ex d 237 56 [some (2, x), l1, l2] [] S h n = mx_ex d 237 57 [some (2, x), l1, l2] [(2, x)] S h n) ∧
  (∀ (d : Nat) (x : Int) (l1 l2 : Option mx_V) (v0 : mx_V) (S h : mx_H) (n : Int), mx_ex d 237 57 [some (2, x), l1, l2] [v0] S h n = mx_ex d 237 58 [some (2, x), l1, l2] [(2, x), v0] S h n) ∧
  (∀ (d : Nat) (a : Int) (l0 l1 l2 : Option mx_V) (v1 : mx_V) (S h : mx_H) (n : Int), mx_ex d 237 58 [l0, l1, l2] [(2, a), v1] S h n = mx_gd (13 ≤ S a (-2) ∧ S a (-2) ≤ 13) d 237 61 [l0, l1, l2] [(2, S a 20), v1] S h n) ∧
  (∀ (d : Nat) (x : Int) (l0 l2 : Option mx_V) (v0 v1 : mx_V) (S h : mx_H) (n : Int), mx_ex d 237 61 [l0, some (0, x), l2] [v0, v1] S h n = mx_ex d 237 62 [l0, some (0, x), l2] [(0, x), v0, v1] S h n) ∧
  (∀ (d : Nat) (i a : Int) (l0 l1 l2 : Option mx_V) (v2 : mx_V) (S h : mx_H) (n : Int), mx_ex d 237 62 [l0, l1, l2] [(0, i), (2, a), v2] S h n = mx_gd ((S a (-2) = 20 ∨ S a (-2) = 24) ∧ 0 ≤ i ∧ i < S a (-1)) d 237 63 [l0, l1, l2] [(0, h a i), v2] S h n) ∧
  (∀ (d : Nat) (l0 l1 l2 : Option mx_V) (v0 v1 : mx_V) (S h : mx_H) (n : Int), mx_ex d 237 63 [l0, l1, l2] [v0, v1] S h n = mx_ex d 237 64 [l0, l1, l2] [(0, 0), v0, v1] S h n) ∧
  (∀ (d : Nat) (x0 x1 a : Int) (l0 l1 l2 : Option mx_V) (S h : mx_H) (n : Int), mx_ex (d + 1) 237 64 [l0, l1, l2] [(0, x0), (0, x1), (2, a)] S h n = mx_cl (S a (-2) = 13) d 163 [(2, a), (0, x1), (0, x0)] 237 67 [l0, l1, l2] [] S h n) ∧
  (∀ (d : Nat) (x : Int) (l0 l1 : Option mx_V) (v0 : mx_V) (S h : mx_H) (n : Int), mx_ex d 237 67 [l0, l1, some (0, x)] [v0] S h n = mx_ex d 237 68 [l0, l1, some (0, x)] [(0, x), v0] S h n) ∧
  (∀ (d : Nat) (x0 x1 : Int) (l0 l1 l2 : Option mx_V) (S h : mx_H) (n : Int), mx_ex (d + 1) 237 68 [l0, l1, l2] [(0, x0), (0, x1)] S h n = mx_rt (mx_M d 236 [(0, x1), (0, x0)] S h n) (d + 1) 237 71 [l0, l1, l2] []) ∧
  (∀ (d : Nat) (a : Int) (l0 l1 l2 : Option mx_V) (S h : mx_H) (n : Int), mx_ex d 237 71 [l0, l1, l2] [(0, a)] S h n = mx_br (a = 0) d 237 83 74 [l0, l1, l2] [] S h n) ∧
  (∀ (d : Nat) (x : Int) (l1 l2 : Option mx_V) (S h : mx_H) (n : Int), mx_ex d 237 74 [some (2, x), l1, l2] [] S h n = mx_ex d 237 75 [some (2, x), l1, l2] [(2, x)] S h n) ∧
  (∀ (d : Nat) (a : Int) (l0 l1 l2 : Option mx_V) (S h : mx_H) (n : Int), mx_ex d 237 75 [l0, l1, l2] [(2, a)] S h n = mx_gd (13 ≤ S a (-2) ∧ S a (-2) ≤ 13) d 237 78 [l0, l1, l2] [(2, S a 20)] S h n) ∧
  (∀ (d : Nat) (x : Int) (l0 l2 : Option mx_V) (v0 : mx_V) (S h : mx_H) (n : Int), mx_ex d 237 78 [l0, some (0, x), l2] [v0] S h n = mx_ex d 237 79 [l0, some (0, x), l2] [(0, x), v0] S h n) ∧
  (∀ (d : Nat) (i a : Int) (l0 l1 l2 : Option mx_V) (S h : mx_H) (n : Int), mx_ex d 237 79 [l0, l1, l2] [(0, i), (2, a)] S h n = mx_gd ((S a (-2) = 20 ∨ S a (-2) = 24) ∧ 0 ≤ i ∧ i < S a (-1)) d 237 80 [l0, l1, l2] [(0, h a i)] S h n) ∧
  (∀ (d : Nat) (l0 l1 l2 : Option mx_V) (v0 : mx_V) (S h : mx_H) (n : Int), mx_ex d 237 80 [l0, l1, l2] [v0] S h n = mx_ex d 237 85 [l0, l1, l2] [v0] S h n) ∧
  (∀ (d : Nat) (l0 l1 l2 : Option mx_V) (S h : mx_H) (n : Int), mx_ex d 237 83 [l0, l1, l2] [] S h n = mx_ex d 237 85 [l0, l1, l2] [(0, (-13))] S h n) ∧
  (∀ (d : Nat) (x : Int) (l0 l1 l2 : Option mx_V) (S h : mx_H) (n : Int), mx_ex d 237 85 [l0, l1, l2] [(0, x)] S h n = some (some (0, x), S, h, n)) ∧
  (∀ (d : Nat) (x : Int) (l1 l2 : Option mx_V) (S h : mx_H) (n : Int), mx_ex d 237 86 [some (2, x), l1, l2] [] S h n = mx_ex d 237 87 [some (2, x), l1, l2] [(2, x)] S h n) ∧
  (∀ (d : Nat) (a : Int) (l0 l1 l2 : Option mx_V) (S h : mx_H) (n : Int), mx_ex d 237 87 [l0, l1, l2] [(2, a)] S h n = mx_gd (13 ≤ S a (-2) ∧ S a (-2) ≤ 13) d 237 90 [l0, l1, l2] [(2, S a 19)] S h n) ∧
  (∀ (d : Nat) (x : Int) (l0 l2 : Option mx_V) (v0 : mx_V) (S h : mx_H) (n : Int), mx_ex d 237 90 [l0, some (0, x), l2] [v0] S h n = mx_ex d 237 91 [l0, some (0, x), l2] [(0, x), v0] S h n) ∧
  (∀ (d : Nat) (i a : Int) (l0 l1 l2 : Option mx_V) (S h : mx_H) (n : Int), mx_ex d 237 91 [l0, l1, l2] [(0, i), (2, a)] S h n = mx_gd ((S a (-2) = 20 ∨ S a (-2) = 24) ∧ 0 ≤ i ∧ i < S a (-1)) d 237 92 [l0, l1, l2] [(0, h a i)] S h n) ∧
  (∀ (d : Nat) (x : Int) (l0 l1 : Option mx_V) (v0 : mx_V) (S h : mx_H) (n : Int), mx_ex d 237 92 [l0, l1, some (0, x)] [v0] S h n = mx_ex d 237 93 [l0, l1, some (0, x)] [(0, x), v0] S h n) ∧
  (∀ (d : Nat) (b a : Int) (l0 l1 l2 : Option mx_V) (S h : mx_H) (n : Int), mx_ex d 237 93 [l0, l1, l2] [(0, b), (0, a)] S h n = mx_br (a = b) d 237 96 105 [l0, l1, l2] [] S h n) ∧
  (∀ (d : Nat) (x : Int) (l1 l2 : Option mx_V) (S h : mx_H) (n : Int), mx_ex d 237 96 [some (2, x), l1, l2] [] S h n = mx_ex d 237 97 [some (2, x), l1, l2] [(2, x)] S h n) ∧
  (∀ (d : Nat) (a : Int) (l0 l1 l2 : Option mx_V) (S h : mx_H) (n : Int), mx_ex d 237 97 [l0, l1, l2] [(2, a)] S h n = mx_gd (13 ≤ S a (-2) ∧ S a (-2) ≤ 13) d 237 100 [l0, l1, l2] [(2, S a 20)] S h n) ∧
  (∀ (d : Nat) (x : Int) (l0 l2 : Option mx_V) (v0 : mx_V) (S h : mx_H) (n : Int), mx_ex d 237 100 [l0, some (0, x), l2] [v0] S h n = mx_ex d 237 101 [l0, some (0, x), l2] [(0, x), v0] S h n) ∧
  (∀ (d : Nat) (i a : Int) (l0 l1 l2 : Option mx_V) (S h : mx_H) (n : Int), mx_ex d 237 101 [l0, l1, l2] [(0, i), (2, a)] S h n = mx_gd ((S a (-2) = 20 ∨ S a (-2) = 24) ∧ 0 ≤ i ∧ i < S a (-1)) d 237 102 [l0, l1, l2] [(0, h a i)] S h n) ∧
  (∀ (d : Nat) (l0 l1 l2 : Option mx_V) (v0 : mx_V) (S h : mx_H) (n : Int), mx_ex d 237 102 [l0, l1, l2] [v0] S h n = mx_ex d 237 107 [l0, l1, l2] [v0] S h n) ∧
  (∀ (d : Nat) (l0 l1 l2 : Option mx_V) (S h : mx_H) (n : Int), mx_ex d 237 105 [l0, l1, l2] [] S h n = mx_ex d 237 107 [l0, l1, l2] [(0, (-13))] S h n) ∧
  (∀ (d : Nat) (x : Int) (l0 l1 l2 : Option mx_V) (S h : mx_H) (n : Int), mx_ex d 237 107 [l0, l1, l2] [(0, x)] S h n = some (some (0, x), S, h, n)) :=
  ⟨by intros; exact rfl,
   by intros; exact eq_ld rfl rfl,
   by intros; exact eq_cs rfl (Nat.le_of_ble_eq_true rfl) rfl rfl rfl (Nat.le_of_ble_eq_true rfl),
   by intros; exact eq_if0 rfl,
   by intros; exact eq_ld rfl rfl,
   by intros; exact eq_push rfl,
   by intros; exact eq_push rfl,
   by intros; exact eq_cs rfl (Nat.le_of_ble_eq_true rfl) rfl rfl rfl (Nat.le_of_ble_eq_true rfl),
   by intros; exact eq_if1 rfl,
   by intros; exact eq_ld rfl rfl,
   by intros; exact eq_push rfl,
   by intros; exact eq_push rfl,
   by intros; exact eq_cs rfl (Nat.le_of_ble_eq_true rfl) rfl rfl rfl (Nat.le_of_ble_eq_true rfl),
   by intros; exact eq_if1 rfl,
   by intros; exact eq_push rfl,
   by intros; exact eq_ret rfl,
   by intros; exact eq_ld rfl rfl,
   by intros; exact eq_ld rfl rfl,
   by intros; exact eq_cv rfl (Nat.le_of_ble_eq_true rfl) rfl rfl rfl (Nat.le_of_ble_eq_true rfl),
   by intros; exact eq_if0 rfl,
   by intros; exact eq_push rfl,
   by intros; exact eq_ret rfl,
   by intros; exact eq_ld rfl rfl,
   by intros; exact eq_gr rfl,
   by intros; exact eq_ld rfl rfl,
   by intros; exact eq_iald rfl,
   by intros; exact eq_push rfl,
   by intros; exact eq_ic1 rfl,
   by intros; exact eq_ld rfl rfl,
   by intros; exact eq_push rfl,
   by intros; exact eq_ic3 rfl,
   by intros; exact eq_ld rfl rfl,
   by intros; exact eq_ld rfl rfl,
   by intros; exact eq_gr rfl,
   by intros; exact eq_ld rfl rfl,
   by intros; exact eq_iald rfl,
   by intros; exact eq_push rfl,
   by intros; exact eq_cv rfl (Nat.le_of_ble_eq_true rfl) rfl rfl rfl (Nat.le_of_ble_eq_true rfl),
   by intros; exact eq_ld rfl rfl,
   by intros; exact eq_cs rfl (Nat.le_of_ble_eq_true rfl) rfl rfl rfl (Nat.le_of_ble_eq_true rfl),
   by intros; exact eq_if0 rfl,
   by intros; exact eq_ld rfl rfl,
   by intros; exact eq_gr rfl,
   by intros; exact eq_ld rfl rfl,
   by intros; exact eq_iald rfl,
   by intros; exact eq_go rfl,
   by intros; exact eq_push rfl,
   by intros; exact eq_ret rfl,
   by intros; exact eq_ld rfl rfl,
   by intros; exact eq_gr rfl,
   by intros; exact eq_ld rfl rfl,
   by intros; exact eq_iald rfl,
   by intros; exact eq_ld rfl rfl,
   by intros; exact eq_ic1 rfl,
   by intros; exact eq_ld rfl rfl,
   by intros; exact eq_gr rfl,
   by intros; exact eq_ld rfl rfl,
   by intros; exact eq_iald rfl,
   by intros; exact eq_go rfl,
   by intros; exact eq_push rfl,
   by intros; exact eq_ret rfl⟩
theorem rw_X12_ran :
  (∀ (d : Nat) (a0 a1 : Int) (S h : mx_H) (n : Int), mx_M d 238 [(2, a0), (0, a1)] S h n = mx_ex d 238 0 [some (2, a0), some (0, a1)] [] S h n) ∧
  (∀ (d : Nat) (x : Int) (l1 : Option mx_V) (S h : mx_H) (n : Int), mx_ex d 238 0 [some (2, x), l1] [] S h n = mx_ex d 238 1 [some (2, x), l1] [(2, x)] S h n) ∧
  (∀ (d : Nat) (a : Int) (l0 l1 : Option mx_V) (S h : mx_H) (n : Int), mx_ex d 238 1 [l0, l1] [(2, a)] S h n = mx_gd (13 ≤ S a (-2) ∧ S a (-2) ≤ 13) d 238 4 [l0, l1] [(0, h a 22)] S h n) ∧
  (∀ (d : Nat) (l0 l1 : Option mx_V) (v0 : mx_V) (S h : mx_H) (n : Int), mx_ex d 238 4 [l0, l1] [v0] S h n = mx_ex d 238 6 [l0, l1] [(0, 30), v0] S h n) ∧
  (∀ (d : Nat) (b a : Int) (l0 l1 : Option mx_V) (S h : mx_H) (n : Int), mx_ex d 238 6 [l0, l1] [(0, b), (0, a)] S h n = mx_br (a < b) d 238 9 29 [l0, l1] [] S h n) ∧
  (∀ (d : Nat) (x : Int) (l1 : Option mx_V) (S h : mx_H) (n : Int), mx_ex d 238 9 [some (2, x), l1] [] S h n = mx_ex d 238 10 [some (2, x), l1] [(2, x)] S h n) ∧
  (∀ (d : Nat) (a : Int) (l0 l1 : Option mx_V) (S h : mx_H) (n : Int), mx_ex d 238 10 [l0, l1] [(2, a)] S h n = mx_gd (13 ≤ S a (-2) ∧ S a (-2) ≤ 13) d 238 13 [l0, l1] [(2, S a 21)] S h n) ∧
  (∀ (d : Nat) (x : Int) (l1 : Option mx_V) (v0 : mx_V) (S h : mx_H) (n : Int), mx_ex d 238 13 [some (2, x), l1] [v0] S h n = mx_ex d 238 14 [some (2, x), l1] [(2, x), v0] S h n) ∧
  (∀ (d : Nat) (a : Int) (l0 l1 : Option mx_V) (v1 : mx_V) (S h : mx_H) (n : Int), mx_ex d 238 14 [l0, l1] [(2, a), v1] S h n = mx_gd (13 ≤ S a (-2) ∧ S a (-2) ≤ 13) d 238 17 [l0, l1] [(0, h a 22), v1] S h n) ∧
  (∀ (d : Nat) (x : Int) (l0 : Option mx_V) (v0 v1 : mx_V) (S h : mx_H) (n : Int), mx_ex d 238 17 [l0, some (0, x)] [v0, v1] S h n = mx_ex d 238 18 [l0, some (0, x)] [(0, x), v0, v1] S h n) ∧
  (∀ (d : Nat) (v i a : Int) (l0 l1 : Option mx_V) (S h : mx_H) (n : Int), mx_ex d 238 18 [l0, l1] [(0, v), (0, i), (2, a)] S h n = mx_gd (S a (-2) = 20 ∧ 0 ≤ i ∧ i < S a (-1)) d 238 19 [l0, l1] [] S (mx_u h a i v) n) ∧
  (∀ (d : Nat) (x : Int) (l1 : Option mx_V) (S h : mx_H) (n : Int), mx_ex d 238 19 [some (2, x), l1] [] S h n = mx_ex d 238 20 [some (2, x), l1] [(2, x)] S h n) ∧
  (∀ (d : Nat) (a : Int) (l0 l1 : Option mx_V) (S h : mx_H) (n : Int), mx_ex d 238 20 [l0, l1] [(2, a)] S h n = mx_ex d 238 21 [l0, l1] [(2, a), (2, a)] S h n) ∧
  (∀ (d : Nat) (a : Int) (l0 l1 : Option mx_V) (v1 : mx_V) (S h : mx_H) (n : Int), mx_ex d 238 21 [l0, l1] [(2, a), v1] S h n = mx_gd (13 ≤ S a (-2) ∧ S a (-2) ≤ 13) d 238 24 [l0, l1] [(0, h a 22), v1] S h n) ∧
  (∀ (d : Nat) (l0 l1 : Option mx_V) (v0 v1 : mx_V) (S h : mx_H) (n : Int), mx_ex d 238 24 [l0, l1] [v0, v1] S h n = mx_ex d 238 25 [l0, l1] [(0, 1), v0, v1] S h n) ∧
  (∀ (d : Nat) (b a : Int) (l0 l1 : Option mx_V) (v2 : mx_V) (S h : mx_H) (n : Int), mx_ex d 238 25 [l0, l1] [(0, b), (0, a), v2] S h n = mx_ex d 238 26 [l0, l1] [(0, mx_w (a + b)), v2] S h n) ∧
  (∀ (d : Nat) (v a : Int) (l0 l1 : Option mx_V) (S h : mx_H) (n : Int), mx_ex d 238 26 [l0, l1] [(0, v), (2, a)] S h n = mx_gd (13 ≤ S a (-2) ∧ S a (-2) ≤ 13) d 238 29 [l0, l1] [] S (mx_u h a 22 v) n) ∧
  (∀ (d : Nat) (l0 l1 : Option mx_V) (S h : mx_H) (n : Int), mx_ex d 238 29 [l0, l1] [] S h n = some (none, S, h, n)) :=
  ⟨by intros; exact rfl,
   by intros; exact eq_ld rfl rfl,
   by intros; exact eq_gi rfl,
   by intros; exact eq_push rfl,
   by intros; exact eq_ic3 rfl,
   by intros; exact eq_ld rfl rfl,
   by intros; exact eq_gr rfl,
   by intros; exact eq_ld rfl rfl,
   by intros; exact eq_gi rfl,
   by intros; exact eq_ld rfl rfl,
   by intros; exact eq_iast rfl,
   by intros; exact eq_ld rfl rfl,
   by intros; exact eq_dup rfl (by decide),
   by intros; exact eq_gi rfl,
   by intros; exact eq_push rfl,
   by intros; exact eq_i2 (o := mx_add) rfl,
   by intros; exact eq_pi rfl,
   by intros; exact eq_retv rfl⟩
theorem rw_X12_above :
  (∀ (d : Nat) (a0 : Int) (S h : mx_H) (n : Int), mx_M d 239 [(0, a0)] S h n = mx_ex d 239 0 [some (0, a0)] [] S h n) ∧
  (∀ (d : Nat) (x : Int) (S h : mx_H) (n : Int), mx_ex d 239 0 [some (0, x)] [] S h n = mx_ex d 239 1 [some (0, x)] [(0, x)] S h n) ∧
  (∀ (d : Nat) (l0 : Option mx_V) (v0 : mx_V) (S h : mx_H) (n : Int), mx_ex d 239 1 [l0] [v0] S h n = mx_ex d 239 2 [l0] [(0, 3), v0] S h n) ∧
  (∀ (d : Nat) (b a : Int) (l0 : Option mx_V) (S h : mx_H) (n : Int), mx_ex d 239 2 [l0] [(0, b), (0, a)] S h n = mx_br (a = b) d 239 5 9 [l0] [] S h n) ∧
  (∀ (d : Nat) (l0 : Option mx_V) (S h : mx_H) (n : Int), mx_ex d 239 5 [l0] [] S h n = mx_ex d 239 6 [l0] [(0, 2)] S h n) ∧
  (∀ (d : Nat) (l0 : Option mx_V) (v0 : mx_V) (S h : mx_H) (n : Int), mx_ex d 239 6 [l0] [v0] S h n = mx_ex d 239 19 [l0] [v0] S h n) ∧
  (∀ (d : Nat) (x : Int) (S h : mx_H) (n : Int), mx_ex d 239 9 [some (0, x)] [] S h n = mx_ex d 239 10 [some (0, x)] [(0, x)] S h n) ∧
  (∀ (d : Nat) (l0 : Option mx_V) (v0 : mx_V) (S h : mx_H) (n : Int), mx_ex d 239 10 [l0] [v0] S h n = mx_ex d 239 11 [l0] [(0, 5), v0] S h n) ∧
  (∀ (d : Nat) (b a : Int) (l0 : Option mx_V) (S h : mx_H) (n : Int), mx_ex d 239 11 [l0] [(0, b), (0, a)] S h n = mx_br (a = b) d 239 14 18 [l0] [] S h n) ∧
  (∀ (d : Nat) (l0 : Option mx_V) (S h : mx_H) (n : Int), mx_ex d 239 14 [l0] [] S h n = mx_ex d 239 15 [l0] [(0, 1)] S h n) ∧
  (∀ (d : Nat) (l0 : Option mx_V) (v0 : mx_V) (S h : mx_H) (n : Int), mx_ex d 239 15 [l0] [v0] S h n = mx_ex d 239 19 [l0] [v0] S h n) ∧
  (∀ (d : Nat) (l0 : Option mx_V) (S h : mx_H) (n : Int), mx_ex d 239 18 [l0] [] S h n = mx_ex d 239 19 [l0] [(0, 0)] S h n) ∧
  (∀ (d : Nat) (x : Int) (l0 : Option mx_V) (S h : mx_H) (n : Int), mx_ex d 239 19 [l0] [(0, x)] S h n = some (some (0, x), S, h, n)) :=
  ⟨by intros; exact rfl,
   by intros; exact eq_ld rfl rfl,
   by intros; exact eq_push rfl,
   by intros; exact eq_ic1 rfl,
   by intros; exact eq_push rfl,
   by intros; exact eq_go rfl,
   by intros; exact eq_ld rfl rfl,
   by intros; exact eq_push rfl,
   by intros; exact eq_ic1 rfl,
   by intros; exact eq_push rfl,
   by intros; exact eq_go rfl,
   by intros; exact eq_push rfl,
   by intros; exact eq_ret rfl⟩
theorem rw_X12_kindNow :
  (∀ (d : Nat) (a0 : Int) (S h : mx_H) (n : Int), mx_M d 240 [(2, a0)] S h n = mx_ex d 240 0 [some (2, a0)] [] S h n) ∧
  (∀ (d : Nat) (x : Int) (S h : mx_H) (n : Int), mx_ex d 240 0 [some (2, x)] [] S h n = mx_ex d 240 1 [some (2, x)] [(2, x)] S h n) ∧
  (∀ (d : Nat) (x : Int) (v0 : mx_V) (S h : mx_H) (n : Int), mx_ex d 240 1 [some (2, x)] [v0] S h n = mx_ex d 240 2 [some (2, x)] [(2, x), v0] S h n) ∧
  (∀ (d : Nat) (a : Int) (l0 : Option mx_V) (v1 : mx_V) (S h : mx_H) (n : Int), mx_ex d 240 2 [l0] [(2, a), v1] S h n = mx_gd (13 ≤ S a (-2) ∧ S a (-2) ≤ 13) d 240 5 [l0] [(0, h a 23), v1] S h n) ∧
  (∀ (d : Nat) (l0 : Option mx_V) (v0 v1 : mx_V) (S h : mx_H) (n : Int), mx_ex d 240 5 [l0] [v0, v1] S h n = mx_ex d 240 6 [l0] [(0, 0), v0, v1] S h n) ∧
  (∀ (d : Nat) (x0 x1 a : Int) (l0 : Option mx_V) (S h : mx_H) (n : Int), mx_ex (d + 1) 240 6 [l0] [(0, x0), (0, x1), (2, a)] S h n = mx_cl (S a (-2) = 13) d 163 [(2, a), (0, x1), (0, x0)] 240 9 [l0] [] S h n) ∧
  (∀ (d : Nat) (x : Int) (l0 : Option mx_V) (S h : mx_H) (n : Int), mx_ex d 240 9 [l0] [(0, x)] S h n = some (some (0, x), S, h, n)) :=
  ⟨by intros; exact rfl,
   by intros; exact eq_ld rfl rfl,
   by intros; exact eq_ld rfl rfl,
   by intros; exact eq_gi rfl,
   by intros; exact eq_push rfl,
   by intros; exact eq_cv rfl (Nat.le_of_ble_eq_true rfl) rfl rfl rfl (Nat.le_of_ble_eq_true rfl),
   by intros; exact eq_ret rfl⟩
theorem rw_X12_reads :
  (∀ (d : Nat) (a0 a1 a2 : Int) (S h : mx_H) (n : Int), mx_M d 241 [(2, a0), (0, a1), (0, a2)] S h n = mx_ex d 241 0 [some (2, a0), some (0, a1), some (0, a2)] [] S h n) ∧
  (∀ (d : Nat) (x : Int) (l0 l2 : Option mx_V) (S h : mx_H) (n : Int), mx_ex d 241 0 [l0, some (0, x), l2] [] S h n = mx_ex d 241 1 [l0, some (0, x), l2] [(0, x)] S h n) ∧
  (∀ (d : Nat) (a : Int) (l0 l1 l2 : Option mx_V) (S h : mx_H) (n : Int), mx_ex d 241 1 [l0, l1, l2] [(0, a)] S h n = mx_sw a [(0, 40), (1, 110), (2, 53), (3, 71), (4, 110), (5, 89)] d 241 110 [l0, l1, l2] [] S h n) ∧
  (∀ (d : Nat) (x : Int) (l1 l2 : Option mx_V) (S h : mx_H) (n : Int), mx_ex d 241 40 [some (2, x), l1, l2] [] S h n = mx_ex d 241 41 [some (2, x), l1, l2] [(2, x)] S h n) ∧
  (∀ (d : Nat) (l0 l1 l2 : Option mx_V) (v0 : mx_V) (S h : mx_H) (n : Int), mx_ex d 241 41 [l0, l1, l2] [v0] S h n = mx_ex d 241 43 [l0, l1, l2] [(0, 10), v0] S h n) ∧
  (∀ (d : Nat) (x0 a : Int) (l0 l1 l2 : Option mx_V) (S h : mx_H) (n : Int), mx_ex (d + 1) 241 43 [l0, l1, l2] [(0, x0), (2, a)] S h n = mx_cl (S a (-2) = 13) d 238 [(2, a), (0, x0)] 241 46 [l0, l1, l2] [] S h n) ∧
  (∀ (d : Nat) (x : Int) (l0 l1 : Option mx_V) (S h : mx_H) (n : Int), mx_ex d 241 46 [l0, l1, some (0, x)] [] S h n = mx_ex d 241 47 [l0, l1, some (0, x)] [(0, x)] S h n) ∧
  (∀ (d : Nat) (x : Int) (l1 l2 : Option mx_V) (v0 : mx_V) (S h : mx_H) (n : Int), mx_ex d 241 47 [some (2, x), l1, l2] [v0] S h n = mx_ex d 241 48 [some (2, x), l1, l2] [(2, x), v0] S h n) ∧
  (∀ (d : Nat) (a : Int) (l0 l1 l2 : Option mx_V) (v1 : mx_V) (S h : mx_H) (n : Int), mx_ex d 241 48 [l0, l1, l2] [(2, a), v1] S h n = mx_gd (13 ≤ S a (-2) ∧ S a (-2) ≤ 13) d 241 51 [l0, l1, l2] [(0, h a 23), v1] S h n) ∧
  (∀ (d : Nat) (b a : Int) (l0 l1 l2 : Option mx_V) (S h : mx_H) (n : Int), mx_ex d 241 51 [l0, l1, l2] [(0, b), (0, a)] S h n = mx_ex d 241 52 [l0, l1, l2] [(0, mx_w (a + b))] S h n) ∧
  (∀ (d : Nat) (x : Int) (l0 l1 l2 : Option mx_V) (S h : mx_H) (n : Int), mx_ex d 241 52 [l0, l1, l2] [(0, x)] S h n = some (some (0, x), S, h, n)) ∧
  (∀ (d : Nat) (x : Int) (l1 l2 : Option mx_V) (S h : mx_H) (n : Int), mx_ex d 241 53 [some (2, x), l1, l2] [] S h n = mx_ex d 241 54 [some (2, x), l1, l2] [(2, x)] S h n) ∧
  (∀ (d : Nat) (l0 l1 l2 : Option mx_V) (v0 : mx_V) (S h : mx_H) (n : Int), mx_ex d 241 54 [l0, l1, l2] [v0] S h n = mx_ex d 241 56 [l0, l1, l2] [(0, 30), v0] S h n) ∧
  (∀ (d : Nat) (x0 a : Int) (l0 l1 l2 : Option mx_V) (S h : mx_H) (n : Int), mx_ex (d + 1) 241 56 [l0, l1, l2] [(0, x0), (2, a)] S h n = mx_cl (S a (-2) = 13) d 238 [(2, a), (0, x0)] 241 59 [l0, l1, l2] [] S h n) ∧
  (∀ (d : Nat) (x : Int) (l1 l2 : Option mx_V) (S h : mx_H) (n : Int), mx_ex d 241 59 [some (2, x), l1, l2] [] S h n = mx_ex d 241 60 [some (2, x), l1, l2] [(2, x)] S h n) ∧
  (∀ (d : Nat) (l0 l1 l2 : Option mx_V) (v0 : mx_V) (S h : mx_H) (n : Int), mx_ex d 241 60 [l0, l1, l2] [v0] S h n = mx_ex d 241 61 [l0, l1, l2] [(0, 2), v0] S h n) ∧
  (∀ (d : Nat) (x0 : Int) (l0 l1 l2 : Option mx_V) (v1 : mx_V) (S h : mx_H) (n : Int), mx_ex (d + 1) 241 61 [l0, l1, l2] [(0, x0), v1] S h n = mx_rt (mx_M d 239 [(0, x0)] S h n) (d + 1) 241 64 [l0, l1, l2] [v1]) ∧
  (∀ (d : Nat) (x : Int) (l0 l1 : Option mx_V) (v0 v1 : mx_V) (S h : mx_H) (n : Int), mx_ex d 241 64 [l0, l1, some (0, x)] [v0, v1] S h n = mx_ex d 241 65 [l0, l1, some (0, x)] [(0, x), v0, v1] S h n) ∧
  (∀ (d : Nat) (x0 x1 a : Int) (l0 l1 l2 : Option mx_V) (S h : mx_H) (n : Int), mx_ex (d + 1) 241 65 [l0, l1, l2] [(0, x0), (0, x1), (2, a)] S h n = mx_cl (S a (-2) = 13) d 241 [(2, a), (0, x1), (0, x0)] 241 68 [l0, l1, l2] [] S h n) ∧
  (∀ (d : Nat) (l0 l1 l2 : Option mx_V) (v0 : mx_V) (S h : mx_H) (n : Int), mx_ex d 241 68 [l0, l1, l2] [v0] S h n = mx_ex d 241 69 [l0, l1, l2] [(0, 3), v0] S h n) ∧
  (∀ (d : Nat) (b a : Int) (l0 l1 l2 : Option mx_V) (S h : mx_H) (n : Int), mx_ex d 241 69 [l0, l1, l2] [(0, b), (0, a)] S h n = mx_ex d 241 70 [l0, l1, l2] [(0, mx_w (a * b))] S h n) ∧
  (∀ (d : Nat) (x : Int) (l0 l1 l2 : Option mx_V) (S h : mx_H) (n : Int), mx_ex d 241 70 [l0, l1, l2] [(0, x)] S h n = some (some (0, x), S, h, n)) ∧
  (∀ (d : Nat) (x : Int) (l1 l2 : Option mx_V) (S h : mx_H) (n : Int), mx_ex d 241 71 [some (2, x), l1, l2] [] S h n = mx_ex d 241 72 [some (2, x), l1, l2] [(2, x)] S h n) ∧
  (∀ (d : Nat) (l0 l1 l2 : Option mx_V) (v0 : mx_V) (S h : mx_H) (n : Int), mx_ex d 241 72 [l0, l1, l2] [v0] S h n = mx_ex d 241 74 [l0, l1, l2] [(0, 40), v0] S h n) ∧
  (∀ (d : Nat) (x0 a : Int) (l0 l1 l2 : Option mx_V) (S h : mx_H) (n : Int), mx_ex (d + 1) 241 74 [l0, l1, l2] [(0, x0), (2, a)] S h n = mx_cl (S a (-2) = 13) d 238 [(2, a), (0, x0)] 241 77 [l0, l1, l2] [] S h n) ∧
  (∀ (d : Nat) (l0 l1 l2 : Option mx_V) (S h : mx_H) (n : Int), mx_ex d 241 77 [l0, l1, l2] [] S h n = mx_ex d 241 78 [l0, l1, l2] [(0, 0)] S h n) ∧
  (∀ (d : Nat) (x : Int) (l1 l2 : Option mx_V) (v0 : mx_V) (S h : mx_H) (n : Int), mx_ex d 241 78 [some (2, x), l1, l2] [v0] S h n = mx_ex d 241 79 [some (2, x), l1, l2] [(2, x), v0] S h n) ∧
  (∀ (d : Nat) (l0 l1 l2 : Option mx_V) (v0 v1 : mx_V) (S h : mx_H) (n : Int), mx_ex d 241 79 [l0, l1, l2] [v0, v1] S h n = mx_ex d 241 80 [l0, l1, l2] [(0, 3), v0, v1] S h n) ∧
  (∀ (d : Nat) (x0 : Int) (l0 l1 l2 : Option mx_V) (v1 v2 : mx_V) (S h : mx_H) (n : Int), mx_ex (d + 1) 241 80 [l0, l1, l2] [(0, x0), v1, v2] S h n = mx_rt (mx_M d 239 [(0, x0)] S h n) (d + 1) 241 83 [l0, l1, l2] [v1, v2]) ∧
  (∀ (d : Nat) (x : Int) (l0 l1 : Option mx_V) (v0 v1 v2 : mx_V) (S h : mx_H) (n : Int), mx_ex d 241 83 [l0, l1, some (0, x)] [v0, v1, v2] S h n = mx_ex d 241 84 [l0, l1, some (0, x)] [(0, x), v0, v1, v2] S h n) ∧
  (∀ (d : Nat) (x0 x1 a : Int) (l0 l1 l2 : Option mx_V) (v3 : mx_V) (S h : mx_H) (n : Int), mx_ex (d + 1) 241 84 [l0, l1, l2] [(0, x0), (0, x1), (2, a), v3] S h n = mx_cl (S a (-2) = 13) d 241 [(2, a), (0, x1), (0, x0)] 241 87 [l0, l1, l2] [v3] S h n) ∧
  (∀ (d : Nat) (b a : Int) (l0 l1 l2 : Option mx_V) (S h : mx_H) (n : Int), mx_ex d 241 87 [l0, l1, l2] [(0, b), (0, a)] S h n = mx_ex d 241 88 [l0, l1, l2] [(0, mx_w (a - b))] S h n) ∧
  (∀ (d : Nat) (x : Int) (l0 l1 l2 : Option mx_V) (S h : mx_H) (n : Int), mx_ex d 241 88 [l0, l1, l2] [(0, x)] S h n = some (some (0, x), S, h, n)) ∧
  (∀ (d : Nat) (x : Int) (l1 l2 : Option mx_V) (S h : mx_H) (n : Int), mx_ex d 241 89 [some (2, x), l1, l2] [] S h n = mx_ex d 241 90 [some (2, x), l1, l2] [(2, x)] S h n) ∧
  (∀ (d : Nat) (l0 l1 l2 : Option mx_V) (v0 : mx_V) (S h : mx_H) (n : Int), mx_ex d 241 90 [l0, l1, l2] [v0] S h n = mx_ex d 241 92 [l0, l1, l2] [(0, 51), v0] S h n) ∧
  (∀ (d : Nat) (x0 a : Int) (l0 l1 l2 : Option mx_V) (S h : mx_H) (n : Int), mx_ex (d + 1) 241 92 [l0, l1, l2] [(0, x0), (2, a)] S h n = mx_cl (S a (-2) = 13) d 238 [(2, a), (0, x0)] 241 95 [l0, l1, l2] [] S h n) ∧
  (∀ (d : Nat) (x : Int) (l1 l2 : Option mx_V) (S h : mx_H) (n : Int), mx_ex d 241 95 [some (2, x), l1, l2] [] S h n = mx_ex d 241 96 [some (2, x), l1, l2] [(2, x)] S h n) ∧
  (∀ (d : Nat) (l0 l1 l2 : Option mx_V) (v0 : mx_V) (S h : mx_H) (n : Int), mx_ex d 241 96 [l0, l1, l2] [v0] S h n = mx_ex d 241 97 [l0, l1, l2] [(0, 5), v0] S h n) ∧
  (∀ (d : Nat) (x0 : Int) (l0 l1 l2 : Option mx_V) (v1 : mx_V) (S h : mx_H) (n : Int), mx_ex (d + 1) 241 97 [l0, l1, l2] [(0, x0), v1] S h n = mx_rt (mx_M d 239 [(0, x0)] S h n) (d + 1) 241 100 [l0, l1, l2] [v1]) ∧
  (∀ (d : Nat) (x : Int) (l0 l1 : Option mx_V) (v0 v1 : mx_V) (S h : mx_H) (n : Int), mx_ex d 241 100 [l0, l1, some (0, x)] [v0, v1] S h n = mx_ex d 241 101 [l0, l1, some (0, x)] [(0, x), v0, v1] S h n) ∧
  (∀ (d : Nat) (x0 x1 a : Int) (l0 l1 l2 : Option mx_V) (S h : mx_H) (n : Int), mx_ex (d + 1) 241 101 [l0, l1, l2] [(0, x0), (0, x1), (2, a)] S h n = mx_cl (S a (-2) = 13) d 241 [(2, a), (0, x1), (0, x0)] 241 104 [l0, l1, l2] [] S h n) ∧
  (∀ (d : Nat) (x : Int) (l1 l2 : Option mx_V) (v0 : mx_V) (S h : mx_H) (n : Int), mx_ex d 241 104 [some (2, x), l1, l2] [v0] S h n = mx_ex d 241 105 [some (2, x), l1, l2] [(2, x), v0] S h n) ∧
  (∀ (d : Nat) (a : Int) (l0 l1 l2 : Option mx_V) (v1 : mx_V) (S h : mx_H) (n : Int), mx_ex d 241 105 [l0, l1, l2] [(2, a), v1] S h n = mx_gd (13 ≤ S a (-2) ∧ S a (-2) ≤ 13) d 241 108 [l0, l1, l2] [(0, h a 23), v1] S h n) ∧
  (∀ (d : Nat) (b a : Int) (l0 l1 l2 : Option mx_V) (S h : mx_H) (n : Int), mx_ex d 241 108 [l0, l1, l2] [(0, b), (0, a)] S h n = mx_ex d 241 109 [l0, l1, l2] [(0, mx_w (a - b))] S h n) ∧
  (∀ (d : Nat) (x : Int) (l0 l1 l2 : Option mx_V) (S h : mx_H) (n : Int), mx_ex d 241 109 [l0, l1, l2] [(0, x)] S h n = some (some (0, x), S, h, n)) ∧
  (∀ (d : Nat) (x : Int) (l1 l2 : Option mx_V) (S h : mx_H) (n : Int), mx_ex d 241 110 [some (2, x), l1, l2] [] S h n = mx_ex d 241 111 [some (2, x), l1, l2] [(2, x)] S h n) ∧
  (∀ (d : Nat) (x : Int) (l0 l2 : Option mx_V) (v0 : mx_V) (S h : mx_H) (n : Int), mx_ex d 241 111 [l0, some (0, x), l2] [v0] S h n = mx_ex d 241 112 [l0, some (0, x), l2] [(0, x), v0] S h n) ∧
  (∀ (d : Nat) (x0 : Int) (l0 l1 l2 : Option mx_V) (v1 : mx_V) (S h : mx_H) (n : Int), mx_ex (d + 1) 241 112 [l0, l1, l2] [(0, x0), v1] S h n = mx_rt (mx_M d 239 [(0, x0)] S h n) (d + 1) 241 115 [l0, l1, l2] [v1]) ∧
  (∀ (d : Nat) (x : Int) (l0 l1 : Option mx_V) (v0 v1 : mx_V) (S h : mx_H) (n : Int), mx_ex d 241 115 [l0, l1, some (0, x)] [v0, v1] S h n = mx_ex d 241 116 [l0, l1, some (0, x)] [(0, x), v0, v1] S h n) ∧
  (∀ (d : Nat) (x0 x1 a : Int) (l0 l1 l2 : Option mx_V) (S h : mx_H) (n : Int), mx_ex (d + 1) 241 116 [l0, l1, l2] [(0, x0), (0, x1), (2, a)] S h n = mx_cl (S a (-2) = 13) d 241 [(2, a), (0, x1), (0, x0)] 241 119 [l0, l1, l2] [] S h n) ∧
  (∀ (d : Nat) (x : Int) (l0 l1 l2 : Option mx_V) (S h : mx_H) (n : Int), mx_ex d 241 119 [l0, l1, l2] [(0, x)] S h n = some (some (0, x), S, h, n)) :=
  ⟨by intros; exact rfl,
   by intros; exact eq_ld rfl rfl,
   by intros; exact eq_sw rfl,
   by intros; exact eq_ld rfl rfl,
   by intros; exact eq_push rfl,
   by intros; exact eq_cv rfl (Nat.le_of_ble_eq_true rfl) rfl rfl rfl (Nat.le_of_ble_eq_true rfl),
   by intros; exact eq_ld rfl rfl,
   by intros; exact eq_ld rfl rfl,
   by intros; exact eq_gi rfl,
   by intros; exact eq_i2 (o := mx_add) rfl,
   by intros; exact eq_ret rfl,
   by intros; exact eq_ld rfl rfl,
   by intros; exact eq_push rfl,
   by intros; exact eq_cv rfl (Nat.le_of_ble_eq_true rfl) rfl rfl rfl (Nat.le_of_ble_eq_true rfl),
   by intros; exact eq_ld rfl rfl,
   by intros; exact eq_push rfl,
   by intros; exact eq_cs rfl (Nat.le_of_ble_eq_true rfl) rfl rfl rfl (Nat.le_of_ble_eq_true rfl),
   by intros; exact eq_ld rfl rfl,
   by intros; exact eq_cv rfl (Nat.le_of_ble_eq_true rfl) rfl rfl rfl (Nat.le_of_ble_eq_true rfl),
   by intros; exact eq_push rfl,
   by intros; exact eq_i2 (o := mx_mul) rfl,
   by intros; exact eq_ret rfl,
   by intros; exact eq_ld rfl rfl,
   by intros; exact eq_push rfl,
   by intros; exact eq_cv rfl (Nat.le_of_ble_eq_true rfl) rfl rfl rfl (Nat.le_of_ble_eq_true rfl),
   by intros; exact eq_push rfl,
   by intros; exact eq_ld rfl rfl,
   by intros; exact eq_push rfl,
   by intros; exact eq_cs rfl (Nat.le_of_ble_eq_true rfl) rfl rfl rfl (Nat.le_of_ble_eq_true rfl),
   by intros; exact eq_ld rfl rfl,
   by intros; exact eq_cv rfl (Nat.le_of_ble_eq_true rfl) rfl rfl rfl (Nat.le_of_ble_eq_true rfl),
   by intros; exact eq_i2 (o := mx_sub) rfl,
   by intros; exact eq_ret rfl,
   by intros; exact eq_ld rfl rfl,
   by intros; exact eq_push rfl,
   by intros; exact eq_cv rfl (Nat.le_of_ble_eq_true rfl) rfl rfl rfl (Nat.le_of_ble_eq_true rfl),
   by intros; exact eq_ld rfl rfl,
   by intros; exact eq_push rfl,
   by intros; exact eq_cs rfl (Nat.le_of_ble_eq_true rfl) rfl rfl rfl (Nat.le_of_ble_eq_true rfl),
   by intros; exact eq_ld rfl rfl,
   by intros; exact eq_cv rfl (Nat.le_of_ble_eq_true rfl) rfl rfl rfl (Nat.le_of_ble_eq_true rfl),
   by intros; exact eq_ld rfl rfl,
   by intros; exact eq_gi rfl,
   by intros; exact eq_i2 (o := mx_sub) rfl,
   by intros; exact eq_ret rfl,
   by intros; exact eq_ld rfl rfl,
   by intros; exact eq_ld rfl rfl,
   by intros; exact eq_cs rfl (Nat.le_of_ble_eq_true rfl) rfl rfl rfl (Nat.le_of_ble_eq_true rfl),
   by intros; exact eq_ld rfl rfl,
   by intros; exact eq_cv rfl (Nat.le_of_ble_eq_true rfl) rfl rfl rfl (Nat.le_of_ble_eq_true rfl),
   by intros; exact eq_ret rfl⟩
theorem rw_X12_writes :
  (∀ (d : Nat) (a0 a1 a2 : Int) (S h : mx_H) (n : Int), mx_M d 242 [(2, a0), (0, a1), (0, a2)] S h n = mx_ex d 242 0 [some (2, a0), some (0, a1), some (0, a2), none] [] S h n) ∧
  (∀ (d : Nat) (l0 l1 l2 l3 : Option mx_V) (S h : mx_H) (n : Int), mx_ex d 242 0 [l0, l1, l2, l3] [] S h n = mx_ex d 242 1 [l0, l1, l2, l3] [(0, 0)] S h n) ∧
  (∀ (d : Nat) (x : Int) (l0 l1 l2 l3 : Option mx_V) (S h : mx_H) (n : Int), mx_ex d 242 1 [l0, l1, l2, l3] [(0, x)] S h n = mx_ex d 242 2 [l0, l1, mx_nl l2, some (0, x)] [] S h n) ∧
  (∀ (d : Nat) (x : Int) (l0 l2 l3 : Option mx_V) (S h : mx_H) (n : Int), mx_ex d 242 2 [l0, some (0, x), l2, l3] [] S h n = mx_ex d 242 3 [l0, some (0, x), l2, l3] [(0, x)] S h n) ∧
  (∀ (d : Nat) (a : Int) (l0 l1 l2 l3 : Option mx_V) (S h : mx_H) (n : Int), mx_ex d 242 3 [l0, l1, l2, l3] [(0, a)] S h n = mx_sw a [(0, 32), (1, 50), (2, 107), (3, 76)] d 242 107 [l0, l1, l2, l3] [] S h n) ∧
  (∀ (d : Nat) (x : Int) (l1 l2 l3 : Option mx_V) (S h : mx_H) (n : Int), mx_ex d 242 32 [some (2, x), l1, l2, l3] [] S h n = mx_ex d 242 33 [some (2, x), l1, l2, l3] [(2, x)] S h n) ∧
  (∀ (d : Nat) (l0 l1 l2 l3 : Option mx_V) (v0 : mx_V) (S h : mx_H) (n : Int), mx_ex d 242 33 [l0, l1, l2, l3] [v0] S h n = mx_ex d 242 35 [l0, l1, l2, l3] [(0, 11), v0] S h n) ∧
  (∀ (d : Nat) (x0 a : Int) (l0 l1 l2 l3 : Option mx_V) (S h : mx_H) (n : Int), mx_ex (d + 1) 242 35 [l0, l1, l2, l3] [(0, x0), (2, a)] S h n = mx_cl (S a (-2) = 13) d 238 [(2, a), (0, x0)] 242 38 [l0, l1, l2, l3] [] S h n) ∧
  (∀ (d : Nat) (x : Int) (l1 l2 l3 : Option mx_V) (S h : mx_H) (n : Int), mx_ex d 242 38 [some (2, x), l1, l2, l3] [] S h n = mx_ex d 242 39 [some (2, x), l1, l2, l3] [(2, x)] S h n) ∧
  (∀ (d : Nat) (x : Int) (l1 l2 l3 : Option mx_V) (v0 : mx_V) (S h : mx_H) (n : Int), mx_ex d 242 39 [some (2, x), l1, l2, l3] [v0] S h n = mx_ex d 242 40 [some (2, x), l1, l2, l3] [(2, x), v0] S h n) ∧
  (∀ (d : Nat) (a : Int) (l0 l1 l2 l3 : Option mx_V) (v1 : mx_V) (S h : mx_H) (n : Int), mx_ex (d + 1) 242 40 [l0, l1, l2, l3] [(2, a), v1] S h n = mx_cl (S a (-2) = 13) d 240 [(2, a)] 242 43 [l0, l1, l2, l3] [v1] S h n) ∧
  (∀ (d : Nat) (x : Int) (l0 l1 l3 : Option mx_V) (v0 v1 : mx_V) (S h : mx_H) (n : Int), mx_ex d 242 43 [l0, l1, some (0, x), l3] [v0, v1] S h n = mx_ex d 242 44 [l0, l1, some (0, x), l3] [(0, x), v0, v1] S h n) ∧
  (∀ (d : Nat) (x0 x1 a : Int) (l0 l1 l2 l3 : Option mx_V) (S h : mx_H) (n : Int), mx_ex (d + 1) 242 44 [l0, l1, l2, l3] [(0, x0), (0, x1), (2, a)] S h n = mx_cl (S a (-2) = 13) d 241 [(2, a), (0, x1), (0, x0)] 242 47 [l0, l1, l2, l3] [] S h n) ∧
  (∀ (d : Nat) (l0 l1 l2 l3 : Option mx_V) (v0 : mx_V) (S h : mx_H) (n : Int), mx_ex d 242 47 [l0, l1, l2, l3] [v0] S h n = mx_ex d 242 48 [l0, l1, l2, l3] [(0, 2), v0] S h n) ∧
  (∀ (d : Nat) (b a : Int) (l0 l1 l2 l3 : Option mx_V) (S h : mx_H) (n : Int), mx_ex d 242 48 [l0, l1, l2, l3] [(0, b), (0, a)] S h n = mx_ex d 242 49 [l0, l1, l2, l3] [(0, mx_w (a * b))] S h n) ∧
  (∀ (d : Nat) (x : Int) (l0 l1 l2 l3 : Option mx_V) (S h : mx_H) (n : Int), mx_ex d 242 49 [l0, l1, l2, l3] [(0, x)] S h n = some (some (0, x), S, h, n)) ∧
  (∀ (d : Nat) (x : Int) (l1 l2 l3 : Option mx_V) (S h : mx_H) (n : Int), mx_ex d 242 50 [some (2, x), l1, l2, l3] [] S h n = mx_ex d 242 51 [some (2, x), l1, l2, l3] [(2, x)] S h n) ∧
  (∀ (d : Nat) (l0 l1 l2 l3 : Option mx_V) (v0 : mx_V) (S h : mx_H) (n : Int), mx_ex d 242 51 [l0, l1, l2, l3] [v0] S h n = mx_ex d 242 53 [l0, l1, l2, l3] [(0, 20), v0] S h n) ∧
  (∀ (d : Nat) (x0 a : Int) (l0 l1 l2 l3 : Option mx_V) (S h : mx_H) (n : Int), mx_ex (d + 1) 242 53 [l0, l1, l2, l3] [(0, x0), (2, a)] S h n = mx_cl (S a (-2) = 13) d 238 [(2, a), (0, x0)] 242 56 [l0, l1, l2, l3] [] S h n) ∧
  (∀ (d : Nat) (x : Int) (l1 l2 l3 : Option mx_V) (S h : mx_H) (n : Int), mx_ex d 242 56 [some (2, x), l1, l2, l3] [] S h n = mx_ex d 242 57 [some (2, x), l1, l2, l3] [(2, x)] S h n) ∧
  (∀ (d : Nat) (l0 l1 l2 l3 : Option mx_V) (v0 : mx_V) (S h : mx_H) (n : Int), mx_ex d 242 57 [l0, l1, l2, l3] [v0] S h n = mx_ex d 242 58 [l0, l1, l2, l3] [(0, 1), v0] S h n) ∧
  (∀ (d : Nat) (x0 : Int) (l0 l1 l2 l3 : Option mx_V) (v1 : mx_V) (S h : mx_H) (n : Int), mx_ex (d + 1) 242 58 [l0, l1, l2, l3] [(0, x0), v1] S h n = mx_rt (mx_M d 239 [(0, x0)] S h n) (d + 1) 242 61 [l0, l1, l2, l3] [v1]) ∧
  (∀ (d : Nat) (x : Int) (l0 l1 l3 : Option mx_V) (v0 v1 : mx_V) (S h : mx_H) (n : Int), mx_ex d 242 61 [l0, l1, some (0, x), l3] [v0, v1] S h n = mx_ex d 242 62 [l0, l1, some (0, x), l3] [(0, x), v0, v1] S h n) ∧
  (∀ (d : Nat) (x0 x1 a : Int) (l0 l1 l2 l3 : Option mx_V) (S h : mx_H) (n : Int), mx_ex (d + 1) 242 62 [l0, l1, l2, l3] [(0, x0), (0, x1), (2, a)] S h n = mx_cl (S a (-2) = 13) d 242 [(2, a), (0, x1), (0, x0)] 242 65 [l0, l1, l2, l3] [] S h n) ∧
  (∀ (d : Nat) (x : Int) (l1 l2 l3 : Option mx_V) (v0 : mx_V) (S h : mx_H) (n : Int), mx_ex d 242 65 [some (2, x), l1, l2, l3] [v0] S h n = mx_ex d 242 66 [some (2, x), l1, l2, l3] [(2, x), v0] S h n) ∧
  (∀ (d : Nat) (x : Int) (l1 l2 l3 : Option mx_V) (v0 v1 : mx_V) (S h : mx_H) (n : Int), mx_ex d 242 66 [some (2, x), l1, l2, l3] [v0, v1] S h n = mx_ex d 242 67 [some (2, x), l1, l2, l3] [(2, x), v0, v1] S h n) ∧
  (∀ (d : Nat) (a : Int) (l0 l1 l2 l3 : Option mx_V) (v1 v2 : mx_V) (S h : mx_H) (n : Int), mx_ex d 242 67 [l0, l1, l2, l3] [(2, a), v1, v2] S h n = mx_gd (13 ≤ S a (-2) ∧ S a (-2) ≤ 13) d 242 70 [l0, l1, l2, l3] [(0, h a 23), v1, v2] S h n) ∧
  (∀ (d : Nat) (l0 l1 l2 l3 : Option mx_V) (v0 v1 v2 : mx_V) (S h : mx_H) (n : Int), mx_ex d 242 70 [l0, l1, l2, l3] [v0, v1, v2] S h n = mx_ex d 242 71 [l0, l1, l2, l3] [(0, 2), v0, v1, v2] S h n) ∧
  (∀ (d : Nat) (x0 x1 a : Int) (l0 l1 l2 l3 : Option mx_V) (v3 : mx_V) (S h : mx_H) (n : Int), mx_ex (d + 1) 242 71 [l0, l1, l2, l3] [(0, x0), (0, x1), (2, a), v3] S h n = mx_cl (S a (-2) = 13) d 163 [(2, a), (0, x1), (0, x0)] 242 74 [l0, l1, l2, l3] [v3] S h n) ∧
  (∀ (d : Nat) (b a : Int) (l0 l1 l2 l3 : Option mx_V) (S h : mx_H) (n : Int), mx_ex d 242 74 [l0, l1, l2, l3] [(0, b), (0, a)] S h n = mx_ex d 242 75 [l0, l1, l2, l3] [(0, mx_w (a - b))] S h n) ∧
  (∀ (d : Nat) (x : Int) (l0 l1 l2 l3 : Option mx_V) (S h : mx_H) (n : Int), mx_ex d 242 75 [l0, l1, l2, l3] [(0, x)] S h n = some (some (0, x), S, h, n)) ∧
  (∀ (d : Nat) (x : Int) (l1 l2 l3 : Option mx_V) (S h : mx_H) (n : Int), mx_ex d 242 76 [some (2, x), l1, l2, l3] [] S h n = mx_ex d 242 77 [some (2, x), l1, l2, l3] [(2, x)] S h n) ∧
  (∀ (d : Nat) (l0 l1 l2 l3 : Option mx_V) (v0 : mx_V) (S h : mx_H) (n : Int), mx_ex d 242 77 [l0, l1, l2, l3] [v0] S h n = mx_ex d 242 79 [l0, l1, l2, l3] [(0, 41), v0] S h n) ∧
  (∀ (d : Nat) (x0 a : Int) (l0 l1 l2 l3 : Option mx_V) (S h : mx_H) (n : Int), mx_ex (d + 1) 242 79 [l0, l1, l2, l3] [(0, x0), (2, a)] S h n = mx_cl (S a (-2) = 13) d 238 [(2, a), (0, x0)] 242 82 [l0, l1, l2, l3] [] S h n) ∧
  (∀ (d : Nat) (x : Int) (l1 l2 l3 : Option mx_V) (S h : mx_H) (n : Int), mx_ex d 242 82 [some (2, x), l1, l2, l3] [] S h n = mx_ex d 242 83 [some (2, x), l1, l2, l3] [(2, x)] S h n) ∧
  (∀ (d : Nat) (l0 l1 l2 l3 : Option mx_V) (v0 : mx_V) (S h : mx_H) (n : Int), mx_ex d 242 83 [l0, l1, l2, l3] [v0] S h n = mx_ex d 242 84 [l0, l1, l2, l3] [(0, 3), v0] S h n) ∧
  (∀ (d : Nat) (x0 : Int) (l0 l1 l2 l3 : Option mx_V) (v1 : mx_V) (S h : mx_H) (n : Int), mx_ex (d + 1) 242 84 [l0, l1, l2, l3] [(0, x0), v1] S h n = mx_rt (mx_M d 239 [(0, x0)] S h n) (d + 1) 242 87 [l0, l1, l2, l3] [v1]) ∧
  (∀ (d : Nat) (x : Int) (l0 l1 l3 : Option mx_V) (v0 v1 : mx_V) (S h : mx_H) (n : Int), mx_ex d 242 87 [l0, l1, some (0, x), l3] [v0, v1] S h n = mx_ex d 242 88 [l0, l1, some (0, x), l3] [(0, x), v0, v1] S h n) ∧
  (∀ (d : Nat) (x0 x1 a : Int) (l0 l1 l2 l3 : Option mx_V) (S h : mx_H) (n : Int), mx_ex (d + 1) 242 88 [l0, l1, l2, l3] [(0, x0), (0, x1), (2, a)] S h n = mx_cl (S a (-2) = 13) d 242 [(2, a), (0, x1), (0, x0)] 242 91 [l0, l1, l2, l3] [] S h n) ∧
  (∀ (d : Nat) (x : Int) (l0 l1 l2 l3 : Option mx_V) (S h : mx_H) (n : Int), mx_ex d 242 91 [l0, l1, l2, l3] [(0, x)] S h n = mx_ex d 242 92 [l0, l1, mx_nl l2, some (0, x)] [] S h n) ∧
  (∀ (d : Nat) (x : Int) (l0 l1 l2 : Option mx_V) (S h : mx_H) (n : Int), mx_ex d 242 92 [l0, l1, l2, some (0, x)] [] S h n = mx_ex d 242 93 [l0, l1, l2, some (0, x)] [(0, x)] S h n) ∧
  (∀ (d : Nat) (x : Int) (l1 l2 l3 : Option mx_V) (v0 : mx_V) (S h : mx_H) (n : Int), mx_ex d 242 93 [some (2, x), l1, l2, l3] [v0] S h n = mx_ex d 242 94 [some (2, x), l1, l2, l3] [(2, x), v0] S h n) ∧
  (∀ (d : Nat) (x : Int) (l1 l2 l3 : Option mx_V) (v0 v1 : mx_V) (S h : mx_H) (n : Int), mx_ex d 242 94 [some (2, x), l1, l2, l3] [v0, v1] S h n = mx_ex d 242 95 [some (2, x), l1, l2, l3] [(2, x), v0, v1] S h n) ∧
  (∀ (d : Nat) (a : Int) (l0 l1 l2 l3 : Option mx_V) (v1 v2 : mx_V) (S h : mx_H) (n : Int), mx_ex (d + 1) 242 95 [l0, l1, l2, l3] [(2, a), v1, v2] S h n = mx_cl (S a (-2) = 13) d 240 [(2, a)] 242 98 [l0, l1, l2, l3] [v1, v2] S h n) ∧
  (∀ (d : Nat) (x : Int) (l1 l2 l3 : Option mx_V) (v0 v1 v2 : mx_V) (S h : mx_H) (n : Int), mx_ex d 242 98 [some (2, x), l1, l2, l3] [v0, v1, v2] S h n = mx_ex d 242 99 [some (2, x), l1, l2, l3] [(2, x), v0, v1, v2] S h n) ∧
  (∀ (d : Nat) (a : Int) (l0 l1 l2 l3 : Option mx_V) (v1 v2 v3 : mx_V) (S h : mx_H) (n : Int), mx_ex d 242 99 [l0, l1, l2, l3] [(2, a), v1, v2, v3] S h n = mx_gd (13 ≤ S a (-2) ∧ S a (-2) ≤ 13) d 242 102 [l0, l1, l2, l3] [(0, h a 23), v1, v2, v3] S h n) ∧
  (∀ (d : Nat) (x0 x1 a : Int) (l0 l1 l2 l3 : Option mx_V) (v3 : mx_V) (S h : mx_H) (n : Int), mx_ex (d + 1) 242 102 [l0, l1, l2, l3] [(0, x0), (0, x1), (2, a), v3] S h n = mx_cl (S a (-2) = 13) d 241 [(2, a), (0, x1), (0, x0)] 242 105 [l0, l1, l2, l3] [v3] S h n) ∧
  (∀ (d : Nat) (b a : Int) (l0 l1 l2 l3 : Option mx_V) (S h : mx_H) (n : Int), mx_ex d 242 105 [l0, l1, l2, l3] [(0, b), (0, a)] S h n = mx_ex d 242 106 [l0, l1, l2, l3] [(0, mx_w (a + b))] S h n) ∧
  (∀ (d : Nat) (x : Int) (l0 l1 l2 l3 : Option mx_V) (S h : mx_H) (n : Int), mx_ex d 242 106 [l0, l1, l2, l3] [(0, x)] S h n = some (some (0, x), S, h, n)) ∧
  (∀ (d : Nat) (x : Int) (l1 l2 l3 : Option mx_V) (S h : mx_H) (n : Int), mx_ex d 242 107 [some (2, x), l1, l2, l3] [] S h n = mx_ex d 242 108 [some (2, x), l1, l2, l3] [(2, x)] S h n) ∧
  (∀ (d : Nat) (x : Int) (l0 l2 l3 : Option mx_V) (v0 : mx_V) (S h : mx_H) (n : Int), mx_ex d 242 108 [l0, some (0, x), l2, l3] [v0] S h n = mx_ex d 242 109 [l0, some (0, x), l2, l3] [(0, x), v0] S h n) ∧
  (∀ (d : Nat) (x0 : Int) (l0 l1 l2 l3 : Option mx_V) (v1 : mx_V) (S h : mx_H) (n : Int), mx_ex (d + 1) 242 109 [l0, l1, l2, l3] [(0, x0), v1] S h n = mx_rt (mx_M d 239 [(0, x0)] S h n) (d + 1) 242 112 [l0, l1, l2, l3] [v1]) ∧
  (∀ (d : Nat) (x : Int) (l0 l1 l3 : Option mx_V) (v0 v1 : mx_V) (S h : mx_H) (n : Int), mx_ex d 242 112 [l0, l1, some (0, x), l3] [v0, v1] S h n = mx_ex d 242 113 [l0, l1, some (0, x), l3] [(0, x), v0, v1] S h n) ∧
  (∀ (d : Nat) (x0 x1 a : Int) (l0 l1 l2 l3 : Option mx_V) (S h : mx_H) (n : Int), mx_ex (d + 1) 242 113 [l0, l1, l2, l3] [(0, x0), (0, x1), (2, a)] S h n = mx_cl (S a (-2) = 13) d 242 [(2, a), (0, x1), (0, x0)] 242 116 [l0, l1, l2, l3] [] S h n) ∧
  (∀ (d : Nat) (x : Int) (l0 l1 l2 l3 : Option mx_V) (S h : mx_H) (n : Int), mx_ex d 242 116 [l0, l1, l2, l3] [(0, x)] S h n = some (some (0, x), S, h, n)) :=
  ⟨by intros; exact rfl,
   by intros; exact eq_push rfl,
   by intros; exact eq_st rfl (by decide) (Nat.le_of_ble_eq_true rfl) rfl,
   by intros; exact eq_ld rfl rfl,
   by intros; exact eq_sw rfl,
   by intros; exact eq_ld rfl rfl,
   by intros; exact eq_push rfl,
   by intros; exact eq_cv rfl (Nat.le_of_ble_eq_true rfl) rfl rfl rfl (Nat.le_of_ble_eq_true rfl),
   by intros; exact eq_ld rfl rfl,
   by intros; exact eq_ld rfl rfl,
   by intros; exact eq_cv rfl (Nat.le_of_ble_eq_true rfl) rfl rfl rfl (Nat.le_of_ble_eq_true rfl),
   by intros; exact eq_ld rfl rfl,
   by intros; exact eq_cv rfl (Nat.le_of_ble_eq_true rfl) rfl rfl rfl (Nat.le_of_ble_eq_true rfl),
   by intros; exact eq_push rfl,
   by intros; exact eq_i2 (o := mx_mul) rfl,
   by intros; exact eq_ret rfl,
   by intros; exact eq_ld rfl rfl,
   by intros; exact eq_push rfl,
   by intros; exact eq_cv rfl (Nat.le_of_ble_eq_true rfl) rfl rfl rfl (Nat.le_of_ble_eq_true rfl),
   by intros; exact eq_ld rfl rfl,
   by intros; exact eq_push rfl,
   by intros; exact eq_cs rfl (Nat.le_of_ble_eq_true rfl) rfl rfl rfl (Nat.le_of_ble_eq_true rfl),
   by intros; exact eq_ld rfl rfl,
   by intros; exact eq_cv rfl (Nat.le_of_ble_eq_true rfl) rfl rfl rfl (Nat.le_of_ble_eq_true rfl),
   by intros; exact eq_ld rfl rfl,
   by intros; exact eq_ld rfl rfl,
   by intros; exact eq_gi rfl,
   by intros; exact eq_push rfl,
   by intros; exact eq_cv rfl (Nat.le_of_ble_eq_true rfl) rfl rfl rfl (Nat.le_of_ble_eq_true rfl),
   by intros; exact eq_i2 (o := mx_sub) rfl,
   by intros; exact eq_ret rfl,
   by intros; exact eq_ld rfl rfl,
   by intros; exact eq_push rfl,
   by intros; exact eq_cv rfl (Nat.le_of_ble_eq_true rfl) rfl rfl rfl (Nat.le_of_ble_eq_true rfl),
   by intros; exact eq_ld rfl rfl,
   by intros; exact eq_push rfl,
   by intros; exact eq_cs rfl (Nat.le_of_ble_eq_true rfl) rfl rfl rfl (Nat.le_of_ble_eq_true rfl),
   by intros; exact eq_ld rfl rfl,
   by intros; exact eq_cv rfl (Nat.le_of_ble_eq_true rfl) rfl rfl rfl (Nat.le_of_ble_eq_true rfl),
   by intros; exact eq_st rfl (by decide) (Nat.le_of_ble_eq_true rfl) rfl,
   by intros; exact eq_ld rfl rfl,
   by intros; exact eq_ld rfl rfl,
   by intros; exact eq_ld rfl rfl,
   by intros; exact eq_cv rfl (Nat.le_of_ble_eq_true rfl) rfl rfl rfl (Nat.le_of_ble_eq_true rfl),
   by intros; exact eq_ld rfl rfl,
   by intros; exact eq_gi rfl,
   by intros; exact eq_cv rfl (Nat.le_of_ble_eq_true rfl) rfl rfl rfl (Nat.le_of_ble_eq_true rfl),
   by intros; exact eq_i2 (o := mx_add) rfl,
   by intros; exact eq_ret rfl,
   by intros; exact eq_ld rfl rfl,
   by intros; exact eq_ld rfl rfl,
   by intros; exact eq_cs rfl (Nat.le_of_ble_eq_true rfl) rfl rfl rfl (Nat.le_of_ble_eq_true rfl),
   by intros; exact eq_ld rfl rfl,
   by intros; exact eq_cv rfl (Nat.le_of_ble_eq_true rfl) rfl rfl rfl (Nat.le_of_ble_eq_true rfl),
   by intros; exact eq_ret rfl⟩
theorem rw_X12_shares :
  (∀ (d : Nat) (a0 a1 a2 : Int) (S h : mx_H) (n : Int), mx_M d 243 [(2, a0), (0, a1), (0, a2)] S h n = mx_ex d 243 0 [some (2, a0), some (0, a1), some (0, a2), none, none] [] S h n) ∧
  (∀ (d : Nat) (l0 l1 l2 l3 l4 : Option mx_V) (S h : mx_H) (n : Int), mx_ex d 243 0 [l0, l1, l2, l3, l4] [] S h n = mx_ex d 243 1 [l0, l1, l2, l3, l4] [(0, 0)] S h n) ∧
  (∀ (d : Nat) (x : Int) (l0 l1 l2 l3 l4 : Option mx_V) (S h : mx_H) (n : Int), mx_ex d 243 1 [l0, l1, l2, l3, l4] [(0, x)] S h n = mx_ex d 243 2 [l0, l1, mx_nl l2, some (0, x), l4] [] S h n) ∧
  (∀ (d : Nat) (x : Int) (l0 l2 l3 l4 : Option mx_V) (S h : mx_H) (n : Int), mx_ex d 243 2 [l0, some (0, x), l2, l3, l4] [] S h n = mx_ex d 243 3 [l0, some (0, x), l2, l3, l4] [(0, x)] S h n) ∧
  (∀ (d : Nat) (a : Int) (l0 l1 l2 l3 l4 : Option mx_V) (S h : mx_H) (n : Int), mx_ex d 243 3 [l0, l1, l2, l3, l4] [(0, a)] S h n = mx_sw a [(0, 36), (4, 104), (5, 151)] d 243 171 [l0, l1, l2, l3, l4] [] S h n) ∧
  (∀ (d : Nat) (x : Int) (l1 l2 l3 l4 : Option mx_V) (S h : mx_H) (n : Int), mx_ex d 243 36 [some (2, x), l1, l2, l3, l4] [] S h n = mx_ex d 243 37 [some (2, x), l1, l2, l3, l4] [(2, x)] S h n) ∧
  (∀ (d : Nat) (l0 l1 l2 l3 l4 : Option mx_V) (v0 : mx_V) (S h : mx_H) (n : Int), mx_ex d 243 37 [l0, l1, l2, l3, l4] [v0] S h n = mx_ex d 243 39 [l0, l1, l2, l3, l4] [(0, 12), v0] S h n) ∧
  (∀ (d : Nat) (x0 a : Int) (l0 l1 l2 l3 l4 : Option mx_V) (S h : mx_H) (n : Int), mx_ex (d + 1) 243 39 [l0, l1, l2, l3, l4] [(0, x0), (2, a)] S h n = mx_cl (S a (-2) = 13) d 238 [(2, a), (0, x0)] 243 42 [l0, l1, l2, l3, l4] [] S h n) ∧
  (∀ (d : Nat) (x : Int) (l1 l2 l3 l4 : Option mx_V) (S h : mx_H) (n : Int), mx_ex d 243 42 [some (2, x), l1, l2, l3, l4] [] S h n = mx_ex d 243 43 [some (2, x), l1, l2, l3, l4] [(2, x)] S h n) ∧
  (∀ (d : Nat) (x : Int) (l1 l2 l3 l4 : Option mx_V) (v0 : mx_V) (S h : mx_H) (n : Int), mx_ex d 243 43 [some (2, x), l1, l2, l3, l4] [v0] S h n = mx_ex d 243 44 [some (2, x), l1, l2, l3, l4] [(2, x), v0] S h n) ∧
  (∀ (d : Nat) (a : Int) (l0 l1 l2 l3 l4 : Option mx_V) (v1 : mx_V) (S h : mx_H) (n : Int), mx_ex d 243 44 [l0, l1, l2, l3, l4] [(2, a), v1] S h n = mx_gd (13 ≤ S a (-2) ∧ S a (-2) ≤ 13) d 243 47 [l0, l1, l2, l3, l4] [(0, h a 23), v1] S h n) ∧
  (∀ (d : Nat) (l0 l1 l2 l3 l4 : Option mx_V) (v0 v1 : mx_V) (S h : mx_H) (n : Int), mx_ex d 243 47 [l0, l1, l2, l3, l4] [v0, v1] S h n = mx_ex d 243 48 [l0, l1, l2, l3, l4] [(0, 2), v0, v1] S h n) ∧
  (∀ (d : Nat) (x0 x1 a : Int) (l0 l1 l2 l3 l4 : Option mx_V) (S h : mx_H) (n : Int), mx_ex (d + 1) 243 48 [l0, l1, l2, l3, l4] [(0, x0), (0, x1), (2, a)] S h n = mx_cl (S a (-2) = 13) d 163 [(2, a), (0, x1), (0, x0)] 243 51 [l0, l1, l2, l3, l4] [] S h n) ∧
  (∀ (d : Nat) (x : Int) (l1 l2 l3 l4 : Option mx_V) (v0 : mx_V) (S h : mx_H) (n : Int), mx_ex d 243 51 [some (2, x), l1, l2, l3, l4] [v0] S h n = mx_ex d 243 52 [some (2, x), l1, l2, l3, l4] [(2, x), v0] S h n) ∧
  (∀ (d : Nat) (a : Int) (l0 l1 l2 l3 l4 : Option mx_V) (v1 : mx_V) (S h : mx_H) (n : Int), mx_ex d 243 52 [l0, l1, l2, l3, l4] [(2, a), v1] S h n = mx_gd (13 ≤ S a (-2) ∧ S a (-2) ≤ 13) d 243 55 [l0, l1, l2, l3, l4] [(0, h a 23), v1] S h n) ∧
  (∀ (d : Nat) (b a : Int) (l0 l1 l2 l3 l4 : Option mx_V) (S h : mx_H) (n : Int), mx_ex d 243 55 [l0, l1, l2, l3, l4] [(0, b), (0, a)] S h n = mx_ex d 243 56 [l0, l1, l2, l3, l4] [(0, mx_w (a - b))] S h n) ∧
  (∀ (d : Nat) (x : Int) (l0 l1 l2 l3 l4 : Option mx_V) (S h : mx_H) (n : Int), mx_ex d 243 56 [l0, l1, l2, l3, l4] [(0, x)] S h n = mx_ex d 243 58 [l0, l1, l2, mx_nl l3, some (0, x)] [] S h n) ∧
  (∀ (d : Nat) (x : Int) (l1 l2 l3 l4 : Option mx_V) (S h : mx_H) (n : Int), mx_ex d 243 58 [some (2, x), l1, l2, l3, l4] [] S h n = mx_ex d 243 59 [some (2, x), l1, l2, l3, l4] [(2, x)] S h n) ∧
  (∀ (d : Nat) (x : Int) (l1 l2 l3 l4 : Option mx_V) (v0 : mx_V) (S h : mx_H) (n : Int), mx_ex d 243 59 [some (2, x), l1, l2, l3, l4] [v0] S h n = mx_ex d 243 60 [some (2, x), l1, l2, l3, l4] [(2, x), v0] S h n) ∧
  (∀ (d : Nat) (a : Int) (l0 l1 l2 l3 l4 : Option mx_V) (v1 : mx_V) (S h : mx_H) (n : Int), mx_ex d 243 60 [l0, l1, l2, l3, l4] [(2, a), v1] S h n = mx_gd (13 ≤ S a (-2) ∧ S a (-2) ≤ 13) d 243 63 [l0, l1, l2, l3, l4] [(0, h a 24), v1] S h n) ∧
  (∀ (d : Nat) (a : Int) (l0 l1 l2 l3 l4 : Option mx_V) (v1 : mx_V) (S h : mx_H) (n : Int), mx_ex d 243 63 [l0, l1, l2, l3, l4] [(0, a), v1] S h n = mx_br (a = 0) d 243 66 71 [l0, l1, l2, l3, l4] [v1] S h n) ∧
  (∀ (d : Nat) (x : Int) (l0 l1 l2 l3 : Option mx_V) (v0 : mx_V) (S h : mx_H) (n : Int), mx_ex d 243 66 [l0, l1, l2, l3, some (0, x)] [v0] S h n = mx_ex d 243 68 [l0, l1, l2, l3, some (0, x)] [(0, x), v0] S h n) ∧
  (∀ (d : Nat) (a : Int) (l0 l1 l2 l3 l4 : Option mx_V) (v1 : mx_V) (S h : mx_H) (n : Int), mx_ex d 243 68 [l0, l1, l2, l3, l4] [(0, a), v1] S h n = mx_br (a = 0) d 243 71 75 [l0, l1, l2, l3, l4] [v1] S h n) ∧
  (∀ (d : Nat) (l0 l1 l2 l3 l4 : Option mx_V) (v0 : mx_V) (S h : mx_H) (n : Int), mx_ex d 243 71 [l0, l1, l2, l3, l4] [v0] S h n = mx_ex d 243 72 [l0, l1, l2, l3, l4] [(0, 1), v0] S h n) ∧
  (∀ (d : Nat) (l0 l1 l2 l3 l4 : Option mx_V) (v0 v1 : mx_V) (S h : mx_H) (n : Int), mx_ex d 243 72 [l0, l1, l2, l3, l4] [v0, v1] S h n = mx_ex d 243 76 [l0, l1, l2, l3, l4] [v0, v1] S h n) ∧
  (∀ (d : Nat) (l0 l1 l2 l3 l4 : Option mx_V) (v0 : mx_V) (S h : mx_H) (n : Int), mx_ex d 243 75 [l0, l1, l2, l3, l4] [v0] S h n = mx_ex d 243 76 [l0, l1, l2, l3, l4] [(0, 0), v0] S h n) ∧
  (∀ (d : Nat) (v a : Int) (l0 l1 l2 l3 l4 : Option mx_V) (S h : mx_H) (n : Int), mx_ex d 243 76 [l0, l1, l2, l3, l4] [(0, v), (2, a)] S h n = mx_gd (13 ≤ S a (-2) ∧ S a (-2) ≤ 13 ∧ 0 ≤ v ∧ v ≤ 1) d 243 79 [l0, l1, l2, l3, l4] [] S (mx_u h a 24 v) n) ∧
  (∀ (d : Nat) (x : Int) (l0 l1 l2 l3 : Option mx_V) (S h : mx_H) (n : Int), mx_ex d 243 79 [l0, l1, l2, l3, some (0, x)] [] S h n = mx_ex d 243 81 [l0, l1, l2, l3, some (0, x)] [(0, x)] S h n) ∧
  (∀ (d : Nat) (a : Int) (l0 l1 l2 l3 l4 : Option mx_V) (S h : mx_H) (n : Int), mx_ex d 243 81 [l0, l1, l2, l3, l4] [(0, a)] S h n = mx_br (a = 0) d 243 84 88 [l0, l1, l2, l3, l4] [] S h n) ∧
  (∀ (d : Nat) (l0 l1 l2 l3 l4 : Option mx_V) (S h : mx_H) (n : Int), mx_ex d 243 84 [l0, l1, l2, l3, l4] [] S h n = mx_ex d 243 85 [l0, l1, l2, l3, l4] [(0, 0)] S h n) ∧
  (∀ (d : Nat) (l0 l1 l2 l3 l4 : Option mx_V) (v0 : mx_V) (S h : mx_H) (n : Int), mx_ex d 243 85 [l0, l1, l2, l3, l4] [v0] S h n = mx_ex d 243 103 [l0, l1, l2, l3, l4] [v0] S h n) ∧
  (∀ (d : Nat) (x : Int) (l0 l1 l2 l3 : Option mx_V) (S h : mx_H) (n : Int), mx_ex d 243 88 [l0, l1, l2, l3, some (0, x)] [] S h n = mx_ex d 243 90 [l0, l1, l2, l3, some (0, x)] [(0, x)] S h n) ∧
  (∀ (d : Nat) (l0 l1 l2 l3 l4 : Option mx_V) (v0 : mx_V) (S h : mx_H) (n : Int), mx_ex d 243 90 [l0, l1, l2, l3, l4] [v0] S h n = mx_ex d 243 91 [l0, l1, l2, l3, l4] [(0, (-1)), v0] S h n) ∧
  (∀ (d : Nat) (b a : Int) (l0 l1 l2 l3 l4 : Option mx_V) (S h : mx_H) (n : Int), mx_ex d 243 91 [l0, l1, l2, l3, l4] [(0, b), (0, a)] S h n = mx_br (a = b) d 243 94 99 [l0, l1, l2, l3, l4] [] S h n) ∧
  (∀ (d : Nat) (x : Int) (l0 l1 l3 l4 : Option mx_V) (S h : mx_H) (n : Int), mx_ex d 243 94 [l0, l1, some (0, x), l3, l4] [] S h n = mx_ex d 243 95 [l0, l1, some (0, x), l3, l4] [(0, x)] S h n) ∧
  (∀ (d : Nat) (a : Int) (l0 l1 l2 l3 l4 : Option mx_V) (S h : mx_H) (n : Int), mx_ex d 243 95 [l0, l1, l2, l3, l4] [(0, a)] S h n = mx_ex d 243 96 [l0, l1, l2, l3, l4] [(0, mx_w (-a))] S h n) ∧
  (∀ (d : Nat) (l0 l1 l2 l3 l4 : Option mx_V) (v0 : mx_V) (S h : mx_H) (n : Int), mx_ex d 243 96 [l0, l1, l2, l3, l4] [v0] S h n = mx_ex d 243 103 [l0, l1, l2, l3, l4] [v0] S h n) ∧
  (∀ (d : Nat) (x : Int) (l0 l1 l3 l4 : Option mx_V) (S h : mx_H) (n : Int), mx_ex d 243 99 [l0, l1, some (0, x), l3, l4] [] S h n = mx_ex d 243 100 [l0, l1, some (0, x), l3, l4] [(0, x)] S h n) ∧
  (∀ (d : Nat) (x : Int) (l0 l1 l2 l3 : Option mx_V) (v0 : mx_V) (S h : mx_H) (n : Int), mx_ex d 243 100 [l0, l1, l2, l3, some (0, x)] [v0] S h n = mx_ex d 243 102 [l0, l1, l2, l3, some (0, x)] [(0, x), v0] S h n) ∧
  (∀ (d : Nat) (b a : Int) (l0 l1 l2 l3 l4 : Option mx_V) (S h : mx_H) (n : Int), mx_ex d 243 102 [l0, l1, l2, l3, l4] [(0, b), (0, a)] S h n = mx_gd (¬ b = 0) d 243 103 [l0, l1, l2, l3, l4] [(0, mx_w (Int.tdiv a b))] S h n) ∧
  (∀ (d : Nat) (x : Int) (l0 l1 l2 l3 l4 : Option mx_V) (S h : mx_H) (n : Int), mx_ex d 243 103 [l0, l1, l2, l3, l4] [(0, x)] S h n = some (some (0, x), S, h, n)) ∧
  (∀ (d : Nat) (x : Int) (l1 l2 l3 l4 : Option mx_V) (S h : mx_H) (n : Int), mx_ex d 243 104 [some (2, x), l1, l2, l3, l4] [] S h n = mx_ex d 243 105 [some (2, x), l1, l2, l3, l4] [(2, x)] S h n) ∧
  (∀ (d : Nat) (l0 l1 l2 l3 l4 : Option mx_V) (v0 : mx_V) (S h : mx_H) (n : Int), mx_ex d 243 105 [l0, l1, l2, l3, l4] [v0] S h n = mx_ex d 243 107 [l0, l1, l2, l3, l4] [(0, 61), v0] S h n) ∧
  (∀ (d : Nat) (x0 a : Int) (l0 l1 l2 l3 l4 : Option mx_V) (S h : mx_H) (n : Int), mx_ex (d + 1) 243 107 [l0, l1, l2, l3, l4] [(0, x0), (2, a)] S h n = mx_cl (S a (-2) = 13) d 238 [(2, a), (0, x0)] 243 110 [l0, l1, l2, l3, l4] [] S h n) ∧
  (∀ (d : Nat) (x : Int) (l1 l2 l3 l4 : Option mx_V) (S h : mx_H) (n : Int), mx_ex d 243 110 [some (2, x), l1, l2, l3, l4] [] S h n = mx_ex d 243 111 [some (2, x), l1, l2, l3, l4] [(2, x)] S h n) ∧
  (∀ (d : Nat) (l0 l1 l2 l3 l4 : Option mx_V) (v0 : mx_V) (S h : mx_H) (n : Int), mx_ex d 243 111 [l0, l1, l2, l3, l4] [v0] S h n = mx_ex d 243 112 [l0, l1, l2, l3, l4] [(0, 4), v0] S h n) ∧
  (∀ (d : Nat) (x0 : Int) (l0 l1 l2 l3 l4 : Option mx_V) (v1 : mx_V) (S h : mx_H) (n : Int), mx_ex (d + 1) 243 112 [l0, l1, l2, l3, l4] [(0, x0), v1] S h n = mx_rt (mx_M d 239 [(0, x0)] S h n) (d + 1) 243 115 [l0, l1, l2, l3, l4] [v1]) ∧
  (∀ (d : Nat) (x : Int) (l0 l1 l3 l4 : Option mx_V) (v0 v1 : mx_V) (S h : mx_H) (n : Int), mx_ex d 243 115 [l0, l1, some (0, x), l3, l4] [v0, v1] S h n = mx_ex d 243 116 [l0, l1, some (0, x), l3, l4] [(0, x), v0, v1] S h n) ∧
  (∀ (d : Nat) (x0 x1 a : Int) (l0 l1 l2 l3 l4 : Option mx_V) (S h : mx_H) (n : Int), mx_ex (d + 1) 243 116 [l0, l1, l2, l3, l4] [(0, x0), (0, x1), (2, a)] S h n = mx_cl (S a (-2) = 13) d 243 [(2, a), (0, x1), (0, x0)] 243 119 [l0, l1, l2, l3, l4] [] S h n) ∧
  (∀ (d : Nat) (x : Int) (l0 l1 l2 l3 l4 : Option mx_V) (S h : mx_H) (n : Int), mx_ex d 243 119 [l0, l1, l2, l3, l4] [(0, x)] S h n = mx_ex d 243 120 [l0, l1, mx_nl l2, some (0, x), l4] [] S h n) ∧
  (∀ (d : Nat) (x : Int) (l1 l2 l3 l4 : Option mx_V) (S h : mx_H) (n : Int), mx_ex d 243 120 [some (2, x), l1, l2, l3, l4] [] S h n = mx_ex d 243 121 [some (2, x), l1, l2, l3, l4] [(2, x)] S h n) ∧
  (∀ (d : Nat) (a : Int) (l0 l1 l2 l3 l4 : Option mx_V) (S h : mx_H) (n : Int), mx_ex d 243 121 [l0, l1, l2, l3, l4] [(2, a)] S h n = mx_gd (13 ≤ S a (-2) ∧ S a (-2) ≤ 13) d 243 124 [l0, l1, l2, l3, l4] [(0, h a 24)] S h n) ∧
  (∀ (d : Nat) (a : Int) (l0 l1 l2 l3 l4 : Option mx_V) (S h : mx_H) (n : Int), mx_ex d 243 124 [l0, l1, l2, l3, l4] [(0, a)] S h n = mx_br (a = 0) d 243 131 127 [l0, l1, l2, l3, l4] [] S h n) ∧
  (∀ (d : Nat) (l0 l1 l2 l3 l4 : Option mx_V) (S h : mx_H) (n : Int), mx_ex d 243 127 [l0, l1, l2, l3, l4] [] S h n = mx_ex d 243 128 [l0, l1, l2, l3, l4] [(0, 0)] S h n) ∧
  (∀ (d : Nat) (l0 l1 l2 l3 l4 : Option mx_V) (v0 : mx_V) (S h : mx_H) (n : Int), mx_ex d 243 128 [l0, l1, l2, l3, l4] [v0] S h n = mx_ex d 243 150 [l0, l1, l2, l3, l4] [v0] S h n) ∧
  (∀ (d : Nat) (x : Int) (l0 l1 l2 l4 : Option mx_V) (S h : mx_H) (n : Int), mx_ex d 243 131 [l0, l1, l2, some (0, x), l4] [] S h n = mx_ex d 243 132 [l0, l1, l2, some (0, x), l4] [(0, x)] S h n) ∧
  (∀ (d : Nat) (x : Int) (l1 l2 l3 l4 : Option mx_V) (v0 : mx_V) (S h : mx_H) (n : Int), mx_ex d 243 132 [some (2, x), l1, l2, l3, l4] [v0] S h n = mx_ex d 243 133 [some (2, x), l1, l2, l3, l4] [(2, x), v0] S h n) ∧
  (∀ (d : Nat) (x : Int) (l1 l2 l3 l4 : Option mx_V) (v0 v1 : mx_V) (S h : mx_H) (n : Int), mx_ex d 243 133 [some (2, x), l1, l2, l3, l4] [v0, v1] S h n = mx_ex d 243 134 [some (2, x), l1, l2, l3, l4] [(2, x), v0, v1] S h n) ∧
  (∀ (d : Nat) (a : Int) (l0 l1 l2 l3 l4 : Option mx_V) (v1 v2 : mx_V) (S h : mx_H) (n : Int), mx_ex (d + 1) 243 134 [l0, l1, l2, l3, l4] [(2, a), v1, v2] S h n = mx_cl (S a (-2) = 13) d 240 [(2, a)] 243 137 [l0, l1, l2, l3, l4] [v1, v2] S h n) ∧
  (∀ (d : Nat) (x : Int) (l1 l2 l3 l4 : Option mx_V) (v0 v1 v2 : mx_V) (S h : mx_H) (n : Int), mx_ex d 243 137 [some (2, x), l1, l2, l3, l4] [v0, v1, v2] S h n = mx_ex d 243 138 [some (2, x), l1, l2, l3, l4] [(2, x), v0, v1, v2] S h n) ∧
  (∀ (d : Nat) (x : Int) (l1 l2 l3 l4 : Option mx_V) (v0 v1 v2 v3 : mx_V) (S h : mx_H) (n : Int), mx_ex d 243 138 [some (2, x), l1, l2, l3, l4] [v0, v1, v2, v3] S h n = mx_ex d 243 139 [some (2, x), l1, l2, l3, l4] [(2, x), v0, v1, v2, v3] S h n) ∧
  (∀ (d : Nat) (a : Int) (l0 l1 l2 l3 l4 : Option mx_V) (v1 v2 v3 v4 : mx_V) (S h : mx_H) (n : Int), mx_ex d 243 139 [l0, l1, l2, l3, l4] [(2, a), v1, v2, v3, v4] S h n = mx_gd (13 ≤ S a (-2) ∧ S a (-2) ≤ 13) d 243 142 [l0, l1, l2, l3, l4] [(0, h a 23), v1, v2, v3, v4] S h n) ∧
  (∀ (d : Nat) (l0 l1 l2 l3 l4 : Option mx_V) (v0 v1 v2 v3 v4 : mx_V) (S h : mx_H) (n : Int), mx_ex d 243 142 [l0, l1, l2, l3, l4] [v0, v1, v2, v3, v4] S h n = mx_ex d 243 143 [l0, l1, l2, l3, l4] [(0, 2), v0, v1, v2, v3, v4] S h n) ∧
  (∀ (d : Nat) (x0 x1 a : Int) (l0 l1 l2 l3 l4 : Option mx_V) (v3 v4 v5 : mx_V) (S h : mx_H) (n : Int), mx_ex (d + 1) 243 143 [l0, l1, l2, l3, l4] [(0, x0), (0, x1), (2, a), v3, v4, v5] S h n = mx_cl (S a (-2) = 13) d 163 [(2, a), (0, x1), (0, x0)] 243 146 [l0, l1, l2, l3, l4] [v3, v4, v5] S h n) ∧
  (∀ (d : Nat) (x0 x1 a : Int) (l0 l1 l2 l3 l4 : Option mx_V) (v3 : mx_V) (S h : mx_H) (n : Int), mx_ex (d + 1) 243 146 [l0, l1, l2, l3, l4] [(0, x0), (0, x1), (2, a), v3] S h n = mx_cl (S a (-2) = 13) d 241 [(2, a), (0, x1), (0, x0)] 243 149 [l0, l1, l2, l3, l4] [v3] S h n) ∧
  (∀ (d : Nat) (b a : Int) (l0 l1 l2 l3 l4 : Option mx_V) (S h : mx_H) (n : Int), mx_ex d 243 149 [l0, l1, l2, l3, l4] [(0, b), (0, a)] S h n = mx_ex d 243 150 [l0, l1, l2, l3, l4] [(0, mx_w (a + b))] S h n) ∧
  (∀ (d : Nat) (x : Int) (l0 l1 l2 l3 l4 : Option mx_V) (S h : mx_H) (n : Int), mx_ex d 243 150 [l0, l1, l2, l3, l4] [(0, x)] S h n = some (some (0, x), S, h, n)) ∧
  (∀ (d : Nat) (x : Int) (l1 l2 l3 l4 : Option mx_V) (S h : mx_H) (n : Int), mx_ex d 243 151 [some (2, x), l1, l2, l3, l4] [] S h n = mx_ex d 243 152 [some (2, x), l1, l2, l3, l4] [(2, x)] S h n) ∧
  (∀ (d : Nat) (l0 l1 l2 l3 l4 : Option mx_V) (v0 : mx_V) (S h : mx_H) (n : Int), mx_ex d 243 152 [l0, l1, l2, l3, l4] [v0] S h n = mx_ex d 243 154 [l0, l1, l2, l3, l4] [(0, 50), v0] S h n) ∧
  (∀ (d : Nat) (x0 a : Int) (l0 l1 l2 l3 l4 : Option mx_V) (S h : mx_H) (n : Int), mx_ex (d + 1) 243 154 [l0, l1, l2, l3, l4] [(0, x0), (2, a)] S h n = mx_cl (S a (-2) = 13) d 238 [(2, a), (0, x0)] 243 157 [l0, l1, l2, l3, l4] [] S h n) :=
  ⟨by intros; exact rfl,
   by intros; exact eq_push rfl,
   by intros; exact eq_st rfl (by decide) (Nat.le_of_ble_eq_true rfl) rfl,
   by intros; exact eq_ld rfl rfl,
   by intros; exact eq_sw rfl,
   by intros; exact eq_ld rfl rfl,
   by intros; exact eq_push rfl,
   by intros; exact eq_cv rfl (Nat.le_of_ble_eq_true rfl) rfl rfl rfl (Nat.le_of_ble_eq_true rfl),
   by intros; exact eq_ld rfl rfl,
   by intros; exact eq_ld rfl rfl,
   by intros; exact eq_gi rfl,
   by intros; exact eq_push rfl,
   by intros; exact eq_cv rfl (Nat.le_of_ble_eq_true rfl) rfl rfl rfl (Nat.le_of_ble_eq_true rfl),
   by intros; exact eq_ld rfl rfl,
   by intros; exact eq_gi rfl,
   by intros; exact eq_i2 (o := mx_sub) rfl,
   by intros; exact eq_st rfl (by decide) (Nat.le_of_ble_eq_true rfl) rfl,
   by intros; exact eq_ld rfl rfl,
   by intros; exact eq_ld rfl rfl,
   by intros; exact eq_gi rfl,
   by intros; exact eq_if1 rfl,
   by intros; exact eq_ld rfl rfl,
   by intros; exact eq_if1 rfl,
   by intros; exact eq_push rfl,
   by intros; exact eq_go rfl,
   by intros; exact eq_push rfl,
   by intros; exact eq_pz rfl,
   by intros; exact eq_ld rfl rfl,
   by intros; exact eq_if1 rfl,
   by intros; exact eq_push rfl,
   by intros; exact eq_go rfl,
   by intros; exact eq_ld rfl rfl,
   by intros; exact eq_push rfl,
   by intros; exact eq_ic1 rfl,
   by intros; exact eq_ld rfl rfl,
   by intros; exact eq_i1 (o1 := mx_neg) rfl,
   by intros; exact eq_go rfl,
   by intros; exact eq_ld rfl rfl,
   by intros; exact eq_ld rfl rfl,
   by intros; exact eq_i2d (o := mx_div) rfl,
   by intros; exact eq_ret rfl,
   by intros; exact eq_ld rfl rfl,
   by intros; exact eq_push rfl,
   by intros; exact eq_cv rfl (Nat.le_of_ble_eq_true rfl) rfl rfl rfl (Nat.le_of_ble_eq_true rfl),
   by intros; exact eq_ld rfl rfl,
   by intros; exact eq_push rfl,
   by intros; exact eq_cs rfl (Nat.le_of_ble_eq_true rfl) rfl rfl rfl (Nat.le_of_ble_eq_true rfl),
   by intros; exact eq_ld rfl rfl,
   by intros; exact eq_cv rfl (Nat.le_of_ble_eq_true rfl) rfl rfl rfl (Nat.le_of_ble_eq_true rfl),
   by intros; exact eq_st rfl (by decide) (Nat.le_of_ble_eq_true rfl) rfl,
   by intros; exact eq_ld rfl rfl,
   by intros; exact eq_gi rfl,
   by intros; exact eq_if0 rfl,
   by intros; exact eq_push rfl,
   by intros; exact eq_go rfl,
   by intros; exact eq_ld rfl rfl,
   by intros; exact eq_ld rfl rfl,
   by intros; exact eq_ld rfl rfl,
   by intros; exact eq_cv rfl (Nat.le_of_ble_eq_true rfl) rfl rfl rfl (Nat.le_of_ble_eq_true rfl),
   by intros; exact eq_ld rfl rfl,
   by intros; exact eq_ld rfl rfl,
   by intros; exact eq_gi rfl,
   by intros; exact eq_push rfl,
   by intros; exact eq_cv rfl (Nat.le_of_ble_eq_true rfl) rfl rfl rfl (Nat.le_of_ble_eq_true rfl),
   by intros; exact eq_cv rfl (Nat.le_of_ble_eq_true rfl) rfl rfl rfl (Nat.le_of_ble_eq_true rfl),
   by intros; exact eq_i2 (o := mx_add) rfl,
   by intros; exact eq_ret rfl,
   by intros; exact eq_ld rfl rfl,
   by intros; exact eq_push rfl,
   by intros; exact eq_cv rfl (Nat.le_of_ble_eq_true rfl) rfl rfl rfl (Nat.le_of_ble_eq_true rfl)⟩
theorem rw_X12_shares_1 :
  (∀ (d : Nat) (x : Int) (l1 l2 l3 l4 : Option mx_V) (S h : mx_H) (n : Int), mx_ex d 243 157 [some (2, x), l1, l2, l3, l4] [] S h n = mx_ex d 243 158 [some (2, x), l1, l2, l3, l4] [(2, x)] S h n) ∧
  (∀ (d : Nat) (l0 l1 l2 l3 l4 : Option mx_V) (v0 : mx_V) (S h : mx_H) (n : Int), mx_ex d 243 158 [l0, l1, l2, l3, l4] [v0] S h n = mx_ex d 243 159 [l0, l1, l2, l3, l4] [(0, 5), v0] S h n) ∧
  (∀ (d : Nat) (x0 : Int) (l0 l1 l2 l3 l4 : Option mx_V) (v1 : mx_V) (S h : mx_H) (n : Int), mx_ex (d + 1) 243 159 [l0, l1, l2, l3, l4] [(0, x0), v1] S h n = mx_rt (mx_M d 239 [(0, x0)] S h n) (d + 1) 243 162 [l0, l1, l2, l3, l4] [v1]) ∧
  (∀ (d : Nat) (x : Int) (l0 l1 l3 l4 : Option mx_V) (v0 v1 : mx_V) (S h : mx_H) (n : Int), mx_ex d 243 162 [l0, l1, some (0, x), l3, l4] [v0, v1] S h n = mx_ex d 243 163 [l0, l1, some (0, x), l3, l4] [(0, x), v0, v1] S h n) ∧
  (∀ (d : Nat) (l0 l1 l2 l3 l4 : Option mx_V) (v0 v1 v2 : mx_V) (S h : mx_H) (n : Int), mx_ex d 243 163 [l0, l1, l2, l3, l4] [v0, v1, v2] S h n = mx_ex d 243 164 [l0, l1, l2, l3, l4] [(0, 2), v0, v1, v2] S h n) ∧
  (∀ (d : Nat) (b a : Int) (l0 l1 l2 l3 l4 : Option mx_V) (v2 v3 : mx_V) (S h : mx_H) (n : Int), mx_ex d 243 164 [l0, l1, l2, l3, l4] [(0, b), (0, a), v2, v3] S h n = mx_ex d 243 165 [l0, l1, l2, l3, l4] [(0, mx_w (a + b)), v2, v3] S h n) ∧
  (∀ (d : Nat) (x0 x1 a : Int) (l0 l1 l2 l3 l4 : Option mx_V) (S h : mx_H) (n : Int), mx_ex (d + 1) 243 165 [l0, l1, l2, l3, l4] [(0, x0), (0, x1), (2, a)] S h n = mx_cl (S a (-2) = 13) d 243 [(2, a), (0, x1), (0, x0)] 243 168 [l0, l1, l2, l3, l4] [] S h n) ∧
  (∀ (d : Nat) (l0 l1 l2 l3 l4 : Option mx_V) (v0 : mx_V) (S h : mx_H) (n : Int), mx_ex d 243 168 [l0, l1, l2, l3, l4] [v0] S h n = mx_ex d 243 169 [l0, l1, l2, l3, l4] [(0, 1), v0] S h n) ∧
  (∀ (d : Nat) (b a : Int) (l0 l1 l2 l3 l4 : Option mx_V) (S h : mx_H) (n : Int), mx_ex d 243 169 [l0, l1, l2, l3, l4] [(0, b), (0, a)] S h n = mx_ex d 243 170 [l0, l1, l2, l3, l4] [(0, mx_xor a b)] S h n) ∧
  (∀ (d : Nat) (x : Int) (l0 l1 l2 l3 l4 : Option mx_V) (S h : mx_H) (n : Int), mx_ex d 243 170 [l0, l1, l2, l3, l4] [(0, x)] S h n = some (some (0, x), S, h, n)) ∧
  (∀ (d : Nat) (x : Int) (l1 l2 l3 l4 : Option mx_V) (S h : mx_H) (n : Int), mx_ex d 243 171 [some (2, x), l1, l2, l3, l4] [] S h n = mx_ex d 243 172 [some (2, x), l1, l2, l3, l4] [(2, x)] S h n) ∧
  (∀ (d : Nat) (x : Int) (l0 l2 l3 l4 : Option mx_V) (v0 : mx_V) (S h : mx_H) (n : Int), mx_ex d 243 172 [l0, some (0, x), l2, l3, l4] [v0] S h n = mx_ex d 243 173 [l0, some (0, x), l2, l3, l4] [(0, x), v0] S h n) ∧
  (∀ (d : Nat) (x0 : Int) (l0 l1 l2 l3 l4 : Option mx_V) (v1 : mx_V) (S h : mx_H) (n : Int), mx_ex (d + 1) 243 173 [l0, l1, l2, l3, l4] [(0, x0), v1] S h n = mx_rt (mx_M d 239 [(0, x0)] S h n) (d + 1) 243 176 [l0, l1, l2, l3, l4] [v1]) ∧
  (∀ (d : Nat) (x : Int) (l0 l1 l3 l4 : Option mx_V) (v0 v1 : mx_V) (S h : mx_H) (n : Int), mx_ex d 243 176 [l0, l1, some (0, x), l3, l4] [v0, v1] S h n = mx_ex d 243 177 [l0, l1, some (0, x), l3, l4] [(0, x), v0, v1] S h n) ∧
  (∀ (d : Nat) (x0 x1 a : Int) (l0 l1 l2 l3 l4 : Option mx_V) (S h : mx_H) (n : Int), mx_ex (d + 1) 243 177 [l0, l1, l2, l3, l4] [(0, x0), (0, x1), (2, a)] S h n = mx_cl (S a (-2) = 13) d 243 [(2, a), (0, x1), (0, x0)] 243 180 [l0, l1, l2, l3, l4] [] S h n) ∧
  (∀ (d : Nat) (x : Int) (l0 l1 l2 l3 l4 : Option mx_V) (S h : mx_H) (n : Int), mx_ex d 243 180 [l0, l1, l2, l3, l4] [(0, x)] S h n = some (some (0, x), S, h, n)) :=
  ⟨by intros; exact eq_ld rfl rfl,
   by intros; exact eq_push rfl,
   by intros; exact eq_cs rfl (Nat.le_of_ble_eq_true rfl) rfl rfl rfl (Nat.le_of_ble_eq_true rfl),
   by intros; exact eq_ld rfl rfl,
   by intros; exact eq_push rfl,
   by intros; exact eq_i2 (o := mx_add) rfl,
   by intros; exact eq_cv rfl (Nat.le_of_ble_eq_true rfl) rfl rfl rfl (Nat.le_of_ble_eq_true rfl),
   by intros; exact eq_push rfl,
   by intros; exact eq_i2 (o := mx_xor) rfl,
   by intros; exact eq_ret rfl,
   by intros; exact eq_ld rfl rfl,
   by intros; exact eq_ld rfl rfl,
   by intros; exact eq_cs rfl (Nat.le_of_ble_eq_true rfl) rfl rfl rfl (Nat.le_of_ble_eq_true rfl),
   by intros; exact eq_ld rfl rfl,
   by intros; exact eq_cv rfl (Nat.le_of_ble_eq_true rfl) rfl rfl rfl (Nat.le_of_ble_eq_true rfl),
   by intros; exact eq_ret rfl⟩
theorem rw_X12_tells :
  (∀ (d : Nat) (a0 a1 a2 : Int) (S h : mx_H) (n : Int), mx_M d 244 [(2, a0), (0, a1), (0, a2)] S h n = mx_ex d 244 0 [some (2, a0), some (0, a1), some (0, a2), none] [] S h n) ∧
  (∀ (d : Nat) (l0 l1 l2 l3 : Option mx_V) (S h : mx_H) (n : Int), mx_ex d 244 0 [l0, l1, l2, l3] [] S h n = mx_ex d 244 1 [l0, l1, l2, l3] [(0, 0)] S h n) ∧
  (∀ (d : Nat) (x : Int) (l0 l1 l2 l3 : Option mx_V) (S h : mx_H) (n : Int), mx_ex d 244 1 [l0, l1, l2, l3] [(0, x)] S h n = mx_ex d 244 2 [l0, l1, mx_nl l2, some (0, x)] [] S h n) ∧
  (∀ (d : Nat) (x : Int) (l0 l2 l3 : Option mx_V) (S h : mx_H) (n : Int), mx_ex d 244 2 [l0, some (0, x), l2, l3] [] S h n = mx_ex d 244 3 [l0, some (0, x), l2, l3] [(0, x)] S h n) ∧
  (∀ (d : Nat) (a : Int) (l0 l1 l2 l3 : Option mx_V) (S h : mx_H) (n : Int), mx_ex d 244 3 [l0, l1, l2, l3] [(0, a)] S h n = mx_sw a [(0, 36), (1, 111), (2, 62), (3, 111), (4, 93)] d 244 111 [l0, l1, l2, l3] [] S h n) ∧
  (∀ (d : Nat) (x : Int) (l1 l2 l3 : Option mx_V) (S h : mx_H) (n : Int), mx_ex d 244 36 [some (2, x), l1, l2, l3] [] S h n = mx_ex d 244 37 [some (2, x), l1, l2, l3] [(2, x)] S h n) ∧
  (∀ (d : Nat) (l0 l1 l2 l3 : Option mx_V) (v0 : mx_V) (S h : mx_H) (n : Int), mx_ex d 244 37 [l0, l1, l2, l3] [v0] S h n = mx_ex d 244 39 [l0, l1, l2, l3] [(0, 13), v0] S h n) ∧
  (∀ (d : Nat) (x0 a : Int) (l0 l1 l2 l3 : Option mx_V) (S h : mx_H) (n : Int), mx_ex (d + 1) 244 39 [l0, l1, l2, l3] [(0, x0), (2, a)] S h n = mx_cl (S a (-2) = 13) d 238 [(2, a), (0, x0)] 244 42 [l0, l1, l2, l3] [] S h n) ∧
  (∀ (d : Nat) (x : Int) (l1 l2 l3 : Option mx_V) (S h : mx_H) (n : Int), mx_ex d 244 42 [some (2, x), l1, l2, l3] [] S h n = mx_ex d 244 43 [some (2, x), l1, l2, l3] [(2, x)] S h n) ∧
  (∀ (d : Nat) (x : Int) (l1 l2 l3 : Option mx_V) (v0 : mx_V) (S h : mx_H) (n : Int), mx_ex d 244 43 [some (2, x), l1, l2, l3] [v0] S h n = mx_ex d 244 44 [some (2, x), l1, l2, l3] [(2, x), v0] S h n) ∧
  (∀ (d : Nat) (a : Int) (l0 l1 l2 l3 : Option mx_V) (v1 : mx_V) (S h : mx_H) (n : Int), mx_ex (d + 1) 244 44 [l0, l1, l2, l3] [(2, a), v1] S h n = mx_cl (S a (-2) = 13) d 240 [(2, a)] 244 47 [l0, l1, l2, l3] [v1] S h n) ∧
  (∀ (d : Nat) (x : Int) (l0 l1 l3 : Option mx_V) (v0 v1 : mx_V) (S h : mx_H) (n : Int), mx_ex d 244 47 [l0, l1, some (0, x), l3] [v0, v1] S h n = mx_ex d 244 48 [l0, l1, some (0, x), l3] [(0, x), v0, v1] S h n) ∧
  (∀ (d : Nat) (x0 x1 a : Int) (l0 l1 l2 l3 : Option mx_V) (S h : mx_H) (n : Int), mx_ex (d + 1) 244 48 [l0, l1, l2, l3] [(0, x0), (0, x1), (2, a)] S h n = mx_cl (S a (-2) = 13) d 242 [(2, a), (0, x1), (0, x0)] 244 51 [l0, l1, l2, l3] [] S h n) ∧
  (∀ (d : Nat) (x : Int) (l1 l2 l3 : Option mx_V) (v0 : mx_V) (S h : mx_H) (n : Int), mx_ex d 244 51 [some (2, x), l1, l2, l3] [v0] S h n = mx_ex d 244 52 [some (2, x), l1, l2, l3] [(2, x), v0] S h n) ∧
  (∀ (d : Nat) (x : Int) (l1 l2 l3 : Option mx_V) (v0 v1 : mx_V) (S h : mx_H) (n : Int), mx_ex d 244 52 [some (2, x), l1, l2, l3] [v0, v1] S h n = mx_ex d 244 53 [some (2, x), l1, l2, l3] [(2, x), v0, v1] S h n) ∧
  (∀ (d : Nat) (a : Int) (l0 l1 l2 l3 : Option mx_V) (v1 v2 : mx_V) (S h : mx_H) (n : Int), mx_ex d 244 53 [l0, l1, l2, l3] [(2, a), v1, v2] S h n = mx_gd (13 ≤ S a (-2) ∧ S a (-2) ≤ 13) d 244 56 [l0, l1, l2, l3] [(0, h a 23), v1, v2] S h n) ∧
  (∀ (d : Nat) (l0 l1 l2 l3 : Option mx_V) (v0 v1 v2 : mx_V) (S h : mx_H) (n : Int), mx_ex d 244 56 [l0, l1, l2, l3] [v0, v1, v2] S h n = mx_ex d 244 57 [l0, l1, l2, l3] [(0, 2), v0, v1, v2] S h n) ∧
  (∀ (d : Nat) (x0 x1 a : Int) (l0 l1 l2 l3 : Option mx_V) (v3 : mx_V) (S h : mx_H) (n : Int), mx_ex (d + 1) 244 57 [l0, l1, l2, l3] [(0, x0), (0, x1), (2, a), v3] S h n = mx_cl (S a (-2) = 13) d 163 [(2, a), (0, x1), (0, x0)] 244 60 [l0, l1, l2, l3] [v3] S h n) ∧
  (∀ (d : Nat) (b a : Int) (l0 l1 l2 l3 : Option mx_V) (S h : mx_H) (n : Int), mx_ex d 244 60 [l0, l1, l2, l3] [(0, b), (0, a)] S h n = mx_ex d 244 61 [l0, l1, l2, l3] [(0, mx_xor a b)] S h n) ∧
  (∀ (d : Nat) (x : Int) (l0 l1 l2 l3 : Option mx_V) (S h : mx_H) (n : Int), mx_ex d 244 61 [l0, l1, l2, l3] [(0, x)] S h n = some (some (0, x), S, h, n)) ∧
  (∀ (d : Nat) (x : Int) (l1 l2 l3 : Option mx_V) (S h : mx_H) (n : Int), mx_ex d 244 62 [some (2, x), l1, l2, l3] [] S h n = mx_ex d 244 63 [some (2, x), l1, l2, l3] [(2, x)] S h n) ∧
  (∀ (d : Nat) (l0 l1 l2 l3 : Option mx_V) (v0 : mx_V) (S h : mx_H) (n : Int), mx_ex d 244 63 [l0, l1, l2, l3] [v0] S h n = mx_ex d 244 65 [l0, l1, l2, l3] [(0, 31), v0] S h n) ∧
  (∀ (d : Nat) (x0 a : Int) (l0 l1 l2 l3 : Option mx_V) (S h : mx_H) (n : Int), mx_ex (d + 1) 244 65 [l0, l1, l2, l3] [(0, x0), (2, a)] S h n = mx_cl (S a (-2) = 13) d 238 [(2, a), (0, x0)] 244 68 [l0, l1, l2, l3] [] S h n) ∧
  (∀ (d : Nat) (x : Int) (l1 l2 l3 : Option mx_V) (S h : mx_H) (n : Int), mx_ex d 244 68 [some (2, x), l1, l2, l3] [] S h n = mx_ex d 244 69 [some (2, x), l1, l2, l3] [(2, x)] S h n) ∧
  (∀ (d : Nat) (l0 l1 l2 l3 : Option mx_V) (v0 : mx_V) (S h : mx_H) (n : Int), mx_ex d 244 69 [l0, l1, l2, l3] [v0] S h n = mx_ex d 244 70 [l0, l1, l2, l3] [(0, 2), v0] S h n) ∧
  (∀ (d : Nat) (x0 : Int) (l0 l1 l2 l3 : Option mx_V) (v1 : mx_V) (S h : mx_H) (n : Int), mx_ex (d + 1) 244 70 [l0, l1, l2, l3] [(0, x0), v1] S h n = mx_rt (mx_M d 239 [(0, x0)] S h n) (d + 1) 244 73 [l0, l1, l2, l3] [v1]) ∧
  (∀ (d : Nat) (x : Int) (l0 l1 l3 : Option mx_V) (v0 v1 : mx_V) (S h : mx_H) (n : Int), mx_ex d 244 73 [l0, l1, some (0, x), l3] [v0, v1] S h n = mx_ex d 244 74 [l0, l1, some (0, x), l3] [(0, x), v0, v1] S h n) ∧
  (∀ (d : Nat) (x0 x1 a : Int) (l0 l1 l2 l3 : Option mx_V) (S h : mx_H) (n : Int), mx_ex (d + 1) 244 74 [l0, l1, l2, l3] [(0, x0), (0, x1), (2, a)] S h n = mx_cl (S a (-2) = 13) d 244 [(2, a), (0, x1), (0, x0)] 244 77 [l0, l1, l2, l3] [] S h n) ∧
  (∀ (d : Nat) (x : Int) (l0 l1 l2 l3 : Option mx_V) (S h : mx_H) (n : Int), mx_ex d 244 77 [l0, l1, l2, l3] [(0, x)] S h n = mx_ex d 244 78 [l0, l1, mx_nl l2, some (0, x)] [] S h n) ∧
  (∀ (d : Nat) (x : Int) (l0 l1 l2 : Option mx_V) (S h : mx_H) (n : Int), mx_ex d 244 78 [l0, l1, l2, some (0, x)] [] S h n = mx_ex d 244 79 [l0, l1, l2, some (0, x)] [(0, x)] S h n) ∧
  (∀ (d : Nat) (x : Int) (l1 l2 l3 : Option mx_V) (v0 : mx_V) (S h : mx_H) (n : Int), mx_ex d 244 79 [some (2, x), l1, l2, l3] [v0] S h n = mx_ex d 244 80 [some (2, x), l1, l2, l3] [(2, x), v0] S h n) ∧
  (∀ (d : Nat) (x : Int) (l1 l2 l3 : Option mx_V) (v0 v1 : mx_V) (S h : mx_H) (n : Int), mx_ex d 244 80 [some (2, x), l1, l2, l3] [v0, v1] S h n = mx_ex d 244 81 [some (2, x), l1, l2, l3] [(2, x), v0, v1] S h n) ∧
  (∀ (d : Nat) (a : Int) (l0 l1 l2 l3 : Option mx_V) (v1 v2 : mx_V) (S h : mx_H) (n : Int), mx_ex (d + 1) 244 81 [l0, l1, l2, l3] [(2, a), v1, v2] S h n = mx_cl (S a (-2) = 13) d 240 [(2, a)] 244 84 [l0, l1, l2, l3] [v1, v2] S h n) ∧
  (∀ (d : Nat) (x : Int) (l1 l2 l3 : Option mx_V) (v0 v1 v2 : mx_V) (S h : mx_H) (n : Int), mx_ex d 244 84 [some (2, x), l1, l2, l3] [v0, v1, v2] S h n = mx_ex d 244 85 [some (2, x), l1, l2, l3] [(2, x), v0, v1, v2] S h n) ∧
  (∀ (d : Nat) (a : Int) (l0 l1 l2 l3 : Option mx_V) (v1 v2 v3 : mx_V) (S h : mx_H) (n : Int), mx_ex d 244 85 [l0, l1, l2, l3] [(2, a), v1, v2, v3] S h n = mx_gd (13 ≤ S a (-2) ∧ S a (-2) ≤ 13) d 244 88 [l0, l1, l2, l3] [(0, h a 23), v1, v2, v3] S h n) ∧
  (∀ (d : Nat) (x0 x1 a : Int) (l0 l1 l2 l3 : Option mx_V) (v3 : mx_V) (S h : mx_H) (n : Int), mx_ex (d + 1) 244 88 [l0, l1, l2, l3] [(0, x0), (0, x1), (2, a), v3] S h n = mx_cl (S a (-2) = 13) d 243 [(2, a), (0, x1), (0, x0)] 244 91 [l0, l1, l2, l3] [v3] S h n) ∧
  (∀ (d : Nat) (b a : Int) (l0 l1 l2 l3 : Option mx_V) (S h : mx_H) (n : Int), mx_ex d 244 91 [l0, l1, l2, l3] [(0, b), (0, a)] S h n = mx_ex d 244 92 [l0, l1, l2, l3] [(0, mx_w (a + b))] S h n) ∧
  (∀ (d : Nat) (x : Int) (l0 l1 l2 l3 : Option mx_V) (S h : mx_H) (n : Int), mx_ex d 244 92 [l0, l1, l2, l3] [(0, x)] S h n = some (some (0, x), S, h, n)) ∧
  (∀ (d : Nat) (x : Int) (l1 l2 l3 : Option mx_V) (S h : mx_H) (n : Int), mx_ex d 244 93 [some (2, x), l1, l2, l3] [] S h n = mx_ex d 244 94 [some (2, x), l1, l2, l3] [(2, x)] S h n) ∧
  (∀ (d : Nat) (l0 l1 l2 l3 : Option mx_V) (v0 : mx_V) (S h : mx_H) (n : Int), mx_ex d 244 94 [l0, l1, l2, l3] [v0] S h n = mx_ex d 244 96 [l0, l1, l2, l3] [(0, 60), v0] S h n) ∧
  (∀ (d : Nat) (x0 a : Int) (l0 l1 l2 l3 : Option mx_V) (S h : mx_H) (n : Int), mx_ex (d + 1) 244 96 [l0, l1, l2, l3] [(0, x0), (2, a)] S h n = mx_cl (S a (-2) = 13) d 238 [(2, a), (0, x0)] 244 99 [l0, l1, l2, l3] [] S h n) ∧
  (∀ (d : Nat) (x : Int) (l1 l2 l3 : Option mx_V) (S h : mx_H) (n : Int), mx_ex d 244 99 [some (2, x), l1, l2, l3] [] S h n = mx_ex d 244 100 [some (2, x), l1, l2, l3] [(2, x)] S h n) ∧
  (∀ (d : Nat) (l0 l1 l2 l3 : Option mx_V) (v0 : mx_V) (S h : mx_H) (n : Int), mx_ex d 244 100 [l0, l1, l2, l3] [v0] S h n = mx_ex d 244 101 [l0, l1, l2, l3] [(0, 4), v0] S h n) ∧
  (∀ (d : Nat) (x0 : Int) (l0 l1 l2 l3 : Option mx_V) (v1 : mx_V) (S h : mx_H) (n : Int), mx_ex (d + 1) 244 101 [l0, l1, l2, l3] [(0, x0), v1] S h n = mx_rt (mx_M d 239 [(0, x0)] S h n) (d + 1) 244 104 [l0, l1, l2, l3] [v1]) ∧
  (∀ (d : Nat) (x : Int) (l0 l1 l3 : Option mx_V) (v0 v1 : mx_V) (S h : mx_H) (n : Int), mx_ex d 244 104 [l0, l1, some (0, x), l3] [v0, v1] S h n = mx_ex d 244 105 [l0, l1, some (0, x), l3] [(0, x), v0, v1] S h n) ∧
  (∀ (d : Nat) (x0 x1 a : Int) (l0 l1 l2 l3 : Option mx_V) (S h : mx_H) (n : Int), mx_ex (d + 1) 244 105 [l0, l1, l2, l3] [(0, x0), (0, x1), (2, a)] S h n = mx_cl (S a (-2) = 13) d 244 [(2, a), (0, x1), (0, x0)] 244 108 [l0, l1, l2, l3] [] S h n) ∧
  (∀ (d : Nat) (l0 l1 l2 l3 : Option mx_V) (v0 : mx_V) (S h : mx_H) (n : Int), mx_ex d 244 108 [l0, l1, l2, l3] [v0] S h n = mx_ex d 244 109 [l0, l1, l2, l3] [(0, 2), v0] S h n) ∧
  (∀ (d : Nat) (b a : Int) (l0 l1 l2 l3 : Option mx_V) (S h : mx_H) (n : Int), mx_ex d 244 109 [l0, l1, l2, l3] [(0, b), (0, a)] S h n = mx_ex d 244 110 [l0, l1, l2, l3] [(0, mx_w (a * b))] S h n) ∧
  (∀ (d : Nat) (x : Int) (l0 l1 l2 l3 : Option mx_V) (S h : mx_H) (n : Int), mx_ex d 244 110 [l0, l1, l2, l3] [(0, x)] S h n = some (some (0, x), S, h, n)) ∧
  (∀ (d : Nat) (x : Int) (l1 l2 l3 : Option mx_V) (S h : mx_H) (n : Int), mx_ex d 244 111 [some (2, x), l1, l2, l3] [] S h n = mx_ex d 244 112 [some (2, x), l1, l2, l3] [(2, x)] S h n) ∧
  (∀ (d : Nat) (x : Int) (l0 l2 l3 : Option mx_V) (v0 : mx_V) (S h : mx_H) (n : Int), mx_ex d 244 112 [l0, some (0, x), l2, l3] [v0] S h n = mx_ex d 244 113 [l0, some (0, x), l2, l3] [(0, x), v0] S h n) ∧
  (∀ (d : Nat) (x0 : Int) (l0 l1 l2 l3 : Option mx_V) (v1 : mx_V) (S h : mx_H) (n : Int), mx_ex (d + 1) 244 113 [l0, l1, l2, l3] [(0, x0), v1] S h n = mx_rt (mx_M d 239 [(0, x0)] S h n) (d + 1) 244 116 [l0, l1, l2, l3] [v1]) ∧
  (∀ (d : Nat) (x : Int) (l0 l1 l3 : Option mx_V) (v0 v1 : mx_V) (S h : mx_H) (n : Int), mx_ex d 244 116 [l0, l1, some (0, x), l3] [v0, v1] S h n = mx_ex d 244 117 [l0, l1, some (0, x), l3] [(0, x), v0, v1] S h n) ∧
  (∀ (d : Nat) (x0 x1 a : Int) (l0 l1 l2 l3 : Option mx_V) (S h : mx_H) (n : Int), mx_ex (d + 1) 244 117 [l0, l1, l2, l3] [(0, x0), (0, x1), (2, a)] S h n = mx_cl (S a (-2) = 13) d 244 [(2, a), (0, x1), (0, x0)] 244 120 [l0, l1, l2, l3] [] S h n) ∧
  (∀ (d : Nat) (x : Int) (l0 l1 l2 l3 : Option mx_V) (S h : mx_H) (n : Int), mx_ex d 244 120 [l0, l1, l2, l3] [(0, x)] S h n = some (some (0, x), S, h, n)) :=
  ⟨by intros; exact rfl,
   by intros; exact eq_push rfl,
   by intros; exact eq_st rfl (by decide) (Nat.le_of_ble_eq_true rfl) rfl,
   by intros; exact eq_ld rfl rfl,
   by intros; exact eq_sw rfl,
   by intros; exact eq_ld rfl rfl,
   by intros; exact eq_push rfl,
   by intros; exact eq_cv rfl (Nat.le_of_ble_eq_true rfl) rfl rfl rfl (Nat.le_of_ble_eq_true rfl),
   by intros; exact eq_ld rfl rfl,
   by intros; exact eq_ld rfl rfl,
   by intros; exact eq_cv rfl (Nat.le_of_ble_eq_true rfl) rfl rfl rfl (Nat.le_of_ble_eq_true rfl),
   by intros; exact eq_ld rfl rfl,
   by intros; exact eq_cv rfl (Nat.le_of_ble_eq_true rfl) rfl rfl rfl (Nat.le_of_ble_eq_true rfl),
   by intros; exact eq_ld rfl rfl,
   by intros; exact eq_ld rfl rfl,
   by intros; exact eq_gi rfl,
   by intros; exact eq_push rfl,
   by intros; exact eq_cv rfl (Nat.le_of_ble_eq_true rfl) rfl rfl rfl (Nat.le_of_ble_eq_true rfl),
   by intros; exact eq_i2 (o := mx_xor) rfl,
   by intros; exact eq_ret rfl,
   by intros; exact eq_ld rfl rfl,
   by intros; exact eq_push rfl,
   by intros; exact eq_cv rfl (Nat.le_of_ble_eq_true rfl) rfl rfl rfl (Nat.le_of_ble_eq_true rfl),
   by intros; exact eq_ld rfl rfl,
   by intros; exact eq_push rfl,
   by intros; exact eq_cs rfl (Nat.le_of_ble_eq_true rfl) rfl rfl rfl (Nat.le_of_ble_eq_true rfl),
   by intros; exact eq_ld rfl rfl,
   by intros; exact eq_cv rfl (Nat.le_of_ble_eq_true rfl) rfl rfl rfl (Nat.le_of_ble_eq_true rfl),
   by intros; exact eq_st rfl (by decide) (Nat.le_of_ble_eq_true rfl) rfl,
   by intros; exact eq_ld rfl rfl,
   by intros; exact eq_ld rfl rfl,
   by intros; exact eq_ld rfl rfl,
   by intros; exact eq_cv rfl (Nat.le_of_ble_eq_true rfl) rfl rfl rfl (Nat.le_of_ble_eq_true rfl),
   by intros; exact eq_ld rfl rfl,
   by intros; exact eq_gi rfl,
   by intros; exact eq_cv rfl (Nat.le_of_ble_eq_true rfl) rfl rfl rfl (Nat.le_of_ble_eq_true rfl),
   by intros; exact eq_i2 (o := mx_add) rfl,
   by intros; exact eq_ret rfl,
   by intros; exact eq_ld rfl rfl,
   by intros; exact eq_push rfl,
   by intros; exact eq_cv rfl (Nat.le_of_ble_eq_true rfl) rfl rfl rfl (Nat.le_of_ble_eq_true rfl),
   by intros; exact eq_ld rfl rfl,
   by intros; exact eq_push rfl,
   by intros; exact eq_cs rfl (Nat.le_of_ble_eq_true rfl) rfl rfl rfl (Nat.le_of_ble_eq_true rfl),
   by intros; exact eq_ld rfl rfl,
   by intros; exact eq_cv rfl (Nat.le_of_ble_eq_true rfl) rfl rfl rfl (Nat.le_of_ble_eq_true rfl),
   by intros; exact eq_push rfl,
   by intros; exact eq_i2 (o := mx_mul) rfl,
   by intros; exact eq_ret rfl,
   by intros; exact eq_ld rfl rfl,
   by intros; exact eq_ld rfl rfl,
   by intros; exact eq_cs rfl (Nat.le_of_ble_eq_true rfl) rfl rfl rfl (Nat.le_of_ble_eq_true rfl),
   by intros; exact eq_ld rfl rfl,
   by intros; exact eq_cv rfl (Nat.le_of_ble_eq_true rfl) rfl rfl rfl (Nat.le_of_ble_eq_true rfl),
   by intros; exact eq_ret rfl⟩
theorem rw_X12_act :
  (∀ (d : Nat) (a0 a1 a2 a3 : Int) (S h : mx_H) (n : Int), mx_M d 245 [(2, a0), (0, a1), (0, a2), (0, a3)] S h n = mx_ex d 245 0 [some (2, a0), some (0, a1), some (0, a2), some (0, a3), none, none] [] S h n) ∧
  (∀ (d : Nat) (x : Int) (l1 l2 l3 l4 l5 : Option mx_V) (S h : mx_H) (n : Int), mx_ex d 245 0 [some (2, x), l1, l2, l3, l4, l5] [] S h n = mx_ex d 245 1 [some (2, x), l1, l2, l3, l4, l5] [(2, x)] S h n) ∧
  (∀ (d : Nat) (l0 l1 l2 l3 l4 l5 : Option mx_V) (v0 : mx_V) (S h : mx_H) (n : Int), mx_ex d 245 1 [l0, l1, l2, l3, l4, l5] [v0] S h n = mx_ex d 245 2 [l0, l1, l2, l3, l4, l5] [(0, 0), v0] S h n) ∧
  (∀ (d : Nat) (v a : Int) (l0 l1 l2 l3 l4 l5 : Option mx_V) (S h : mx_H) (n : Int), mx_ex d 245 2 [l0, l1, l2, l3, l4, l5] [(0, v), (2, a)] S h n = mx_gd (13 ≤ S a (-2) ∧ S a (-2) ≤ 13) d 245 5 [l0, l1, l2, l3, l4, l5] [] S (mx_u h a 22 v) n) ∧
  (∀ (d : Nat) (x : Int) (l0 l2 l3 l4 l5 : Option mx_V) (S h : mx_H) (n : Int), mx_ex d 245 5 [l0, some (0, x), l2, l3, l4, l5] [] S h n = mx_ex d 245 6 [l0, some (0, x), l2, l3, l4, l5] [(0, x)] S h n) ∧
  (∀ (d : Nat) (x0 : Int) (l0 l1 l2 l3 l4 l5 : Option mx_V) (S h : mx_H) (n : Int), mx_ex (d + 1) 245 6 [l0, l1, l2, l3, l4, l5] [(0, x0)] S h n = mx_rt (mx_M d 233 [(0, x0)] S h n) (d + 1) 245 9 [l0, l1, l2, l3, l4, l5] []) ∧
  (∀ (d : Nat) (a : Int) (l0 l1 l2 l3 l4 l5 : Option mx_V) (S h : mx_H) (n : Int), mx_ex d 245 9 [l0, l1, l2, l3, l4, l5] [(0, a)] S h n = mx_br (a = 0) d 245 39 12 [l0, l1, l2, l3, l4, l5] [] S h n) ∧
  (∀ (d : Nat) (x : Int) (l0 l1 l3 l4 l5 : Option mx_V) (S h : mx_H) (n : Int), mx_ex d 245 12 [l0, l1, some (0, x), l3, l4, l5] [] S h n = mx_ex d 245 13 [l0, l1, some (0, x), l3, l4, l5] [(0, x)] S h n) ∧
  (∀ (d : Nat) (l0 l1 l2 l3 l4 l5 : Option mx_V) (v0 : mx_V) (S h : mx_H) (n : Int), mx_ex d 245 13 [l0, l1, l2, l3, l4, l5] [v0] S h n = mx_ex d 245 14 [l0, l1, l2, l3, l4, l5] [(0, 0), v0] S h n) ∧
  (∀ (d : Nat) (l0 l1 l2 l3 l4 l5 : Option mx_V) (v0 v1 : mx_V) (S h : mx_H) (n : Int), mx_ex d 245 14 [l0, l1, l2, l3, l4, l5] [v0, v1] S h n = mx_ex d 245 15 [l0, l1, l2, l3, l4, l5] [(0, 3), v0, v1] S h n) ∧
  (∀ (d : Nat) (x0 x1 x2 : Int) (l0 l1 l2 l3 l4 l5 : Option mx_V) (S h : mx_H) (n : Int), mx_ex (d + 1) 245 15 [l0, l1, l2, l3, l4, l5] [(0, x0), (0, x1), (0, x2)] S h n = mx_rt (mx_M d 159 [(0, x2), (0, x1), (0, x0)] S h n) (d + 1) 245 18 [l0, l1, l2, l3, l4, l5] []) ∧
  (∀ (d : Nat) (a : Int) (l0 l1 l2 l3 l4 l5 : Option mx_V) (S h : mx_H) (n : Int), mx_ex d 245 18 [l0, l1, l2, l3, l4, l5] [(0, a)] S h n = mx_br (a = 0) d 245 39 21 [l0, l1, l2, l3, l4, l5] [] S h n) ∧
  (∀ (d : Nat) (x : Int) (l1 l2 l3 l4 l5 : Option mx_V) (S h : mx_H) (n : Int), mx_ex d 245 21 [some (2, x), l1, l2, l3, l4, l5] [] S h n = mx_ex d 245 22 [some (2, x), l1, l2, l3, l4, l5] [(2, x)] S h n) ∧
  (∀ (d : Nat) (x : Int) (l0 l2 l3 l4 l5 : Option mx_V) (v0 : mx_V) (S h : mx_H) (n : Int), mx_ex d 245 22 [l0, some (0, x), l2, l3, l4, l5] [v0] S h n = mx_ex d 245 23 [l0, some (0, x), l2, l3, l4, l5] [(0, x), v0] S h n) ∧
  (∀ (d : Nat) (x0 a : Int) (l0 l1 l2 l3 l4 l5 : Option mx_V) (S h : mx_H) (n : Int), mx_ex (d + 1) 245 23 [l0, l1, l2, l3, l4, l5] [(0, x0), (2, a)] S h n = mx_cl (S a (-2) = 13) d 235 [(2, a), (0, x0)] 245 26 [l0, l1, l2, l3, l4, l5] [] S h n) ∧
  (∀ (d : Nat) (a : Int) (l0 l1 l2 l3 l4 l5 : Option mx_V) (S h : mx_H) (n : Int), mx_ex d 245 26 [l0, l1, l2, l3, l4, l5] [(0, a)] S h n = mx_br (a = 0) d 245 29 39 [l0, l1, l2, l3, l4, l5] [] S h n) ∧
  (∀ (d : Nat) (x : Int) (l1 l2 l3 l4 l5 : Option mx_V) (S h : mx_H) (n : Int), mx_ex d 245 29 [some (2, x), l1, l2, l3, l4, l5] [] S h n = mx_ex d 245 30 [some (2, x), l1, l2, l3, l4, l5] [(2, x)] S h n) ∧
  (∀ (d : Nat) (a : Int) (l0 l1 l2 l3 l4 l5 : Option mx_V) (S h : mx_H) (n : Int), mx_ex d 245 30 [l0, l1, l2, l3, l4, l5] [(2, a)] S h n = mx_gd (13 ≤ S a (-2) ∧ S a (-2) ≤ 13) d 245 33 [l0, l1, l2, l3, l4, l5] [(2, S a 19)] S h n) ∧
  (∀ (d : Nat) (x : Int) (l0 l2 l3 l4 l5 : Option mx_V) (v0 : mx_V) (S h : mx_H) (n : Int), mx_ex d 245 33 [l0, some (0, x), l2, l3, l4, l5] [v0] S h n = mx_ex d 245 34 [l0, some (0, x), l2, l3, l4, l5] [(0, x), v0] S h n) ∧
  (∀ (d : Nat) (i a : Int) (l0 l1 l2 l3 l4 l5 : Option mx_V) (S h : mx_H) (n : Int), mx_ex d 245 34 [l0, l1, l2, l3, l4, l5] [(0, i), (2, a)] S h n = mx_gd ((S a (-2) = 20 ∨ S a (-2) = 24) ∧ 0 ≤ i ∧ i < S a (-1)) d 245 35 [l0, l1, l2, l3, l4, l5] [(0, h a i)] S h n) ∧
  (∀ (d : Nat) (l0 l1 l2 l3 l4 l5 : Option mx_V) (v0 : mx_V) (S h : mx_H) (n : Int), mx_ex d 245 35 [l0, l1, l2, l3, l4, l5] [v0] S h n = mx_ex d 245 36 [l0, l1, l2, l3, l4, l5] [(0, 1), v0] S h n) ∧
  (∀ (d : Nat) (b a : Int) (l0 l1 l2 l3 l4 l5 : Option mx_V) (S h : mx_H) (n : Int), mx_ex d 245 36 [l0, l1, l2, l3, l4, l5] [(0, b), (0, a)] S h n = mx_br (a = b) d 245 41 39 [l0, l1, l2, l3, l4, l5] [] S h n) ∧
  (∀ (d : Nat) (l0 l1 l2 l3 l4 l5 : Option mx_V) (S h : mx_H) (n : Int), mx_ex d 245 39 [l0, l1, l2, l3, l4, l5] [] S h n = mx_ex d 245 40 [l0, l1, l2, l3, l4, l5] [(0, 0)] S h n) ∧
  (∀ (d : Nat) (x : Int) (l0 l1 l2 l3 l4 l5 : Option mx_V) (S h : mx_H) (n : Int), mx_ex d 245 40 [l0, l1, l2, l3, l4, l5] [(0, x)] S h n = some (some (0, x), S, h, n)) ∧
  (∀ (d : Nat) (x : Int) (l1 l2 l3 l4 l5 : Option mx_V) (S h : mx_H) (n : Int), mx_ex d 245 41 [some (2, x), l1, l2, l3, l4, l5] [] S h n = mx_ex d 245 42 [some (2, x), l1, l2, l3, l4, l5] [(2, x)] S h n) ∧
  (∀ (d : Nat) (x : Int) (l1 l2 l3 l4 l5 : Option mx_V) (v0 : mx_V) (S h : mx_H) (n : Int), mx_ex d 245 42 [some (2, x), l1, l2, l3, l4, l5] [v0] S h n = mx_ex d 245 43 [some (2, x), l1, l2, l3, l4, l5] [(2, x), v0] S h n) ∧
  (∀ (d : Nat) (a : Int) (l0 l1 l2 l3 l4 l5 : Option mx_V) (v1 : mx_V) (S h : mx_H) (n : Int), mx_ex d 245 43 [l0, l1, l2, l3, l4, l5] [(2, a), v1] S h n = mx_gd (13 ≤ S a (-2) ∧ S a (-2) ≤ 13) d 245 46 [l0, l1, l2, l3, l4, l5] [(2, S a 20), v1] S h n) ∧
  (∀ (d : Nat) (x : Int) (l0 l2 l3 l4 l5 : Option mx_V) (v0 v1 : mx_V) (S h : mx_H) (n : Int), mx_ex d 245 46 [l0, some (0, x), l2, l3, l4, l5] [v0, v1] S h n = mx_ex d 245 47 [l0, some (0, x), l2, l3, l4, l5] [(0, x), v0, v1] S h n) ∧
  (∀ (d : Nat) (i a : Int) (l0 l1 l2 l3 l4 l5 : Option mx_V) (v2 : mx_V) (S h : mx_H) (n : Int), mx_ex d 245 47 [l0, l1, l2, l3, l4, l5] [(0, i), (2, a), v2] S h n = mx_gd ((S a (-2) = 20 ∨ S a (-2) = 24) ∧ 0 ≤ i ∧ i < S a (-1)) d 245 48 [l0, l1, l2, l3, l4, l5] [(0, h a i), v2] S h n) ∧
  (∀ (d : Nat) (v a : Int) (l0 l1 l2 l3 l4 l5 : Option mx_V) (S h : mx_H) (n : Int), mx_ex d 245 48 [l0, l1, l2, l3, l4, l5] [(0, v), (2, a)] S h n = mx_gd (13 ≤ S a (-2) ∧ S a (-2) ≤ 13) d 245 51 [l0, l1, l2, l3, l4, l5] [] S (mx_u h a 23 v) n) ∧
  (∀ (d : Nat) (x : Int) (l1 l2 l3 l4 l5 : Option mx_V) (S h : mx_H) (n : Int), mx_ex d 245 51 [some (2, x), l1, l2, l3, l4, l5] [] S h n = mx_ex d 245 52 [some (2, x), l1, l2, l3, l4, l5] [(2, x)] S h n) ∧
  (∀ (d : Nat) (l0 l1 l2 l3 l4 l5 : Option mx_V) (v0 : mx_V) (S h : mx_H) (n : Int), mx_ex d 245 52 [l0, l1, l2, l3, l4, l5] [v0] S h n = mx_ex d 245 53 [l0, l1, l2, l3, l4, l5] [(0, 0), v0] S h n) ∧
  (∀ (d : Nat) (v a : Int) (l0 l1 l2 l3 l4 l5 : Option mx_V) (S h : mx_H) (n : Int), mx_ex d 245 53 [l0, l1, l2, l3, l4, l5] [(0, v), (2, a)] S h n = mx_gd (13 ≤ S a (-2) ∧ S a (-2) ≤ 13 ∧ 0 ≤ v ∧ v ≤ 1) d 245 56 [l0, l1, l2, l3, l4, l5] [] S (mx_u h a 24 v) n) ∧
  (∀ (d : Nat) (x : Int) (l1 l2 l3 l4 l5 : Option mx_V) (S h : mx_H) (n : Int), mx_ex d 245 56 [some (2, x), l1, l2, l3, l4, l5] [] S h n = mx_ex d 245 57 [some (2, x), l1, l2, l3, l4, l5] [(2, x)] S h n) ∧
  (∀ (d : Nat) (a : Int) (l0 l1 l2 l3 l4 l5 : Option mx_V) (S h : mx_H) (n : Int), mx_ex (d + 1) 245 57 [l0, l1, l2, l3, l4, l5] [(2, a)] S h n = mx_cl (S a (-2) = 13) d 240 [(2, a)] 245 60 [l0, l1, l2, l3, l4, l5] [] S h n) ∧
  (∀ (d : Nat) (x : Int) (l0 l1 l2 l3 l4 l5 : Option mx_V) (S h : mx_H) (n : Int), mx_ex d 245 60 [l0, l1, l2, l3, l4, l5] [(0, x)] S h n = mx_ex d 245 62 [l0, l1, l2, mx_nl l3, some (0, x), l5] [] S h n) ∧
  (∀ (d : Nat) (x : Int) (l0 l1 l3 l4 l5 : Option mx_V) (S h : mx_H) (n : Int), mx_ex d 245 62 [l0, l1, some (0, x), l3, l4, l5] [] S h n = mx_ex d 245 63 [l0, l1, some (0, x), l3, l4, l5] [(0, x)] S h n) ∧
  (∀ (d : Nat) (a : Int) (l0 l1 l2 l3 l4 l5 : Option mx_V) (S h : mx_H) (n : Int), mx_ex d 245 63 [l0, l1, l2, l3, l4, l5] [(0, a)] S h n = mx_br (a = 0) d 245 66 76 [l0, l1, l2, l3, l4, l5] [] S h n) ∧
  (∀ (d : Nat) (x : Int) (l1 l2 l3 l4 l5 : Option mx_V) (S h : mx_H) (n : Int), mx_ex d 245 66 [some (2, x), l1, l2, l3, l4, l5] [] S h n = mx_ex d 245 67 [some (2, x), l1, l2, l3, l4, l5] [(2, x)] S h n) ∧
  (∀ (d : Nat) (x : Int) (l0 l1 l2 l3 l5 : Option mx_V) (v0 : mx_V) (S h : mx_H) (n : Int), mx_ex d 245 67 [l0, l1, l2, l3, some (0, x), l5] [v0] S h n = mx_ex d 245 69 [l0, l1, l2, l3, some (0, x), l5] [(0, x), v0] S h n) ∧
  (∀ (d : Nat) (x : Int) (l0 l1 l2 l4 l5 : Option mx_V) (v0 v1 : mx_V) (S h : mx_H) (n : Int), mx_ex d 245 69 [l0, l1, l2, some (0, x), l4, l5] [v0, v1] S h n = mx_ex d 245 70 [l0, l1, l2, some (0, x), l4, l5] [(0, x), v0, v1] S h n) ∧
  (∀ (d : Nat) (x0 x1 a : Int) (l0 l1 l2 l3 l4 l5 : Option mx_V) (S h : mx_H) (n : Int), mx_ex (d + 1) 245 70 [l0, l1, l2, l3, l4, l5] [(0, x0), (0, x1), (2, a)] S h n = mx_cl (S a (-2) = 13) d 241 [(2, a), (0, x1), (0, x0)] 245 73 [l0, l1, l2, l3, l4, l5] [] S h n) ∧
  (∀ (d : Nat) (l0 l1 l2 l3 l4 l5 : Option mx_V) (v0 : mx_V) (S h : mx_H) (n : Int), mx_ex d 245 73 [l0, l1, l2, l3, l4, l5] [v0] S h n = mx_ex d 245 113 [l0, l1, l2, l3, l4, l5] [v0] S h n) ∧
  (∀ (d : Nat) (x : Int) (l0 l1 l3 l4 l5 : Option mx_V) (S h : mx_H) (n : Int), mx_ex d 245 76 [l0, l1, some (0, x), l3, l4, l5] [] S h n = mx_ex d 245 77 [l0, l1, some (0, x), l3, l4, l5] [(0, x)] S h n) ∧
  (∀ (d : Nat) (l0 l1 l2 l3 l4 l5 : Option mx_V) (v0 : mx_V) (S h : mx_H) (n : Int), mx_ex d 245 77 [l0, l1, l2, l3, l4, l5] [v0] S h n = mx_ex d 245 78 [l0, l1, l2, l3, l4, l5] [(0, 1), v0] S h n) ∧
  (∀ (d : Nat) (b a : Int) (l0 l1 l2 l3 l4 l5 : Option mx_V) (S h : mx_H) (n : Int), mx_ex d 245 78 [l0, l1, l2, l3, l4, l5] [(0, b), (0, a)] S h n = mx_br (a = b) d 245 81 91 [l0, l1, l2, l3, l4, l5] [] S h n) ∧
  (∀ (d : Nat) (x : Int) (l1 l2 l3 l4 l5 : Option mx_V) (S h : mx_H) (n : Int), mx_ex d 245 81 [some (2, x), l1, l2, l3, l4, l5] [] S h n = mx_ex d 245 82 [some (2, x), l1, l2, l3, l4, l5] [(2, x)] S h n) ∧
  (∀ (d : Nat) (x : Int) (l0 l1 l2 l3 l5 : Option mx_V) (v0 : mx_V) (S h : mx_H) (n : Int), mx_ex d 245 82 [l0, l1, l2, l3, some (0, x), l5] [v0] S h n = mx_ex d 245 84 [l0, l1, l2, l3, some (0, x), l5] [(0, x), v0] S h n) ∧
  (∀ (d : Nat) (x : Int) (l0 l1 l2 l4 l5 : Option mx_V) (v0 v1 : mx_V) (S h : mx_H) (n : Int), mx_ex d 245 84 [l0, l1, l2, some (0, x), l4, l5] [v0, v1] S h n = mx_ex d 245 85 [l0, l1, l2, some (0, x), l4, l5] [(0, x), v0, v1] S h n) ∧
  (∀ (d : Nat) (x0 x1 a : Int) (l0 l1 l2 l3 l4 l5 : Option mx_V) (S h : mx_H) (n : Int), mx_ex (d + 1) 245 85 [l0, l1, l2, l3, l4, l5] [(0, x0), (0, x1), (2, a)] S h n = mx_cl (S a (-2) = 13) d 242 [(2, a), (0, x1), (0, x0)] 245 88 [l0, l1, l2, l3, l4, l5] [] S h n) ∧
  (∀ (d : Nat) (l0 l1 l2 l3 l4 l5 : Option mx_V) (v0 : mx_V) (S h : mx_H) (n : Int), mx_ex d 245 88 [l0, l1, l2, l3, l4, l5] [v0] S h n = mx_ex d 245 113 [l0, l1, l2, l3, l4, l5] [v0] S h n) ∧
  (∀ (d : Nat) (x : Int) (l0 l1 l3 l4 l5 : Option mx_V) (S h : mx_H) (n : Int), mx_ex d 245 91 [l0, l1, some (0, x), l3, l4, l5] [] S h n = mx_ex d 245 92 [l0, l1, some (0, x), l3, l4, l5] [(0, x)] S h n) ∧
  (∀ (d : Nat) (l0 l1 l2 l3 l4 l5 : Option mx_V) (v0 : mx_V) (S h : mx_H) (n : Int), mx_ex d 245 92 [l0, l1, l2, l3, l4, l5] [v0] S h n = mx_ex d 245 93 [l0, l1, l2, l3, l4, l5] [(0, 2), v0] S h n) ∧
  (∀ (d : Nat) (b a : Int) (l0 l1 l2 l3 l4 l5 : Option mx_V) (S h : mx_H) (n : Int), mx_ex d 245 93 [l0, l1, l2, l3, l4, l5] [(0, b), (0, a)] S h n = mx_br (a = b) d 245 96 106 [l0, l1, l2, l3, l4, l5] [] S h n) ∧
  (∀ (d : Nat) (x : Int) (l1 l2 l3 l4 l5 : Option mx_V) (S h : mx_H) (n : Int), mx_ex d 245 96 [some (2, x), l1, l2, l3, l4, l5] [] S h n = mx_ex d 245 97 [some (2, x), l1, l2, l3, l4, l5] [(2, x)] S h n) ∧
  (∀ (d : Nat) (x : Int) (l0 l1 l2 l3 l5 : Option mx_V) (v0 : mx_V) (S h : mx_H) (n : Int), mx_ex d 245 97 [l0, l1, l2, l3, some (0, x), l5] [v0] S h n = mx_ex d 245 99 [l0, l1, l2, l3, some (0, x), l5] [(0, x), v0] S h n) ∧
  (∀ (d : Nat) (x : Int) (l0 l1 l2 l4 l5 : Option mx_V) (v0 v1 : mx_V) (S h : mx_H) (n : Int), mx_ex d 245 99 [l0, l1, l2, some (0, x), l4, l5] [v0, v1] S h n = mx_ex d 245 100 [l0, l1, l2, some (0, x), l4, l5] [(0, x), v0, v1] S h n) ∧
  (∀ (d : Nat) (x0 x1 a : Int) (l0 l1 l2 l3 l4 l5 : Option mx_V) (S h : mx_H) (n : Int), mx_ex (d + 1) 245 100 [l0, l1, l2, l3, l4, l5] [(0, x0), (0, x1), (2, a)] S h n = mx_cl (S a (-2) = 13) d 243 [(2, a), (0, x1), (0, x0)] 245 103 [l0, l1, l2, l3, l4, l5] [] S h n) ∧
  (∀ (d : Nat) (l0 l1 l2 l3 l4 l5 : Option mx_V) (v0 : mx_V) (S h : mx_H) (n : Int), mx_ex d 245 103 [l0, l1, l2, l3, l4, l5] [v0] S h n = mx_ex d 245 113 [l0, l1, l2, l3, l4, l5] [v0] S h n) ∧
  (∀ (d : Nat) (x : Int) (l1 l2 l3 l4 l5 : Option mx_V) (S h : mx_H) (n : Int), mx_ex d 245 106 [some (2, x), l1, l2, l3, l4, l5] [] S h n = mx_ex d 245 107 [some (2, x), l1, l2, l3, l4, l5] [(2, x)] S h n) ∧
  (∀ (d : Nat) (x : Int) (l0 l1 l2 l3 l5 : Option mx_V) (v0 : mx_V) (S h : mx_H) (n : Int), mx_ex d 245 107 [l0, l1, l2, l3, some (0, x), l5] [v0] S h n = mx_ex d 245 109 [l0, l1, l2, l3, some (0, x), l5] [(0, x), v0] S h n) ∧
  (∀ (d : Nat) (x : Int) (l0 l1 l2 l4 l5 : Option mx_V) (v0 v1 : mx_V) (S h : mx_H) (n : Int), mx_ex d 245 109 [l0, l1, l2, some (0, x), l4, l5] [v0, v1] S h n = mx_ex d 245 110 [l0, l1, l2, some (0, x), l4, l5] [(0, x), v0, v1] S h n) ∧
  (∀ (d : Nat) (x0 x1 a : Int) (l0 l1 l2 l3 l4 l5 : Option mx_V) (S h : mx_H) (n : Int), mx_ex (d + 1) 245 110 [l0, l1, l2, l3, l4, l5] [(0, x0), (0, x1), (2, a)] S h n = mx_cl (S a (-2) = 13) d 244 [(2, a), (0, x1), (0, x0)] 245 113 [l0, l1, l2, l3, l4, l5] [] S h n) ∧
  (∀ (d : Nat) (x : Int) (l0 l1 l2 l3 l4 l5 : Option mx_V) (S h : mx_H) (n : Int), mx_ex d 245 113 [l0, l1, l2, l3, l4, l5] [(0, x)] S h n = mx_ex d 245 115 [l0, l1, l2, l3, mx_nl l4, some (0, x)] [] S h n) ∧
  (∀ (d : Nat) (x : Int) (l1 l2 l3 l4 l5 : Option mx_V) (S h : mx_H) (n : Int), mx_ex d 245 115 [some (2, x), l1, l2, l3, l4, l5] [] S h n = mx_ex d 245 116 [some (2, x), l1, l2, l3, l4, l5] [(2, x)] S h n) ∧
  (∀ (d : Nat) (a : Int) (l0 l1 l2 l3 l4 l5 : Option mx_V) (S h : mx_H) (n : Int), mx_ex d 245 116 [l0, l1, l2, l3, l4, l5] [(2, a)] S h n = mx_gd (13 ≤ S a (-2) ∧ S a (-2) ≤ 13) d 245 119 [l0, l1, l2, l3, l4, l5] [(0, h a 24)] S h n) ∧
  (∀ (d : Nat) (a : Int) (l0 l1 l2 l3 l4 l5 : Option mx_V) (S h : mx_H) (n : Int), mx_ex d 245 119 [l0, l1, l2, l3, l4, l5] [(0, a)] S h n = mx_br (a = 0) d 245 127 122 [l0, l1, l2, l3, l4, l5] [] S h n) ∧
  (∀ (d : Nat) (l0 l1 l2 l3 l4 l5 : Option mx_V) (S h : mx_H) (n : Int), mx_ex d 245 122 [l0, l1, l2, l3, l4, l5] [] S h n = mx_ex d 245 124 [l0, l1, l2, l3, l4, l5] [(0, (-15))] S h n) ∧
  (∀ (d : Nat) (l0 l1 l2 l3 l4 l5 : Option mx_V) (v0 : mx_V) (S h : mx_H) (n : Int), mx_ex d 245 124 [l0, l1, l2, l3, l4, l5] [v0] S h n = mx_ex d 245 129 [l0, l1, l2, l3, l4, l5] [v0] S h n) ∧
  (∀ (d : Nat) (x : Int) (l0 l1 l2 l3 l4 : Option mx_V) (S h : mx_H) (n : Int), mx_ex d 245 127 [l0, l1, l2, l3, l4, some (0, x)] [] S h n = mx_ex d 245 129 [l0, l1, l2, l3, l4, some (0, x)] [(0, x)] S h n) :=
  ⟨by intros; exact rfl,
   by intros; exact eq_ld rfl rfl,
   by intros; exact eq_push rfl,
   by intros; exact eq_pi rfl,
   by intros; exact eq_ld rfl rfl,
   by intros; exact eq_cs rfl (Nat.le_of_ble_eq_true rfl) rfl rfl rfl (Nat.le_of_ble_eq_true rfl),
   by intros; exact eq_if0 rfl,
   by intros; exact eq_ld rfl rfl,
   by intros; exact eq_push rfl,
   by intros; exact eq_push rfl,
   by intros; exact eq_cs rfl (Nat.le_of_ble_eq_true rfl) rfl rfl rfl (Nat.le_of_ble_eq_true rfl),
   by intros; exact eq_if0 rfl,
   by intros; exact eq_ld rfl rfl,
   by intros; exact eq_ld rfl rfl,
   by intros; exact eq_cv rfl (Nat.le_of_ble_eq_true rfl) rfl rfl rfl (Nat.le_of_ble_eq_true rfl),
   by intros; exact eq_if1 rfl,
   by intros; exact eq_ld rfl rfl,
   by intros; exact eq_gr rfl,
   by intros; exact eq_ld rfl rfl,
   by intros; exact eq_iald rfl,
   by intros; exact eq_push rfl,
   by intros; exact eq_ic0 rfl,
   by intros; exact eq_push rfl,
   by intros; exact eq_ret rfl,
   by intros; exact eq_ld rfl rfl,
   by intros; exact eq_ld rfl rfl,
   by intros; exact eq_gr rfl,
   by intros; exact eq_ld rfl rfl,
   by intros; exact eq_iald rfl,
   by intros; exact eq_pi rfl,
   by intros; exact eq_ld rfl rfl,
   by intros; exact eq_push rfl,
   by intros; exact eq_pz rfl,
   by intros; exact eq_ld rfl rfl,
   by intros; exact eq_cv rfl (Nat.le_of_ble_eq_true rfl) rfl rfl rfl (Nat.le_of_ble_eq_true rfl),
   by intros; exact eq_st rfl (by decide) (Nat.le_of_ble_eq_true rfl) rfl,
   by intros; exact eq_ld rfl rfl,
   by intros; exact eq_if1 rfl,
   by intros; exact eq_ld rfl rfl,
   by intros; exact eq_ld rfl rfl,
   by intros; exact eq_ld rfl rfl,
   by intros; exact eq_cv rfl (Nat.le_of_ble_eq_true rfl) rfl rfl rfl (Nat.le_of_ble_eq_true rfl),
   by intros; exact eq_go rfl,
   by intros; exact eq_ld rfl rfl,
   by intros; exact eq_push rfl,
   by intros; exact eq_ic1 rfl,
   by intros; exact eq_ld rfl rfl,
   by intros; exact eq_ld rfl rfl,
   by intros; exact eq_ld rfl rfl,
   by intros; exact eq_cv rfl (Nat.le_of_ble_eq_true rfl) rfl rfl rfl (Nat.le_of_ble_eq_true rfl),
   by intros; exact eq_go rfl,
   by intros; exact eq_ld rfl rfl,
   by intros; exact eq_push rfl,
   by intros; exact eq_ic1 rfl,
   by intros; exact eq_ld rfl rfl,
   by intros; exact eq_ld rfl rfl,
   by intros; exact eq_ld rfl rfl,
   by intros; exact eq_cv rfl (Nat.le_of_ble_eq_true rfl) rfl rfl rfl (Nat.le_of_ble_eq_true rfl),
   by intros; exact eq_go rfl,
   by intros; exact eq_ld rfl rfl,
   by intros; exact eq_ld rfl rfl,
   by intros; exact eq_ld rfl rfl,
   by intros; exact eq_cv rfl (Nat.le_of_ble_eq_true rfl) rfl rfl rfl (Nat.le_of_ble_eq_true rfl),
   by intros; exact eq_st rfl (by decide) (Nat.le_of_ble_eq_true rfl) rfl,
   by intros; exact eq_ld rfl rfl,
   by intros; exact eq_gi rfl,
   by intros; exact eq_if0 rfl,
   by intros; exact eq_push rfl,
   by intros; exact eq_go rfl,
   by intros; exact eq_ld rfl rfl⟩
theorem rw_X12_act_1 :
  (∀ (d : Nat) (x : Int) (l0 l1 l2 l3 l4 l5 : Option mx_V) (S h : mx_H) (n : Int), mx_ex d 245 129 [l0, l1, l2, l3, l4, l5] [(0, x)] S h n = some (some (0, x), S, h, n)) :=
  by intros; exact eq_ret rfl
theorem rw_X12_trace :
  (∀ (d : Nat) (a0 a1 : Int) (S h : mx_H) (n : Int), mx_M d 246 [(2, a0), (0, a1)] S h n = mx_ex d 246 0 [some (2, a0), some (0, a1)] [] S h n) ∧
  (∀ (d : Nat) (x : Int) (l0 : Option mx_V) (S h : mx_H) (n : Int), mx_ex d 246 0 [l0, some (0, x)] [] S h n = mx_ex d 246 1 [l0, some (0, x)] [(0, x)] S h n) ∧
  (∀ (d : Nat) (l0 l1 : Option mx_V) (v0 : mx_V) (S h : mx_H) (n : Int), mx_ex d 246 1 [l0, l1] [v0] S h n = mx_ex d 246 2 [l0, l1] [(0, 0), v0] S h n) ∧
  (∀ (d : Nat) (x : Int) (l1 : Option mx_V) (v0 v1 : mx_V) (S h : mx_H) (n : Int), mx_ex d 246 2 [some (2, x), l1] [v0, v1] S h n = mx_ex d 246 3 [some (2, x), l1] [(2, x), v0, v1] S h n) ∧
  (∀ (d : Nat) (a : Int) (l0 l1 : Option mx_V) (v1 v2 : mx_V) (S h : mx_H) (n : Int), mx_ex d 246 3 [l0, l1] [(2, a), v1, v2] S h n = mx_gd (13 ≤ S a (-2) ∧ S a (-2) ≤ 13) d 246 6 [l0, l1] [(0, h a 22), v1, v2] S h n) ∧
  (∀ (d : Nat) (l0 l1 : Option mx_V) (v0 v1 v2 : mx_V) (S h : mx_H) (n : Int), mx_ex d 246 6 [l0, l1] [v0, v1, v2] S h n = mx_ex d 246 7 [l0, l1] [(0, 1), v0, v1, v2] S h n) ∧
  (∀ (d : Nat) (b a : Int) (l0 l1 : Option mx_V) (v2 v3 : mx_V) (S h : mx_H) (n : Int), mx_ex d 246 7 [l0, l1] [(0, b), (0, a), v2, v3] S h n = mx_ex d 246 8 [l0, l1] [(0, mx_w (a - b)), v2, v3] S h n) ∧
  (∀ (d : Nat) (x0 x1 x2 : Int) (l0 l1 : Option mx_V) (S h : mx_H) (n : Int), mx_ex (d + 1) 246 8 [l0, l1] [(0, x0), (0, x1), (0, x2)] S h n = mx_rt (mx_M d 159 [(0, x2), (0, x1), (0, x0)] S h n) (d + 1) 246 11 [l0, l1] []) ∧
  (∀ (d : Nat) (a : Int) (l0 l1 : Option mx_V) (S h : mx_H) (n : Int), mx_ex d 246 11 [l0, l1] [(0, a)] S h n = mx_br (a = 0) d 246 23 14 [l0, l1] [] S h n) ∧
  (∀ (d : Nat) (x : Int) (l1 : Option mx_V) (S h : mx_H) (n : Int), mx_ex d 246 14 [some (2, x), l1] [] S h n = mx_ex d 246 15 [some (2, x), l1] [(2, x)] S h n) ∧
  (∀ (d : Nat) (a : Int) (l0 l1 : Option mx_V) (S h : mx_H) (n : Int), mx_ex d 246 15 [l0, l1] [(2, a)] S h n = mx_gd (13 ≤ S a (-2) ∧ S a (-2) ≤ 13) d 246 18 [l0, l1] [(2, S a 21)] S h n) ∧
  (∀ (d : Nat) (x : Int) (l0 : Option mx_V) (v0 : mx_V) (S h : mx_H) (n : Int), mx_ex d 246 18 [l0, some (0, x)] [v0] S h n = mx_ex d 246 19 [l0, some (0, x)] [(0, x), v0] S h n) ∧
  (∀ (d : Nat) (i a : Int) (l0 l1 : Option mx_V) (S h : mx_H) (n : Int), mx_ex d 246 19 [l0, l1] [(0, i), (2, a)] S h n = mx_gd ((S a (-2) = 20 ∨ S a (-2) = 24) ∧ 0 ≤ i ∧ i < S a (-1)) d 246 20 [l0, l1] [(0, h a i)] S h n) ∧
  (∀ (d : Nat) (l0 l1 : Option mx_V) (v0 : mx_V) (S h : mx_H) (n : Int), mx_ex d 246 20 [l0, l1] [v0] S h n = mx_ex d 246 25 [l0, l1] [v0] S h n) ∧
  (∀ (d : Nat) (l0 l1 : Option mx_V) (S h : mx_H) (n : Int), mx_ex d 246 23 [l0, l1] [] S h n = mx_ex d 246 25 [l0, l1] [(0, (-3))] S h n) ∧
  (∀ (d : Nat) (x : Int) (l0 l1 : Option mx_V) (S h : mx_H) (n : Int), mx_ex d 246 25 [l0, l1] [(0, x)] S h n = some (some (0, x), S, h, n)) :=
  ⟨by intros; exact rfl,
   by intros; exact eq_ld rfl rfl,
   by intros; exact eq_push rfl,
   by intros; exact eq_ld rfl rfl,
   by intros; exact eq_gi rfl,
   by intros; exact eq_push rfl,
   by intros; exact eq_i2 (o := mx_sub) rfl,
   by intros; exact eq_cs rfl (Nat.le_of_ble_eq_true rfl) rfl rfl rfl (Nat.le_of_ble_eq_true rfl),
   by intros; exact eq_if0 rfl,
   by intros; exact eq_ld rfl rfl,
   by intros; exact eq_gr rfl,
   by intros; exact eq_ld rfl rfl,
   by intros; exact eq_iald rfl,
   by intros; exact eq_go rfl,
   by intros; exact eq_push rfl,
   by intros; exact eq_ret rfl⟩
theorem rw_X12_many_ :
  (∀ (d : Nat) (a0 a1 : Int) (S h : mx_H) (n : Int), mx_M d 247 [(2, a0), (0, a1)] S h n = mx_ex d 247 0 [some (2, a0), some (0, a1)] [] S h n) ∧
  (∀ (d : Nat) (x : Int) (l0 : Option mx_V) (S h : mx_H) (n : Int), mx_ex d 247 0 [l0, some (0, x)] [] S h n = mx_ex d 247 1 [l0, some (0, x)] [(0, x)] S h n) ∧
  (∀ (d : Nat) (a : Int) (l0 l1 : Option mx_V) (S h : mx_H) (n : Int), mx_ex d 247 1 [l0, l1] [(0, a)] S h n = mx_sw a [(0, 36), (1, 43), (2, 50), (3, 55), (4, 60)] d 247 65 [l0, l1] [] S h n) ∧
  (∀ (d : Nat) (x : Int) (l1 : Option mx_V) (S h : mx_H) (n : Int), mx_ex d 247 36 [some (2, x), l1] [] S h n = mx_ex d 247 37 [some (2, x), l1] [(2, x)] S h n) ∧
  (∀ (d : Nat) (a : Int) (l0 l1 : Option mx_V) (S h : mx_H) (n : Int), mx_ex d 247 37 [l0, l1] [(2, a)] S h n = mx_gd (13 ≤ S a (-2) ∧ S a (-2) ≤ 13) d 247 40 [l0, l1] [(2, S a 0)] S h n) ∧
  (∀ (d : Nat) (l0 l1 : Option mx_V) (v0 : mx_V) (S h : mx_H) (n : Int), mx_ex d 247 40 [l0, l1] [v0] S h n = mx_ex d 247 41 [l0, l1] [(0, 0), v0] S h n) ∧
  (∀ (d : Nat) (i a : Int) (l0 l1 : Option mx_V) (S h : mx_H) (n : Int), mx_ex d 247 41 [l0, l1] [(0, i), (2, a)] S h n = mx_gd ((S a (-2) = 20 ∨ S a (-2) = 24) ∧ 0 ≤ i ∧ i < S a (-1)) d 247 42 [l0, l1] [(0, h a i)] S h n) ∧
  (∀ (d : Nat) (x : Int) (l0 l1 : Option mx_V) (S h : mx_H) (n : Int), mx_ex d 247 42 [l0, l1] [(0, x)] S h n = some (some (0, x), S, h, n)) ∧
  (∀ (d : Nat) (x : Int) (l1 : Option mx_V) (S h : mx_H) (n : Int), mx_ex d 247 43 [some (2, x), l1] [] S h n = mx_ex d 247 44 [some (2, x), l1] [(2, x)] S h n) ∧
  (∀ (d : Nat) (a : Int) (l0 l1 : Option mx_V) (S h : mx_H) (n : Int), mx_ex d 247 44 [l0, l1] [(2, a)] S h n = mx_gd (13 ≤ S a (-2) ∧ S a (-2) ≤ 13) d 247 47 [l0, l1] [(2, S a 0)] S h n) ∧
  (∀ (d : Nat) (l0 l1 : Option mx_V) (v0 : mx_V) (S h : mx_H) (n : Int), mx_ex d 247 47 [l0, l1] [v0] S h n = mx_ex d 247 48 [l0, l1] [(0, 1), v0] S h n) ∧
  (∀ (d : Nat) (i a : Int) (l0 l1 : Option mx_V) (S h : mx_H) (n : Int), mx_ex d 247 48 [l0, l1] [(0, i), (2, a)] S h n = mx_gd ((S a (-2) = 20 ∨ S a (-2) = 24) ∧ 0 ≤ i ∧ i < S a (-1)) d 247 49 [l0, l1] [(0, h a i)] S h n) ∧
  (∀ (d : Nat) (x : Int) (l0 l1 : Option mx_V) (S h : mx_H) (n : Int), mx_ex d 247 49 [l0, l1] [(0, x)] S h n = some (some (0, x), S, h, n)) ∧
  (∀ (d : Nat) (x : Int) (l1 : Option mx_V) (S h : mx_H) (n : Int), mx_ex d 247 50 [some (2, x), l1] [] S h n = mx_ex d 247 51 [some (2, x), l1] [(2, x)] S h n) ∧
  (∀ (d : Nat) (a : Int) (l0 l1 : Option mx_V) (S h : mx_H) (n : Int), mx_ex d 247 51 [l0, l1] [(2, a)] S h n = mx_gd (13 ≤ S a (-2) ∧ S a (-2) ≤ 13) d 247 54 [l0, l1] [(0, h a 15)] S h n) ∧
  (∀ (d : Nat) (x : Int) (l0 l1 : Option mx_V) (S h : mx_H) (n : Int), mx_ex d 247 54 [l0, l1] [(0, x)] S h n = some (some (0, x), S, h, n)) ∧
  (∀ (d : Nat) (x : Int) (l1 : Option mx_V) (S h : mx_H) (n : Int), mx_ex d 247 55 [some (2, x), l1] [] S h n = mx_ex d 247 56 [some (2, x), l1] [(2, x)] S h n) ∧
  (∀ (d : Nat) (a : Int) (l0 l1 : Option mx_V) (S h : mx_H) (n : Int), mx_ex d 247 56 [l0, l1] [(2, a)] S h n = mx_gd (13 ≤ S a (-2) ∧ S a (-2) ≤ 13) d 247 59 [l0, l1] [(0, h a 5)] S h n) ∧
  (∀ (d : Nat) (x : Int) (l0 l1 : Option mx_V) (S h : mx_H) (n : Int), mx_ex d 247 59 [l0, l1] [(0, x)] S h n = some (some (0, x), S, h, n)) ∧
  (∀ (d : Nat) (x : Int) (l1 : Option mx_V) (S h : mx_H) (n : Int), mx_ex d 247 60 [some (2, x), l1] [] S h n = mx_ex d 247 61 [some (2, x), l1] [(2, x)] S h n) ∧
  (∀ (d : Nat) (a : Int) (l0 l1 : Option mx_V) (S h : mx_H) (n : Int), mx_ex d 247 61 [l0, l1] [(2, a)] S h n = mx_gd (13 ≤ S a (-2) ∧ S a (-2) ≤ 13) d 247 64 [l0, l1] [(0, h a 22)] S h n) ∧
  (∀ (d : Nat) (x : Int) (l0 l1 : Option mx_V) (S h : mx_H) (n : Int), mx_ex d 247 64 [l0, l1] [(0, x)] S h n = some (some (0, x), S, h, n)) ∧
  (∀ (d : Nat) (l0 l1 : Option mx_V) (S h : mx_H) (n : Int), mx_ex d 247 65 [l0, l1] [] S h n = mx_ex d 247 66 [l0, l1] [(0, (-1))] S h n) ∧
  (∀ (d : Nat) (x : Int) (l0 l1 : Option mx_V) (S h : mx_H) (n : Int), mx_ex d 247 66 [l0, l1] [(0, x)] S h n = some (some (0, x), S, h, n)) :=
  ⟨by intros; exact rfl,
   by intros; exact eq_ld rfl rfl,
   by intros; exact eq_sw rfl,
   by intros; exact eq_ld rfl rfl,
   by intros; exact eq_gr rfl,
   by intros; exact eq_push rfl,
   by intros; exact eq_iald rfl,
   by intros; exact eq_ret rfl,
   by intros; exact eq_ld rfl rfl,
   by intros; exact eq_gr rfl,
   by intros; exact eq_push rfl,
   by intros; exact eq_iald rfl,
   by intros; exact eq_ret rfl,
   by intros; exact eq_ld rfl rfl,
   by intros; exact eq_gi rfl,
   by intros; exact eq_ret rfl,
   by intros; exact eq_ld rfl rfl,
   by intros; exact eq_gi rfl,
   by intros; exact eq_ret rfl,
   by intros; exact eq_ld rfl rfl,
   by intros; exact eq_gi rfl,
   by intros; exact eq_ret rfl,
   by intros; exact eq_push rfl,
   by intros; exact eq_ret rfl⟩
theorem rw_X12_keep :
  (∀ (d : Nat) (a0 : Int) (S h : mx_H) (n : Int), mx_M d 248 [(2, a0)] S h n = mx_ex d 248 0 [some (2, a0)] [] S h n) ∧
  (∀ (d : Nat) (x : Int) (S h : mx_H) (n : Int), mx_ex d 248 0 [some (2, x)] [] S h n = mx_ex d 248 1 [some (2, x)] [(2, x)] S h n) ∧
  (∀ (d : Nat) (a : Int) (l0 : Option mx_V) (S h : mx_H) (n : Int), mx_ex d 248 1 [l0] [(2, a)] S h n = mx_gd (13 ≤ S a (-2) ∧ S a (-2) ≤ 13) d 248 4 [l0] [(2, S a 0)] S h n) ∧
  (∀ (d : Nat) (x : Int) (v0 : mx_V) (S h : mx_H) (n : Int), mx_ex d 248 4 [some (2, x)] [v0] S h n = mx_ex d 248 5 [some (2, x)] [(2, x), v0] S h n) ∧
  (∀ (d : Nat) (a : Int) (l0 : Option mx_V) (v1 : mx_V) (S h : mx_H) (n : Int), mx_ex d 248 5 [l0] [(2, a), v1] S h n = mx_gd (13 ≤ S a (-2) ∧ S a (-2) ≤ 13) d 248 8 [l0] [(2, S a 1), v1] S h n) ∧
  (∀ (d : Nat) (x0 x1 : Int) (l0 : Option mx_V) (S h : mx_H) (n : Int), mx_ex (d + 1) 248 8 [l0] [(2, x0), (2, x1)] S h n = mx_rt (mx_M d 157 [(2, x1), (2, x0)] S h n) (d + 1) 248 11 [l0] []) ∧
  (∀ (d : Nat) (x : Int) (S h : mx_H) (n : Int), mx_ex d 248 11 [some (2, x)] [] S h n = mx_ex d 248 12 [some (2, x)] [(2, x)] S h n) ∧
  (∀ (d : Nat) (l0 : Option mx_V) (v0 : mx_V) (S h : mx_H) (n : Int), mx_ex d 248 12 [l0] [v0] S h n = mx_ex d 248 13 [l0] [(0, 1), v0] S h n) ∧
  (∀ (d : Nat) (v a : Int) (l0 : Option mx_V) (S h : mx_H) (n : Int), mx_ex d 248 13 [l0] [(0, v), (2, a)] S h n = mx_gd (13 ≤ S a (-2) ∧ S a (-2) ≤ 13 ∧ 0 ≤ v ∧ v ≤ 1) d 248 16 [l0] [] S (mx_u h a 3 v) n) ∧
  (∀ (d : Nat) (l0 : Option mx_V) (S h : mx_H) (n : Int), mx_ex d 248 16 [l0] [] S h n = mx_ex d 248 17 [l0] [(0, 1)] S h n) ∧
  (∀ (d : Nat) (x : Int) (l0 : Option mx_V) (S h : mx_H) (n : Int), mx_ex d 248 17 [l0] [(0, x)] S h n = some (some (0, x), S, h, n)) :=
  ⟨by intros; exact rfl,
   by intros; exact eq_ld rfl rfl,
   by intros; exact eq_gr rfl,
   by intros; exact eq_ld rfl rfl,
   by intros; exact eq_gr rfl,
   by intros; exact eq_cs rfl (Nat.le_of_ble_eq_true rfl) rfl rfl rfl (Nat.le_of_ble_eq_true rfl),
   by intros; exact eq_ld rfl rfl,
   by intros; exact eq_push rfl,
   by intros; exact eq_pz rfl,
   by intros; exact eq_push rfl,
   by intros; exact eq_ret rfl⟩
theorem rw_X12_again :
  (∀ (d : Nat) (a0 : Int) (S h : mx_H) (n : Int), mx_M d 249 [(2, a0)] S h n = mx_ex d 249 0 [some (2, a0)] [] S h n) ∧
  (∀ (d : Nat) (x : Int) (S h : mx_H) (n : Int), mx_ex d 249 0 [some (2, x)] [] S h n = mx_ex d 249 1 [some (2, x)] [(2, x)] S h n) ∧
  (∀ (d : Nat) (a : Int) (l0 : Option mx_V) (S h : mx_H) (n : Int), mx_ex d 249 1 [l0] [(2, a)] S h n = mx_gd (13 ≤ S a (-2) ∧ S a (-2) ≤ 13) d 249 4 [l0] [(0, h a 3)] S h n) ∧
  (∀ (d : Nat) (a : Int) (l0 : Option mx_V) (S h : mx_H) (n : Int), mx_ex d 249 4 [l0] [(0, a)] S h n = mx_br (a = 0) d 249 7 10 [l0] [] S h n) ∧
  (∀ (d : Nat) (l0 : Option mx_V) (S h : mx_H) (n : Int), mx_ex d 249 7 [l0] [] S h n = mx_ex d 249 9 [l0] [(0, (-3))] S h n) ∧
  (∀ (d : Nat) (x : Int) (l0 : Option mx_V) (S h : mx_H) (n : Int), mx_ex d 249 9 [l0] [(0, x)] S h n = some (some (0, x), S, h, n)) ∧
  (∀ (d : Nat) (x : Int) (S h : mx_H) (n : Int), mx_ex d 249 10 [some (2, x)] [] S h n = mx_ex d 249 11 [some (2, x)] [(2, x)] S h n) ∧
  (∀ (d : Nat) (a : Int) (l0 : Option mx_V) (S h : mx_H) (n : Int), mx_ex d 249 11 [l0] [(2, a)] S h n = mx_gd (13 ≤ S a (-2) ∧ S a (-2) ≤ 13) d 249 14 [l0] [(2, S a 1)] S h n) ∧
  (∀ (d : Nat) (x : Int) (v0 : mx_V) (S h : mx_H) (n : Int), mx_ex d 249 14 [some (2, x)] [v0] S h n = mx_ex d 249 15 [some (2, x)] [(2, x), v0] S h n) ∧
  (∀ (d : Nat) (a : Int) (l0 : Option mx_V) (v1 : mx_V) (S h : mx_H) (n : Int), mx_ex d 249 15 [l0] [(2, a), v1] S h n = mx_gd (13 ≤ S a (-2) ∧ S a (-2) ≤ 13) d 249 18 [l0] [(2, S a 0), v1] S h n) ∧
  (∀ (d : Nat) (x0 x1 : Int) (l0 : Option mx_V) (S h : mx_H) (n : Int), mx_ex (d + 1) 249 18 [l0] [(2, x0), (2, x1)] S h n = mx_rt (mx_M d 157 [(2, x1), (2, x0)] S h n) (d + 1) 249 21 [l0] []) ∧
  (∀ (d : Nat) (x : Int) (S h : mx_H) (n : Int), mx_ex d 249 21 [some (2, x)] [] S h n = mx_ex d 249 22 [some (2, x)] [(2, x)] S h n) ∧
  (∀ (d : Nat) (a : Int) (l0 : Option mx_V) (S h : mx_H) (n : Int), mx_ex d 249 22 [l0] [(2, a)] S h n = mx_gd (13 ≤ S a (-2) ∧ S a (-2) ≤ 13) d 249 25 [l0] [(2, S a 0)] S h n) ∧
  (∀ (d : Nat) (l0 : Option mx_V) (v0 : mx_V) (S h : mx_H) (n : Int), mx_ex d 249 25 [l0] [v0] S h n = mx_ex d 249 26 [l0] [(0, 0), v0] S h n) ∧
  (∀ (d : Nat) (i a : Int) (l0 : Option mx_V) (S h : mx_H) (n : Int), mx_ex d 249 26 [l0] [(0, i), (2, a)] S h n = mx_gd ((S a (-2) = 20 ∨ S a (-2) = 24) ∧ 0 ≤ i ∧ i < S a (-1)) d 249 27 [l0] [(0, h a i)] S h n) ∧
  (∀ (d : Nat) (x : Int) (l0 : Option mx_V) (S h : mx_H) (n : Int), mx_ex d 249 27 [l0] [(0, x)] S h n = some (some (0, x), S, h, n)) :=
  ⟨by intros; exact rfl,
   by intros; exact eq_ld rfl rfl,
   by intros; exact eq_gi rfl,
   by intros; exact eq_if1 rfl,
   by intros; exact eq_push rfl,
   by intros; exact eq_ret rfl,
   by intros; exact eq_ld rfl rfl,
   by intros; exact eq_gr rfl,
   by intros; exact eq_ld rfl rfl,
   by intros; exact eq_gr rfl,
   by intros; exact eq_cs rfl (Nat.le_of_ble_eq_true rfl) rfl rfl rfl (Nat.le_of_ble_eq_true rfl),
   by intros; exact eq_ld rfl rfl,
   by intros; exact eq_gr rfl,
   by intros; exact eq_push rfl,
   by intros; exact eq_iald rfl,
   by intros; exact eq_ret rfl⟩
